section
-- ===== PART A: goes FIRST, ahead of the names: the tables' words, and 'selects' of the private methods out of them =====
/-- a private method of a class that the tables say can be made, by its rows of tables_1 -/
def lw_okq (q : MethodName × Nat) : Prop := (q.1.cls ≠ "java/lang/invoke/MethodHandle" ∧ q.1.cls ≠ "java/lang/invoke/VarHandle") ∧ Cond.instantiable q.1.cls q.2 ∈ tables_1 ∧ Cond.privateMethod q.1 ∈ tables_1 ∧ Cond.instanceMethod q.1 ∈ tables_1
theorem lw_p0 : lw_okq (⟨"LayoutOptimizer$Placing", "startChains", "(LLayoutOptimizer$Graph;LLayoutOptimizer$Counts;)V"⟩, 9) := ⟨⟨by decide +kernel, by decide +kernel⟩, List.mem_of_getElem? (i := 108) (by decide +kernel), List.mem_of_getElem? (i := 296) (by decide +kernel), List.mem_of_getElem? (i := 297) (by decide +kernel)⟩
theorem lw_p1 : lw_okq (⟨"LayoutOptimizer$Placing", "sortEdges", "(LLayoutOptimizer$Graph;LLayoutOptimizer$Counts;)I"⟩, 9) := ⟨⟨by decide +kernel, by decide +kernel⟩, List.mem_of_getElem? (i := 108) (by decide +kernel), List.mem_of_getElem? (i := 300) (by decide +kernel), List.mem_of_getElem? (i := 301) (by decide +kernel)⟩
theorem lw_p2 : lw_okq (⟨"LayoutOptimizer$Placing", "joinAlong", "(LLayoutOptimizer$Graph;II)V"⟩, 9) := ⟨⟨by decide +kernel, by decide +kernel⟩, List.mem_of_getElem? (i := 108) (by decide +kernel), List.mem_of_getElem? (i := 307) (by decide +kernel), List.mem_of_getElem? (i := 308) (by decide +kernel)⟩
theorem lw_p3 : lw_okq (⟨"LayoutOptimizer$Placing", "sortHeads", "(LLayoutOptimizer$Graph;)V"⟩, 9) := ⟨⟨by decide +kernel, by decide +kernel⟩, List.mem_of_getElem? (i := 108) (by decide +kernel), List.mem_of_getElem? (i := 315) (by decide +kernel), List.mem_of_getElem? (i := 316) (by decide +kernel)⟩
theorem lw_p4 : lw_okq (⟨"LayoutOptimizer$Placing", "comesBefore", "(LLayoutOptimizer$Graph;II)Z"⟩, 9) := ⟨⟨by decide +kernel, by decide +kernel⟩, List.mem_of_getElem? (i := 108) (by decide +kernel), List.mem_of_getElem? (i := 319) (by decide +kernel), List.mem_of_getElem? (i := 320) (by decide +kernel)⟩
theorem lw_p5 : lw_okq (⟨"LayoutOptimizer$Placing", "isCold", "(LLayoutOptimizer$Graph;I)Z"⟩, 9) := ⟨⟨by decide +kernel, by decide +kernel⟩, List.mem_of_getElem? (i := 108) (by decide +kernel), List.mem_of_getElem? (i := 323) (by decide +kernel), List.mem_of_getElem? (i := 324) (by decide +kernel)⟩
theorem lw_p6 : lw_okq (⟨"LayoutOptimizer$Placing", "writeOrder", "(LLayoutOptimizer$Graph;)V"⟩, 9) := ⟨⟨by decide +kernel, by decide +kernel⟩, List.mem_of_getElem? (i := 108) (by decide +kernel), List.mem_of_getElem? (i := 327) (by decide +kernel), List.mem_of_getElem? (i := 328) (by decide +kernel)⟩
theorem lw_p7 : lw_okq (⟨"LayoutOptimizer$Code", "chooseBranches", "(LLayoutOptimizer$Graph;II)V"⟩, 7) := ⟨⟨by decide +kernel, by decide +kernel⟩, List.mem_of_getElem? (i := 145) (by decide +kernel), List.mem_of_getElem? (i := 335) (by decide +kernel), List.mem_of_getElem? (i := 336) (by decide +kernel)⟩
theorem lw_p8 : lw_okq (⟨"LayoutOptimizer$Code", "clearBranches", "(I)V"⟩, 7) := ⟨⟨by decide +kernel, by decide +kernel⟩, List.mem_of_getElem? (i := 145) (by decide +kernel), List.mem_of_getElem? (i := 339) (by decide +kernel), List.mem_of_getElem? (i := 340) (by decide +kernel)⟩
theorem lw_p9 : lw_okq (⟨"LayoutOptimizer$Code", "putBranch", "(II)V"⟩, 7) := ⟨⟨by decide +kernel, by decide +kernel⟩, List.mem_of_getElem? (i := 145) (by decide +kernel), List.mem_of_getElem? (i := 343) (by decide +kernel), List.mem_of_getElem? (i := 344) (by decide +kernel)⟩
theorem lw_p10 : lw_okq (⟨"LayoutOptimizer$Code", "measure", "(LLayoutOptimizer$Graph;[I)V"⟩, 7) := ⟨⟨by decide +kernel, by decide +kernel⟩, List.mem_of_getElem? (i := 145) (by decide +kernel), List.mem_of_getElem? (i := 347) (by decide +kernel), List.mem_of_getElem? (i := 348) (by decide +kernel)⟩
theorem lw_p11 : lw_okq (⟨"LayoutOptimizer$Code", "lengthen", "(LLayoutOptimizer$Graph;I)Z"⟩, 7) := ⟨⟨by decide +kernel, by decide +kernel⟩, List.mem_of_getElem? (i := 145) (by decide +kernel), List.mem_of_getElem? (i := 351) (by decide +kernel), List.mem_of_getElem? (i := 352) (by decide +kernel)⟩
theorem lw_p12 : lw_okq (⟨"LayoutOptimizer$Code", "lengthenOne", "(III)Z"⟩, 7) := ⟨⟨by decide +kernel, by decide +kernel⟩, List.mem_of_getElem? (i := 145) (by decide +kernel), List.mem_of_getElem? (i := 355) (by decide +kernel), List.mem_of_getElem? (i := 356) (by decide +kernel)⟩
theorem lw_p13 : lw_okq (⟨"LayoutOptimizer", "hasBranch", "(II)Z"⟩, 7) := ⟨⟨by decide +kernel, by decide +kernel⟩, List.mem_of_getElem? (i := 11) (by decide +kernel), List.mem_of_getElem? (i := 375) (by decide +kernel), List.mem_of_getElem? (i := 376) (by decide +kernel)⟩
theorem lw_p14 : lw_okq (⟨"LayoutOptimizer$Code", "longExtra", "(I)I"⟩, 7) := ⟨⟨by decide +kernel, by decide +kernel⟩, List.mem_of_getElem? (i := 145) (by decide +kernel), List.mem_of_getElem? (i := 391) (by decide +kernel), List.mem_of_getElem? (i := 392) (by decide +kernel)⟩
theorem lw_p15 : lw_okq (⟨"LayoutOptimizer", "countOfLayout", "(I)I"⟩, 7) := ⟨⟨by decide +kernel, by decide +kernel⟩, List.mem_of_getElem? (i := 11) (by decide +kernel), List.mem_of_getElem? (i := 403) (by decide +kernel), List.mem_of_getElem? (i := 404) (by decide +kernel)⟩
def lw_privs_1 : List (MethodName × Nat) := [(⟨"LayoutOptimizer$Placing", "startChains", "(LLayoutOptimizer$Graph;LLayoutOptimizer$Counts;)V"⟩, 9), (⟨"LayoutOptimizer$Placing", "sortEdges", "(LLayoutOptimizer$Graph;LLayoutOptimizer$Counts;)I"⟩, 9), (⟨"LayoutOptimizer$Placing", "joinAlong", "(LLayoutOptimizer$Graph;II)V"⟩, 9), (⟨"LayoutOptimizer$Placing", "sortHeads", "(LLayoutOptimizer$Graph;)V"⟩, 9), (⟨"LayoutOptimizer$Placing", "comesBefore", "(LLayoutOptimizer$Graph;II)Z"⟩, 9), (⟨"LayoutOptimizer$Placing", "isCold", "(LLayoutOptimizer$Graph;I)Z"⟩, 9), (⟨"LayoutOptimizer$Placing", "writeOrder", "(LLayoutOptimizer$Graph;)V"⟩, 9), (⟨"LayoutOptimizer$Code", "chooseBranches", "(LLayoutOptimizer$Graph;II)V"⟩, 7), (⟨"LayoutOptimizer$Code", "clearBranches", "(I)V"⟩, 7), (⟨"LayoutOptimizer$Code", "putBranch", "(II)V"⟩, 7), (⟨"LayoutOptimizer$Code", "measure", "(LLayoutOptimizer$Graph;[I)V"⟩, 7), (⟨"LayoutOptimizer$Code", "lengthen", "(LLayoutOptimizer$Graph;I)Z"⟩, 7), (⟨"LayoutOptimizer$Code", "lengthenOne", "(III)Z"⟩, 7), (⟨"LayoutOptimizer", "hasBranch", "(II)Z"⟩, 7), (⟨"LayoutOptimizer$Code", "longExtra", "(I)I"⟩, 7), (⟨"LayoutOptimizer", "countOfLayout", "(I)I"⟩, 7)]
theorem lw_r1 : ∀ q ∈ lw_privs_1, lw_okq q := List.forall_mem_cons.mpr ⟨lw_p0, List.forall_mem_cons.mpr ⟨lw_p1, List.forall_mem_cons.mpr ⟨lw_p2, List.forall_mem_cons.mpr ⟨lw_p3, List.forall_mem_cons.mpr ⟨lw_p4, List.forall_mem_cons.mpr ⟨lw_p5, List.forall_mem_cons.mpr ⟨lw_p6, List.forall_mem_cons.mpr ⟨lw_p7, List.forall_mem_cons.mpr ⟨lw_p8, List.forall_mem_cons.mpr ⟨lw_p9, List.forall_mem_cons.mpr ⟨lw_p10, List.forall_mem_cons.mpr ⟨lw_p11, List.forall_mem_cons.mpr ⟨lw_p12, List.forall_mem_cons.mpr ⟨lw_p13, List.forall_mem_cons.mpr ⟨lw_p14, List.forall_mem_cons.mpr ⟨lw_p15, fun _ h => absurd h List.not_mem_nil⟩⟩⟩⟩⟩⟩⟩⟩⟩⟩⟩⟩⟩⟩⟩⟩
theorem lw_p16 : lw_okq (⟨"LayoutOptimizerModel", "give", "(IIII)I"⟩, 22) := ⟨⟨by decide +kernel, by decide +kernel⟩, List.mem_of_getElem? (i := 410) (by decide +kernel), List.mem_of_getElem? (i := 491) (by decide +kernel), List.mem_of_getElem? (i := 492) (by decide +kernel)⟩
theorem lw_p17 : lw_okq (⟨"LayoutOptimizerModel", "no", "(I)Z"⟩, 22) := ⟨⟨by decide +kernel, by decide +kernel⟩, List.mem_of_getElem? (i := 410) (by decide +kernel), List.mem_of_getElem? (i := 495) (by decide +kernel), List.mem_of_getElem? (i := 496) (by decide +kernel)⟩
theorem lw_p18 : lw_okq (⟨"LayoutOptimizerModel", "entry", "(I)I"⟩, 22) := ⟨⟨by decide +kernel, by decide +kernel⟩, List.mem_of_getElem? (i := 410) (by decide +kernel), List.mem_of_getElem? (i := 507) (by decide +kernel), List.mem_of_getElem? (i := 508) (by decide +kernel)⟩
theorem lw_p19 : lw_okq (⟨"LayoutOptimizerModel", "warmer", "(II)I"⟩, 22) := ⟨⟨by decide +kernel, by decide +kernel⟩, List.mem_of_getElem? (i := 410) (by decide +kernel), List.mem_of_getElem? (i := 511) (by decide +kernel), List.mem_of_getElem? (i := 512) (by decide +kernel)⟩
theorem lw_p20 : lw_okq (⟨"LayoutOptimizerModel", "edge", "(III)I"⟩, 22) := ⟨⟨by decide +kernel, by decide +kernel⟩, List.mem_of_getElem? (i := 410) (by decide +kernel), List.mem_of_getElem? (i := 516) (by decide +kernel), List.mem_of_getElem? (i := 517) (by decide +kernel)⟩
theorem lw_p21 : lw_okq (⟨"LayoutOptimizerModel", "makeChains", "(I)V"⟩, 22) := ⟨⟨by decide +kernel, by decide +kernel⟩, List.mem_of_getElem? (i := 410) (by decide +kernel), List.mem_of_getElem? (i := 533) (by decide +kernel), List.mem_of_getElem? (i := 534) (by decide +kernel)⟩
theorem lw_p22 : lw_okq (⟨"LayoutOptimizerModel", "joinOne", "()Z"⟩, 22) := ⟨⟨by decide +kernel, by decide +kernel⟩, List.mem_of_getElem? (i := 410) (by decide +kernel), List.mem_of_getElem? (i := 537) (by decide +kernel), List.mem_of_getElem? (i := 538) (by decide +kernel)⟩
theorem lw_p23 : lw_okq (⟨"LayoutOptimizerModel", "size", "(I)I"⟩, 22) := ⟨⟨by decide +kernel, by decide +kernel⟩, List.mem_of_getElem? (i := 410) (by decide +kernel), List.mem_of_getElem? (i := 541) (by decide +kernel), List.mem_of_getElem? (i := 542) (by decide +kernel)⟩
theorem lw_p24 : lw_okq (⟨"LayoutOptimizerModel", "putOrder", "(I)V"⟩, 22) := ⟨⟨by decide +kernel, by decide +kernel⟩, List.mem_of_getElem? (i := 410) (by decide +kernel), List.mem_of_getElem? (i := 545) (by decide +kernel), List.mem_of_getElem? (i := 546) (by decide +kernel)⟩
theorem lw_p25 : lw_okq (⟨"LayoutOptimizerModel", "before", "(II)Z"⟩, 22) := ⟨⟨by decide +kernel, by decide +kernel⟩, List.mem_of_getElem? (i := 410) (by decide +kernel), List.mem_of_getElem? (i := 549) (by decide +kernel), List.mem_of_getElem? (i := 550) (by decide +kernel)⟩
theorem lw_p26 : lw_okq (⟨"LayoutOptimizerModel", "head", "(I)I"⟩, 22) := ⟨⟨by decide +kernel, by decide +kernel⟩, List.mem_of_getElem? (i := 410) (by decide +kernel), List.mem_of_getElem? (i := 553) (by decide +kernel), List.mem_of_getElem? (i := 554) (by decide +kernel)⟩
theorem lw_p27 : lw_okq (⟨"LayoutOptimizerModel", "isCold", "(I)Z"⟩, 22) := ⟨⟨by decide +kernel, by decide +kernel⟩, List.mem_of_getElem? (i := 410) (by decide +kernel), List.mem_of_getElem? (i := 557) (by decide +kernel), List.mem_of_getElem? (i := 558) (by decide +kernel)⟩
theorem lw_p28 : lw_okq (⟨"LayoutOptimizerModel", "sum", "(IZ)J"⟩, 22) := ⟨⟨by decide +kernel, by decide +kernel⟩, List.mem_of_getElem? (i := 410) (by decide +kernel), List.mem_of_getElem? (i := 561) (by decide +kernel), List.mem_of_getElem? (i := 562) (by decide +kernel)⟩
theorem lw_p29 : lw_okq (⟨"LayoutOptimizerModel", "branchesOf", "(II)V"⟩, 22) := ⟨⟨by decide +kernel, by decide +kernel⟩, List.mem_of_getElem? (i := 410) (by decide +kernel), List.mem_of_getElem? (i := 565) (by decide +kernel), List.mem_of_getElem? (i := 566) (by decide +kernel)⟩
theorem lw_p30 : lw_okq (⟨"LayoutOptimizerModel", "lengthen", "()Z"⟩, 22) := ⟨⟨by decide +kernel, by decide +kernel⟩, List.mem_of_getElem? (i := 410) (by decide +kernel), List.mem_of_getElem? (i := 569) (by decide +kernel), List.mem_of_getElem? (i := 570) (by decide +kernel)⟩
theorem lw_p31 : lw_okq (⟨"LayoutOptimizerModel", "addressOf", "(I)I"⟩, 22) := ⟨⟨by decide +kernel, by decide +kernel⟩, List.mem_of_getElem? (i := 410) (by decide +kernel), List.mem_of_getElem? (i := 573) (by decide +kernel), List.mem_of_getElem? (i := 574) (by decide +kernel)⟩
def lw_privs_2 : List (MethodName × Nat) := [(⟨"LayoutOptimizerModel", "give", "(IIII)I"⟩, 22), (⟨"LayoutOptimizerModel", "no", "(I)Z"⟩, 22), (⟨"LayoutOptimizerModel", "entry", "(I)I"⟩, 22), (⟨"LayoutOptimizerModel", "warmer", "(II)I"⟩, 22), (⟨"LayoutOptimizerModel", "edge", "(III)I"⟩, 22), (⟨"LayoutOptimizerModel", "makeChains", "(I)V"⟩, 22), (⟨"LayoutOptimizerModel", "joinOne", "()Z"⟩, 22), (⟨"LayoutOptimizerModel", "size", "(I)I"⟩, 22), (⟨"LayoutOptimizerModel", "putOrder", "(I)V"⟩, 22), (⟨"LayoutOptimizerModel", "before", "(II)Z"⟩, 22), (⟨"LayoutOptimizerModel", "head", "(I)I"⟩, 22), (⟨"LayoutOptimizerModel", "isCold", "(I)Z"⟩, 22), (⟨"LayoutOptimizerModel", "sum", "(IZ)J"⟩, 22), (⟨"LayoutOptimizerModel", "branchesOf", "(II)V"⟩, 22), (⟨"LayoutOptimizerModel", "lengthen", "()Z"⟩, 22), (⟨"LayoutOptimizerModel", "addressOf", "(I)I"⟩, 22)]
theorem lw_r2 : ∀ q ∈ lw_privs_2, lw_okq q := List.forall_mem_cons.mpr ⟨lw_p16, List.forall_mem_cons.mpr ⟨lw_p17, List.forall_mem_cons.mpr ⟨lw_p18, List.forall_mem_cons.mpr ⟨lw_p19, List.forall_mem_cons.mpr ⟨lw_p20, List.forall_mem_cons.mpr ⟨lw_p21, List.forall_mem_cons.mpr ⟨lw_p22, List.forall_mem_cons.mpr ⟨lw_p23, List.forall_mem_cons.mpr ⟨lw_p24, List.forall_mem_cons.mpr ⟨lw_p25, List.forall_mem_cons.mpr ⟨lw_p26, List.forall_mem_cons.mpr ⟨lw_p27, List.forall_mem_cons.mpr ⟨lw_p28, List.forall_mem_cons.mpr ⟨lw_p29, List.forall_mem_cons.mpr ⟨lw_p30, List.forall_mem_cons.mpr ⟨lw_p31, fun _ h => absurd h List.not_mem_nil⟩⟩⟩⟩⟩⟩⟩⟩⟩⟩⟩⟩⟩⟩⟩⟩
theorem lw_p32 : lw_okq (⟨"LayoutOptimizerModel", "units", "(I)I"⟩, 22) := ⟨⟨by decide +kernel, by decide +kernel⟩, List.mem_of_getElem? (i := 410) (by decide +kernel), List.mem_of_getElem? (i := 577) (by decide +kernel), List.mem_of_getElem? (i := 578) (by decide +kernel)⟩
theorem lw_p33 : lw_okq (⟨"LayoutOptimizerModel", "total", "()I"⟩, 22) := ⟨⟨by decide +kernel, by decide +kernel⟩, List.mem_of_getElem? (i := 410) (by decide +kernel), List.mem_of_getElem? (i := 581) (by decide +kernel), List.mem_of_getElem? (i := 582) (by decide +kernel)⟩
theorem lw_p34 : lw_okq (⟨"LayoutOptimizerModel", "noBranch", "(II)Z"⟩, 22) := ⟨⟨by decide +kernel, by decide +kernel⟩, List.mem_of_getElem? (i := 410) (by decide +kernel), List.mem_of_getElem? (i := 597) (by decide +kernel), List.mem_of_getElem? (i := 598) (by decide +kernel)⟩
theorem lw_p35 : lw_okq (⟨"LayoutOptimizerModel", "leaving", "(II)I"⟩, 22) := ⟨⟨by decide +kernel, by decide +kernel⟩, List.mem_of_getElem? (i := 410) (by decide +kernel), List.mem_of_getElem? (i := 609) (by decide +kernel), List.mem_of_getElem? (i := 610) (by decide +kernel)⟩
def lw_privs_3 : List (MethodName × Nat) := [(⟨"LayoutOptimizerModel", "units", "(I)I"⟩, 22), (⟨"LayoutOptimizerModel", "total", "()I"⟩, 22), (⟨"LayoutOptimizerModel", "noBranch", "(II)Z"⟩, 22), (⟨"LayoutOptimizerModel", "leaving", "(II)I"⟩, 22)]
theorem lw_r3 : ∀ q ∈ lw_privs_3, lw_okq q := List.forall_mem_cons.mpr ⟨lw_p32, List.forall_mem_cons.mpr ⟨lw_p33, List.forall_mem_cons.mpr ⟨lw_p34, List.forall_mem_cons.mpr ⟨lw_p35, fun _ h => absurd h List.not_mem_nil⟩⟩⟩⟩
def lw_privs : List (MethodName × Nat) := lw_privs_1 ++ (lw_privs_2 ++ (lw_privs_3))
def lw_tbl : List Cond := k2_sels lw_privs ++ tables_1
theorem lw_privs_ok : ∀ q ∈ lw_privs, lw_okq q := by
  show ∀ q ∈ lw_privs_1 ++ (lw_privs_2 ++ (lw_privs_3)), lw_okq q
  exact List.forall_mem_append.mpr ⟨lw_r1, List.forall_mem_append.mpr ⟨lw_r2, lw_r3⟩⟩
end
section
def R_L : String := "LayoutOptimizer"
def T_L : u_T := fun k => match k with
  | 0 => ("LayoutOptimizer", "range", "I", true)
  | 1 => ("LayoutOptimizer", "graph", "LLayoutOptimizer$Graph;", true)
  | 2 => ("LayoutOptimizer", "counts", "LLayoutOptimizer$Counts;", true)
  | 3 => ("LayoutOptimizer", "trail", "LLayoutOptimizer$Trail;", true)
  | 4 => ("LayoutOptimizer", "placing", "LLayoutOptimizer$Placing;", true)
  | 5 => ("LayoutOptimizer", "code", "LLayoutOptimizer$Code;", true)
  | _ => ("LayoutOptimizer", "laidOut", "Z", false)
def ty_L : Nat → FieldType := fun k => match k with
  | 0 => .int
  | 1 => .object "LayoutOptimizer$Graph"
  | 2 => .object "LayoutOptimizer$Counts"
  | 3 => .object "LayoutOptimizer$Trail"
  | 4 => .object "LayoutOptimizer$Placing"
  | 5 => .object "LayoutOptimizer$Code"
  | _ => .boolean
theorem nm_L : ∀ a, a < 7 → ∀ b, b < 7 → a ≠ b → (T_L a).2.1 ≠ (T_L b).2.1 := by decide +kernel
theorem tok_L : ∀ k, k < 7 → parseFieldDescriptor (T_L k).2.2.1 = some (ty_L k) := by decide +kernel
def R_G : String := "LayoutOptimizer$Graph"
def T_G : u_T := fun k => match k with
  | 0 => ("LayoutOptimizer$Graph", "function", "[I", true)
  | 1 => ("LayoutOptimizer$Graph", "body", "[I", true)
  | 2 => ("LayoutOptimizer$Graph", "end", "[I", true)
  | 3 => ("LayoutOptimizer$Graph", "to", "[I", true)
  | 4 => ("LayoutOptimizer$Graph", "entry", "[I", true)
  | _ => ("LayoutOptimizer$Graph", "size", "I", false)
def ty_G : Nat → FieldType := fun k => match k with
  | 0 => .array .int
  | 1 => .array .int
  | 2 => .array .int
  | 3 => .array .int
  | 4 => .array .int
  | _ => .int
theorem nm_G : ∀ a, a < 6 → ∀ b, b < 6 → a ≠ b → (T_G a).2.1 ≠ (T_G b).2.1 := by decide +kernel
theorem tok_G : ∀ k, k < 6 → parseFieldDescriptor (T_G k).2.2.1 = some (ty_G k) := by decide +kernel
def R_N : String := "LayoutOptimizer$Counts"
def T_N : u_T := fun k => match k with
  | 0 => ("LayoutOptimizer$Counts", "ofBlock", "[I", true)
  | _ => ("LayoutOptimizer$Counts", "ofEdge", "[I", true)
def ty_N : Nat → FieldType := fun k => match k with
  | 0 => .array .int
  | _ => .array .int
theorem nm_N : ∀ a, a < 2 → ∀ b, b < 2 → a ≠ b → (T_N a).2.1 ≠ (T_N b).2.1 := by decide +kernel
theorem tok_N : ∀ k, k < 2 → parseFieldDescriptor (T_N k).2.2.1 = some (ty_N k) := by decide +kernel
def R_T : String := "LayoutOptimizer$Trail"
def T_T : u_T := fun k => match k with
  | 0 => ("LayoutOptimizer$Trail", "blocks", "[I", true)
  | 1 => ("LayoutOptimizer$Trail", "edges", "[I", true)
  | _ => ("LayoutOptimizer$Trail", "size", "I", false)
def ty_T : Nat → FieldType := fun k => match k with
  | 0 => .array .int
  | 1 => .array .int
  | _ => .int
theorem nm_T : ∀ a, a < 3 → ∀ b, b < 3 → a ≠ b → (T_T a).2.1 ≠ (T_T b).2.1 := by decide +kernel
theorem tok_T : ∀ k, k < 3 → parseFieldDescriptor (T_T k).2.2.1 = some (ty_T k) := by decide +kernel
def R_P : String := "LayoutOptimizer$Placing"
def T_P : u_T := fun k => match k with
  | 0 => ("LayoutOptimizer$Placing", "order", "[I", true)
  | 1 => ("LayoutOptimizer$Placing", "chains", "I", false)
  | 2 => ("LayoutOptimizer$Placing", "coldBlocks", "I", false)
  | 3 => ("LayoutOptimizer$Placing", "edges", "[I", true)
  | 4 => ("LayoutOptimizer$Placing", "heads", "[I", true)
  | 5 => ("LayoutOptimizer$Placing", "first", "[I", true)
  | 6 => ("LayoutOptimizer$Placing", "behind", "[I", true)
  | 7 => ("LayoutOptimizer$Placing", "heatSum", "[I", true)
  | _ => ("LayoutOptimizer$Placing", "bodySum", "[I", true)
def ty_P : Nat → FieldType := fun k => match k with
  | 0 => .array .int
  | 1 => .int
  | 2 => .int
  | 3 => .array .int
  | 4 => .array .int
  | 5 => .array .int
  | 6 => .array .int
  | 7 => .array .int
  | _ => .array .int
theorem nm_P : ∀ a, a < 9 → ∀ b, b < 9 → a ≠ b → (T_P a).2.1 ≠ (T_P b).2.1 := by decide +kernel
theorem tok_P : ∀ k, k < 9 → parseFieldDescriptor (T_P k).2.2.1 = some (ty_P k) := by decide +kernel
def R_C : String := "LayoutOptimizer$Code"
def T_C : u_T := fun k => match k with
  | 0 => ("LayoutOptimizer$Code", "start", "[I", true)
  | 1 => ("LayoutOptimizer$Code", "goal", "[I", true)
  | 2 => ("LayoutOptimizer$Code", "units", "[I", true)
  | 3 => ("LayoutOptimizer$Code", "turned", "[Z", true)
  | 4 => ("LayoutOptimizer$Code", "length", "I", false)
  | 5 => ("LayoutOptimizer$Code", "branches", "I", false)
  | _ => ("LayoutOptimizer$Code", "longOnes", "I", false)
def ty_C : Nat → FieldType := fun k => match k with
  | 0 => .array .int
  | 1 => .array .int
  | 2 => .array .int
  | 3 => .array .boolean
  | 4 => .int
  | 5 => .int
  | _ => .int
theorem nm_C : ∀ a, a < 7 → ∀ b, b < 7 → a ≠ b → (T_C a).2.1 ≠ (T_C b).2.1 := by decide +kernel
theorem tok_C : ∀ k, k < 7 → parseFieldDescriptor (T_C k).2.2.1 = some (ty_C k) := by decide +kernel
def R_M : String := "LayoutOptimizerModel"
def T_M : u_T := fun k => match k with
  | 0 => ("LayoutOptimizerModel", "range", "I", true)
  | 1 => ("LayoutOptimizerModel", "blocks", "I", false)
  | 2 => ("LayoutOptimizerModel", "edges", "I", false)
  | 3 => ("LayoutOptimizerModel", "cold", "I", false)
  | 4 => ("LayoutOptimizerModel", "chains", "I", false)
  | 5 => ("LayoutOptimizerModel", "made", "Z", false)
  | 6 => ("LayoutOptimizerModel", "function", "[I", true)
  | 7 => ("LayoutOptimizerModel", "body", "[I", true)
  | 8 => ("LayoutOptimizerModel", "end", "[I", true)
  | 9 => ("LayoutOptimizerModel", "to", "[I", true)
  | 10 => ("LayoutOptimizerModel", "heat", "[I", true)
  | 11 => ("LayoutOptimizerModel", "edgeHeat", "[I", true)
  | 12 => ("LayoutOptimizerModel", "chain", "[I", true)
  | 13 => ("LayoutOptimizerModel", "place", "[I", true)
  | 14 => ("LayoutOptimizerModel", "taken", "[Z", true)
  | 15 => ("LayoutOptimizerModel", "placed", "[Z", true)
  | 16 => ("LayoutOptimizerModel", "order", "[I", true)
  | 17 => ("LayoutOptimizerModel", "branches", "[I", true)
  | 18 => ("LayoutOptimizerModel", "target", "[I", true)
  | 19 => ("LayoutOptimizerModel", "length", "[I", true)
  | 20 => ("LayoutOptimizerModel", "turned", "[Z", true)
  | _ => ("LayoutOptimizerModel", "grows", "[Z", true)
def ty_M : Nat → FieldType := fun k => match k with
  | 0 => .int
  | 1 => .int
  | 2 => .int
  | 3 => .int
  | 4 => .int
  | 5 => .boolean
  | 6 => .array .int
  | 7 => .array .int
  | 8 => .array .int
  | 9 => .array .int
  | 10 => .array .int
  | 11 => .array .int
  | 12 => .array .int
  | 13 => .array .int
  | 14 => .array .boolean
  | 15 => .array .boolean
  | 16 => .array .int
  | 17 => .array .int
  | 18 => .array .int
  | 19 => .array .int
  | 20 => .array .boolean
  | _ => .array .boolean
theorem nm_M : ∀ a, a < 22 → ∀ b, b < 22 → a ≠ b → (T_M a).2.1 ≠ (T_M b).2.1 := by decide +kernel
theorem tok_M : ∀ k, k < 22 → parseFieldDescriptor (T_M k).2.2.1 = some (ty_M k) := by decide +kernel
def R_W : String := "LayoutOptimizerLaw"
def R_A : String := "java/util/Arrays"
abbrev vwCl : List vw_C := [(R_L, T_L, 7), (R_G, T_G, 6), (R_N, T_N, 2), (R_T, T_T, 3), (R_P, T_P, 9), (R_C, T_C, 7), (R_M, T_M, 22)]
def av_N : List Cond := [Cond.methodLinkNest R_L 31 ⟨R_N, "<init>", "()V"⟩ R_L, Cond.methodLinkNest R_L 38 ⟨R_T, "<init>", "()V"⟩ R_L, Cond.methodLinkNest R_L 45 ⟨R_P, "<init>", "()V"⟩ R_L, Cond.methodLinkNest R_L 52 ⟨R_C, "<init>", "()V"⟩ R_L]
theorem av_N_in : ∀ w ∈ av_N, w ∈ lw_tbl := by decide +kernel
theorem av_N_on : ∀ w ∈ av_N, w.onTables = true := by decide +kernel
theorem av_N_warm : ∀ w ∈ av_N, ∀ (s U : State), s.WarmedH U.vm → va_Nw w s → va_Nw w U := by
  intro w hw s U hW hZ
  simp only [av_N, List.mem_cons, List.not_mem_nil, or_false] at hw
  rcases hw with rfl | rfl | rfl | rfl <;> exact va_Nw.warmM hW hZ
abbrev m_L_init : MethodName × ByteArray × Nat × Option FieldType := (⟨R_L, "<init>", "(I)V"⟩, prog_1_method_1_code, 2, none)
abbrev m_G_init : MethodName × ByteArray × Nat × Option FieldType := (⟨R_G, "<init>", "()V"⟩, prog_4_method_1_code, 1, none)
abbrev m_A_fill : MethodName × ByteArray × Nat × Option FieldType := (⟨R_A, "fill", "([II)V"⟩, prog_10_method_103_code, 4, none)
abbrev m_N_init : MethodName × ByteArray × Nat × Option FieldType := (⟨R_N, "<init>", "()V"⟩, prog_3_method_1_code, 1, none)
abbrev m_T_init : MethodName × ByteArray × Nat × Option FieldType := (⟨R_T, "<init>", "()V"⟩, prog_6_method_1_code, 1, none)
abbrev m_P_init : MethodName × ByteArray × Nat × Option FieldType := (⟨R_P, "<init>", "()V"⟩, prog_5_method_1_code, 1, none)
abbrev m_C_init : MethodName × ByteArray × Nat × Option FieldType := (⟨R_C, "<init>", "()V"⟩, prog_2_method_1_code, 1, none)
abbrev m_L_block : MethodName × ByteArray × Nat × Option FieldType := (⟨R_L, "block", "(II)I"⟩, prog_1_method_2_code, 3, (some .int))
abbrev m_G_add : MethodName × ByteArray × Nat × Option FieldType := (⟨R_G, "add", "(II)I"⟩, prog_4_method_2_code, 4, (some .int))
abbrev m_G_setEnd : MethodName × ByteArray × Nat × Option FieldType := (⟨R_G, "setEnd", "(IIII)V"⟩, prog_4_method_3_code, 5, none)
abbrev m_L_jump : MethodName × ByteArray × Nat × Option FieldType := (⟨R_L, "jump", "(II)I"⟩, prog_1_method_3_code, 3, (some .int))
abbrev m_G_canLead : MethodName × ByteArray × Nat × Option FieldType := (⟨R_G, "canLead", "(II)Z"⟩, prog_4_method_7_code, 3, (some .boolean))
abbrev m_G_has : MethodName × ByteArray × Nat × Option FieldType := (⟨R_G, "has", "(I)Z"⟩, prog_4_method_4_code, 2, (some .boolean))
abbrev m_N_clearEdges : MethodName × ByteArray × Nat × Option FieldType := (⟨R_N, "clearEdges", "(I)V"⟩, prog_3_method_5_code, 2, none)
abbrev m_L_test : MethodName × ByteArray × Nat × Option FieldType := (⟨R_L, "test", "(III)I"⟩, prog_1_method_4_code, 4, (some .int))
abbrev m_L_walk : MethodName × ByteArray × Nat × Option FieldType := (⟨R_L, "walk", "(II)I"⟩, prog_1_method_5_code, 3, (some .int))
abbrev m_G_hasEntry : MethodName × ByteArray × Nat × Option FieldType := (⟨R_G, "hasEntry", "(I)Z"⟩, prog_4_method_6_code, 2, (some .boolean))
abbrev m_T_follow : MethodName × ByteArray × Nat × Option FieldType := (⟨R_T, "follow", "(LLayoutOptimizer$Graph;II)V"⟩, prog_6_method_2_code, 7, none)
abbrev m_T_holdsAt : MethodName × ByteArray × Nat × Option FieldType := (⟨R_T, "holdsAt", "(II)Z"⟩, prog_6_method_3_code, 2, (some .boolean))
abbrev m_N_addTrail : MethodName × ByteArray × Nat × Option FieldType := (⟨R_N, "addTrail", "(LLayoutOptimizer$Trail;)V"⟩, prog_3_method_4_code, 3, none)
abbrev m_N_addToBlock : MethodName × ByteArray × Nat × Option FieldType := (⟨R_N, "addToBlock", "(II)V"⟩, prog_3_method_2_code, 3, none)
abbrev m_N_addToEdge : MethodName × ByteArray × Nat × Option FieldType := (⟨R_N, "addToEdge", "(II)V"⟩, prog_3_method_3_code, 3, none)
abbrev m_L_heat : MethodName × ByteArray × Nat × Option FieldType := (⟨R_L, "heat", "(III)I"⟩, prog_1_method_6_code, 5, (some .int))
abbrev m_G_hasEdge : MethodName × ByteArray × Nat × Option FieldType := (⟨R_G, "hasEdge", "(II)Z"⟩, prog_4_method_5_code, 3, (some .boolean))
abbrev m_L_cool : MethodName × ByteArray × Nat × Option FieldType := (⟨R_L, "cool", "()I"⟩, prog_1_method_7_code, 1, (some .int))
abbrev m_N_clear : MethodName × ByteArray × Nat × Option FieldType := (⟨R_N, "clear", "()V"⟩, prog_3_method_6_code, 1, none)
abbrev m_L_layout : MethodName × ByteArray × Nat × Option FieldType := (⟨R_L, "layout", "(I)I"⟩, prog_1_method_8_code, 2, (some .int))
abbrev m_P_placeByNumber : MethodName × ByteArray × Nat × Option FieldType := (⟨R_P, "placeByNumber", "(LLayoutOptimizer$Graph;)V"⟩, prog_5_method_2_code, 3, none)
abbrev m_P_placeByChains : MethodName × ByteArray × Nat × Option FieldType := (⟨R_P, "placeByChains", "(LLayoutOptimizer$Graph;LLayoutOptimizer$Counts;)V"⟩, prog_5_method_3_code, 5, none)
abbrev m_P_startChains : MethodName × ByteArray × Nat × Option FieldType := (⟨R_P, "startChains", "(LLayoutOptimizer$Graph;LLayoutOptimizer$Counts;)V"⟩, prog_5_method_4_code, 4, none)
abbrev m_P_sortEdges : MethodName × ByteArray × Nat × Option FieldType := (⟨R_P, "sortEdges", "(LLayoutOptimizer$Graph;LLayoutOptimizer$Counts;)I"⟩, prog_5_method_5_code, 6, (some .int))
abbrev m_P_mayJoin : MethodName × ByteArray × Nat × Option FieldType := (⟨R_P, "mayJoin", "(LLayoutOptimizer$Graph;LLayoutOptimizer$Counts;I)Z"⟩, prog_5_method_6_code, 3, (some .boolean))
abbrev m_P_joinAlong : MethodName × ByteArray × Nat × Option FieldType := (⟨R_P, "joinAlong", "(LLayoutOptimizer$Graph;II)V"⟩, prog_5_method_7_code, 6, none)
abbrev m_G_isEntry : MethodName × ByteArray × Nat × Option FieldType := (⟨R_G, "isEntry", "(I)Z"⟩, prog_4_method_8_code, 2, (some .boolean))
abbrev m_P_sortHeads : MethodName × ByteArray × Nat × Option FieldType := (⟨R_P, "sortHeads", "(LLayoutOptimizer$Graph;)V"⟩, prog_5_method_8_code, 4, none)
abbrev m_P_comesBefore : MethodName × ByteArray × Nat × Option FieldType := (⟨R_P, "comesBefore", "(LLayoutOptimizer$Graph;II)Z"⟩, prog_5_method_9_code, 8, (some .boolean))
abbrev m_P_isCold : MethodName × ByteArray × Nat × Option FieldType := (⟨R_P, "isCold", "(LLayoutOptimizer$Graph;I)Z"⟩, prog_5_method_10_code, 3, (some .boolean))
abbrev m_P_writeOrder : MethodName × ByteArray × Nat × Option FieldType := (⟨R_P, "writeOrder", "(LLayoutOptimizer$Graph;)V"⟩, prog_5_method_11_code, 6, none)
abbrev m_C_lay : MethodName × ByteArray × Nat × Option FieldType := (⟨R_C, "lay", "(LLayoutOptimizer$Graph;[II)V"⟩, prog_2_method_2_code, 5, none)
abbrev m_C_chooseBranches : MethodName × ByteArray × Nat × Option FieldType := (⟨R_C, "chooseBranches", "(LLayoutOptimizer$Graph;II)V"⟩, prog_2_method_3_code, 6, none)
abbrev m_C_clearBranches : MethodName × ByteArray × Nat × Option FieldType := (⟨R_C, "clearBranches", "(I)V"⟩, prog_2_method_4_code, 3, none)
abbrev m_C_putBranch : MethodName × ByteArray × Nat × Option FieldType := (⟨R_C, "putBranch", "(II)V"⟩, prog_2_method_5_code, 3, none)
abbrev m_C_measure : MethodName × ByteArray × Nat × Option FieldType := (⟨R_C, "measure", "(LLayoutOptimizer$Graph;[I)V"⟩, prog_2_method_6_code, 5, none)
abbrev m_C_lengthen : MethodName × ByteArray × Nat × Option FieldType := (⟨R_C, "lengthen", "(LLayoutOptimizer$Graph;I)Z"⟩, prog_2_method_7_code, 7, (some .boolean))
abbrev m_C_lengthenOne : MethodName × ByteArray × Nat × Option FieldType := (⟨R_C, "lengthenOne", "(III)Z"⟩, prog_2_method_8_code, 4, (some .boolean))
abbrev m_L_at : MethodName × ByteArray × Nat × Option FieldType := (⟨R_L, "at", "(I)I"⟩, prog_1_method_9_code, 2, (some .int))
abbrev m_L_address : MethodName × ByteArray × Nat × Option FieldType := (⟨R_L, "address", "(I)I"⟩, prog_1_method_10_code, 2, (some .int))
abbrev m_L_branch : MethodName × ByteArray × Nat × Option FieldType := (⟨R_L, "branch", "(II)I"⟩, prog_1_method_11_code, 3, (some .int))
abbrev m_L_hasBranch : MethodName × ByteArray × Nat × Option FieldType := (⟨R_L, "hasBranch", "(II)Z"⟩, prog_1_method_17_code, 3, (some .boolean))
abbrev m_L_target : MethodName × ByteArray × Nat × Option FieldType := (⟨R_L, "target", "(II)I"⟩, prog_1_method_12_code, 3, (some .int))
abbrev m_L_cost : MethodName × ByteArray × Nat × Option FieldType := (⟨R_L, "cost", "(II)I"⟩, prog_1_method_13_code, 6, (some .int))
abbrev m_C_costOfLeaving : MethodName × ByteArray × Nat × Option FieldType := (⟨R_C, "costOfLeaving", "(IIZ)I"⟩, prog_2_method_9_code, 6, (some .int))
abbrev m_C_longExtra : MethodName × ByteArray × Nat × Option FieldType := (⟨R_C, "longExtra", "(I)I"⟩, prog_2_method_10_code, 2, (some .int))
abbrev m_L_heatOf : MethodName × ByteArray × Nat × Option FieldType := (⟨R_L, "heatOf", "(II)I"⟩, prog_1_method_14_code, 3, (some .int))
abbrev m_L_count : MethodName × ByteArray × Nat × Option FieldType := (⟨R_L, "count", "(I)I"⟩, prog_1_method_15_code, 2, (some .int))
abbrev m_L_countOfLayout : MethodName × ByteArray × Nat × Option FieldType := (⟨R_L, "countOfLayout", "(I)I"⟩, prog_1_method_16_code, 2, (some .int))
abbrev m_W_cell : MethodName × ByteArray × Nat × Option FieldType := (⟨R_W, "cell", "([II)I"⟩, method_2_code, 2, (some .int))
abbrev m_M_init : MethodName × ByteArray × Nat × Option FieldType := (⟨R_M, "<init>", "(I)V"⟩, prog_8_method_1_code, 2, none)
abbrev m_M_block : MethodName × ByteArray × Nat × Option FieldType := (⟨R_M, "block", "(II)I"⟩, prog_8_method_4_code, 3, (some .int))
abbrev m_M_jump : MethodName × ByteArray × Nat × Option FieldType := (⟨R_M, "jump", "(II)I"⟩, prog_8_method_5_code, 3, (some .int))
abbrev m_M_give : MethodName × ByteArray × Nat × Option FieldType := (⟨R_M, "give", "(IIII)I"⟩, prog_8_method_7_code, 5, (some .int))
abbrev m_M_no : MethodName × ByteArray × Nat × Option FieldType := (⟨R_M, "no", "(I)Z"⟩, prog_8_method_2_code, 2, (some .boolean))
abbrev m_M_test : MethodName × ByteArray × Nat × Option FieldType := (⟨R_M, "test", "(III)I"⟩, prog_8_method_6_code, 4, (some .int))
abbrev m_M_walk : MethodName × ByteArray × Nat × Option FieldType := (⟨R_M, "walk", "(II)I"⟩, prog_8_method_10_code, 7, (some .int))
abbrev m_M_entry : MethodName × ByteArray × Nat × Option FieldType := (⟨R_M, "entry", "(I)I"⟩, prog_8_method_3_code, 3, (some .int))
abbrev m_M_warmer : MethodName × ByteArray × Nat × Option FieldType := (⟨R_M, "warmer", "(II)I"⟩, prog_8_method_8_code, 3, (some .int))
abbrev m_M_edge : MethodName × ByteArray × Nat × Option FieldType := (⟨R_M, "edge", "(III)I"⟩, prog_8_method_9_code, 4, (some .int))
abbrev m_M_heat : MethodName × ByteArray × Nat × Option FieldType := (⟨R_M, "heat", "(III)I"⟩, prog_8_method_11_code, 5, (some .int))
abbrev m_M_cool : MethodName × ByteArray × Nat × Option FieldType := (⟨R_M, "cool", "()I"⟩, prog_8_method_12_code, 2, (some .int))
abbrev m_M_layout : MethodName × ByteArray × Nat × Option FieldType := (⟨R_M, "layout", "(I)I"⟩, prog_8_method_26_code, 3, (some .int))
abbrev m_M_makeChains : MethodName × ByteArray × Nat × Option FieldType := (⟨R_M, "makeChains", "(I)V"⟩, prog_8_method_15_code, 3, none)
abbrev m_M_joinOne : MethodName × ByteArray × Nat × Option FieldType := (⟨R_M, "joinOne", "()Z"⟩, prog_8_method_14_code, 8, (some .boolean))
abbrev m_M_size : MethodName × ByteArray × Nat × Option FieldType := (⟨R_M, "size", "(I)I"⟩, prog_8_method_13_code, 4, (some .int))
abbrev m_M_putOrder : MethodName × ByteArray × Nat × Option FieldType := (⟨R_M, "putOrder", "(I)V"⟩, prog_8_method_20_code, 6, none)
abbrev m_M_before : MethodName × ByteArray × Nat × Option FieldType := (⟨R_M, "before", "(II)Z"⟩, prog_8_method_19_code, 11, (some .boolean))
abbrev m_M_head : MethodName × ByteArray × Nat × Option FieldType := (⟨R_M, "head", "(I)I"⟩, prog_8_method_17_code, 3, (some .int))
abbrev m_M_isCold : MethodName × ByteArray × Nat × Option FieldType := (⟨R_M, "isCold", "(I)Z"⟩, prog_8_method_16_code, 3, (some .boolean))
abbrev m_M_sum : MethodName × ByteArray × Nat × Option FieldType := (⟨R_M, "sum", "(IZ)J"⟩, prog_8_method_18_code, 6, (some .long))
abbrev m_M_branchesOf : MethodName × ByteArray × Nat × Option FieldType := (⟨R_M, "branchesOf", "(II)V"⟩, prog_8_method_21_code, 5, none)
abbrev m_M_lengthen : MethodName × ByteArray × Nat × Option FieldType := (⟨R_M, "lengthen", "()Z"⟩, prog_8_method_24_code, 6, (some .boolean))
abbrev m_M_addressOf : MethodName × ByteArray × Nat × Option FieldType := (⟨R_M, "addressOf", "(I)I"⟩, prog_8_method_23_code, 4, (some .int))
abbrev m_M_units : MethodName × ByteArray × Nat × Option FieldType := (⟨R_M, "units", "(I)I"⟩, prog_8_method_22_code, 4, (some .int))
abbrev m_M_total : MethodName × ByteArray × Nat × Option FieldType := (⟨R_M, "total", "()I"⟩, prog_8_method_25_code, 3, (some .int))
abbrev m_M_at : MethodName × ByteArray × Nat × Option FieldType := (⟨R_M, "at", "(I)I"⟩, prog_8_method_27_code, 2, (some .int))
abbrev m_M_address : MethodName × ByteArray × Nat × Option FieldType := (⟨R_M, "address", "(I)I"⟩, prog_8_method_28_code, 2, (some .int))
abbrev m_M_branch : MethodName × ByteArray × Nat × Option FieldType := (⟨R_M, "branch", "(II)I"⟩, prog_8_method_30_code, 3, (some .int))
abbrev m_M_noBranch : MethodName × ByteArray × Nat × Option FieldType := (⟨R_M, "noBranch", "(II)Z"⟩, prog_8_method_29_code, 3, (some .boolean))
abbrev m_M_target : MethodName × ByteArray × Nat × Option FieldType := (⟨R_M, "target", "(II)I"⟩, prog_8_method_31_code, 3, (some .int))
abbrev m_M_cost : MethodName × ByteArray × Nat × Option FieldType := (⟨R_M, "cost", "(II)I"⟩, prog_8_method_33_code, 8, (some .int))
abbrev m_M_leaving : MethodName × ByteArray × Nat × Option FieldType := (⟨R_M, "leaving", "(II)I"⟩, prog_8_method_32_code, 5, (some .int))
abbrev m_M_heatOf : MethodName × ByteArray × Nat × Option FieldType := (⟨R_M, "heatOf", "(II)I"⟩, prog_8_method_34_code, 3, (some .int))
abbrev m_M_count : MethodName × ByteArray × Nat × Option FieldType := (⟨R_M, "count", "(I)I"⟩, prog_8_method_35_code, 6, (some .int))
abbrev m_W_law : MethodName × ByteArray × Nat × Option FieldType := (⟨R_W, "law", "([I)Z"⟩, code, 4, (some .boolean))
end
section
theorem d_L_init_0 : decode prog_1_method_1_code 0 = .ok (.aload_n 0, 1) := by decide +kernel
theorem d_L_init_1 : decode prog_1_method_1_code 1 = .ok (.invokespecial 3, 3) := by decide +kernel
theorem d_L_init_4 : decode prog_1_method_1_code 4 = .ok (.aload_n 0, 1) := by decide +kernel
theorem d_L_init_5 : decode prog_1_method_1_code 5 = .ok (.iconst 4, 1) := by decide +kernel
theorem d_L_init_6 : decode prog_1_method_1_code 6 = .ok (.sipush 400, 3) := by decide +kernel
theorem d_L_init_9 : decode prog_1_method_1_code 9 = .ok (.iload_n 1, 1) := by decide +kernel
theorem d_L_init_10 : decode prog_1_method_1_code 10 = .ok (.invokestatic 9, 3) := by decide +kernel
theorem d_L_init_13 : decode prog_1_method_1_code 13 = .ok (.invokestatic 15, 3) := by decide +kernel
theorem d_L_init_16 : decode prog_1_method_1_code 16 = .ok (.putfield 18, 3) := by decide +kernel
theorem d_L_init_19 : decode prog_1_method_1_code 19 = .ok (.aload_n 0, 1) := by decide +kernel
theorem d_L_init_20 : decode prog_1_method_1_code 20 = .ok (.new 22, 3) := by decide +kernel
theorem d_L_init_23 : decode prog_1_method_1_code 23 = .ok (.dup, 1) := by decide +kernel
theorem d_L_init_24 : decode prog_1_method_1_code 24 = .ok (.invokespecial 24, 3) := by decide +kernel
theorem d_L_init_27 : decode prog_1_method_1_code 27 = .ok (.putfield 25, 3) := by decide +kernel
theorem d_L_init_30 : decode prog_1_method_1_code 30 = .ok (.aload_n 0, 1) := by decide +kernel
theorem d_L_init_31 : decode prog_1_method_1_code 31 = .ok (.new 29, 3) := by decide +kernel
theorem d_L_init_34 : decode prog_1_method_1_code 34 = .ok (.dup, 1) := by decide +kernel
theorem d_L_init_35 : decode prog_1_method_1_code 35 = .ok (.invokespecial 31, 3) := by decide +kernel
theorem d_L_init_38 : decode prog_1_method_1_code 38 = .ok (.putfield 32, 3) := by decide +kernel
theorem d_L_init_41 : decode prog_1_method_1_code 41 = .ok (.aload_n 0, 1) := by decide +kernel
theorem d_L_init_42 : decode prog_1_method_1_code 42 = .ok (.new 36, 3) := by decide +kernel
theorem d_L_init_45 : decode prog_1_method_1_code 45 = .ok (.dup, 1) := by decide +kernel
theorem d_L_init_46 : decode prog_1_method_1_code 46 = .ok (.invokespecial 38, 3) := by decide +kernel
theorem d_L_init_49 : decode prog_1_method_1_code 49 = .ok (.putfield 39, 3) := by decide +kernel
theorem d_L_init_52 : decode prog_1_method_1_code 52 = .ok (.aload_n 0, 1) := by decide +kernel
theorem d_L_init_53 : decode prog_1_method_1_code 53 = .ok (.new 43, 3) := by decide +kernel
theorem d_L_init_56 : decode prog_1_method_1_code 56 = .ok (.dup, 1) := by decide +kernel
theorem d_L_init_57 : decode prog_1_method_1_code 57 = .ok (.invokespecial 45, 3) := by decide +kernel
theorem d_L_init_60 : decode prog_1_method_1_code 60 = .ok (.putfield 46, 3) := by decide +kernel
theorem d_L_init_63 : decode prog_1_method_1_code 63 = .ok (.aload_n 0, 1) := by decide +kernel
theorem d_L_init_64 : decode prog_1_method_1_code 64 = .ok (.new 50, 3) := by decide +kernel
theorem d_L_init_67 : decode prog_1_method_1_code 67 = .ok (.dup, 1) := by decide +kernel
theorem d_L_init_68 : decode prog_1_method_1_code 68 = .ok (.invokespecial 52, 3) := by decide +kernel
theorem d_L_init_71 : decode prog_1_method_1_code 71 = .ok (.putfield 53, 3) := by decide +kernel
theorem d_L_init_74 : decode prog_1_method_1_code 74 = .ok (.aload_n 0, 1) := by decide +kernel
theorem d_L_init_75 : decode prog_1_method_1_code 75 = .ok (.iconst 0, 1) := by decide +kernel
theorem d_L_init_76 : decode prog_1_method_1_code 76 = .ok (.putfield 57, 3) := by decide +kernel
theorem d_L_init_79 : decode prog_1_method_1_code 79 = .ok (.return_, 1) := by decide +kernel
theorem d_G_init_0 : decode prog_4_method_1_code 0 = .ok (.aload_n 0, 1) := by decide +kernel
theorem d_G_init_1 : decode prog_4_method_1_code 1 = .ok (.invokespecial 3, 3) := by decide +kernel
theorem d_G_init_4 : decode prog_4_method_1_code 4 = .ok (.aload_n 0, 1) := by decide +kernel
theorem d_G_init_5 : decode prog_4_method_1_code 5 = .ok (.bipush 24, 2) := by decide +kernel
theorem d_G_init_7 : decode prog_4_method_1_code 7 = .ok (.newarray .int, 2) := by decide +kernel
theorem d_G_init_9 : decode prog_4_method_1_code 9 = .ok (.putfield 9, 3) := by decide +kernel
theorem d_G_init_12 : decode prog_4_method_1_code 12 = .ok (.aload_n 0, 1) := by decide +kernel
theorem d_G_init_13 : decode prog_4_method_1_code 13 = .ok (.bipush 24, 2) := by decide +kernel
theorem d_G_init_15 : decode prog_4_method_1_code 15 = .ok (.newarray .int, 2) := by decide +kernel
theorem d_G_init_17 : decode prog_4_method_1_code 17 = .ok (.putfield 15, 3) := by decide +kernel
theorem d_G_init_20 : decode prog_4_method_1_code 20 = .ok (.aload_n 0, 1) := by decide +kernel
theorem d_G_init_21 : decode prog_4_method_1_code 21 = .ok (.bipush 24, 2) := by decide +kernel
theorem d_G_init_23 : decode prog_4_method_1_code 23 = .ok (.newarray .int, 2) := by decide +kernel
theorem d_G_init_25 : decode prog_4_method_1_code 25 = .ok (.putfield 18, 3) := by decide +kernel
theorem d_G_init_28 : decode prog_4_method_1_code 28 = .ok (.aload_n 0, 1) := by decide +kernel
theorem d_G_init_29 : decode prog_4_method_1_code 29 = .ok (.bipush 48, 2) := by decide +kernel
theorem d_G_init_31 : decode prog_4_method_1_code 31 = .ok (.newarray .int, 2) := by decide +kernel
theorem d_G_init_33 : decode prog_4_method_1_code 33 = .ok (.putfield 21, 3) := by decide +kernel
theorem d_G_init_36 : decode prog_4_method_1_code 36 = .ok (.aload_n 0, 1) := by decide +kernel
theorem d_G_init_37 : decode prog_4_method_1_code 37 = .ok (.iconst 4, 1) := by decide +kernel
theorem d_G_init_38 : decode prog_4_method_1_code 38 = .ok (.newarray .int, 2) := by decide +kernel
theorem d_G_init_40 : decode prog_4_method_1_code 40 = .ok (.putfield 24, 3) := by decide +kernel
theorem d_G_init_43 : decode prog_4_method_1_code 43 = .ok (.aload_n 0, 1) := by decide +kernel
theorem d_G_init_44 : decode prog_4_method_1_code 44 = .ok (.iconst 0, 1) := by decide +kernel
theorem d_G_init_45 : decode prog_4_method_1_code 45 = .ok (.putfield 27, 3) := by decide +kernel
theorem d_G_init_48 : decode prog_4_method_1_code 48 = .ok (.aload_n 0, 1) := by decide +kernel
theorem d_G_init_49 : decode prog_4_method_1_code 49 = .ok (.getfield 24, 3) := by decide +kernel
theorem d_G_init_52 : decode prog_4_method_1_code 52 = .ok (.iconst (-1), 1) := by decide +kernel
theorem d_G_init_53 : decode prog_4_method_1_code 53 = .ok (.invokestatic 31, 3) := by decide +kernel
theorem d_G_init_56 : decode prog_4_method_1_code 56 = .ok (.return_, 1) := by decide +kernel
theorem d_A_fill_0 : decode prog_10_method_103_code 0 = .ok (.iconst 0, 1) := by decide +kernel
theorem d_A_fill_1 : decode prog_10_method_103_code 1 = .ok (.istore_n 2, 1) := by decide +kernel
theorem d_A_fill_2 : decode prog_10_method_103_code 2 = .ok (.aload_n 0, 1) := by decide +kernel
theorem d_A_fill_3 : decode prog_10_method_103_code 3 = .ok (.arraylength, 1) := by decide +kernel
theorem d_A_fill_4 : decode prog_10_method_103_code 4 = .ok (.istore_n 3, 1) := by decide +kernel
theorem d_A_fill_5 : decode prog_10_method_103_code 5 = .ok (.iload_n 2, 1) := by decide +kernel
theorem d_A_fill_6 : decode prog_10_method_103_code 6 = .ok (.iload_n 3, 1) := by decide +kernel
theorem d_A_fill_7 : decode prog_10_method_103_code 7 = .ok (.if_icmp .ge 13, 3) := by decide +kernel
theorem d_A_fill_10 : decode prog_10_method_103_code 10 = .ok (.aload_n 0, 1) := by decide +kernel
theorem d_A_fill_11 : decode prog_10_method_103_code 11 = .ok (.iload_n 2, 1) := by decide +kernel
theorem d_A_fill_12 : decode prog_10_method_103_code 12 = .ok (.iload_n 1, 1) := by decide +kernel
theorem d_A_fill_13 : decode prog_10_method_103_code 13 = .ok (.iastore, 1) := by decide +kernel
theorem d_A_fill_14 : decode prog_10_method_103_code 14 = .ok (.iinc 2 1, 3) := by decide +kernel
theorem d_A_fill_17 : decode prog_10_method_103_code 17 = .ok (.goto (-12), 3) := by decide +kernel
theorem d_A_fill_20 : decode prog_10_method_103_code 20 = .ok (.return_, 1) := by decide +kernel
theorem d_N_init_0 : decode prog_3_method_1_code 0 = .ok (.aload_n 0, 1) := by decide +kernel
theorem d_N_init_1 : decode prog_3_method_1_code 1 = .ok (.invokespecial 3, 3) := by decide +kernel
theorem d_N_init_4 : decode prog_3_method_1_code 4 = .ok (.aload_n 0, 1) := by decide +kernel
theorem d_N_init_5 : decode prog_3_method_1_code 5 = .ok (.bipush 24, 2) := by decide +kernel
theorem d_N_init_7 : decode prog_3_method_1_code 7 = .ok (.newarray .int, 2) := by decide +kernel
theorem d_N_init_9 : decode prog_3_method_1_code 9 = .ok (.putfield 9, 3) := by decide +kernel
theorem d_N_init_12 : decode prog_3_method_1_code 12 = .ok (.aload_n 0, 1) := by decide +kernel
theorem d_N_init_13 : decode prog_3_method_1_code 13 = .ok (.bipush 48, 2) := by decide +kernel
theorem d_N_init_15 : decode prog_3_method_1_code 15 = .ok (.newarray .int, 2) := by decide +kernel
theorem d_N_init_17 : decode prog_3_method_1_code 17 = .ok (.putfield 15, 3) := by decide +kernel
theorem d_N_init_20 : decode prog_3_method_1_code 20 = .ok (.return_, 1) := by decide +kernel
theorem d_T_init_0 : decode prog_6_method_1_code 0 = .ok (.aload_n 0, 1) := by decide +kernel
theorem d_T_init_1 : decode prog_6_method_1_code 1 = .ok (.invokespecial 3, 3) := by decide +kernel
theorem d_T_init_4 : decode prog_6_method_1_code 4 = .ok (.aload_n 0, 1) := by decide +kernel
theorem d_T_init_5 : decode prog_6_method_1_code 5 = .ok (.bipush 60, 2) := by decide +kernel
theorem d_T_init_7 : decode prog_6_method_1_code 7 = .ok (.newarray .int, 2) := by decide +kernel
theorem d_T_init_9 : decode prog_6_method_1_code 9 = .ok (.putfield 9, 3) := by decide +kernel
theorem d_T_init_12 : decode prog_6_method_1_code 12 = .ok (.aload_n 0, 1) := by decide +kernel
theorem d_T_init_13 : decode prog_6_method_1_code 13 = .ok (.bipush 60, 2) := by decide +kernel
theorem d_T_init_15 : decode prog_6_method_1_code 15 = .ok (.newarray .int, 2) := by decide +kernel
theorem d_T_init_17 : decode prog_6_method_1_code 17 = .ok (.putfield 15, 3) := by decide +kernel
theorem d_T_init_20 : decode prog_6_method_1_code 20 = .ok (.aload_n 0, 1) := by decide +kernel
theorem d_T_init_21 : decode prog_6_method_1_code 21 = .ok (.iconst 0, 1) := by decide +kernel
theorem d_T_init_22 : decode prog_6_method_1_code 22 = .ok (.putfield 18, 3) := by decide +kernel
theorem d_T_init_25 : decode prog_6_method_1_code 25 = .ok (.return_, 1) := by decide +kernel
theorem d_L_block_0 : decode prog_1_method_2_code 0 = .ok (.iload_n 1, 1) := by decide +kernel
theorem d_L_block_1 : decode prog_1_method_2_code 1 = .ok (.ifCond .lt 26, 3) := by decide +kernel
theorem d_L_block_4 : decode prog_1_method_2_code 4 = .ok (.iload_n 1, 1) := by decide +kernel
theorem d_L_block_5 : decode prog_1_method_2_code 5 = .ok (.iconst 4, 1) := by decide +kernel
theorem d_L_block_6 : decode prog_1_method_2_code 6 = .ok (.if_icmp .ge 21, 3) := by decide +kernel
theorem d_L_block_9 : decode prog_1_method_2_code 9 = .ok (.iload_n 2, 1) := by decide +kernel
theorem d_L_block_10 : decode prog_1_method_2_code 10 = .ok (.iconst 1, 1) := by decide +kernel
theorem d_L_block_11 : decode prog_1_method_2_code 11 = .ok (.if_icmp .lt 16, 3) := by decide +kernel
theorem d_L_block_14 : decode prog_1_method_2_code 14 = .ok (.iload_n 2, 1) := by decide +kernel
theorem d_L_block_15 : decode prog_1_method_2_code 15 = .ok (.bipush 40, 2) := by decide +kernel
theorem d_L_block_17 : decode prog_1_method_2_code 17 = .ok (.if_icmp .gt 10, 3) := by decide +kernel
theorem d_L_block_20 : decode prog_1_method_2_code 20 = .ok (.aload_n 0, 1) := by decide +kernel
theorem d_L_block_21 : decode prog_1_method_2_code 21 = .ok (.getfield 57, 3) := by decide +kernel
theorem d_L_block_24 : decode prog_1_method_2_code 24 = .ok (.ifCond .eq 5, 3) := by decide +kernel
theorem d_L_block_27 : decode prog_1_method_2_code 27 = .ok (.iconst (-1), 1) := by decide +kernel
theorem d_L_block_28 : decode prog_1_method_2_code 28 = .ok (.ireturn, 1) := by decide +kernel
theorem d_L_block_29 : decode prog_1_method_2_code 29 = .ok (.aload_n 0, 1) := by decide +kernel
theorem d_L_block_30 : decode prog_1_method_2_code 30 = .ok (.getfield 25, 3) := by decide +kernel
theorem d_L_block_33 : decode prog_1_method_2_code 33 = .ok (.getfield 61, 3) := by decide +kernel
theorem d_L_block_36 : decode prog_1_method_2_code 36 = .ok (.bipush 24, 2) := by decide +kernel
theorem d_L_block_38 : decode prog_1_method_2_code 38 = .ok (.if_icmp .lt 6, 3) := by decide +kernel
theorem d_L_block_41 : decode prog_1_method_2_code 41 = .ok (.bipush (-2), 2) := by decide +kernel
theorem d_L_block_43 : decode prog_1_method_2_code 43 = .ok (.ireturn, 1) := by decide +kernel
theorem d_L_block_44 : decode prog_1_method_2_code 44 = .ok (.aload_n 0, 1) := by decide +kernel
theorem d_L_block_45 : decode prog_1_method_2_code 45 = .ok (.getfield 25, 3) := by decide +kernel
theorem d_L_block_48 : decode prog_1_method_2_code 48 = .ok (.iload_n 1, 1) := by decide +kernel
theorem d_L_block_49 : decode prog_1_method_2_code 49 = .ok (.iload_n 2, 1) := by decide +kernel
theorem d_L_block_50 : decode prog_1_method_2_code 50 = .ok (.invokevirtual 64, 3) := by decide +kernel
theorem d_L_block_53 : decode prog_1_method_2_code 53 = .ok (.ireturn, 1) := by decide +kernel
theorem d_G_add_0 : decode prog_4_method_2_code 0 = .ok (.aload_n 0, 1) := by decide +kernel
theorem d_G_add_1 : decode prog_4_method_2_code 1 = .ok (.getfield 27, 3) := by decide +kernel
theorem d_G_add_4 : decode prog_4_method_2_code 4 = .ok (.istore_n 3, 1) := by decide +kernel
theorem d_G_add_5 : decode prog_4_method_2_code 5 = .ok (.aload_n 0, 1) := by decide +kernel
theorem d_G_add_6 : decode prog_4_method_2_code 6 = .ok (.getfield 9, 3) := by decide +kernel
theorem d_G_add_9 : decode prog_4_method_2_code 9 = .ok (.iload_n 3, 1) := by decide +kernel
theorem d_G_add_10 : decode prog_4_method_2_code 10 = .ok (.iload_n 1, 1) := by decide +kernel
theorem d_G_add_11 : decode prog_4_method_2_code 11 = .ok (.iastore, 1) := by decide +kernel
theorem d_G_add_12 : decode prog_4_method_2_code 12 = .ok (.aload_n 0, 1) := by decide +kernel
theorem d_G_add_13 : decode prog_4_method_2_code 13 = .ok (.getfield 15, 3) := by decide +kernel
theorem d_G_add_16 : decode prog_4_method_2_code 16 = .ok (.iload_n 3, 1) := by decide +kernel
theorem d_G_add_17 : decode prog_4_method_2_code 17 = .ok (.iload_n 2, 1) := by decide +kernel
theorem d_G_add_18 : decode prog_4_method_2_code 18 = .ok (.iastore, 1) := by decide +kernel
theorem d_G_add_19 : decode prog_4_method_2_code 19 = .ok (.aload_n 0, 1) := by decide +kernel
theorem d_G_add_20 : decode prog_4_method_2_code 20 = .ok (.iload_n 3, 1) := by decide +kernel
theorem d_G_add_21 : decode prog_4_method_2_code 21 = .ok (.iconst 0, 1) := by decide +kernel
theorem d_G_add_22 : decode prog_4_method_2_code 22 = .ok (.iconst (-1), 1) := by decide +kernel
theorem d_G_add_23 : decode prog_4_method_2_code 23 = .ok (.iconst (-1), 1) := by decide +kernel
theorem d_G_add_24 : decode prog_4_method_2_code 24 = .ok (.invokevirtual 37, 3) := by decide +kernel
theorem d_G_add_27 : decode prog_4_method_2_code 27 = .ok (.aload_n 0, 1) := by decide +kernel
theorem d_G_add_28 : decode prog_4_method_2_code 28 = .ok (.getfield 24, 3) := by decide +kernel
theorem d_G_add_31 : decode prog_4_method_2_code 31 = .ok (.iload_n 1, 1) := by decide +kernel
theorem d_G_add_32 : decode prog_4_method_2_code 32 = .ok (.iaload, 1) := by decide +kernel
theorem d_G_add_33 : decode prog_4_method_2_code 33 = .ok (.iconst (-1), 1) := by decide +kernel
theorem d_G_add_34 : decode prog_4_method_2_code 34 = .ok (.if_icmp .ne 10, 3) := by decide +kernel
theorem d_G_add_37 : decode prog_4_method_2_code 37 = .ok (.aload_n 0, 1) := by decide +kernel
theorem d_G_add_38 : decode prog_4_method_2_code 38 = .ok (.getfield 24, 3) := by decide +kernel
theorem d_G_add_41 : decode prog_4_method_2_code 41 = .ok (.iload_n 1, 1) := by decide +kernel
theorem d_G_add_42 : decode prog_4_method_2_code 42 = .ok (.iload_n 3, 1) := by decide +kernel
theorem d_G_add_43 : decode prog_4_method_2_code 43 = .ok (.iastore, 1) := by decide +kernel
theorem d_G_add_44 : decode prog_4_method_2_code 44 = .ok (.aload_n 0, 1) := by decide +kernel
theorem d_G_add_45 : decode prog_4_method_2_code 45 = .ok (.dup, 1) := by decide +kernel
theorem d_G_add_46 : decode prog_4_method_2_code 46 = .ok (.getfield 27, 3) := by decide +kernel
theorem d_G_add_49 : decode prog_4_method_2_code 49 = .ok (.iconst 1, 1) := by decide +kernel
theorem d_G_add_50 : decode prog_4_method_2_code 50 = .ok (.iadd, 1) := by decide +kernel
theorem d_G_add_51 : decode prog_4_method_2_code 51 = .ok (.putfield 27, 3) := by decide +kernel
theorem d_G_add_54 : decode prog_4_method_2_code 54 = .ok (.iload_n 3, 1) := by decide +kernel
theorem d_G_add_55 : decode prog_4_method_2_code 55 = .ok (.ireturn, 1) := by decide +kernel
theorem d_G_setEnd_0 : decode prog_4_method_3_code 0 = .ok (.aload_n 0, 1) := by decide +kernel
theorem d_G_setEnd_1 : decode prog_4_method_3_code 1 = .ok (.getfield 18, 3) := by decide +kernel
theorem d_G_setEnd_4 : decode prog_4_method_3_code 4 = .ok (.iload_n 1, 1) := by decide +kernel
theorem d_G_setEnd_5 : decode prog_4_method_3_code 5 = .ok (.iload_n 2, 1) := by decide +kernel
theorem d_G_setEnd_6 : decode prog_4_method_3_code 6 = .ok (.iastore, 1) := by decide +kernel
theorem d_G_setEnd_7 : decode prog_4_method_3_code 7 = .ok (.aload_n 0, 1) := by decide +kernel
theorem d_G_setEnd_8 : decode prog_4_method_3_code 8 = .ok (.getfield 21, 3) := by decide +kernel
theorem d_G_setEnd_11 : decode prog_4_method_3_code 11 = .ok (.iconst 2, 1) := by decide +kernel
theorem d_G_setEnd_12 : decode prog_4_method_3_code 12 = .ok (.iload_n 1, 1) := by decide +kernel
theorem d_G_setEnd_13 : decode prog_4_method_3_code 13 = .ok (.imul, 1) := by decide +kernel
theorem d_G_setEnd_14 : decode prog_4_method_3_code 14 = .ok (.iload_n 3, 1) := by decide +kernel
theorem d_G_setEnd_15 : decode prog_4_method_3_code 15 = .ok (.iastore, 1) := by decide +kernel
theorem d_G_setEnd_16 : decode prog_4_method_3_code 16 = .ok (.aload_n 0, 1) := by decide +kernel
theorem d_G_setEnd_17 : decode prog_4_method_3_code 17 = .ok (.getfield 21, 3) := by decide +kernel
theorem d_G_setEnd_20 : decode prog_4_method_3_code 20 = .ok (.iconst 2, 1) := by decide +kernel
theorem d_G_setEnd_21 : decode prog_4_method_3_code 21 = .ok (.iload_n 1, 1) := by decide +kernel
theorem d_G_setEnd_22 : decode prog_4_method_3_code 22 = .ok (.imul, 1) := by decide +kernel
theorem d_G_setEnd_23 : decode prog_4_method_3_code 23 = .ok (.iconst 1, 1) := by decide +kernel
theorem d_G_setEnd_24 : decode prog_4_method_3_code 24 = .ok (.iadd, 1) := by decide +kernel
theorem d_G_setEnd_25 : decode prog_4_method_3_code 25 = .ok (.iload 4, 2) := by decide +kernel
theorem d_G_setEnd_27 : decode prog_4_method_3_code 27 = .ok (.iastore, 1) := by decide +kernel
theorem d_G_setEnd_28 : decode prog_4_method_3_code 28 = .ok (.return_, 1) := by decide +kernel
theorem d_L_jump_0 : decode prog_1_method_3_code 0 = .ok (.aload_n 0, 1) := by decide +kernel
theorem d_L_jump_1 : decode prog_1_method_3_code 1 = .ok (.getfield 57, 3) := by decide +kernel
theorem d_L_jump_4 : decode prog_1_method_3_code 4 = .ok (.ifCond .ne 15, 3) := by decide +kernel
theorem d_L_jump_7 : decode prog_1_method_3_code 7 = .ok (.aload_n 0, 1) := by decide +kernel
theorem d_L_jump_8 : decode prog_1_method_3_code 8 = .ok (.getfield 25, 3) := by decide +kernel
theorem d_L_jump_11 : decode prog_1_method_3_code 11 = .ok (.iload_n 1, 1) := by decide +kernel
theorem d_L_jump_12 : decode prog_1_method_3_code 12 = .ok (.iload_n 2, 1) := by decide +kernel
theorem d_L_jump_13 : decode prog_1_method_3_code 13 = .ok (.invokevirtual 67, 3) := by decide +kernel
theorem d_L_jump_16 : decode prog_1_method_3_code 16 = .ok (.ifCond .ne 5, 3) := by decide +kernel
theorem d_L_jump_19 : decode prog_1_method_3_code 19 = .ok (.iconst (-1), 1) := by decide +kernel
theorem d_L_jump_20 : decode prog_1_method_3_code 20 = .ok (.ireturn, 1) := by decide +kernel
theorem d_L_jump_21 : decode prog_1_method_3_code 21 = .ok (.aload_n 0, 1) := by decide +kernel
theorem d_L_jump_22 : decode prog_1_method_3_code 22 = .ok (.getfield 25, 3) := by decide +kernel
theorem d_L_jump_25 : decode prog_1_method_3_code 25 = .ok (.iload_n 1, 1) := by decide +kernel
theorem d_L_jump_26 : decode prog_1_method_3_code 26 = .ok (.iconst 1, 1) := by decide +kernel
theorem d_L_jump_27 : decode prog_1_method_3_code 27 = .ok (.iload_n 2, 1) := by decide +kernel
theorem d_L_jump_28 : decode prog_1_method_3_code 28 = .ok (.iconst (-1), 1) := by decide +kernel
theorem d_L_jump_29 : decode prog_1_method_3_code 29 = .ok (.invokevirtual 71, 3) := by decide +kernel
theorem d_L_jump_32 : decode prog_1_method_3_code 32 = .ok (.aload_n 0, 1) := by decide +kernel
theorem d_L_jump_33 : decode prog_1_method_3_code 33 = .ok (.getfield 32, 3) := by decide +kernel
theorem d_L_jump_36 : decode prog_1_method_3_code 36 = .ok (.iload_n 1, 1) := by decide +kernel
theorem d_L_jump_37 : decode prog_1_method_3_code 37 = .ok (.invokevirtual 75, 3) := by decide +kernel
theorem d_L_jump_40 : decode prog_1_method_3_code 40 = .ok (.iconst 0, 1) := by decide +kernel
theorem d_L_jump_41 : decode prog_1_method_3_code 41 = .ok (.ireturn, 1) := by decide +kernel
theorem d_G_canLead_0 : decode prog_4_method_7_code 0 = .ok (.aload_n 0, 1) := by decide +kernel
theorem d_G_canLead_1 : decode prog_4_method_7_code 1 = .ok (.iload_n 1, 1) := by decide +kernel
theorem d_G_canLead_2 : decode prog_4_method_7_code 2 = .ok (.invokevirtual 41, 3) := by decide +kernel
theorem d_G_canLead_5 : decode prog_4_method_7_code 5 = .ok (.ifCond .eq 30, 3) := by decide +kernel
theorem d_G_canLead_8 : decode prog_4_method_7_code 8 = .ok (.aload_n 0, 1) := by decide +kernel
theorem d_G_canLead_9 : decode prog_4_method_7_code 9 = .ok (.iload_n 2, 1) := by decide +kernel
theorem d_G_canLead_10 : decode prog_4_method_7_code 10 = .ok (.invokevirtual 41, 3) := by decide +kernel
theorem d_G_canLead_13 : decode prog_4_method_7_code 13 = .ok (.ifCond .eq 22, 3) := by decide +kernel
theorem d_G_canLead_16 : decode prog_4_method_7_code 16 = .ok (.aload_n 0, 1) := by decide +kernel
theorem d_G_canLead_17 : decode prog_4_method_7_code 17 = .ok (.getfield 9, 3) := by decide +kernel
theorem d_G_canLead_20 : decode prog_4_method_7_code 20 = .ok (.iload_n 1, 1) := by decide +kernel
theorem d_G_canLead_21 : decode prog_4_method_7_code 21 = .ok (.iaload, 1) := by decide +kernel
theorem d_G_canLead_22 : decode prog_4_method_7_code 22 = .ok (.aload_n 0, 1) := by decide +kernel
theorem d_G_canLead_23 : decode prog_4_method_7_code 23 = .ok (.getfield 9, 3) := by decide +kernel
theorem d_G_canLead_26 : decode prog_4_method_7_code 26 = .ok (.iload_n 2, 1) := by decide +kernel
theorem d_G_canLead_27 : decode prog_4_method_7_code 27 = .ok (.iaload, 1) := by decide +kernel
theorem d_G_canLead_28 : decode prog_4_method_7_code 28 = .ok (.if_icmp .ne 7, 3) := by decide +kernel
theorem d_G_canLead_31 : decode prog_4_method_7_code 31 = .ok (.iconst 1, 1) := by decide +kernel
theorem d_G_canLead_32 : decode prog_4_method_7_code 32 = .ok (.goto 4, 3) := by decide +kernel
theorem d_G_canLead_35 : decode prog_4_method_7_code 35 = .ok (.iconst 0, 1) := by decide +kernel
theorem d_G_canLead_36 : decode prog_4_method_7_code 36 = .ok (.ireturn, 1) := by decide +kernel
theorem d_G_has_0 : decode prog_4_method_4_code 0 = .ok (.iload_n 1, 1) := by decide +kernel
theorem d_G_has_1 : decode prog_4_method_4_code 1 = .ok (.ifCond .lt 15, 3) := by decide +kernel
theorem d_G_has_4 : decode prog_4_method_4_code 4 = .ok (.iload_n 1, 1) := by decide +kernel
theorem d_G_has_5 : decode prog_4_method_4_code 5 = .ok (.aload_n 0, 1) := by decide +kernel
theorem d_G_has_6 : decode prog_4_method_4_code 6 = .ok (.getfield 27, 3) := by decide +kernel
theorem d_G_has_9 : decode prog_4_method_4_code 9 = .ok (.if_icmp .ge 7, 3) := by decide +kernel
theorem d_G_has_12 : decode prog_4_method_4_code 12 = .ok (.iconst 1, 1) := by decide +kernel
theorem d_G_has_13 : decode prog_4_method_4_code 13 = .ok (.goto 4, 3) := by decide +kernel
theorem d_G_has_16 : decode prog_4_method_4_code 16 = .ok (.iconst 0, 1) := by decide +kernel
theorem d_G_has_17 : decode prog_4_method_4_code 17 = .ok (.ireturn, 1) := by decide +kernel
theorem d_N_clearEdges_0 : decode prog_3_method_5_code 0 = .ok (.aload_n 0, 1) := by decide +kernel
theorem d_N_clearEdges_1 : decode prog_3_method_5_code 1 = .ok (.getfield 15, 3) := by decide +kernel
theorem d_N_clearEdges_4 : decode prog_3_method_5_code 4 = .ok (.iconst 2, 1) := by decide +kernel
theorem d_N_clearEdges_5 : decode prog_3_method_5_code 5 = .ok (.iload_n 1, 1) := by decide +kernel
theorem d_N_clearEdges_6 : decode prog_3_method_5_code 6 = .ok (.imul, 1) := by decide +kernel
theorem d_N_clearEdges_7 : decode prog_3_method_5_code 7 = .ok (.iconst 0, 1) := by decide +kernel
theorem d_N_clearEdges_8 : decode prog_3_method_5_code 8 = .ok (.iastore, 1) := by decide +kernel
theorem d_N_clearEdges_9 : decode prog_3_method_5_code 9 = .ok (.aload_n 0, 1) := by decide +kernel
theorem d_N_clearEdges_10 : decode prog_3_method_5_code 10 = .ok (.getfield 15, 3) := by decide +kernel
theorem d_N_clearEdges_13 : decode prog_3_method_5_code 13 = .ok (.iconst 2, 1) := by decide +kernel
theorem d_N_clearEdges_14 : decode prog_3_method_5_code 14 = .ok (.iload_n 1, 1) := by decide +kernel
theorem d_N_clearEdges_15 : decode prog_3_method_5_code 15 = .ok (.imul, 1) := by decide +kernel
theorem d_N_clearEdges_16 : decode prog_3_method_5_code 16 = .ok (.iconst 1, 1) := by decide +kernel
theorem d_N_clearEdges_17 : decode prog_3_method_5_code 17 = .ok (.iadd, 1) := by decide +kernel
theorem d_N_clearEdges_18 : decode prog_3_method_5_code 18 = .ok (.iconst 0, 1) := by decide +kernel
theorem d_N_clearEdges_19 : decode prog_3_method_5_code 19 = .ok (.iastore, 1) := by decide +kernel
theorem d_N_clearEdges_20 : decode prog_3_method_5_code 20 = .ok (.return_, 1) := by decide +kernel
theorem d_L_test_0 : decode prog_1_method_4_code 0 = .ok (.aload_n 0, 1) := by decide +kernel
theorem d_L_test_1 : decode prog_1_method_4_code 1 = .ok (.getfield 57, 3) := by decide +kernel
theorem d_L_test_4 : decode prog_1_method_4_code 4 = .ok (.ifCond .ne 27, 3) := by decide +kernel
theorem d_L_test_7 : decode prog_1_method_4_code 7 = .ok (.aload_n 0, 1) := by decide +kernel
theorem d_L_test_8 : decode prog_1_method_4_code 8 = .ok (.getfield 25, 3) := by decide +kernel
theorem d_L_test_11 : decode prog_1_method_4_code 11 = .ok (.iload_n 1, 1) := by decide +kernel
theorem d_L_test_12 : decode prog_1_method_4_code 12 = .ok (.iload_n 2, 1) := by decide +kernel
theorem d_L_test_13 : decode prog_1_method_4_code 13 = .ok (.invokevirtual 67, 3) := by decide +kernel
theorem d_L_test_16 : decode prog_1_method_4_code 16 = .ok (.ifCond .eq 15, 3) := by decide +kernel
theorem d_L_test_19 : decode prog_1_method_4_code 19 = .ok (.aload_n 0, 1) := by decide +kernel
theorem d_L_test_20 : decode prog_1_method_4_code 20 = .ok (.getfield 25, 3) := by decide +kernel
theorem d_L_test_23 : decode prog_1_method_4_code 23 = .ok (.iload_n 1, 1) := by decide +kernel
theorem d_L_test_24 : decode prog_1_method_4_code 24 = .ok (.iload_n 3, 1) := by decide +kernel
theorem d_L_test_25 : decode prog_1_method_4_code 25 = .ok (.invokevirtual 67, 3) := by decide +kernel
theorem d_L_test_28 : decode prog_1_method_4_code 28 = .ok (.ifCond .ne 5, 3) := by decide +kernel
theorem d_L_test_31 : decode prog_1_method_4_code 31 = .ok (.iconst (-1), 1) := by decide +kernel
theorem d_L_test_32 : decode prog_1_method_4_code 32 = .ok (.ireturn, 1) := by decide +kernel
theorem d_L_test_33 : decode prog_1_method_4_code 33 = .ok (.aload_n 0, 1) := by decide +kernel
theorem d_L_test_34 : decode prog_1_method_4_code 34 = .ok (.getfield 25, 3) := by decide +kernel
theorem d_L_test_37 : decode prog_1_method_4_code 37 = .ok (.iload_n 1, 1) := by decide +kernel
theorem d_L_test_38 : decode prog_1_method_4_code 38 = .ok (.iconst 2, 1) := by decide +kernel
theorem d_L_test_39 : decode prog_1_method_4_code 39 = .ok (.iload_n 2, 1) := by decide +kernel
theorem d_L_test_40 : decode prog_1_method_4_code 40 = .ok (.iload_n 3, 1) := by decide +kernel
theorem d_L_test_41 : decode prog_1_method_4_code 41 = .ok (.invokevirtual 71, 3) := by decide +kernel
theorem d_L_test_44 : decode prog_1_method_4_code 44 = .ok (.aload_n 0, 1) := by decide +kernel
theorem d_L_test_45 : decode prog_1_method_4_code 45 = .ok (.getfield 32, 3) := by decide +kernel
theorem d_L_test_48 : decode prog_1_method_4_code 48 = .ok (.iload_n 1, 1) := by decide +kernel
theorem d_L_test_49 : decode prog_1_method_4_code 49 = .ok (.invokevirtual 75, 3) := by decide +kernel
theorem d_L_test_52 : decode prog_1_method_4_code 52 = .ok (.iconst 0, 1) := by decide +kernel
theorem d_L_test_53 : decode prog_1_method_4_code 53 = .ok (.ireturn, 1) := by decide +kernel
theorem d_L_walk_0 : decode prog_1_method_5_code 0 = .ok (.aload_n 0, 1) := by decide +kernel
theorem d_L_walk_1 : decode prog_1_method_5_code 1 = .ok (.getfield 25, 3) := by decide +kernel
theorem d_L_walk_4 : decode prog_1_method_5_code 4 = .ok (.iload_n 1, 1) := by decide +kernel
theorem d_L_walk_5 : decode prog_1_method_5_code 5 = .ok (.invokevirtual 79, 3) := by decide +kernel
theorem d_L_walk_8 : decode prog_1_method_5_code 8 = .ok (.ifCond .ne 5, 3) := by decide +kernel
theorem d_L_walk_11 : decode prog_1_method_5_code 11 = .ok (.iconst (-1), 1) := by decide +kernel
theorem d_L_walk_12 : decode prog_1_method_5_code 12 = .ok (.ireturn, 1) := by decide +kernel
theorem d_L_walk_13 : decode prog_1_method_5_code 13 = .ok (.aload_n 0, 1) := by decide +kernel
theorem d_L_walk_14 : decode prog_1_method_5_code 14 = .ok (.getfield 39, 3) := by decide +kernel
theorem d_L_walk_17 : decode prog_1_method_5_code 17 = .ok (.aload_n 0, 1) := by decide +kernel
theorem d_L_walk_18 : decode prog_1_method_5_code 18 = .ok (.getfield 25, 3) := by decide +kernel
theorem d_L_walk_21 : decode prog_1_method_5_code 21 = .ok (.iload_n 1, 1) := by decide +kernel
theorem d_L_walk_22 : decode prog_1_method_5_code 22 = .ok (.iload_n 2, 1) := by decide +kernel
theorem d_L_walk_23 : decode prog_1_method_5_code 23 = .ok (.invokevirtual 83, 3) := by decide +kernel
theorem d_L_walk_26 : decode prog_1_method_5_code 26 = .ok (.aload_n 0, 1) := by decide +kernel
theorem d_L_walk_27 : decode prog_1_method_5_code 27 = .ok (.getfield 32, 3) := by decide +kernel
theorem d_L_walk_30 : decode prog_1_method_5_code 30 = .ok (.aload_n 0, 1) := by decide +kernel
theorem d_L_walk_31 : decode prog_1_method_5_code 31 = .ok (.getfield 39, 3) := by decide +kernel
theorem d_L_walk_34 : decode prog_1_method_5_code 34 = .ok (.invokevirtual 87, 3) := by decide +kernel
theorem d_L_walk_37 : decode prog_1_method_5_code 37 = .ok (.aload_n 0, 1) := by decide +kernel
theorem d_L_walk_38 : decode prog_1_method_5_code 38 = .ok (.getfield 39, 3) := by decide +kernel
theorem d_L_walk_41 : decode prog_1_method_5_code 41 = .ok (.getfield 91, 3) := by decide +kernel
theorem d_L_walk_44 : decode prog_1_method_5_code 44 = .ok (.ireturn, 1) := by decide +kernel
theorem d_G_hasEntry_0 : decode prog_4_method_6_code 0 = .ok (.iload_n 1, 1) := by decide +kernel
theorem d_G_hasEntry_1 : decode prog_4_method_6_code 1 = .ok (.ifCond .lt 22, 3) := by decide +kernel
theorem d_G_hasEntry_4 : decode prog_4_method_6_code 4 = .ok (.iload_n 1, 1) := by decide +kernel
theorem d_G_hasEntry_5 : decode prog_4_method_6_code 5 = .ok (.iconst 4, 1) := by decide +kernel
theorem d_G_hasEntry_6 : decode prog_4_method_6_code 6 = .ok (.if_icmp .ge 17, 3) := by decide +kernel
theorem d_G_hasEntry_9 : decode prog_4_method_6_code 9 = .ok (.aload_n 0, 1) := by decide +kernel
theorem d_G_hasEntry_10 : decode prog_4_method_6_code 10 = .ok (.getfield 24, 3) := by decide +kernel
theorem d_G_hasEntry_13 : decode prog_4_method_6_code 13 = .ok (.iload_n 1, 1) := by decide +kernel
theorem d_G_hasEntry_14 : decode prog_4_method_6_code 14 = .ok (.iaload, 1) := by decide +kernel
theorem d_G_hasEntry_15 : decode prog_4_method_6_code 15 = .ok (.iconst (-1), 1) := by decide +kernel
theorem d_G_hasEntry_16 : decode prog_4_method_6_code 16 = .ok (.if_icmp .eq 7, 3) := by decide +kernel
theorem d_G_hasEntry_19 : decode prog_4_method_6_code 19 = .ok (.iconst 1, 1) := by decide +kernel
theorem d_G_hasEntry_20 : decode prog_4_method_6_code 20 = .ok (.goto 4, 3) := by decide +kernel
theorem d_G_hasEntry_23 : decode prog_4_method_6_code 23 = .ok (.iconst 0, 1) := by decide +kernel
theorem d_G_hasEntry_24 : decode prog_4_method_6_code 24 = .ok (.ireturn, 1) := by decide +kernel
theorem d_T_follow_0 : decode prog_6_method_2_code 0 = .ok (.iconst 0, 1) := by decide +kernel
theorem d_T_follow_1 : decode prog_6_method_2_code 1 = .ok (.istore 4, 2) := by decide +kernel
theorem d_T_follow_3 : decode prog_6_method_2_code 3 = .ok (.aload_n 1, 1) := by decide +kernel
theorem d_T_follow_4 : decode prog_6_method_2_code 4 = .ok (.getfield 22, 3) := by decide +kernel
theorem d_T_follow_7 : decode prog_6_method_2_code 7 = .ok (.iload_n 2, 1) := by decide +kernel
theorem d_T_follow_8 : decode prog_6_method_2_code 8 = .ok (.iaload, 1) := by decide +kernel
theorem d_T_follow_9 : decode prog_6_method_2_code 9 = .ok (.istore 5, 2) := by decide +kernel
theorem d_T_follow_11 : decode prog_6_method_2_code 11 = .ok (.aload_n 0, 1) := by decide +kernel
theorem d_T_follow_12 : decode prog_6_method_2_code 12 = .ok (.iconst 0, 1) := by decide +kernel
theorem d_T_follow_13 : decode prog_6_method_2_code 13 = .ok (.putfield 18, 3) := by decide +kernel
theorem d_T_follow_16 : decode prog_6_method_2_code 16 = .ok (.aload_n 0, 1) := by decide +kernel
theorem d_T_follow_17 : decode prog_6_method_2_code 17 = .ok (.getfield 18, 3) := by decide +kernel
theorem d_T_follow_20 : decode prog_6_method_2_code 20 = .ok (.bipush 60, 2) := by decide +kernel
theorem d_T_follow_22 : decode prog_6_method_2_code 22 = .ok (.if_icmp .ge 91, 3) := by decide +kernel
theorem d_T_follow_25 : decode prog_6_method_2_code 25 = .ok (.iload 5, 2) := by decide +kernel
theorem d_T_follow_27 : decode prog_6_method_2_code 27 = .ok (.iconst (-1), 1) := by decide +kernel
theorem d_T_follow_28 : decode prog_6_method_2_code 28 = .ok (.if_icmp .eq 85, 3) := by decide +kernel
theorem d_T_follow_31 : decode prog_6_method_2_code 31 = .ok (.iconst 0, 1) := by decide +kernel
theorem d_T_follow_32 : decode prog_6_method_2_code 32 = .ok (.istore 6, 2) := by decide +kernel
theorem d_T_follow_34 : decode prog_6_method_2_code 34 = .ok (.aload_n 1, 1) := by decide +kernel
theorem d_T_follow_35 : decode prog_6_method_2_code 35 = .ok (.getfield 27, 3) := by decide +kernel
theorem d_T_follow_38 : decode prog_6_method_2_code 38 = .ok (.iload 5, 2) := by decide +kernel
theorem d_T_follow_40 : decode prog_6_method_2_code 40 = .ok (.iaload, 1) := by decide +kernel
theorem d_T_follow_41 : decode prog_6_method_2_code 41 = .ok (.iconst 2, 1) := by decide +kernel
theorem d_T_follow_42 : decode prog_6_method_2_code 42 = .ok (.if_icmp .ne 22, 3) := by decide +kernel
theorem d_T_follow_45 : decode prog_6_method_2_code 45 = .ok (.iload 4, 2) := by decide +kernel
theorem d_T_follow_47 : decode prog_6_method_2_code 47 = .ok (.iload_n 3, 1) := by decide +kernel
theorem d_T_follow_48 : decode prog_6_method_2_code 48 = .ok (.invokestatic 30, 3) := by decide +kernel
theorem d_T_follow_51 : decode prog_6_method_2_code 51 = .ok (.ifCond .eq 7, 3) := by decide +kernel
theorem d_T_follow_54 : decode prog_6_method_2_code 54 = .ok (.iconst 0, 1) := by decide +kernel
theorem d_T_follow_55 : decode prog_6_method_2_code 55 = .ok (.goto 4, 3) := by decide +kernel
theorem d_T_follow_58 : decode prog_6_method_2_code 58 = .ok (.iconst 1, 1) := by decide +kernel
theorem d_T_follow_59 : decode prog_6_method_2_code 59 = .ok (.istore 6, 2) := by decide +kernel
theorem d_T_follow_61 : decode prog_6_method_2_code 61 = .ok (.iinc 4 1, 3) := by decide +kernel
theorem d_T_follow_64 : decode prog_6_method_2_code 64 = .ok (.aload_n 0, 1) := by decide +kernel
theorem d_T_follow_65 : decode prog_6_method_2_code 65 = .ok (.getfield 9, 3) := by decide +kernel
theorem d_T_follow_68 : decode prog_6_method_2_code 68 = .ok (.aload_n 0, 1) := by decide +kernel
theorem d_T_follow_69 : decode prog_6_method_2_code 69 = .ok (.getfield 18, 3) := by decide +kernel
theorem d_T_follow_72 : decode prog_6_method_2_code 72 = .ok (.iload 5, 2) := by decide +kernel
theorem d_T_follow_74 : decode prog_6_method_2_code 74 = .ok (.iastore, 1) := by decide +kernel
theorem d_T_follow_75 : decode prog_6_method_2_code 75 = .ok (.aload_n 0, 1) := by decide +kernel
theorem d_T_follow_76 : decode prog_6_method_2_code 76 = .ok (.getfield 15, 3) := by decide +kernel
theorem d_T_follow_79 : decode prog_6_method_2_code 79 = .ok (.aload_n 0, 1) := by decide +kernel
theorem d_T_follow_80 : decode prog_6_method_2_code 80 = .ok (.getfield 18, 3) := by decide +kernel
theorem d_T_follow_83 : decode prog_6_method_2_code 83 = .ok (.iload 6, 2) := by decide +kernel
theorem d_T_follow_85 : decode prog_6_method_2_code 85 = .ok (.iastore, 1) := by decide +kernel
theorem d_T_follow_86 : decode prog_6_method_2_code 86 = .ok (.aload_n 0, 1) := by decide +kernel
theorem d_T_follow_87 : decode prog_6_method_2_code 87 = .ok (.dup, 1) := by decide +kernel
theorem d_T_follow_88 : decode prog_6_method_2_code 88 = .ok (.getfield 18, 3) := by decide +kernel
theorem d_T_follow_91 : decode prog_6_method_2_code 91 = .ok (.iconst 1, 1) := by decide +kernel
theorem d_T_follow_92 : decode prog_6_method_2_code 92 = .ok (.iadd, 1) := by decide +kernel
theorem d_T_follow_93 : decode prog_6_method_2_code 93 = .ok (.putfield 18, 3) := by decide +kernel
theorem d_T_follow_96 : decode prog_6_method_2_code 96 = .ok (.aload_n 1, 1) := by decide +kernel
theorem d_T_follow_97 : decode prog_6_method_2_code 97 = .ok (.getfield 34, 3) := by decide +kernel
theorem d_T_follow_100 : decode prog_6_method_2_code 100 = .ok (.iconst 2, 1) := by decide +kernel
theorem d_T_follow_101 : decode prog_6_method_2_code 101 = .ok (.iload 5, 2) := by decide +kernel
theorem d_T_follow_103 : decode prog_6_method_2_code 103 = .ok (.imul, 1) := by decide +kernel
theorem d_T_follow_104 : decode prog_6_method_2_code 104 = .ok (.iload 6, 2) := by decide +kernel
theorem d_T_follow_106 : decode prog_6_method_2_code 106 = .ok (.iadd, 1) := by decide +kernel
theorem d_T_follow_107 : decode prog_6_method_2_code 107 = .ok (.iaload, 1) := by decide +kernel
theorem d_T_follow_108 : decode prog_6_method_2_code 108 = .ok (.istore 5, 2) := by decide +kernel
theorem d_T_follow_110 : decode prog_6_method_2_code 110 = .ok (.goto (-94), 3) := by decide +kernel
theorem d_T_follow_113 : decode prog_6_method_2_code 113 = .ok (.return_, 1) := by decide +kernel
theorem d_T_holdsAt_0 : decode prog_6_method_3_code 0 = .ok (.iload_n 0, 1) := by decide +kernel
theorem d_T_holdsAt_1 : decode prog_6_method_3_code 1 = .ok (.bipush 32, 2) := by decide +kernel
theorem d_T_holdsAt_3 : decode prog_6_method_3_code 3 = .ok (.if_icmp .ge 16, 3) := by decide +kernel
theorem d_T_holdsAt_6 : decode prog_6_method_3_code 6 = .ok (.iload_n 1, 1) := by decide +kernel
theorem d_T_holdsAt_7 : decode prog_6_method_3_code 7 = .ok (.iload_n 0, 1) := by decide +kernel
theorem d_T_holdsAt_8 : decode prog_6_method_3_code 8 = .ok (.iushr, 1) := by decide +kernel
theorem d_T_holdsAt_9 : decode prog_6_method_3_code 9 = .ok (.iconst 1, 1) := by decide +kernel
theorem d_T_holdsAt_10 : decode prog_6_method_3_code 10 = .ok (.iand, 1) := by decide +kernel
theorem d_T_holdsAt_11 : decode prog_6_method_3_code 11 = .ok (.iconst 1, 1) := by decide +kernel
theorem d_T_holdsAt_12 : decode prog_6_method_3_code 12 = .ok (.if_icmp .ne 7, 3) := by decide +kernel
theorem d_T_holdsAt_15 : decode prog_6_method_3_code 15 = .ok (.iconst 1, 1) := by decide +kernel
theorem d_T_holdsAt_16 : decode prog_6_method_3_code 16 = .ok (.goto 4, 3) := by decide +kernel
theorem d_T_holdsAt_19 : decode prog_6_method_3_code 19 = .ok (.iconst 0, 1) := by decide +kernel
theorem d_T_holdsAt_20 : decode prog_6_method_3_code 20 = .ok (.ireturn, 1) := by decide +kernel
theorem d_N_addTrail_0 : decode prog_3_method_4_code 0 = .ok (.iconst 0, 1) := by decide +kernel
theorem d_N_addTrail_1 : decode prog_3_method_4_code 1 = .ok (.istore_n 2, 1) := by decide +kernel
theorem d_N_addTrail_2 : decode prog_3_method_4_code 2 = .ok (.iload_n 2, 1) := by decide +kernel
theorem d_N_addTrail_3 : decode prog_3_method_4_code 3 = .ok (.aload_n 1, 1) := by decide +kernel
theorem d_N_addTrail_4 : decode prog_3_method_4_code 4 = .ok (.getfield 25, 3) := by decide +kernel
theorem d_N_addTrail_7 : decode prog_3_method_4_code 7 = .ok (.if_icmp .ge 50, 3) := by decide +kernel
theorem d_N_addTrail_10 : decode prog_3_method_4_code 10 = .ok (.aload_n 0, 1) := by decide +kernel
theorem d_N_addTrail_11 : decode prog_3_method_4_code 11 = .ok (.aload_n 1, 1) := by decide +kernel
theorem d_N_addTrail_12 : decode prog_3_method_4_code 12 = .ok (.getfield 31, 3) := by decide +kernel
theorem d_N_addTrail_15 : decode prog_3_method_4_code 15 = .ok (.iload_n 2, 1) := by decide +kernel
theorem d_N_addTrail_16 : decode prog_3_method_4_code 16 = .ok (.iaload, 1) := by decide +kernel
theorem d_N_addTrail_17 : decode prog_3_method_4_code 17 = .ok (.iconst 1, 1) := by decide +kernel
theorem d_N_addTrail_18 : decode prog_3_method_4_code 18 = .ok (.invokevirtual 34, 3) := by decide +kernel
theorem d_N_addTrail_21 : decode prog_3_method_4_code 21 = .ok (.iload_n 2, 1) := by decide +kernel
theorem d_N_addTrail_22 : decode prog_3_method_4_code 22 = .ok (.iconst 1, 1) := by decide +kernel
theorem d_N_addTrail_23 : decode prog_3_method_4_code 23 = .ok (.iadd, 1) := by decide +kernel
theorem d_N_addTrail_24 : decode prog_3_method_4_code 24 = .ok (.aload_n 1, 1) := by decide +kernel
theorem d_N_addTrail_25 : decode prog_3_method_4_code 25 = .ok (.getfield 25, 3) := by decide +kernel
theorem d_N_addTrail_28 : decode prog_3_method_4_code 28 = .ok (.if_icmp .ge 23, 3) := by decide +kernel
theorem d_N_addTrail_31 : decode prog_3_method_4_code 31 = .ok (.aload_n 0, 1) := by decide +kernel
theorem d_N_addTrail_32 : decode prog_3_method_4_code 32 = .ok (.iconst 2, 1) := by decide +kernel
theorem d_N_addTrail_33 : decode prog_3_method_4_code 33 = .ok (.aload_n 1, 1) := by decide +kernel
theorem d_N_addTrail_34 : decode prog_3_method_4_code 34 = .ok (.getfield 31, 3) := by decide +kernel
theorem d_N_addTrail_37 : decode prog_3_method_4_code 37 = .ok (.iload_n 2, 1) := by decide +kernel
theorem d_N_addTrail_38 : decode prog_3_method_4_code 38 = .ok (.iaload, 1) := by decide +kernel
theorem d_N_addTrail_39 : decode prog_3_method_4_code 39 = .ok (.imul, 1) := by decide +kernel
theorem d_N_addTrail_40 : decode prog_3_method_4_code 40 = .ok (.aload_n 1, 1) := by decide +kernel
theorem d_N_addTrail_41 : decode prog_3_method_4_code 41 = .ok (.getfield 38, 3) := by decide +kernel
theorem d_N_addTrail_44 : decode prog_3_method_4_code 44 = .ok (.iload_n 2, 1) := by decide +kernel
theorem d_N_addTrail_45 : decode prog_3_method_4_code 45 = .ok (.iaload, 1) := by decide +kernel
theorem d_N_addTrail_46 : decode prog_3_method_4_code 46 = .ok (.iadd, 1) := by decide +kernel
theorem d_N_addTrail_47 : decode prog_3_method_4_code 47 = .ok (.iconst 1, 1) := by decide +kernel
theorem d_N_addTrail_48 : decode prog_3_method_4_code 48 = .ok (.invokevirtual 41, 3) := by decide +kernel
theorem d_N_addTrail_51 : decode prog_3_method_4_code 51 = .ok (.iinc 2 1, 3) := by decide +kernel
theorem d_N_addTrail_54 : decode prog_3_method_4_code 54 = .ok (.goto (-52), 3) := by decide +kernel
theorem d_N_addTrail_57 : decode prog_3_method_4_code 57 = .ok (.return_, 1) := by decide +kernel
theorem d_N_addToBlock_0 : decode prog_3_method_2_code 0 = .ok (.aload_n 0, 1) := by decide +kernel
theorem d_N_addToBlock_1 : decode prog_3_method_2_code 1 = .ok (.getfield 9, 3) := by decide +kernel
theorem d_N_addToBlock_4 : decode prog_3_method_2_code 4 = .ok (.iload_n 1, 1) := by decide +kernel
theorem d_N_addToBlock_5 : decode prog_3_method_2_code 5 = .ok (.ldc 18, 2) := by decide +kernel
theorem d_N_addToBlock_7 : decode prog_3_method_2_code 7 = .ok (.aload_n 0, 1) := by decide +kernel
theorem d_N_addToBlock_8 : decode prog_3_method_2_code 8 = .ok (.getfield 9, 3) := by decide +kernel
theorem d_N_addToBlock_11 : decode prog_3_method_2_code 11 = .ok (.iload_n 1, 1) := by decide +kernel
theorem d_N_addToBlock_12 : decode prog_3_method_2_code 12 = .ok (.iaload, 1) := by decide +kernel
theorem d_N_addToBlock_13 : decode prog_3_method_2_code 13 = .ok (.iload_n 2, 1) := by decide +kernel
theorem d_N_addToBlock_14 : decode prog_3_method_2_code 14 = .ok (.iadd, 1) := by decide +kernel
theorem d_N_addToBlock_15 : decode prog_3_method_2_code 15 = .ok (.invokestatic 19, 3) := by decide +kernel
theorem d_N_addToBlock_18 : decode prog_3_method_2_code 18 = .ok (.iastore, 1) := by decide +kernel
theorem d_N_addToBlock_19 : decode prog_3_method_2_code 19 = .ok (.return_, 1) := by decide +kernel
theorem d_N_addToEdge_0 : decode prog_3_method_3_code 0 = .ok (.aload_n 0, 1) := by decide +kernel
theorem d_N_addToEdge_1 : decode prog_3_method_3_code 1 = .ok (.getfield 15, 3) := by decide +kernel
theorem d_N_addToEdge_4 : decode prog_3_method_3_code 4 = .ok (.iload_n 1, 1) := by decide +kernel
theorem d_N_addToEdge_5 : decode prog_3_method_3_code 5 = .ok (.ldc 18, 2) := by decide +kernel
theorem d_N_addToEdge_7 : decode prog_3_method_3_code 7 = .ok (.aload_n 0, 1) := by decide +kernel
theorem d_N_addToEdge_8 : decode prog_3_method_3_code 8 = .ok (.getfield 15, 3) := by decide +kernel
theorem d_N_addToEdge_11 : decode prog_3_method_3_code 11 = .ok (.iload_n 1, 1) := by decide +kernel
theorem d_N_addToEdge_12 : decode prog_3_method_3_code 12 = .ok (.iaload, 1) := by decide +kernel
theorem d_N_addToEdge_13 : decode prog_3_method_3_code 13 = .ok (.iload_n 2, 1) := by decide +kernel
theorem d_N_addToEdge_14 : decode prog_3_method_3_code 14 = .ok (.iadd, 1) := by decide +kernel
theorem d_N_addToEdge_15 : decode prog_3_method_3_code 15 = .ok (.invokestatic 19, 3) := by decide +kernel
theorem d_N_addToEdge_18 : decode prog_3_method_3_code 18 = .ok (.iastore, 1) := by decide +kernel
theorem d_N_addToEdge_19 : decode prog_3_method_3_code 19 = .ok (.return_, 1) := by decide +kernel
theorem d_L_heat_0 : decode prog_1_method_6_code 0 = .ok (.iload_n 3, 1) := by decide +kernel
theorem d_L_heat_1 : decode prog_1_method_6_code 1 = .ok (.iconst 1, 1) := by decide +kernel
theorem d_L_heat_2 : decode prog_1_method_6_code 2 = .ok (.if_icmp .lt 21, 3) := by decide +kernel
theorem d_L_heat_5 : decode prog_1_method_6_code 5 = .ok (.iload_n 3, 1) := by decide +kernel
theorem d_L_heat_6 : decode prog_1_method_6_code 6 = .ok (.ldc 92, 2) := by decide +kernel
theorem d_L_heat_8 : decode prog_1_method_6_code 8 = .ok (.if_icmp .gt 15, 3) := by decide +kernel
theorem d_L_heat_11 : decode prog_1_method_6_code 11 = .ok (.aload_n 0, 1) := by decide +kernel
theorem d_L_heat_12 : decode prog_1_method_6_code 12 = .ok (.getfield 25, 3) := by decide +kernel
theorem d_L_heat_15 : decode prog_1_method_6_code 15 = .ok (.iload_n 1, 1) := by decide +kernel
theorem d_L_heat_16 : decode prog_1_method_6_code 16 = .ok (.iload_n 2, 1) := by decide +kernel
theorem d_L_heat_17 : decode prog_1_method_6_code 17 = .ok (.invokevirtual 93, 3) := by decide +kernel
theorem d_L_heat_20 : decode prog_1_method_6_code 20 = .ok (.ifCond .ne 5, 3) := by decide +kernel
theorem d_L_heat_23 : decode prog_1_method_6_code 23 = .ok (.iconst (-1), 1) := by decide +kernel
theorem d_L_heat_24 : decode prog_1_method_6_code 24 = .ok (.ireturn, 1) := by decide +kernel
theorem d_L_heat_25 : decode prog_1_method_6_code 25 = .ok (.iconst 2, 1) := by decide +kernel
theorem d_L_heat_26 : decode prog_1_method_6_code 26 = .ok (.iload_n 1, 1) := by decide +kernel
theorem d_L_heat_27 : decode prog_1_method_6_code 27 = .ok (.imul, 1) := by decide +kernel
theorem d_L_heat_28 : decode prog_1_method_6_code 28 = .ok (.iload_n 2, 1) := by decide +kernel
theorem d_L_heat_29 : decode prog_1_method_6_code 29 = .ok (.iadd, 1) := by decide +kernel
theorem d_L_heat_30 : decode prog_1_method_6_code 30 = .ok (.istore 4, 2) := by decide +kernel
theorem d_L_heat_32 : decode prog_1_method_6_code 32 = .ok (.aload_n 0, 1) := by decide +kernel
theorem d_L_heat_33 : decode prog_1_method_6_code 33 = .ok (.getfield 32, 3) := by decide +kernel
theorem d_L_heat_36 : decode prog_1_method_6_code 36 = .ok (.iload 4, 2) := by decide +kernel
theorem d_L_heat_38 : decode prog_1_method_6_code 38 = .ok (.iload_n 3, 1) := by decide +kernel
theorem d_L_heat_39 : decode prog_1_method_6_code 39 = .ok (.invokevirtual 96, 3) := by decide +kernel
theorem d_L_heat_42 : decode prog_1_method_6_code 42 = .ok (.aload_n 0, 1) := by decide +kernel
theorem d_L_heat_43 : decode prog_1_method_6_code 43 = .ok (.getfield 32, 3) := by decide +kernel
theorem d_L_heat_46 : decode prog_1_method_6_code 46 = .ok (.aload_n 0, 1) := by decide +kernel
theorem d_L_heat_47 : decode prog_1_method_6_code 47 = .ok (.getfield 25, 3) := by decide +kernel
theorem d_L_heat_50 : decode prog_1_method_6_code 50 = .ok (.getfield 100, 3) := by decide +kernel
theorem d_L_heat_53 : decode prog_1_method_6_code 53 = .ok (.iload 4, 2) := by decide +kernel
theorem d_L_heat_55 : decode prog_1_method_6_code 55 = .ok (.iaload, 1) := by decide +kernel
theorem d_L_heat_56 : decode prog_1_method_6_code 56 = .ok (.iload_n 3, 1) := by decide +kernel
theorem d_L_heat_57 : decode prog_1_method_6_code 57 = .ok (.invokevirtual 104, 3) := by decide +kernel
theorem d_L_heat_60 : decode prog_1_method_6_code 60 = .ok (.aload_n 0, 1) := by decide +kernel
theorem d_L_heat_61 : decode prog_1_method_6_code 61 = .ok (.getfield 32, 3) := by decide +kernel
theorem d_L_heat_64 : decode prog_1_method_6_code 64 = .ok (.getfield 107, 3) := by decide +kernel
theorem d_L_heat_67 : decode prog_1_method_6_code 67 = .ok (.iload 4, 2) := by decide +kernel
theorem d_L_heat_69 : decode prog_1_method_6_code 69 = .ok (.iaload, 1) := by decide +kernel
theorem d_L_heat_70 : decode prog_1_method_6_code 70 = .ok (.ireturn, 1) := by decide +kernel
theorem d_G_hasEdge_0 : decode prog_4_method_5_code 0 = .ok (.aload_n 0, 1) := by decide +kernel
theorem d_G_hasEdge_1 : decode prog_4_method_5_code 1 = .ok (.iload_n 1, 1) := by decide +kernel
theorem d_G_hasEdge_2 : decode prog_4_method_5_code 2 = .ok (.invokevirtual 41, 3) := by decide +kernel
theorem d_G_hasEdge_5 : decode prog_4_method_5_code 5 = .ok (.ifCond .eq 21, 3) := by decide +kernel
theorem d_G_hasEdge_8 : decode prog_4_method_5_code 8 = .ok (.iload_n 2, 1) := by decide +kernel
theorem d_G_hasEdge_9 : decode prog_4_method_5_code 9 = .ok (.ifCond .lt 17, 3) := by decide +kernel
theorem d_G_hasEdge_12 : decode prog_4_method_5_code 12 = .ok (.iload_n 2, 1) := by decide +kernel
theorem d_G_hasEdge_13 : decode prog_4_method_5_code 13 = .ok (.aload_n 0, 1) := by decide +kernel
theorem d_G_hasEdge_14 : decode prog_4_method_5_code 14 = .ok (.getfield 18, 3) := by decide +kernel
theorem d_G_hasEdge_17 : decode prog_4_method_5_code 17 = .ok (.iload_n 1, 1) := by decide +kernel
theorem d_G_hasEdge_18 : decode prog_4_method_5_code 18 = .ok (.iaload, 1) := by decide +kernel
theorem d_G_hasEdge_19 : decode prog_4_method_5_code 19 = .ok (.if_icmp .ge 7, 3) := by decide +kernel
theorem d_G_hasEdge_22 : decode prog_4_method_5_code 22 = .ok (.iconst 1, 1) := by decide +kernel
theorem d_G_hasEdge_23 : decode prog_4_method_5_code 23 = .ok (.goto 4, 3) := by decide +kernel
theorem d_G_hasEdge_26 : decode prog_4_method_5_code 26 = .ok (.iconst 0, 1) := by decide +kernel
theorem d_G_hasEdge_27 : decode prog_4_method_5_code 27 = .ok (.ireturn, 1) := by decide +kernel
theorem d_L_cool_0 : decode prog_1_method_7_code 0 = .ok (.aload_n 0, 1) := by decide +kernel
theorem d_L_cool_1 : decode prog_1_method_7_code 1 = .ok (.getfield 32, 3) := by decide +kernel
theorem d_L_cool_4 : decode prog_1_method_7_code 4 = .ok (.invokevirtual 110, 3) := by decide +kernel
theorem d_L_cool_7 : decode prog_1_method_7_code 7 = .ok (.iconst 0, 1) := by decide +kernel
theorem d_L_cool_8 : decode prog_1_method_7_code 8 = .ok (.ireturn, 1) := by decide +kernel
theorem d_N_clear_0 : decode prog_3_method_6_code 0 = .ok (.aload_n 0, 1) := by decide +kernel
theorem d_N_clear_1 : decode prog_3_method_6_code 1 = .ok (.getfield 9, 3) := by decide +kernel
theorem d_N_clear_4 : decode prog_3_method_6_code 4 = .ok (.iconst 0, 1) := by decide +kernel
theorem d_N_clear_5 : decode prog_3_method_6_code 5 = .ok (.invokestatic 44, 3) := by decide +kernel
theorem d_N_clear_8 : decode prog_3_method_6_code 8 = .ok (.aload_n 0, 1) := by decide +kernel
theorem d_N_clear_9 : decode prog_3_method_6_code 9 = .ok (.getfield 15, 3) := by decide +kernel
theorem d_N_clear_12 : decode prog_3_method_6_code 12 = .ok (.iconst 0, 1) := by decide +kernel
theorem d_N_clear_13 : decode prog_3_method_6_code 13 = .ok (.invokestatic 44, 3) := by decide +kernel
theorem d_N_clear_16 : decode prog_3_method_6_code 16 = .ok (.return_, 1) := by decide +kernel
theorem d_L_layout_0 : decode prog_1_method_8_code 0 = .ok (.aload_n 0, 1) := by decide +kernel
theorem d_L_layout_1 : decode prog_1_method_8_code 1 = .ok (.getfield 25, 3) := by decide +kernel
theorem d_L_layout_4 : decode prog_1_method_8_code 4 = .ok (.getfield 61, 3) := by decide +kernel
theorem d_L_layout_7 : decode prog_1_method_8_code 7 = .ok (.ifCond .eq 12, 3) := by decide +kernel
theorem d_L_layout_10 : decode prog_1_method_8_code 10 = .ok (.iload_n 1, 1) := by decide +kernel
theorem d_L_layout_11 : decode prog_1_method_8_code 11 = .ok (.ifCond .lt 8, 3) := by decide +kernel
theorem d_L_layout_14 : decode prog_1_method_8_code 14 = .ok (.iload_n 1, 1) := by decide +kernel
theorem d_L_layout_15 : decode prog_1_method_8_code 15 = .ok (.iconst 1, 1) := by decide +kernel
theorem d_L_layout_16 : decode prog_1_method_8_code 16 = .ok (.if_icmp .le 5, 3) := by decide +kernel
theorem d_L_layout_19 : decode prog_1_method_8_code 19 = .ok (.iconst (-1), 1) := by decide +kernel
theorem d_L_layout_20 : decode prog_1_method_8_code 20 = .ok (.ireturn, 1) := by decide +kernel
theorem d_L_layout_21 : decode prog_1_method_8_code 21 = .ok (.iload_n 1, 1) := by decide +kernel
theorem d_L_layout_22 : decode prog_1_method_8_code 22 = .ok (.ifCond .ne 17, 3) := by decide +kernel
theorem d_L_layout_25 : decode prog_1_method_8_code 25 = .ok (.aload_n 0, 1) := by decide +kernel
theorem d_L_layout_26 : decode prog_1_method_8_code 26 = .ok (.getfield 46, 3) := by decide +kernel
theorem d_L_layout_29 : decode prog_1_method_8_code 29 = .ok (.aload_n 0, 1) := by decide +kernel
theorem d_L_layout_30 : decode prog_1_method_8_code 30 = .ok (.getfield 25, 3) := by decide +kernel
theorem d_L_layout_33 : decode prog_1_method_8_code 33 = .ok (.invokevirtual 113, 3) := by decide +kernel
theorem d_L_layout_36 : decode prog_1_method_8_code 36 = .ok (.goto 18, 3) := by decide +kernel
theorem d_L_layout_39 : decode prog_1_method_8_code 39 = .ok (.aload_n 0, 1) := by decide +kernel
theorem d_L_layout_40 : decode prog_1_method_8_code 40 = .ok (.getfield 46, 3) := by decide +kernel
theorem d_L_layout_43 : decode prog_1_method_8_code 43 = .ok (.aload_n 0, 1) := by decide +kernel
theorem d_L_layout_44 : decode prog_1_method_8_code 44 = .ok (.getfield 25, 3) := by decide +kernel
theorem d_L_layout_47 : decode prog_1_method_8_code 47 = .ok (.aload_n 0, 1) := by decide +kernel
theorem d_L_layout_48 : decode prog_1_method_8_code 48 = .ok (.getfield 32, 3) := by decide +kernel
theorem d_L_layout_51 : decode prog_1_method_8_code 51 = .ok (.invokevirtual 117, 3) := by decide +kernel
theorem d_L_layout_54 : decode prog_1_method_8_code 54 = .ok (.aload_n 0, 1) := by decide +kernel
theorem d_L_layout_55 : decode prog_1_method_8_code 55 = .ok (.getfield 53, 3) := by decide +kernel
theorem d_L_layout_58 : decode prog_1_method_8_code 58 = .ok (.aload_n 0, 1) := by decide +kernel
theorem d_L_layout_59 : decode prog_1_method_8_code 59 = .ok (.getfield 25, 3) := by decide +kernel
theorem d_L_layout_62 : decode prog_1_method_8_code 62 = .ok (.aload_n 0, 1) := by decide +kernel
theorem d_L_layout_63 : decode prog_1_method_8_code 63 = .ok (.getfield 46, 3) := by decide +kernel
theorem d_L_layout_66 : decode prog_1_method_8_code 66 = .ok (.getfield 121, 3) := by decide +kernel
theorem d_L_layout_69 : decode prog_1_method_8_code 69 = .ok (.aload_n 0, 1) := by decide +kernel
theorem d_L_layout_70 : decode prog_1_method_8_code 70 = .ok (.getfield 18, 3) := by decide +kernel
theorem d_L_layout_73 : decode prog_1_method_8_code 73 = .ok (.invokevirtual 124, 3) := by decide +kernel
theorem d_L_layout_76 : decode prog_1_method_8_code 76 = .ok (.aload_n 0, 1) := by decide +kernel
theorem d_L_layout_77 : decode prog_1_method_8_code 77 = .ok (.iconst 1, 1) := by decide +kernel
theorem d_L_layout_78 : decode prog_1_method_8_code 78 = .ok (.putfield 57, 3) := by decide +kernel
theorem d_L_layout_81 : decode prog_1_method_8_code 81 = .ok (.aload_n 0, 1) := by decide +kernel
theorem d_L_layout_82 : decode prog_1_method_8_code 82 = .ok (.getfield 53, 3) := by decide +kernel
theorem d_L_layout_85 : decode prog_1_method_8_code 85 = .ok (.getfield 128, 3) := by decide +kernel
theorem d_L_layout_88 : decode prog_1_method_8_code 88 = .ok (.ireturn, 1) := by decide +kernel
theorem d_G_isEntry_0 : decode prog_4_method_8_code 0 = .ok (.aload_n 0, 1) := by decide +kernel
theorem d_G_isEntry_1 : decode prog_4_method_8_code 1 = .ok (.getfield 24, 3) := by decide +kernel
theorem d_G_isEntry_4 : decode prog_4_method_8_code 4 = .ok (.aload_n 0, 1) := by decide +kernel
theorem d_G_isEntry_5 : decode prog_4_method_8_code 5 = .ok (.getfield 9, 3) := by decide +kernel
theorem d_G_isEntry_8 : decode prog_4_method_8_code 8 = .ok (.iload_n 1, 1) := by decide +kernel
theorem d_G_isEntry_9 : decode prog_4_method_8_code 9 = .ok (.iaload, 1) := by decide +kernel
theorem d_G_isEntry_10 : decode prog_4_method_8_code 10 = .ok (.iaload, 1) := by decide +kernel
theorem d_G_isEntry_11 : decode prog_4_method_8_code 11 = .ok (.iload_n 1, 1) := by decide +kernel
theorem d_G_isEntry_12 : decode prog_4_method_8_code 12 = .ok (.if_icmp .ne 7, 3) := by decide +kernel
theorem d_G_isEntry_15 : decode prog_4_method_8_code 15 = .ok (.iconst 1, 1) := by decide +kernel
theorem d_G_isEntry_16 : decode prog_4_method_8_code 16 = .ok (.goto 4, 3) := by decide +kernel
theorem d_G_isEntry_19 : decode prog_4_method_8_code 19 = .ok (.iconst 0, 1) := by decide +kernel
theorem d_G_isEntry_20 : decode prog_4_method_8_code 20 = .ok (.ireturn, 1) := by decide +kernel
theorem d_L_at_0 : decode prog_1_method_9_code 0 = .ok (.aload_n 0, 1) := by decide +kernel
theorem d_L_at_1 : decode prog_1_method_9_code 1 = .ok (.getfield 57, 3) := by decide +kernel
theorem d_L_at_4 : decode prog_1_method_9_code 4 = .ok (.ifCond .eq 26, 3) := by decide +kernel
theorem d_L_at_7 : decode prog_1_method_9_code 7 = .ok (.aload_n 0, 1) := by decide +kernel
theorem d_L_at_8 : decode prog_1_method_9_code 8 = .ok (.getfield 25, 3) := by decide +kernel
theorem d_L_at_11 : decode prog_1_method_9_code 11 = .ok (.iload_n 1, 1) := by decide +kernel
theorem d_L_at_12 : decode prog_1_method_9_code 12 = .ok (.invokevirtual 131, 3) := by decide +kernel
theorem d_L_at_15 : decode prog_1_method_9_code 15 = .ok (.ifCond .eq 15, 3) := by decide +kernel
theorem d_L_at_18 : decode prog_1_method_9_code 18 = .ok (.aload_n 0, 1) := by decide +kernel
theorem d_L_at_19 : decode prog_1_method_9_code 19 = .ok (.getfield 46, 3) := by decide +kernel
theorem d_L_at_22 : decode prog_1_method_9_code 22 = .ok (.getfield 121, 3) := by decide +kernel
theorem d_L_at_25 : decode prog_1_method_9_code 25 = .ok (.iload_n 1, 1) := by decide +kernel
theorem d_L_at_26 : decode prog_1_method_9_code 26 = .ok (.iaload, 1) := by decide +kernel
theorem d_L_at_27 : decode prog_1_method_9_code 27 = .ok (.goto 5, 3) := by decide +kernel
theorem d_L_at_30 : decode prog_1_method_9_code 30 = .ok (.bipush (-3), 2) := by decide +kernel
theorem d_L_at_32 : decode prog_1_method_9_code 32 = .ok (.ireturn, 1) := by decide +kernel
theorem d_L_address_0 : decode prog_1_method_10_code 0 = .ok (.aload_n 0, 1) := by decide +kernel
theorem d_L_address_1 : decode prog_1_method_10_code 1 = .ok (.getfield 57, 3) := by decide +kernel
theorem d_L_address_4 : decode prog_1_method_10_code 4 = .ok (.ifCond .eq 26, 3) := by decide +kernel
theorem d_L_address_7 : decode prog_1_method_10_code 7 = .ok (.aload_n 0, 1) := by decide +kernel
theorem d_L_address_8 : decode prog_1_method_10_code 8 = .ok (.getfield 25, 3) := by decide +kernel
theorem d_L_address_11 : decode prog_1_method_10_code 11 = .ok (.iload_n 1, 1) := by decide +kernel
theorem d_L_address_12 : decode prog_1_method_10_code 12 = .ok (.invokevirtual 131, 3) := by decide +kernel
theorem d_L_address_15 : decode prog_1_method_10_code 15 = .ok (.ifCond .eq 15, 3) := by decide +kernel
theorem d_L_address_18 : decode prog_1_method_10_code 18 = .ok (.aload_n 0, 1) := by decide +kernel
theorem d_L_address_19 : decode prog_1_method_10_code 19 = .ok (.getfield 53, 3) := by decide +kernel
theorem d_L_address_22 : decode prog_1_method_10_code 22 = .ok (.getfield 134, 3) := by decide +kernel
theorem d_L_address_25 : decode prog_1_method_10_code 25 = .ok (.iload_n 1, 1) := by decide +kernel
theorem d_L_address_26 : decode prog_1_method_10_code 26 = .ok (.iaload, 1) := by decide +kernel
theorem d_L_address_27 : decode prog_1_method_10_code 27 = .ok (.goto 5, 3) := by decide +kernel
theorem d_L_address_30 : decode prog_1_method_10_code 30 = .ok (.bipush (-3), 2) := by decide +kernel
theorem d_L_address_32 : decode prog_1_method_10_code 32 = .ok (.ireturn, 1) := by decide +kernel
theorem d_L_branch_0 : decode prog_1_method_11_code 0 = .ok (.aload_n 0, 1) := by decide +kernel
theorem d_L_branch_1 : decode prog_1_method_11_code 1 = .ok (.iload_n 1, 1) := by decide +kernel
theorem d_L_branch_2 : decode prog_1_method_11_code 2 = .ok (.iload_n 2, 1) := by decide +kernel
theorem d_L_branch_3 : decode prog_1_method_11_code 3 = .ok (.invokevirtual 137, 3) := by decide +kernel
theorem d_L_branch_6 : decode prog_1_method_11_code 6 = .ok (.ifCond .eq 19, 3) := by decide +kernel
theorem d_L_branch_9 : decode prog_1_method_11_code 9 = .ok (.aload_n 0, 1) := by decide +kernel
theorem d_L_branch_10 : decode prog_1_method_11_code 10 = .ok (.getfield 53, 3) := by decide +kernel
theorem d_L_branch_13 : decode prog_1_method_11_code 13 = .ok (.getfield 140, 3) := by decide +kernel
theorem d_L_branch_16 : decode prog_1_method_11_code 16 = .ok (.iconst 2, 1) := by decide +kernel
theorem d_L_branch_17 : decode prog_1_method_11_code 17 = .ok (.iload_n 1, 1) := by decide +kernel
theorem d_L_branch_18 : decode prog_1_method_11_code 18 = .ok (.imul, 1) := by decide +kernel
theorem d_L_branch_19 : decode prog_1_method_11_code 19 = .ok (.iload_n 2, 1) := by decide +kernel
theorem d_L_branch_20 : decode prog_1_method_11_code 20 = .ok (.iadd, 1) := by decide +kernel
theorem d_L_branch_21 : decode prog_1_method_11_code 21 = .ok (.iaload, 1) := by decide +kernel
theorem d_L_branch_22 : decode prog_1_method_11_code 22 = .ok (.goto 5, 3) := by decide +kernel
theorem d_L_branch_25 : decode prog_1_method_11_code 25 = .ok (.bipush (-3), 2) := by decide +kernel
theorem d_L_branch_27 : decode prog_1_method_11_code 27 = .ok (.ireturn, 1) := by decide +kernel
theorem d_L_hasBranch_0 : decode prog_1_method_17_code 0 = .ok (.aload_n 0, 1) := by decide +kernel
theorem d_L_hasBranch_1 : decode prog_1_method_17_code 1 = .ok (.getfield 57, 3) := by decide +kernel
theorem d_L_hasBranch_4 : decode prog_1_method_17_code 4 = .ok (.ifCond .eq 43, 3) := by decide +kernel
theorem d_L_hasBranch_7 : decode prog_1_method_17_code 7 = .ok (.aload_n 0, 1) := by decide +kernel
theorem d_L_hasBranch_8 : decode prog_1_method_17_code 8 = .ok (.getfield 25, 3) := by decide +kernel
theorem d_L_hasBranch_11 : decode prog_1_method_17_code 11 = .ok (.iload_n 1, 1) := by decide +kernel
theorem d_L_hasBranch_12 : decode prog_1_method_17_code 12 = .ok (.invokevirtual 131, 3) := by decide +kernel
theorem d_L_hasBranch_15 : decode prog_1_method_17_code 15 = .ok (.ifCond .eq 32, 3) := by decide +kernel
theorem d_L_hasBranch_18 : decode prog_1_method_17_code 18 = .ok (.iload_n 2, 1) := by decide +kernel
theorem d_L_hasBranch_19 : decode prog_1_method_17_code 19 = .ok (.ifCond .eq 8, 3) := by decide +kernel
theorem d_L_hasBranch_22 : decode prog_1_method_17_code 22 = .ok (.iload_n 2, 1) := by decide +kernel
theorem d_L_hasBranch_23 : decode prog_1_method_17_code 23 = .ok (.iconst 1, 1) := by decide +kernel
theorem d_L_hasBranch_24 : decode prog_1_method_17_code 24 = .ok (.if_icmp .ne 23, 3) := by decide +kernel
theorem d_L_hasBranch_27 : decode prog_1_method_17_code 27 = .ok (.aload_n 0, 1) := by decide +kernel
theorem d_L_hasBranch_28 : decode prog_1_method_17_code 28 = .ok (.getfield 53, 3) := by decide +kernel
theorem d_L_hasBranch_31 : decode prog_1_method_17_code 31 = .ok (.getfield 140, 3) := by decide +kernel
theorem d_L_hasBranch_34 : decode prog_1_method_17_code 34 = .ok (.iconst 2, 1) := by decide +kernel
theorem d_L_hasBranch_35 : decode prog_1_method_17_code 35 = .ok (.iload_n 1, 1) := by decide +kernel
theorem d_L_hasBranch_36 : decode prog_1_method_17_code 36 = .ok (.imul, 1) := by decide +kernel
theorem d_L_hasBranch_37 : decode prog_1_method_17_code 37 = .ok (.iload_n 2, 1) := by decide +kernel
theorem d_L_hasBranch_38 : decode prog_1_method_17_code 38 = .ok (.iadd, 1) := by decide +kernel
theorem d_L_hasBranch_39 : decode prog_1_method_17_code 39 = .ok (.iaload, 1) := by decide +kernel
theorem d_L_hasBranch_40 : decode prog_1_method_17_code 40 = .ok (.ifCond .eq 7, 3) := by decide +kernel
theorem d_L_hasBranch_43 : decode prog_1_method_17_code 43 = .ok (.iconst 1, 1) := by decide +kernel
theorem d_L_hasBranch_44 : decode prog_1_method_17_code 44 = .ok (.goto 4, 3) := by decide +kernel
theorem d_L_hasBranch_47 : decode prog_1_method_17_code 47 = .ok (.iconst 0, 1) := by decide +kernel
theorem d_L_hasBranch_48 : decode prog_1_method_17_code 48 = .ok (.ireturn, 1) := by decide +kernel
theorem d_L_target_0 : decode prog_1_method_12_code 0 = .ok (.aload_n 0, 1) := by decide +kernel
theorem d_L_target_1 : decode prog_1_method_12_code 1 = .ok (.iload_n 1, 1) := by decide +kernel
theorem d_L_target_2 : decode prog_1_method_12_code 2 = .ok (.iload_n 2, 1) := by decide +kernel
theorem d_L_target_3 : decode prog_1_method_12_code 3 = .ok (.invokevirtual 137, 3) := by decide +kernel
theorem d_L_target_6 : decode prog_1_method_12_code 6 = .ok (.ifCond .eq 19, 3) := by decide +kernel
theorem d_L_target_9 : decode prog_1_method_12_code 9 = .ok (.aload_n 0, 1) := by decide +kernel
theorem d_L_target_10 : decode prog_1_method_12_code 10 = .ok (.getfield 53, 3) := by decide +kernel
theorem d_L_target_13 : decode prog_1_method_12_code 13 = .ok (.getfield 143, 3) := by decide +kernel
theorem d_L_target_16 : decode prog_1_method_12_code 16 = .ok (.iconst 2, 1) := by decide +kernel
theorem d_L_target_17 : decode prog_1_method_12_code 17 = .ok (.iload_n 1, 1) := by decide +kernel
theorem d_L_target_18 : decode prog_1_method_12_code 18 = .ok (.imul, 1) := by decide +kernel
theorem d_L_target_19 : decode prog_1_method_12_code 19 = .ok (.iload_n 2, 1) := by decide +kernel
theorem d_L_target_20 : decode prog_1_method_12_code 20 = .ok (.iadd, 1) := by decide +kernel
theorem d_L_target_21 : decode prog_1_method_12_code 21 = .ok (.iaload, 1) := by decide +kernel
theorem d_L_target_22 : decode prog_1_method_12_code 22 = .ok (.goto 5, 3) := by decide +kernel
theorem d_L_target_25 : decode prog_1_method_12_code 25 = .ok (.bipush (-3), 2) := by decide +kernel
theorem d_L_target_27 : decode prog_1_method_12_code 27 = .ok (.ireturn, 1) := by decide +kernel
theorem d_L_cost_0 : decode prog_1_method_13_code 0 = .ok (.aload_n 0, 1) := by decide +kernel
theorem d_L_cost_1 : decode prog_1_method_13_code 1 = .ok (.getfield 57, 3) := by decide +kernel
theorem d_L_cost_4 : decode prog_1_method_13_code 4 = .ok (.ifCond .eq 14, 3) := by decide +kernel
theorem d_L_cost_7 : decode prog_1_method_13_code 7 = .ok (.aload_n 0, 1) := by decide +kernel
theorem d_L_cost_8 : decode prog_1_method_13_code 8 = .ok (.getfield 25, 3) := by decide +kernel
theorem d_L_cost_11 : decode prog_1_method_13_code 11 = .ok (.iload_n 1, 1) := by decide +kernel
theorem d_L_cost_12 : decode prog_1_method_13_code 12 = .ok (.invokevirtual 79, 3) := by decide +kernel
theorem d_L_cost_15 : decode prog_1_method_13_code 15 = .ok (.ifCond .ne 5, 3) := by decide +kernel
theorem d_L_cost_18 : decode prog_1_method_13_code 18 = .ok (.iconst (-1), 1) := by decide +kernel
theorem d_L_cost_19 : decode prog_1_method_13_code 19 = .ok (.ireturn, 1) := by decide +kernel
theorem d_L_cost_20 : decode prog_1_method_13_code 20 = .ok (.aload_n 0, 1) := by decide +kernel
theorem d_L_cost_21 : decode prog_1_method_13_code 21 = .ok (.getfield 39, 3) := by decide +kernel
theorem d_L_cost_24 : decode prog_1_method_13_code 24 = .ok (.aload_n 0, 1) := by decide +kernel
theorem d_L_cost_25 : decode prog_1_method_13_code 25 = .ok (.getfield 25, 3) := by decide +kernel
theorem d_L_cost_28 : decode prog_1_method_13_code 28 = .ok (.iload_n 1, 1) := by decide +kernel
theorem d_L_cost_29 : decode prog_1_method_13_code 29 = .ok (.iload_n 2, 1) := by decide +kernel
theorem d_L_cost_30 : decode prog_1_method_13_code 30 = .ok (.invokevirtual 83, 3) := by decide +kernel
theorem d_L_cost_33 : decode prog_1_method_13_code 33 = .ok (.iconst 0, 1) := by decide +kernel
theorem d_L_cost_34 : decode prog_1_method_13_code 34 = .ok (.istore_n 3, 1) := by decide +kernel
theorem d_L_cost_35 : decode prog_1_method_13_code 35 = .ok (.iconst 0, 1) := by decide +kernel
theorem d_L_cost_36 : decode prog_1_method_13_code 36 = .ok (.istore 4, 2) := by decide +kernel
theorem d_L_cost_38 : decode prog_1_method_13_code 38 = .ok (.iload 4, 2) := by decide +kernel
theorem d_L_cost_40 : decode prog_1_method_13_code 40 = .ok (.aload_n 0, 1) := by decide +kernel
theorem d_L_cost_41 : decode prog_1_method_13_code 41 = .ok (.getfield 39, 3) := by decide +kernel
theorem d_L_cost_44 : decode prog_1_method_13_code 44 = .ok (.getfield 91, 3) := by decide +kernel
theorem d_L_cost_47 : decode prog_1_method_13_code 47 = .ok (.if_icmp .ge 61, 3) := by decide +kernel
theorem d_L_cost_50 : decode prog_1_method_13_code 50 = .ok (.aload_n 0, 1) := by decide +kernel
theorem d_L_cost_51 : decode prog_1_method_13_code 51 = .ok (.getfield 39, 3) := by decide +kernel
theorem d_L_cost_54 : decode prog_1_method_13_code 54 = .ok (.getfield 146, 3) := by decide +kernel
theorem d_L_cost_57 : decode prog_1_method_13_code 57 = .ok (.iload 4, 2) := by decide +kernel
theorem d_L_cost_59 : decode prog_1_method_13_code 59 = .ok (.iaload, 1) := by decide +kernel
theorem d_L_cost_60 : decode prog_1_method_13_code 60 = .ok (.istore 5, 2) := by decide +kernel
theorem d_L_cost_62 : decode prog_1_method_13_code 62 = .ok (.iload_n 3, 1) := by decide +kernel
theorem d_L_cost_63 : decode prog_1_method_13_code 63 = .ok (.aload_n 0, 1) := by decide +kernel
theorem d_L_cost_64 : decode prog_1_method_13_code 64 = .ok (.getfield 53, 3) := by decide +kernel
theorem d_L_cost_67 : decode prog_1_method_13_code 67 = .ok (.iload 5, 2) := by decide +kernel
theorem d_L_cost_69 : decode prog_1_method_13_code 69 = .ok (.aload_n 0, 1) := by decide +kernel
theorem d_L_cost_70 : decode prog_1_method_13_code 70 = .ok (.getfield 25, 3) := by decide +kernel
theorem d_L_cost_73 : decode prog_1_method_13_code 73 = .ok (.getfield 149, 3) := by decide +kernel
theorem d_L_cost_76 : decode prog_1_method_13_code 76 = .ok (.iload 5, 2) := by decide +kernel
theorem d_L_cost_78 : decode prog_1_method_13_code 78 = .ok (.iaload, 1) := by decide +kernel
theorem d_L_cost_79 : decode prog_1_method_13_code 79 = .ok (.aload_n 0, 1) := by decide +kernel
theorem d_L_cost_80 : decode prog_1_method_13_code 80 = .ok (.getfield 39, 3) := by decide +kernel
theorem d_L_cost_83 : decode prog_1_method_13_code 83 = .ok (.getfield 152, 3) := by decide +kernel
theorem d_L_cost_86 : decode prog_1_method_13_code 86 = .ok (.iload 4, 2) := by decide +kernel
theorem d_L_cost_88 : decode prog_1_method_13_code 88 = .ok (.iaload, 1) := by decide +kernel
theorem d_L_cost_89 : decode prog_1_method_13_code 89 = .ok (.ifCond .ne 7, 3) := by decide +kernel
theorem d_L_cost_92 : decode prog_1_method_13_code 92 = .ok (.iconst 1, 1) := by decide +kernel
theorem d_L_cost_93 : decode prog_1_method_13_code 93 = .ok (.goto 4, 3) := by decide +kernel
theorem d_L_cost_96 : decode prog_1_method_13_code 96 = .ok (.iconst 0, 1) := by decide +kernel
theorem d_L_cost_97 : decode prog_1_method_13_code 97 = .ok (.invokevirtual 155, 3) := by decide +kernel
theorem d_L_cost_100 : decode prog_1_method_13_code 100 = .ok (.iadd, 1) := by decide +kernel
theorem d_L_cost_101 : decode prog_1_method_13_code 101 = .ok (.istore_n 3, 1) := by decide +kernel
theorem d_L_cost_102 : decode prog_1_method_13_code 102 = .ok (.iinc 4 1, 3) := by decide +kernel
theorem d_L_cost_105 : decode prog_1_method_13_code 105 = .ok (.goto (-67), 3) := by decide +kernel
theorem d_L_cost_108 : decode prog_1_method_13_code 108 = .ok (.iload_n 3, 1) := by decide +kernel
theorem d_L_cost_109 : decode prog_1_method_13_code 109 = .ok (.ireturn, 1) := by decide +kernel
theorem d_L_heatOf_0 : decode prog_1_method_14_code 0 = .ok (.iload_n 2, 1) := by decide +kernel
theorem d_L_heatOf_1 : decode prog_1_method_14_code 1 = .ok (.iconst (-1), 1) := by decide +kernel
theorem d_L_heatOf_2 : decode prog_1_method_14_code 2 = .ok (.if_icmp .ne 24, 3) := by decide +kernel
theorem d_L_heatOf_5 : decode prog_1_method_14_code 5 = .ok (.aload_n 0, 1) := by decide +kernel
theorem d_L_heatOf_6 : decode prog_1_method_14_code 6 = .ok (.getfield 25, 3) := by decide +kernel
theorem d_L_heatOf_9 : decode prog_1_method_14_code 9 = .ok (.iload_n 1, 1) := by decide +kernel
theorem d_L_heatOf_10 : decode prog_1_method_14_code 10 = .ok (.invokevirtual 131, 3) := by decide +kernel
theorem d_L_heatOf_13 : decode prog_1_method_14_code 13 = .ok (.ifCond .eq 13, 3) := by decide +kernel
theorem d_L_heatOf_16 : decode prog_1_method_14_code 16 = .ok (.aload_n 0, 1) := by decide +kernel
theorem d_L_heatOf_17 : decode prog_1_method_14_code 17 = .ok (.getfield 32, 3) := by decide +kernel
theorem d_L_heatOf_20 : decode prog_1_method_14_code 20 = .ok (.getfield 159, 3) := by decide +kernel
theorem d_L_heatOf_23 : decode prog_1_method_14_code 23 = .ok (.iload_n 1, 1) := by decide +kernel
theorem d_L_heatOf_24 : decode prog_1_method_14_code 24 = .ok (.iaload, 1) := by decide +kernel
theorem d_L_heatOf_25 : decode prog_1_method_14_code 25 = .ok (.ireturn, 1) := by decide +kernel
theorem d_L_heatOf_26 : decode prog_1_method_14_code 26 = .ok (.aload_n 0, 1) := by decide +kernel
theorem d_L_heatOf_27 : decode prog_1_method_14_code 27 = .ok (.getfield 25, 3) := by decide +kernel
theorem d_L_heatOf_30 : decode prog_1_method_14_code 30 = .ok (.iload_n 1, 1) := by decide +kernel
theorem d_L_heatOf_31 : decode prog_1_method_14_code 31 = .ok (.iload_n 2, 1) := by decide +kernel
theorem d_L_heatOf_32 : decode prog_1_method_14_code 32 = .ok (.invokevirtual 93, 3) := by decide +kernel
theorem d_L_heatOf_35 : decode prog_1_method_14_code 35 = .ok (.ifCond .eq 19, 3) := by decide +kernel
theorem d_L_heatOf_38 : decode prog_1_method_14_code 38 = .ok (.aload_n 0, 1) := by decide +kernel
theorem d_L_heatOf_39 : decode prog_1_method_14_code 39 = .ok (.getfield 32, 3) := by decide +kernel
theorem d_L_heatOf_42 : decode prog_1_method_14_code 42 = .ok (.getfield 107, 3) := by decide +kernel
theorem d_L_heatOf_45 : decode prog_1_method_14_code 45 = .ok (.iconst 2, 1) := by decide +kernel
theorem d_L_heatOf_46 : decode prog_1_method_14_code 46 = .ok (.iload_n 1, 1) := by decide +kernel
theorem d_L_heatOf_47 : decode prog_1_method_14_code 47 = .ok (.imul, 1) := by decide +kernel
theorem d_L_heatOf_48 : decode prog_1_method_14_code 48 = .ok (.iload_n 2, 1) := by decide +kernel
theorem d_L_heatOf_49 : decode prog_1_method_14_code 49 = .ok (.iadd, 1) := by decide +kernel
theorem d_L_heatOf_50 : decode prog_1_method_14_code 50 = .ok (.iaload, 1) := by decide +kernel
theorem d_L_heatOf_51 : decode prog_1_method_14_code 51 = .ok (.goto 5, 3) := by decide +kernel
theorem d_L_heatOf_54 : decode prog_1_method_14_code 54 = .ok (.bipush (-3), 2) := by decide +kernel
theorem d_L_heatOf_56 : decode prog_1_method_14_code 56 = .ok (.ireturn, 1) := by decide +kernel
theorem d_L_count_0 : decode prog_1_method_15_code 0 = .ok (.iload_n 1, 1) := by decide +kernel
theorem d_L_count_1 : decode prog_1_method_15_code 1 = .ok (.ifCond .lt 8, 3) := by decide +kernel
theorem d_L_count_4 : decode prog_1_method_15_code 4 = .ok (.iload_n 1, 1) := by decide +kernel
theorem d_L_count_5 : decode prog_1_method_15_code 5 = .ok (.iconst 5, 1) := by decide +kernel
theorem d_L_count_6 : decode prog_1_method_15_code 6 = .ok (.if_icmp .le 5, 3) := by decide +kernel
theorem d_L_count_9 : decode prog_1_method_15_code 9 = .ok (.iconst (-1), 1) := by decide +kernel
theorem d_L_count_10 : decode prog_1_method_15_code 10 = .ok (.ireturn, 1) := by decide +kernel
theorem d_L_count_11 : decode prog_1_method_15_code 11 = .ok (.iload_n 1, 1) := by decide +kernel
theorem d_L_count_12 : decode prog_1_method_15_code 12 = .ok (.ifCond .ne 11, 3) := by decide +kernel
theorem d_L_count_15 : decode prog_1_method_15_code 15 = .ok (.aload_n 0, 1) := by decide +kernel
theorem d_L_count_16 : decode prog_1_method_15_code 16 = .ok (.getfield 25, 3) := by decide +kernel
theorem d_L_count_19 : decode prog_1_method_15_code 19 = .ok (.getfield 61, 3) := by decide +kernel
theorem d_L_count_22 : decode prog_1_method_15_code 22 = .ok (.ireturn, 1) := by decide +kernel
theorem d_L_count_23 : decode prog_1_method_15_code 23 = .ok (.aload_n 0, 1) := by decide +kernel
theorem d_L_count_24 : decode prog_1_method_15_code 24 = .ok (.getfield 57, 3) := by decide +kernel
theorem d_L_count_27 : decode prog_1_method_15_code 27 = .ok (.ifCond .eq 11, 3) := by decide +kernel
theorem d_L_count_30 : decode prog_1_method_15_code 30 = .ok (.aload_n 0, 1) := by decide +kernel
theorem d_L_count_31 : decode prog_1_method_15_code 31 = .ok (.iload_n 1, 1) := by decide +kernel
theorem d_L_count_32 : decode prog_1_method_15_code 32 = .ok (.invokevirtual 162, 3) := by decide +kernel
theorem d_L_count_35 : decode prog_1_method_15_code 35 = .ok (.goto 4, 3) := by decide +kernel
theorem d_L_count_38 : decode prog_1_method_15_code 38 = .ok (.iconst 0, 1) := by decide +kernel
theorem d_L_count_39 : decode prog_1_method_15_code 39 = .ok (.ireturn, 1) := by decide +kernel
theorem d_L_countOfLayout_0 : decode prog_1_method_16_code 0 = .ok (.iload_n 1, 1) := by decide +kernel
theorem d_L_countOfLayout_1 : decode prog_1_method_16_code 1 = .ok (.tableswitch 63 1 4 #[31, 39, 47, 55], 31) := by decide +kernel
theorem d_L_countOfLayout_32 : decode prog_1_method_16_code 32 = .ok (.aload_n 0, 1) := by decide +kernel
theorem d_L_countOfLayout_33 : decode prog_1_method_16_code 33 = .ok (.getfield 53, 3) := by decide +kernel
theorem d_L_countOfLayout_36 : decode prog_1_method_16_code 36 = .ok (.getfield 128, 3) := by decide +kernel
theorem d_L_countOfLayout_39 : decode prog_1_method_16_code 39 = .ok (.ireturn, 1) := by decide +kernel
theorem d_L_countOfLayout_40 : decode prog_1_method_16_code 40 = .ok (.aload_n 0, 1) := by decide +kernel
theorem d_L_countOfLayout_41 : decode prog_1_method_16_code 41 = .ok (.getfield 53, 3) := by decide +kernel
theorem d_L_countOfLayout_44 : decode prog_1_method_16_code 44 = .ok (.getfield 166, 3) := by decide +kernel
theorem d_L_countOfLayout_47 : decode prog_1_method_16_code 47 = .ok (.ireturn, 1) := by decide +kernel
theorem d_L_countOfLayout_48 : decode prog_1_method_16_code 48 = .ok (.aload_n 0, 1) := by decide +kernel
theorem d_L_countOfLayout_49 : decode prog_1_method_16_code 49 = .ok (.getfield 53, 3) := by decide +kernel
theorem d_L_countOfLayout_52 : decode prog_1_method_16_code 52 = .ok (.getfield 169, 3) := by decide +kernel
theorem d_L_countOfLayout_55 : decode prog_1_method_16_code 55 = .ok (.ireturn, 1) := by decide +kernel
theorem d_L_countOfLayout_56 : decode prog_1_method_16_code 56 = .ok (.aload_n 0, 1) := by decide +kernel
theorem d_L_countOfLayout_57 : decode prog_1_method_16_code 57 = .ok (.getfield 46, 3) := by decide +kernel
theorem d_L_countOfLayout_60 : decode prog_1_method_16_code 60 = .ok (.getfield 172, 3) := by decide +kernel
theorem d_L_countOfLayout_63 : decode prog_1_method_16_code 63 = .ok (.ireturn, 1) := by decide +kernel
theorem d_L_countOfLayout_64 : decode prog_1_method_16_code 64 = .ok (.aload_n 0, 1) := by decide +kernel
theorem d_L_countOfLayout_65 : decode prog_1_method_16_code 65 = .ok (.getfield 46, 3) := by decide +kernel
theorem d_L_countOfLayout_68 : decode prog_1_method_16_code 68 = .ok (.getfield 175, 3) := by decide +kernel
theorem d_L_countOfLayout_71 : decode prog_1_method_16_code 71 = .ok (.ireturn, 1) := by decide +kernel
end
section
theorem d_P_init_0 : decode prog_5_method_1_code 0 = .ok (.aload_n 0, 1) := by decide +kernel
theorem d_P_init_1 : decode prog_5_method_1_code 1 = .ok (.invokespecial 3, 3) := by decide +kernel
theorem d_P_init_4 : decode prog_5_method_1_code 4 = .ok (.aload_n 0, 1) := by decide +kernel
theorem d_P_init_5 : decode prog_5_method_1_code 5 = .ok (.bipush 24, 2) := by decide +kernel
theorem d_P_init_7 : decode prog_5_method_1_code 7 = .ok (.newarray .int, 2) := by decide +kernel
theorem d_P_init_9 : decode prog_5_method_1_code 9 = .ok (.putfield 9, 3) := by decide +kernel
theorem d_P_init_12 : decode prog_5_method_1_code 12 = .ok (.aload_n 0, 1) := by decide +kernel
theorem d_P_init_13 : decode prog_5_method_1_code 13 = .ok (.iconst 0, 1) := by decide +kernel
theorem d_P_init_14 : decode prog_5_method_1_code 14 = .ok (.putfield 15, 3) := by decide +kernel
theorem d_P_init_17 : decode prog_5_method_1_code 17 = .ok (.aload_n 0, 1) := by decide +kernel
theorem d_P_init_18 : decode prog_5_method_1_code 18 = .ok (.iconst 0, 1) := by decide +kernel
theorem d_P_init_19 : decode prog_5_method_1_code 19 = .ok (.putfield 19, 3) := by decide +kernel
theorem d_P_init_22 : decode prog_5_method_1_code 22 = .ok (.aload_n 0, 1) := by decide +kernel
theorem d_P_init_23 : decode prog_5_method_1_code 23 = .ok (.bipush 48, 2) := by decide +kernel
theorem d_P_init_25 : decode prog_5_method_1_code 25 = .ok (.newarray .int, 2) := by decide +kernel
theorem d_P_init_27 : decode prog_5_method_1_code 27 = .ok (.putfield 22, 3) := by decide +kernel
theorem d_P_init_30 : decode prog_5_method_1_code 30 = .ok (.aload_n 0, 1) := by decide +kernel
theorem d_P_init_31 : decode prog_5_method_1_code 31 = .ok (.bipush 24, 2) := by decide +kernel
theorem d_P_init_33 : decode prog_5_method_1_code 33 = .ok (.newarray .int, 2) := by decide +kernel
theorem d_P_init_35 : decode prog_5_method_1_code 35 = .ok (.putfield 25, 3) := by decide +kernel
theorem d_P_init_38 : decode prog_5_method_1_code 38 = .ok (.aload_n 0, 1) := by decide +kernel
theorem d_P_init_39 : decode prog_5_method_1_code 39 = .ok (.bipush 24, 2) := by decide +kernel
theorem d_P_init_41 : decode prog_5_method_1_code 41 = .ok (.newarray .int, 2) := by decide +kernel
theorem d_P_init_43 : decode prog_5_method_1_code 43 = .ok (.putfield 28, 3) := by decide +kernel
theorem d_P_init_46 : decode prog_5_method_1_code 46 = .ok (.aload_n 0, 1) := by decide +kernel
theorem d_P_init_47 : decode prog_5_method_1_code 47 = .ok (.bipush 24, 2) := by decide +kernel
theorem d_P_init_49 : decode prog_5_method_1_code 49 = .ok (.newarray .int, 2) := by decide +kernel
theorem d_P_init_51 : decode prog_5_method_1_code 51 = .ok (.putfield 31, 3) := by decide +kernel
theorem d_P_init_54 : decode prog_5_method_1_code 54 = .ok (.aload_n 0, 1) := by decide +kernel
theorem d_P_init_55 : decode prog_5_method_1_code 55 = .ok (.bipush 24, 2) := by decide +kernel
theorem d_P_init_57 : decode prog_5_method_1_code 57 = .ok (.newarray .int, 2) := by decide +kernel
theorem d_P_init_59 : decode prog_5_method_1_code 59 = .ok (.putfield 34, 3) := by decide +kernel
theorem d_P_init_62 : decode prog_5_method_1_code 62 = .ok (.aload_n 0, 1) := by decide +kernel
theorem d_P_init_63 : decode prog_5_method_1_code 63 = .ok (.bipush 24, 2) := by decide +kernel
theorem d_P_init_65 : decode prog_5_method_1_code 65 = .ok (.newarray .int, 2) := by decide +kernel
theorem d_P_init_67 : decode prog_5_method_1_code 67 = .ok (.putfield 37, 3) := by decide +kernel
theorem d_P_init_70 : decode prog_5_method_1_code 70 = .ok (.return_, 1) := by decide +kernel
theorem d_C_init_0 : decode prog_2_method_1_code 0 = .ok (.aload_n 0, 1) := by decide +kernel
theorem d_C_init_1 : decode prog_2_method_1_code 1 = .ok (.invokespecial 3, 3) := by decide +kernel
theorem d_C_init_4 : decode prog_2_method_1_code 4 = .ok (.aload_n 0, 1) := by decide +kernel
theorem d_C_init_5 : decode prog_2_method_1_code 5 = .ok (.bipush 24, 2) := by decide +kernel
theorem d_C_init_7 : decode prog_2_method_1_code 7 = .ok (.newarray .int, 2) := by decide +kernel
theorem d_C_init_9 : decode prog_2_method_1_code 9 = .ok (.putfield 9, 3) := by decide +kernel
theorem d_C_init_12 : decode prog_2_method_1_code 12 = .ok (.aload_n 0, 1) := by decide +kernel
theorem d_C_init_13 : decode prog_2_method_1_code 13 = .ok (.bipush 48, 2) := by decide +kernel
theorem d_C_init_15 : decode prog_2_method_1_code 15 = .ok (.newarray .int, 2) := by decide +kernel
theorem d_C_init_17 : decode prog_2_method_1_code 17 = .ok (.putfield 15, 3) := by decide +kernel
theorem d_C_init_20 : decode prog_2_method_1_code 20 = .ok (.aload_n 0, 1) := by decide +kernel
theorem d_C_init_21 : decode prog_2_method_1_code 21 = .ok (.bipush 48, 2) := by decide +kernel
theorem d_C_init_23 : decode prog_2_method_1_code 23 = .ok (.newarray .int, 2) := by decide +kernel
theorem d_C_init_25 : decode prog_2_method_1_code 25 = .ok (.putfield 18, 3) := by decide +kernel
theorem d_C_init_28 : decode prog_2_method_1_code 28 = .ok (.aload_n 0, 1) := by decide +kernel
theorem d_C_init_29 : decode prog_2_method_1_code 29 = .ok (.bipush 24, 2) := by decide +kernel
theorem d_C_init_31 : decode prog_2_method_1_code 31 = .ok (.newarray .boolean, 2) := by decide +kernel
theorem d_C_init_33 : decode prog_2_method_1_code 33 = .ok (.putfield 21, 3) := by decide +kernel
theorem d_C_init_36 : decode prog_2_method_1_code 36 = .ok (.aload_n 0, 1) := by decide +kernel
theorem d_C_init_37 : decode prog_2_method_1_code 37 = .ok (.iconst 0, 1) := by decide +kernel
theorem d_C_init_38 : decode prog_2_method_1_code 38 = .ok (.putfield 25, 3) := by decide +kernel
theorem d_C_init_41 : decode prog_2_method_1_code 41 = .ok (.aload_n 0, 1) := by decide +kernel
theorem d_C_init_42 : decode prog_2_method_1_code 42 = .ok (.iconst 0, 1) := by decide +kernel
theorem d_C_init_43 : decode prog_2_method_1_code 43 = .ok (.putfield 29, 3) := by decide +kernel
theorem d_C_init_46 : decode prog_2_method_1_code 46 = .ok (.aload_n 0, 1) := by decide +kernel
theorem d_C_init_47 : decode prog_2_method_1_code 47 = .ok (.iconst 0, 1) := by decide +kernel
theorem d_C_init_48 : decode prog_2_method_1_code 48 = .ok (.putfield 32, 3) := by decide +kernel
theorem d_C_init_51 : decode prog_2_method_1_code 51 = .ok (.return_, 1) := by decide +kernel
theorem d_P_placeByNumber_0 : decode prog_5_method_2_code 0 = .ok (.iconst 0, 1) := by decide +kernel
theorem d_P_placeByNumber_1 : decode prog_5_method_2_code 1 = .ok (.istore_n 2, 1) := by decide +kernel
theorem d_P_placeByNumber_2 : decode prog_5_method_2_code 2 = .ok (.iload_n 2, 1) := by decide +kernel
theorem d_P_placeByNumber_3 : decode prog_5_method_2_code 3 = .ok (.aload_n 1, 1) := by decide +kernel
theorem d_P_placeByNumber_4 : decode prog_5_method_2_code 4 = .ok (.getfield 40, 3) := by decide +kernel
theorem d_P_placeByNumber_7 : decode prog_5_method_2_code 7 = .ok (.if_icmp .ge 16, 3) := by decide +kernel
theorem d_P_placeByNumber_10 : decode prog_5_method_2_code 10 = .ok (.aload_n 0, 1) := by decide +kernel
theorem d_P_placeByNumber_11 : decode prog_5_method_2_code 11 = .ok (.getfield 9, 3) := by decide +kernel
theorem d_P_placeByNumber_14 : decode prog_5_method_2_code 14 = .ok (.iload_n 2, 1) := by decide +kernel
theorem d_P_placeByNumber_15 : decode prog_5_method_2_code 15 = .ok (.iload_n 2, 1) := by decide +kernel
theorem d_P_placeByNumber_16 : decode prog_5_method_2_code 16 = .ok (.iastore, 1) := by decide +kernel
theorem d_P_placeByNumber_17 : decode prog_5_method_2_code 17 = .ok (.iinc 2 1, 3) := by decide +kernel
theorem d_P_placeByNumber_20 : decode prog_5_method_2_code 20 = .ok (.goto (-18), 3) := by decide +kernel
theorem d_P_placeByNumber_23 : decode prog_5_method_2_code 23 = .ok (.aload_n 0, 1) := by decide +kernel
theorem d_P_placeByNumber_24 : decode prog_5_method_2_code 24 = .ok (.aload_n 1, 1) := by decide +kernel
theorem d_P_placeByNumber_25 : decode prog_5_method_2_code 25 = .ok (.getfield 40, 3) := by decide +kernel
theorem d_P_placeByNumber_28 : decode prog_5_method_2_code 28 = .ok (.putfield 15, 3) := by decide +kernel
theorem d_P_placeByNumber_31 : decode prog_5_method_2_code 31 = .ok (.aload_n 0, 1) := by decide +kernel
theorem d_P_placeByNumber_32 : decode prog_5_method_2_code 32 = .ok (.iconst 0, 1) := by decide +kernel
theorem d_P_placeByNumber_33 : decode prog_5_method_2_code 33 = .ok (.putfield 19, 3) := by decide +kernel
theorem d_P_placeByNumber_36 : decode prog_5_method_2_code 36 = .ok (.return_, 1) := by decide +kernel
theorem d_P_placeByChains_0 : decode prog_5_method_3_code 0 = .ok (.aload_n 0, 1) := by decide +kernel
theorem d_P_placeByChains_1 : decode prog_5_method_3_code 1 = .ok (.aload_n 1, 1) := by decide +kernel
theorem d_P_placeByChains_2 : decode prog_5_method_3_code 2 = .ok (.aload_n 2, 1) := by decide +kernel
theorem d_P_placeByChains_3 : decode prog_5_method_3_code 3 = .ok (.invokevirtual 45, 3) := by decide +kernel
theorem d_P_placeByChains_6 : decode prog_5_method_3_code 6 = .ok (.aload_n 0, 1) := by decide +kernel
theorem d_P_placeByChains_7 : decode prog_5_method_3_code 7 = .ok (.aload_n 1, 1) := by decide +kernel
theorem d_P_placeByChains_8 : decode prog_5_method_3_code 8 = .ok (.aload_n 2, 1) := by decide +kernel
theorem d_P_placeByChains_9 : decode prog_5_method_3_code 9 = .ok (.invokevirtual 49, 3) := by decide +kernel
theorem d_P_placeByChains_12 : decode prog_5_method_3_code 12 = .ok (.istore_n 3, 1) := by decide +kernel
theorem d_P_placeByChains_13 : decode prog_5_method_3_code 13 = .ok (.iconst 0, 1) := by decide +kernel
theorem d_P_placeByChains_14 : decode prog_5_method_3_code 14 = .ok (.istore 4, 2) := by decide +kernel
theorem d_P_placeByChains_16 : decode prog_5_method_3_code 16 = .ok (.iload 4, 2) := by decide +kernel
theorem d_P_placeByChains_18 : decode prog_5_method_3_code 18 = .ok (.iload_n 3, 1) := by decide +kernel
theorem d_P_placeByChains_19 : decode prog_5_method_3_code 19 = .ok (.if_icmp .ge 35, 3) := by decide +kernel
theorem d_P_placeByChains_22 : decode prog_5_method_3_code 22 = .ok (.aload_n 0, 1) := by decide +kernel
theorem d_P_placeByChains_23 : decode prog_5_method_3_code 23 = .ok (.aload_n 1, 1) := by decide +kernel
theorem d_P_placeByChains_24 : decode prog_5_method_3_code 24 = .ok (.aload_n 0, 1) := by decide +kernel
theorem d_P_placeByChains_25 : decode prog_5_method_3_code 25 = .ok (.getfield 22, 3) := by decide +kernel
theorem d_P_placeByChains_28 : decode prog_5_method_3_code 28 = .ok (.iload 4, 2) := by decide +kernel
theorem d_P_placeByChains_30 : decode prog_5_method_3_code 30 = .ok (.iaload, 1) := by decide +kernel
theorem d_P_placeByChains_31 : decode prog_5_method_3_code 31 = .ok (.iconst 2, 1) := by decide +kernel
theorem d_P_placeByChains_32 : decode prog_5_method_3_code 32 = .ok (.idiv, 1) := by decide +kernel
theorem d_P_placeByChains_33 : decode prog_5_method_3_code 33 = .ok (.aload_n 1, 1) := by decide +kernel
theorem d_P_placeByChains_34 : decode prog_5_method_3_code 34 = .ok (.getfield 53, 3) := by decide +kernel
theorem d_P_placeByChains_37 : decode prog_5_method_3_code 37 = .ok (.aload_n 0, 1) := by decide +kernel
theorem d_P_placeByChains_38 : decode prog_5_method_3_code 38 = .ok (.getfield 22, 3) := by decide +kernel
theorem d_P_placeByChains_41 : decode prog_5_method_3_code 41 = .ok (.iload 4, 2) := by decide +kernel
theorem d_P_placeByChains_43 : decode prog_5_method_3_code 43 = .ok (.iaload, 1) := by decide +kernel
theorem d_P_placeByChains_44 : decode prog_5_method_3_code 44 = .ok (.iaload, 1) := by decide +kernel
theorem d_P_placeByChains_45 : decode prog_5_method_3_code 45 = .ok (.invokevirtual 56, 3) := by decide +kernel
theorem d_P_placeByChains_48 : decode prog_5_method_3_code 48 = .ok (.iinc 4 1, 3) := by decide +kernel
theorem d_P_placeByChains_51 : decode prog_5_method_3_code 51 = .ok (.goto (-35), 3) := by decide +kernel
theorem d_P_placeByChains_54 : decode prog_5_method_3_code 54 = .ok (.aload_n 0, 1) := by decide +kernel
theorem d_P_placeByChains_55 : decode prog_5_method_3_code 55 = .ok (.aload_n 1, 1) := by decide +kernel
theorem d_P_placeByChains_56 : decode prog_5_method_3_code 56 = .ok (.invokevirtual 60, 3) := by decide +kernel
theorem d_P_placeByChains_59 : decode prog_5_method_3_code 59 = .ok (.aload_n 0, 1) := by decide +kernel
theorem d_P_placeByChains_60 : decode prog_5_method_3_code 60 = .ok (.aload_n 1, 1) := by decide +kernel
theorem d_P_placeByChains_61 : decode prog_5_method_3_code 61 = .ok (.invokevirtual 64, 3) := by decide +kernel
theorem d_P_placeByChains_64 : decode prog_5_method_3_code 64 = .ok (.return_, 1) := by decide +kernel
theorem d_P_startChains_0 : decode prog_5_method_4_code 0 = .ok (.iconst 0, 1) := by decide +kernel
theorem d_P_startChains_1 : decode prog_5_method_4_code 1 = .ok (.istore_n 3, 1) := by decide +kernel
theorem d_P_startChains_2 : decode prog_5_method_4_code 2 = .ok (.iload_n 3, 1) := by decide +kernel
theorem d_P_startChains_3 : decode prog_5_method_4_code 3 = .ok (.aload_n 1, 1) := by decide +kernel
theorem d_P_startChains_4 : decode prog_5_method_4_code 4 = .ok (.getfield 40, 3) := by decide +kernel
theorem d_P_startChains_7 : decode prog_5_method_4_code 7 = .ok (.if_icmp .ge 47, 3) := by decide +kernel
theorem d_P_startChains_10 : decode prog_5_method_4_code 10 = .ok (.aload_n 0, 1) := by decide +kernel
theorem d_P_startChains_11 : decode prog_5_method_4_code 11 = .ok (.getfield 28, 3) := by decide +kernel
theorem d_P_startChains_14 : decode prog_5_method_4_code 14 = .ok (.iload_n 3, 1) := by decide +kernel
theorem d_P_startChains_15 : decode prog_5_method_4_code 15 = .ok (.iload_n 3, 1) := by decide +kernel
theorem d_P_startChains_16 : decode prog_5_method_4_code 16 = .ok (.iastore, 1) := by decide +kernel
theorem d_P_startChains_17 : decode prog_5_method_4_code 17 = .ok (.aload_n 0, 1) := by decide +kernel
theorem d_P_startChains_18 : decode prog_5_method_4_code 18 = .ok (.getfield 31, 3) := by decide +kernel
theorem d_P_startChains_21 : decode prog_5_method_4_code 21 = .ok (.iload_n 3, 1) := by decide +kernel
theorem d_P_startChains_22 : decode prog_5_method_4_code 22 = .ok (.iconst (-1), 1) := by decide +kernel
theorem d_P_startChains_23 : decode prog_5_method_4_code 23 = .ok (.iastore, 1) := by decide +kernel
theorem d_P_startChains_24 : decode prog_5_method_4_code 24 = .ok (.aload_n 0, 1) := by decide +kernel
theorem d_P_startChains_25 : decode prog_5_method_4_code 25 = .ok (.getfield 34, 3) := by decide +kernel
theorem d_P_startChains_28 : decode prog_5_method_4_code 28 = .ok (.iload_n 3, 1) := by decide +kernel
theorem d_P_startChains_29 : decode prog_5_method_4_code 29 = .ok (.aload_n 2, 1) := by decide +kernel
theorem d_P_startChains_30 : decode prog_5_method_4_code 30 = .ok (.getfield 67, 3) := by decide +kernel
theorem d_P_startChains_33 : decode prog_5_method_4_code 33 = .ok (.iload_n 3, 1) := by decide +kernel
theorem d_P_startChains_34 : decode prog_5_method_4_code 34 = .ok (.iaload, 1) := by decide +kernel
theorem d_P_startChains_35 : decode prog_5_method_4_code 35 = .ok (.iastore, 1) := by decide +kernel
theorem d_P_startChains_36 : decode prog_5_method_4_code 36 = .ok (.aload_n 0, 1) := by decide +kernel
theorem d_P_startChains_37 : decode prog_5_method_4_code 37 = .ok (.getfield 37, 3) := by decide +kernel
theorem d_P_startChains_40 : decode prog_5_method_4_code 40 = .ok (.iload_n 3, 1) := by decide +kernel
theorem d_P_startChains_41 : decode prog_5_method_4_code 41 = .ok (.aload_n 1, 1) := by decide +kernel
theorem d_P_startChains_42 : decode prog_5_method_4_code 42 = .ok (.getfield 72, 3) := by decide +kernel
theorem d_P_startChains_45 : decode prog_5_method_4_code 45 = .ok (.iload_n 3, 1) := by decide +kernel
theorem d_P_startChains_46 : decode prog_5_method_4_code 46 = .ok (.iaload, 1) := by decide +kernel
theorem d_P_startChains_47 : decode prog_5_method_4_code 47 = .ok (.iastore, 1) := by decide +kernel
theorem d_P_startChains_48 : decode prog_5_method_4_code 48 = .ok (.iinc 3 1, 3) := by decide +kernel
theorem d_P_startChains_51 : decode prog_5_method_4_code 51 = .ok (.goto (-49), 3) := by decide +kernel
theorem d_P_startChains_54 : decode prog_5_method_4_code 54 = .ok (.return_, 1) := by decide +kernel
theorem d_P_sortEdges_0 : decode prog_5_method_5_code 0 = .ok (.iconst 0, 1) := by decide +kernel
theorem d_P_sortEdges_1 : decode prog_5_method_5_code 1 = .ok (.istore_n 3, 1) := by decide +kernel
theorem d_P_sortEdges_2 : decode prog_5_method_5_code 2 = .ok (.iconst 0, 1) := by decide +kernel
theorem d_P_sortEdges_3 : decode prog_5_method_5_code 3 = .ok (.istore 4, 2) := by decide +kernel
theorem d_P_sortEdges_5 : decode prog_5_method_5_code 5 = .ok (.iload 4, 2) := by decide +kernel
theorem d_P_sortEdges_7 : decode prog_5_method_5_code 7 = .ok (.iconst 2, 1) := by decide +kernel
theorem d_P_sortEdges_8 : decode prog_5_method_5_code 8 = .ok (.aload_n 1, 1) := by decide +kernel
theorem d_P_sortEdges_9 : decode prog_5_method_5_code 9 = .ok (.getfield 40, 3) := by decide +kernel
theorem d_P_sortEdges_12 : decode prog_5_method_5_code 12 = .ok (.imul, 1) := by decide +kernel
theorem d_P_sortEdges_13 : decode prog_5_method_5_code 13 = .ok (.if_icmp .ge 85, 3) := by decide +kernel
theorem d_P_sortEdges_16 : decode prog_5_method_5_code 16 = .ok (.aload_n 1, 1) := by decide +kernel
theorem d_P_sortEdges_17 : decode prog_5_method_5_code 17 = .ok (.aload_n 2, 1) := by decide +kernel
theorem d_P_sortEdges_18 : decode prog_5_method_5_code 18 = .ok (.iload 4, 2) := by decide +kernel
theorem d_P_sortEdges_20 : decode prog_5_method_5_code 20 = .ok (.invokestatic 75, 3) := by decide +kernel
theorem d_P_sortEdges_23 : decode prog_5_method_5_code 23 = .ok (.ifCond .eq 69, 3) := by decide +kernel
theorem d_P_sortEdges_26 : decode prog_5_method_5_code 26 = .ok (.iload_n 3, 1) := by decide +kernel
theorem d_P_sortEdges_27 : decode prog_5_method_5_code 27 = .ok (.istore 5, 2) := by decide +kernel
theorem d_P_sortEdges_29 : decode prog_5_method_5_code 29 = .ok (.iload 5, 2) := by decide +kernel
theorem d_P_sortEdges_31 : decode prog_5_method_5_code 31 = .ok (.ifCond .le 49, 3) := by decide +kernel
theorem d_P_sortEdges_34 : decode prog_5_method_5_code 34 = .ok (.aload_n 2, 1) := by decide +kernel
theorem d_P_sortEdges_35 : decode prog_5_method_5_code 35 = .ok (.getfield 79, 3) := by decide +kernel
theorem d_P_sortEdges_38 : decode prog_5_method_5_code 38 = .ok (.aload_n 0, 1) := by decide +kernel
theorem d_P_sortEdges_39 : decode prog_5_method_5_code 39 = .ok (.getfield 22, 3) := by decide +kernel
theorem d_P_sortEdges_42 : decode prog_5_method_5_code 42 = .ok (.iload 5, 2) := by decide +kernel
theorem d_P_sortEdges_44 : decode prog_5_method_5_code 44 = .ok (.iconst 1, 1) := by decide +kernel
theorem d_P_sortEdges_45 : decode prog_5_method_5_code 45 = .ok (.isub, 1) := by decide +kernel
theorem d_P_sortEdges_46 : decode prog_5_method_5_code 46 = .ok (.iaload, 1) := by decide +kernel
theorem d_P_sortEdges_47 : decode prog_5_method_5_code 47 = .ok (.iaload, 1) := by decide +kernel
theorem d_P_sortEdges_48 : decode prog_5_method_5_code 48 = .ok (.aload_n 2, 1) := by decide +kernel
theorem d_P_sortEdges_49 : decode prog_5_method_5_code 49 = .ok (.getfield 79, 3) := by decide +kernel
theorem d_P_sortEdges_52 : decode prog_5_method_5_code 52 = .ok (.iload 4, 2) := by decide +kernel
theorem d_P_sortEdges_54 : decode prog_5_method_5_code 54 = .ok (.iaload, 1) := by decide +kernel
theorem d_P_sortEdges_55 : decode prog_5_method_5_code 55 = .ok (.if_icmp .ge 25, 3) := by decide +kernel
theorem d_P_sortEdges_58 : decode prog_5_method_5_code 58 = .ok (.aload_n 0, 1) := by decide +kernel
theorem d_P_sortEdges_59 : decode prog_5_method_5_code 59 = .ok (.getfield 22, 3) := by decide +kernel
theorem d_P_sortEdges_62 : decode prog_5_method_5_code 62 = .ok (.iload 5, 2) := by decide +kernel
theorem d_P_sortEdges_64 : decode prog_5_method_5_code 64 = .ok (.aload_n 0, 1) := by decide +kernel
theorem d_P_sortEdges_65 : decode prog_5_method_5_code 65 = .ok (.getfield 22, 3) := by decide +kernel
theorem d_P_sortEdges_68 : decode prog_5_method_5_code 68 = .ok (.iload 5, 2) := by decide +kernel
theorem d_P_sortEdges_70 : decode prog_5_method_5_code 70 = .ok (.iconst 1, 1) := by decide +kernel
theorem d_P_sortEdges_71 : decode prog_5_method_5_code 71 = .ok (.isub, 1) := by decide +kernel
theorem d_P_sortEdges_72 : decode prog_5_method_5_code 72 = .ok (.iaload, 1) := by decide +kernel
theorem d_P_sortEdges_73 : decode prog_5_method_5_code 73 = .ok (.iastore, 1) := by decide +kernel
theorem d_P_sortEdges_74 : decode prog_5_method_5_code 74 = .ok (.iinc 5 (-1), 3) := by decide +kernel
theorem d_P_sortEdges_77 : decode prog_5_method_5_code 77 = .ok (.goto (-48), 3) := by decide +kernel
theorem d_P_sortEdges_80 : decode prog_5_method_5_code 80 = .ok (.aload_n 0, 1) := by decide +kernel
theorem d_P_sortEdges_81 : decode prog_5_method_5_code 81 = .ok (.getfield 22, 3) := by decide +kernel
theorem d_P_sortEdges_84 : decode prog_5_method_5_code 84 = .ok (.iload 5, 2) := by decide +kernel
theorem d_P_sortEdges_86 : decode prog_5_method_5_code 86 = .ok (.iload 4, 2) := by decide +kernel
theorem d_P_sortEdges_88 : decode prog_5_method_5_code 88 = .ok (.iastore, 1) := by decide +kernel
theorem d_P_sortEdges_89 : decode prog_5_method_5_code 89 = .ok (.iinc 3 1, 3) := by decide +kernel
theorem d_P_sortEdges_92 : decode prog_5_method_5_code 92 = .ok (.iinc 4 1, 3) := by decide +kernel
theorem d_P_sortEdges_95 : decode prog_5_method_5_code 95 = .ok (.goto (-90), 3) := by decide +kernel
theorem d_P_sortEdges_98 : decode prog_5_method_5_code 98 = .ok (.iload_n 3, 1) := by decide +kernel
theorem d_P_sortEdges_99 : decode prog_5_method_5_code 99 = .ok (.ireturn, 1) := by decide +kernel
theorem d_P_mayJoin_0 : decode prog_5_method_6_code 0 = .ok (.iload_n 2, 1) := by decide +kernel
theorem d_P_mayJoin_1 : decode prog_5_method_6_code 1 = .ok (.iconst 2, 1) := by decide +kernel
theorem d_P_mayJoin_2 : decode prog_5_method_6_code 2 = .ok (.irem, 1) := by decide +kernel
theorem d_P_mayJoin_3 : decode prog_5_method_6_code 3 = .ok (.aload_n 0, 1) := by decide +kernel
theorem d_P_mayJoin_4 : decode prog_5_method_6_code 4 = .ok (.getfield 82, 3) := by decide +kernel
theorem d_P_mayJoin_7 : decode prog_5_method_6_code 7 = .ok (.iload_n 2, 1) := by decide +kernel
theorem d_P_mayJoin_8 : decode prog_5_method_6_code 8 = .ok (.iconst 2, 1) := by decide +kernel
theorem d_P_mayJoin_9 : decode prog_5_method_6_code 9 = .ok (.idiv, 1) := by decide +kernel
theorem d_P_mayJoin_10 : decode prog_5_method_6_code 10 = .ok (.iaload, 1) := by decide +kernel
theorem d_P_mayJoin_11 : decode prog_5_method_6_code 11 = .ok (.if_icmp .ge 28, 3) := by decide +kernel
theorem d_P_mayJoin_14 : decode prog_5_method_6_code 14 = .ok (.aload_n 1, 1) := by decide +kernel
theorem d_P_mayJoin_15 : decode prog_5_method_6_code 15 = .ok (.getfield 79, 3) := by decide +kernel
theorem d_P_mayJoin_18 : decode prog_5_method_6_code 18 = .ok (.iload_n 2, 1) := by decide +kernel
theorem d_P_mayJoin_19 : decode prog_5_method_6_code 19 = .ok (.iaload, 1) := by decide +kernel
theorem d_P_mayJoin_20 : decode prog_5_method_6_code 20 = .ok (.ifCond .le 19, 3) := by decide +kernel
theorem d_P_mayJoin_23 : decode prog_5_method_6_code 23 = .ok (.aload_n 0, 1) := by decide +kernel
theorem d_P_mayJoin_24 : decode prog_5_method_6_code 24 = .ok (.getfield 53, 3) := by decide +kernel
theorem d_P_mayJoin_27 : decode prog_5_method_6_code 27 = .ok (.iload_n 2, 1) := by decide +kernel
theorem d_P_mayJoin_28 : decode prog_5_method_6_code 28 = .ok (.iaload, 1) := by decide +kernel
theorem d_P_mayJoin_29 : decode prog_5_method_6_code 29 = .ok (.iload_n 2, 1) := by decide +kernel
theorem d_P_mayJoin_30 : decode prog_5_method_6_code 30 = .ok (.iconst 2, 1) := by decide +kernel
theorem d_P_mayJoin_31 : decode prog_5_method_6_code 31 = .ok (.idiv, 1) := by decide +kernel
theorem d_P_mayJoin_32 : decode prog_5_method_6_code 32 = .ok (.if_icmp .eq 7, 3) := by decide +kernel
theorem d_P_mayJoin_35 : decode prog_5_method_6_code 35 = .ok (.iconst 1, 1) := by decide +kernel
theorem d_P_mayJoin_36 : decode prog_5_method_6_code 36 = .ok (.goto 4, 3) := by decide +kernel
theorem d_P_mayJoin_39 : decode prog_5_method_6_code 39 = .ok (.iconst 0, 1) := by decide +kernel
theorem d_P_mayJoin_40 : decode prog_5_method_6_code 40 = .ok (.ireturn, 1) := by decide +kernel
theorem d_P_joinAlong_0 : decode prog_5_method_7_code 0 = .ok (.aload_n 0, 1) := by decide +kernel
theorem d_P_joinAlong_1 : decode prog_5_method_7_code 1 = .ok (.getfield 28, 3) := by decide +kernel
theorem d_P_joinAlong_4 : decode prog_5_method_7_code 4 = .ok (.iload_n 2, 1) := by decide +kernel
theorem d_P_joinAlong_5 : decode prog_5_method_7_code 5 = .ok (.iaload, 1) := by decide +kernel
theorem d_P_joinAlong_6 : decode prog_5_method_7_code 6 = .ok (.istore 4, 2) := by decide +kernel
theorem d_P_joinAlong_8 : decode prog_5_method_7_code 8 = .ok (.aload_n 0, 1) := by decide +kernel
theorem d_P_joinAlong_9 : decode prog_5_method_7_code 9 = .ok (.getfield 31, 3) := by decide +kernel
theorem d_P_joinAlong_12 : decode prog_5_method_7_code 12 = .ok (.iload_n 2, 1) := by decide +kernel
theorem d_P_joinAlong_13 : decode prog_5_method_7_code 13 = .ok (.iaload, 1) := by decide +kernel
theorem d_P_joinAlong_14 : decode prog_5_method_7_code 14 = .ok (.iconst (-1), 1) := by decide +kernel
theorem d_P_joinAlong_15 : decode prog_5_method_7_code 15 = .ok (.if_icmp .ne 27, 3) := by decide +kernel
theorem d_P_joinAlong_18 : decode prog_5_method_7_code 18 = .ok (.aload_n 0, 1) := by decide +kernel
theorem d_P_joinAlong_19 : decode prog_5_method_7_code 19 = .ok (.getfield 28, 3) := by decide +kernel
theorem d_P_joinAlong_22 : decode prog_5_method_7_code 22 = .ok (.iload_n 3, 1) := by decide +kernel
theorem d_P_joinAlong_23 : decode prog_5_method_7_code 23 = .ok (.iaload, 1) := by decide +kernel
theorem d_P_joinAlong_24 : decode prog_5_method_7_code 24 = .ok (.iload_n 3, 1) := by decide +kernel
theorem d_P_joinAlong_25 : decode prog_5_method_7_code 25 = .ok (.if_icmp .ne 17, 3) := by decide +kernel
theorem d_P_joinAlong_28 : decode prog_5_method_7_code 28 = .ok (.iload 4, 2) := by decide +kernel
theorem d_P_joinAlong_30 : decode prog_5_method_7_code 30 = .ok (.iload_n 3, 1) := by decide +kernel
theorem d_P_joinAlong_31 : decode prog_5_method_7_code 31 = .ok (.if_icmp .eq 11, 3) := by decide +kernel
theorem d_P_joinAlong_34 : decode prog_5_method_7_code 34 = .ok (.aload_n 1, 1) := by decide +kernel
theorem d_P_joinAlong_35 : decode prog_5_method_7_code 35 = .ok (.iload_n 3, 1) := by decide +kernel
theorem d_P_joinAlong_36 : decode prog_5_method_7_code 36 = .ok (.invokevirtual 85, 3) := by decide +kernel
theorem d_P_joinAlong_39 : decode prog_5_method_7_code 39 = .ok (.ifCond .eq 4, 3) := by decide +kernel
theorem d_P_joinAlong_42 : decode prog_5_method_7_code 42 = .ok (.return_, 1) := by decide +kernel
theorem d_P_joinAlong_43 : decode prog_5_method_7_code 43 = .ok (.aload_n 0, 1) := by decide +kernel
theorem d_P_joinAlong_44 : decode prog_5_method_7_code 44 = .ok (.getfield 31, 3) := by decide +kernel
theorem d_P_joinAlong_47 : decode prog_5_method_7_code 47 = .ok (.iload_n 2, 1) := by decide +kernel
theorem d_P_joinAlong_48 : decode prog_5_method_7_code 48 = .ok (.iload_n 3, 1) := by decide +kernel
theorem d_P_joinAlong_49 : decode prog_5_method_7_code 49 = .ok (.iastore, 1) := by decide +kernel
theorem d_P_joinAlong_50 : decode prog_5_method_7_code 50 = .ok (.aload_n 0, 1) := by decide +kernel
theorem d_P_joinAlong_51 : decode prog_5_method_7_code 51 = .ok (.getfield 34, 3) := by decide +kernel
theorem d_P_joinAlong_54 : decode prog_5_method_7_code 54 = .ok (.iload 4, 2) := by decide +kernel
theorem d_P_joinAlong_56 : decode prog_5_method_7_code 56 = .ok (.dup2, 1) := by decide +kernel
theorem d_P_joinAlong_57 : decode prog_5_method_7_code 57 = .ok (.iaload, 1) := by decide +kernel
theorem d_P_joinAlong_58 : decode prog_5_method_7_code 58 = .ok (.aload_n 0, 1) := by decide +kernel
theorem d_P_joinAlong_59 : decode prog_5_method_7_code 59 = .ok (.getfield 34, 3) := by decide +kernel
theorem d_P_joinAlong_62 : decode prog_5_method_7_code 62 = .ok (.iload_n 3, 1) := by decide +kernel
theorem d_P_joinAlong_63 : decode prog_5_method_7_code 63 = .ok (.iaload, 1) := by decide +kernel
theorem d_P_joinAlong_64 : decode prog_5_method_7_code 64 = .ok (.iadd, 1) := by decide +kernel
theorem d_P_joinAlong_65 : decode prog_5_method_7_code 65 = .ok (.iastore, 1) := by decide +kernel
theorem d_P_joinAlong_66 : decode prog_5_method_7_code 66 = .ok (.aload_n 0, 1) := by decide +kernel
theorem d_P_joinAlong_67 : decode prog_5_method_7_code 67 = .ok (.getfield 37, 3) := by decide +kernel
theorem d_P_joinAlong_70 : decode prog_5_method_7_code 70 = .ok (.iload 4, 2) := by decide +kernel
theorem d_P_joinAlong_72 : decode prog_5_method_7_code 72 = .ok (.dup2, 1) := by decide +kernel
theorem d_P_joinAlong_73 : decode prog_5_method_7_code 73 = .ok (.iaload, 1) := by decide +kernel
theorem d_P_joinAlong_74 : decode prog_5_method_7_code 74 = .ok (.aload_n 0, 1) := by decide +kernel
theorem d_P_joinAlong_75 : decode prog_5_method_7_code 75 = .ok (.getfield 37, 3) := by decide +kernel
theorem d_P_joinAlong_78 : decode prog_5_method_7_code 78 = .ok (.iload_n 3, 1) := by decide +kernel
theorem d_P_joinAlong_79 : decode prog_5_method_7_code 79 = .ok (.iaload, 1) := by decide +kernel
theorem d_P_joinAlong_80 : decode prog_5_method_7_code 80 = .ok (.iadd, 1) := by decide +kernel
theorem d_P_joinAlong_81 : decode prog_5_method_7_code 81 = .ok (.iastore, 1) := by decide +kernel
theorem d_P_joinAlong_82 : decode prog_5_method_7_code 82 = .ok (.iconst 0, 1) := by decide +kernel
theorem d_P_joinAlong_83 : decode prog_5_method_7_code 83 = .ok (.istore 5, 2) := by decide +kernel
theorem d_P_joinAlong_85 : decode prog_5_method_7_code 85 = .ok (.iload 5, 2) := by decide +kernel
theorem d_P_joinAlong_87 : decode prog_5_method_7_code 87 = .ok (.aload_n 1, 1) := by decide +kernel
theorem d_P_joinAlong_88 : decode prog_5_method_7_code 88 = .ok (.getfield 40, 3) := by decide +kernel
theorem d_P_joinAlong_91 : decode prog_5_method_7_code 91 = .ok (.if_icmp .ge 29, 3) := by decide +kernel
theorem d_P_joinAlong_94 : decode prog_5_method_7_code 94 = .ok (.aload_n 0, 1) := by decide +kernel
theorem d_P_joinAlong_95 : decode prog_5_method_7_code 95 = .ok (.getfield 28, 3) := by decide +kernel
theorem d_P_joinAlong_98 : decode prog_5_method_7_code 98 = .ok (.iload 5, 2) := by decide +kernel
theorem d_P_joinAlong_100 : decode prog_5_method_7_code 100 = .ok (.iaload, 1) := by decide +kernel
theorem d_P_joinAlong_101 : decode prog_5_method_7_code 101 = .ok (.iload_n 3, 1) := by decide +kernel
theorem d_P_joinAlong_102 : decode prog_5_method_7_code 102 = .ok (.if_icmp .ne 12, 3) := by decide +kernel
theorem d_P_joinAlong_105 : decode prog_5_method_7_code 105 = .ok (.aload_n 0, 1) := by decide +kernel
theorem d_P_joinAlong_106 : decode prog_5_method_7_code 106 = .ok (.getfield 28, 3) := by decide +kernel
theorem d_P_joinAlong_109 : decode prog_5_method_7_code 109 = .ok (.iload 5, 2) := by decide +kernel
theorem d_P_joinAlong_111 : decode prog_5_method_7_code 111 = .ok (.iload 4, 2) := by decide +kernel
theorem d_P_joinAlong_113 : decode prog_5_method_7_code 113 = .ok (.iastore, 1) := by decide +kernel
theorem d_P_joinAlong_114 : decode prog_5_method_7_code 114 = .ok (.iinc 5 1, 3) := by decide +kernel
theorem d_P_joinAlong_117 : decode prog_5_method_7_code 117 = .ok (.goto (-32), 3) := by decide +kernel
theorem d_P_joinAlong_120 : decode prog_5_method_7_code 120 = .ok (.return_, 1) := by decide +kernel
theorem d_P_sortHeads_0 : decode prog_5_method_8_code 0 = .ok (.aload_n 0, 1) := by decide +kernel
theorem d_P_sortHeads_1 : decode prog_5_method_8_code 1 = .ok (.iconst 0, 1) := by decide +kernel
theorem d_P_sortHeads_2 : decode prog_5_method_8_code 2 = .ok (.putfield 15, 3) := by decide +kernel
theorem d_P_sortHeads_5 : decode prog_5_method_8_code 5 = .ok (.iconst 0, 1) := by decide +kernel
theorem d_P_sortHeads_6 : decode prog_5_method_8_code 6 = .ok (.istore_n 2, 1) := by decide +kernel
theorem d_P_sortHeads_7 : decode prog_5_method_8_code 7 = .ok (.iload_n 2, 1) := by decide +kernel
theorem d_P_sortHeads_8 : decode prog_5_method_8_code 8 = .ok (.aload_n 1, 1) := by decide +kernel
theorem d_P_sortHeads_9 : decode prog_5_method_8_code 9 = .ok (.getfield 40, 3) := by decide +kernel
theorem d_P_sortHeads_12 : decode prog_5_method_8_code 12 = .ok (.if_icmp .ge 82, 3) := by decide +kernel
theorem d_P_sortHeads_15 : decode prog_5_method_8_code 15 = .ok (.aload_n 0, 1) := by decide +kernel
theorem d_P_sortHeads_16 : decode prog_5_method_8_code 16 = .ok (.getfield 28, 3) := by decide +kernel
theorem d_P_sortHeads_19 : decode prog_5_method_8_code 19 = .ok (.iload_n 2, 1) := by decide +kernel
theorem d_P_sortHeads_20 : decode prog_5_method_8_code 20 = .ok (.iaload, 1) := by decide +kernel
theorem d_P_sortHeads_21 : decode prog_5_method_8_code 21 = .ok (.iload_n 2, 1) := by decide +kernel
theorem d_P_sortHeads_22 : decode prog_5_method_8_code 22 = .ok (.if_icmp .ne 66, 3) := by decide +kernel
theorem d_P_sortHeads_25 : decode prog_5_method_8_code 25 = .ok (.aload_n 0, 1) := by decide +kernel
theorem d_P_sortHeads_26 : decode prog_5_method_8_code 26 = .ok (.getfield 15, 3) := by decide +kernel
theorem d_P_sortHeads_29 : decode prog_5_method_8_code 29 = .ok (.istore_n 3, 1) := by decide +kernel
theorem d_P_sortHeads_30 : decode prog_5_method_8_code 30 = .ok (.iload_n 3, 1) := by decide +kernel
theorem d_P_sortHeads_31 : decode prog_5_method_8_code 31 = .ok (.ifCond .le 40, 3) := by decide +kernel
theorem d_P_sortHeads_34 : decode prog_5_method_8_code 34 = .ok (.aload_n 0, 1) := by decide +kernel
theorem d_P_sortHeads_35 : decode prog_5_method_8_code 35 = .ok (.aload_n 1, 1) := by decide +kernel
theorem d_P_sortHeads_36 : decode prog_5_method_8_code 36 = .ok (.iload_n 2, 1) := by decide +kernel
theorem d_P_sortHeads_37 : decode prog_5_method_8_code 37 = .ok (.aload_n 0, 1) := by decide +kernel
theorem d_P_sortHeads_38 : decode prog_5_method_8_code 38 = .ok (.getfield 25, 3) := by decide +kernel
theorem d_P_sortHeads_41 : decode prog_5_method_8_code 41 = .ok (.iload_n 3, 1) := by decide +kernel
theorem d_P_sortHeads_42 : decode prog_5_method_8_code 42 = .ok (.iconst 1, 1) := by decide +kernel
theorem d_P_sortHeads_43 : decode prog_5_method_8_code 43 = .ok (.isub, 1) := by decide +kernel
theorem d_P_sortHeads_44 : decode prog_5_method_8_code 44 = .ok (.iaload, 1) := by decide +kernel
theorem d_P_sortHeads_45 : decode prog_5_method_8_code 45 = .ok (.invokevirtual 89, 3) := by decide +kernel
theorem d_P_sortHeads_48 : decode prog_5_method_8_code 48 = .ok (.ifCond .eq 23, 3) := by decide +kernel
theorem d_P_sortHeads_51 : decode prog_5_method_8_code 51 = .ok (.aload_n 0, 1) := by decide +kernel
theorem d_P_sortHeads_52 : decode prog_5_method_8_code 52 = .ok (.getfield 25, 3) := by decide +kernel
theorem d_P_sortHeads_55 : decode prog_5_method_8_code 55 = .ok (.iload_n 3, 1) := by decide +kernel
theorem d_P_sortHeads_56 : decode prog_5_method_8_code 56 = .ok (.aload_n 0, 1) := by decide +kernel
theorem d_P_sortHeads_57 : decode prog_5_method_8_code 57 = .ok (.getfield 25, 3) := by decide +kernel
theorem d_P_sortHeads_60 : decode prog_5_method_8_code 60 = .ok (.iload_n 3, 1) := by decide +kernel
theorem d_P_sortHeads_61 : decode prog_5_method_8_code 61 = .ok (.iconst 1, 1) := by decide +kernel
theorem d_P_sortHeads_62 : decode prog_5_method_8_code 62 = .ok (.isub, 1) := by decide +kernel
theorem d_P_sortHeads_63 : decode prog_5_method_8_code 63 = .ok (.iaload, 1) := by decide +kernel
theorem d_P_sortHeads_64 : decode prog_5_method_8_code 64 = .ok (.iastore, 1) := by decide +kernel
theorem d_P_sortHeads_65 : decode prog_5_method_8_code 65 = .ok (.iinc 3 (-1), 3) := by decide +kernel
theorem d_P_sortHeads_68 : decode prog_5_method_8_code 68 = .ok (.goto (-38), 3) := by decide +kernel
theorem d_P_sortHeads_71 : decode prog_5_method_8_code 71 = .ok (.aload_n 0, 1) := by decide +kernel
theorem d_P_sortHeads_72 : decode prog_5_method_8_code 72 = .ok (.getfield 25, 3) := by decide +kernel
theorem d_P_sortHeads_75 : decode prog_5_method_8_code 75 = .ok (.iload_n 3, 1) := by decide +kernel
theorem d_P_sortHeads_76 : decode prog_5_method_8_code 76 = .ok (.iload_n 2, 1) := by decide +kernel
theorem d_P_sortHeads_77 : decode prog_5_method_8_code 77 = .ok (.iastore, 1) := by decide +kernel
theorem d_P_sortHeads_78 : decode prog_5_method_8_code 78 = .ok (.aload_n 0, 1) := by decide +kernel
theorem d_P_sortHeads_79 : decode prog_5_method_8_code 79 = .ok (.dup, 1) := by decide +kernel
theorem d_P_sortHeads_80 : decode prog_5_method_8_code 80 = .ok (.getfield 15, 3) := by decide +kernel
theorem d_P_sortHeads_83 : decode prog_5_method_8_code 83 = .ok (.iconst 1, 1) := by decide +kernel
theorem d_P_sortHeads_84 : decode prog_5_method_8_code 84 = .ok (.iadd, 1) := by decide +kernel
theorem d_P_sortHeads_85 : decode prog_5_method_8_code 85 = .ok (.putfield 15, 3) := by decide +kernel
theorem d_P_sortHeads_88 : decode prog_5_method_8_code 88 = .ok (.iinc 2 1, 3) := by decide +kernel
theorem d_P_sortHeads_91 : decode prog_5_method_8_code 91 = .ok (.goto (-84), 3) := by decide +kernel
theorem d_P_sortHeads_94 : decode prog_5_method_8_code 94 = .ok (.return_, 1) := by decide +kernel
theorem d_P_comesBefore_0 : decode prog_5_method_9_code 0 = .ok (.aload_n 0, 1) := by decide +kernel
theorem d_P_comesBefore_1 : decode prog_5_method_9_code 1 = .ok (.aload_n 1, 1) := by decide +kernel
theorem d_P_comesBefore_2 : decode prog_5_method_9_code 2 = .ok (.iload_n 2, 1) := by decide +kernel
theorem d_P_comesBefore_3 : decode prog_5_method_9_code 3 = .ok (.invokevirtual 93, 3) := by decide +kernel
theorem d_P_comesBefore_6 : decode prog_5_method_9_code 6 = .ok (.aload_n 0, 1) := by decide +kernel
theorem d_P_comesBefore_7 : decode prog_5_method_9_code 7 = .ok (.aload_n 1, 1) := by decide +kernel
theorem d_P_comesBefore_8 : decode prog_5_method_9_code 8 = .ok (.iload_n 3, 1) := by decide +kernel
theorem d_P_comesBefore_9 : decode prog_5_method_9_code 9 = .ok (.invokevirtual 93, 3) := by decide +kernel
theorem d_P_comesBefore_12 : decode prog_5_method_9_code 12 = .ok (.if_icmp .eq 10, 3) := by decide +kernel
theorem d_P_comesBefore_15 : decode prog_5_method_9_code 15 = .ok (.aload_n 0, 1) := by decide +kernel
theorem d_P_comesBefore_16 : decode prog_5_method_9_code 16 = .ok (.aload_n 1, 1) := by decide +kernel
theorem d_P_comesBefore_17 : decode prog_5_method_9_code 17 = .ok (.iload_n 3, 1) := by decide +kernel
theorem d_P_comesBefore_18 : decode prog_5_method_9_code 18 = .ok (.invokevirtual 93, 3) := by decide +kernel
theorem d_P_comesBefore_21 : decode prog_5_method_9_code 21 = .ok (.ireturn, 1) := by decide +kernel
theorem d_P_comesBefore_22 : decode prog_5_method_9_code 22 = .ok (.aload_n 1, 1) := by decide +kernel
theorem d_P_comesBefore_23 : decode prog_5_method_9_code 23 = .ok (.getfield 97, 3) := by decide +kernel
theorem d_P_comesBefore_26 : decode prog_5_method_9_code 26 = .ok (.iload_n 2, 1) := by decide +kernel
theorem d_P_comesBefore_27 : decode prog_5_method_9_code 27 = .ok (.iaload, 1) := by decide +kernel
theorem d_P_comesBefore_28 : decode prog_5_method_9_code 28 = .ok (.aload_n 1, 1) := by decide +kernel
theorem d_P_comesBefore_29 : decode prog_5_method_9_code 29 = .ok (.getfield 97, 3) := by decide +kernel
theorem d_P_comesBefore_32 : decode prog_5_method_9_code 32 = .ok (.iload_n 3, 1) := by decide +kernel
theorem d_P_comesBefore_33 : decode prog_5_method_9_code 33 = .ok (.iaload, 1) := by decide +kernel
theorem d_P_comesBefore_34 : decode prog_5_method_9_code 34 = .ok (.if_icmp .eq 24, 3) := by decide +kernel
theorem d_P_comesBefore_37 : decode prog_5_method_9_code 37 = .ok (.aload_n 1, 1) := by decide +kernel
theorem d_P_comesBefore_38 : decode prog_5_method_9_code 38 = .ok (.getfield 97, 3) := by decide +kernel
theorem d_P_comesBefore_41 : decode prog_5_method_9_code 41 = .ok (.iload_n 2, 1) := by decide +kernel
theorem d_P_comesBefore_42 : decode prog_5_method_9_code 42 = .ok (.iaload, 1) := by decide +kernel
theorem d_P_comesBefore_43 : decode prog_5_method_9_code 43 = .ok (.aload_n 1, 1) := by decide +kernel
theorem d_P_comesBefore_44 : decode prog_5_method_9_code 44 = .ok (.getfield 97, 3) := by decide +kernel
theorem d_P_comesBefore_47 : decode prog_5_method_9_code 47 = .ok (.iload_n 3, 1) := by decide +kernel
theorem d_P_comesBefore_48 : decode prog_5_method_9_code 48 = .ok (.iaload, 1) := by decide +kernel
theorem d_P_comesBefore_49 : decode prog_5_method_9_code 49 = .ok (.if_icmp .ge 7, 3) := by decide +kernel
theorem d_P_comesBefore_52 : decode prog_5_method_9_code 52 = .ok (.iconst 1, 1) := by decide +kernel
theorem d_P_comesBefore_53 : decode prog_5_method_9_code 53 = .ok (.goto 4, 3) := by decide +kernel
theorem d_P_comesBefore_56 : decode prog_5_method_9_code 56 = .ok (.iconst 0, 1) := by decide +kernel
theorem d_P_comesBefore_57 : decode prog_5_method_9_code 57 = .ok (.ireturn, 1) := by decide +kernel
theorem d_P_comesBefore_58 : decode prog_5_method_9_code 58 = .ok (.aload_n 1, 1) := by decide +kernel
theorem d_P_comesBefore_59 : decode prog_5_method_9_code 59 = .ok (.iload_n 2, 1) := by decide +kernel
theorem d_P_comesBefore_60 : decode prog_5_method_9_code 60 = .ok (.invokevirtual 85, 3) := by decide +kernel
theorem d_P_comesBefore_63 : decode prog_5_method_9_code 63 = .ok (.aload_n 1, 1) := by decide +kernel
theorem d_P_comesBefore_64 : decode prog_5_method_9_code 64 = .ok (.iload_n 3, 1) := by decide +kernel
theorem d_P_comesBefore_65 : decode prog_5_method_9_code 65 = .ok (.invokevirtual 85, 3) := by decide +kernel
theorem d_P_comesBefore_68 : decode prog_5_method_9_code 68 = .ok (.if_icmp .eq 9, 3) := by decide +kernel
theorem d_P_comesBefore_71 : decode prog_5_method_9_code 71 = .ok (.aload_n 1, 1) := by decide +kernel
theorem d_P_comesBefore_72 : decode prog_5_method_9_code 72 = .ok (.iload_n 2, 1) := by decide +kernel
theorem d_P_comesBefore_73 : decode prog_5_method_9_code 73 = .ok (.invokevirtual 85, 3) := by decide +kernel
theorem d_P_comesBefore_76 : decode prog_5_method_9_code 76 = .ok (.ireturn, 1) := by decide +kernel
theorem d_P_comesBefore_77 : decode prog_5_method_9_code 77 = .ok (.aload_n 0, 1) := by decide +kernel
theorem d_P_comesBefore_78 : decode prog_5_method_9_code 78 = .ok (.getfield 34, 3) := by decide +kernel
theorem d_P_comesBefore_81 : decode prog_5_method_9_code 81 = .ok (.iload_n 2, 1) := by decide +kernel
theorem d_P_comesBefore_82 : decode prog_5_method_9_code 82 = .ok (.iaload, 1) := by decide +kernel
theorem d_P_comesBefore_83 : decode prog_5_method_9_code 83 = .ok (.i2l, 1) := by decide +kernel
theorem d_P_comesBefore_84 : decode prog_5_method_9_code 84 = .ok (.aload_n 0, 1) := by decide +kernel
theorem d_P_comesBefore_85 : decode prog_5_method_9_code 85 = .ok (.getfield 37, 3) := by decide +kernel
theorem d_P_comesBefore_88 : decode prog_5_method_9_code 88 = .ok (.iload_n 3, 1) := by decide +kernel
theorem d_P_comesBefore_89 : decode prog_5_method_9_code 89 = .ok (.iaload, 1) := by decide +kernel
theorem d_P_comesBefore_90 : decode prog_5_method_9_code 90 = .ok (.i2l, 1) := by decide +kernel
theorem d_P_comesBefore_91 : decode prog_5_method_9_code 91 = .ok (.lmul, 1) := by decide +kernel
theorem d_P_comesBefore_92 : decode prog_5_method_9_code 92 = .ok (.lstore 4, 2) := by decide +kernel
theorem d_P_comesBefore_94 : decode prog_5_method_9_code 94 = .ok (.aload_n 0, 1) := by decide +kernel
theorem d_P_comesBefore_95 : decode prog_5_method_9_code 95 = .ok (.getfield 34, 3) := by decide +kernel
theorem d_P_comesBefore_98 : decode prog_5_method_9_code 98 = .ok (.iload_n 3, 1) := by decide +kernel
theorem d_P_comesBefore_99 : decode prog_5_method_9_code 99 = .ok (.iaload, 1) := by decide +kernel
theorem d_P_comesBefore_100 : decode prog_5_method_9_code 100 = .ok (.i2l, 1) := by decide +kernel
theorem d_P_comesBefore_101 : decode prog_5_method_9_code 101 = .ok (.aload_n 0, 1) := by decide +kernel
theorem d_P_comesBefore_102 : decode prog_5_method_9_code 102 = .ok (.getfield 37, 3) := by decide +kernel
theorem d_P_comesBefore_105 : decode prog_5_method_9_code 105 = .ok (.iload_n 2, 1) := by decide +kernel
theorem d_P_comesBefore_106 : decode prog_5_method_9_code 106 = .ok (.iaload, 1) := by decide +kernel
theorem d_P_comesBefore_107 : decode prog_5_method_9_code 107 = .ok (.i2l, 1) := by decide +kernel
theorem d_P_comesBefore_108 : decode prog_5_method_9_code 108 = .ok (.lmul, 1) := by decide +kernel
theorem d_P_comesBefore_109 : decode prog_5_method_9_code 109 = .ok (.lstore 6, 2) := by decide +kernel
theorem d_P_comesBefore_111 : decode prog_5_method_9_code 111 = .ok (.lload 4, 2) := by decide +kernel
theorem d_P_comesBefore_113 : decode prog_5_method_9_code 113 = .ok (.lload 6, 2) := by decide +kernel
theorem d_P_comesBefore_115 : decode prog_5_method_9_code 115 = .ok (.lcmp, 1) := by decide +kernel
theorem d_P_comesBefore_116 : decode prog_5_method_9_code 116 = .ok (.ifCond .eq 19, 3) := by decide +kernel
theorem d_P_comesBefore_119 : decode prog_5_method_9_code 119 = .ok (.lload 4, 2) := by decide +kernel
theorem d_P_comesBefore_121 : decode prog_5_method_9_code 121 = .ok (.lload 6, 2) := by decide +kernel
theorem d_P_comesBefore_123 : decode prog_5_method_9_code 123 = .ok (.lcmp, 1) := by decide +kernel
theorem d_P_comesBefore_124 : decode prog_5_method_9_code 124 = .ok (.ifCond .le 7, 3) := by decide +kernel
theorem d_P_comesBefore_127 : decode prog_5_method_9_code 127 = .ok (.iconst 1, 1) := by decide +kernel
theorem d_P_comesBefore_128 : decode prog_5_method_9_code 128 = .ok (.goto 17, 3) := by decide +kernel
theorem d_P_comesBefore_131 : decode prog_5_method_9_code 131 = .ok (.iconst 0, 1) := by decide +kernel
theorem d_P_comesBefore_132 : decode prog_5_method_9_code 132 = .ok (.goto 13, 3) := by decide +kernel
theorem d_P_comesBefore_135 : decode prog_5_method_9_code 135 = .ok (.iload_n 2, 1) := by decide +kernel
theorem d_P_comesBefore_136 : decode prog_5_method_9_code 136 = .ok (.iload_n 3, 1) := by decide +kernel
theorem d_P_comesBefore_137 : decode prog_5_method_9_code 137 = .ok (.if_icmp .ge 7, 3) := by decide +kernel
theorem d_P_comesBefore_140 : decode prog_5_method_9_code 140 = .ok (.iconst 1, 1) := by decide +kernel
theorem d_P_comesBefore_141 : decode prog_5_method_9_code 141 = .ok (.goto 4, 3) := by decide +kernel
theorem d_P_comesBefore_144 : decode prog_5_method_9_code 144 = .ok (.iconst 0, 1) := by decide +kernel
theorem d_P_comesBefore_145 : decode prog_5_method_9_code 145 = .ok (.ireturn, 1) := by decide +kernel
theorem d_P_isCold_0 : decode prog_5_method_10_code 0 = .ok (.aload_n 0, 1) := by decide +kernel
theorem d_P_isCold_1 : decode prog_5_method_10_code 1 = .ok (.getfield 34, 3) := by decide +kernel
theorem d_P_isCold_4 : decode prog_5_method_10_code 4 = .ok (.iload_n 2, 1) := by decide +kernel
theorem d_P_isCold_5 : decode prog_5_method_10_code 5 = .ok (.iaload, 1) := by decide +kernel
theorem d_P_isCold_6 : decode prog_5_method_10_code 6 = .ok (.ifCond .ne 15, 3) := by decide +kernel
theorem d_P_isCold_9 : decode prog_5_method_10_code 9 = .ok (.aload_n 1, 1) := by decide +kernel
theorem d_P_isCold_10 : decode prog_5_method_10_code 10 = .ok (.iload_n 2, 1) := by decide +kernel
theorem d_P_isCold_11 : decode prog_5_method_10_code 11 = .ok (.invokevirtual 85, 3) := by decide +kernel
theorem d_P_isCold_14 : decode prog_5_method_10_code 14 = .ok (.ifCond .ne 7, 3) := by decide +kernel
theorem d_P_isCold_17 : decode prog_5_method_10_code 17 = .ok (.iconst 1, 1) := by decide +kernel
theorem d_P_isCold_18 : decode prog_5_method_10_code 18 = .ok (.goto 4, 3) := by decide +kernel
theorem d_P_isCold_21 : decode prog_5_method_10_code 21 = .ok (.iconst 0, 1) := by decide +kernel
theorem d_P_isCold_22 : decode prog_5_method_10_code 22 = .ok (.ireturn, 1) := by decide +kernel
theorem d_P_writeOrder_0 : decode prog_5_method_11_code 0 = .ok (.iconst 0, 1) := by decide +kernel
theorem d_P_writeOrder_1 : decode prog_5_method_11_code 1 = .ok (.istore_n 2, 1) := by decide +kernel
theorem d_P_writeOrder_2 : decode prog_5_method_11_code 2 = .ok (.aload_n 0, 1) := by decide +kernel
theorem d_P_writeOrder_3 : decode prog_5_method_11_code 3 = .ok (.iconst 0, 1) := by decide +kernel
theorem d_P_writeOrder_4 : decode prog_5_method_11_code 4 = .ok (.putfield 19, 3) := by decide +kernel
theorem d_P_writeOrder_7 : decode prog_5_method_11_code 7 = .ok (.iconst 0, 1) := by decide +kernel
theorem d_P_writeOrder_8 : decode prog_5_method_11_code 8 = .ok (.istore_n 3, 1) := by decide +kernel
theorem d_P_writeOrder_9 : decode prog_5_method_11_code 9 = .ok (.iload_n 3, 1) := by decide +kernel
theorem d_P_writeOrder_10 : decode prog_5_method_11_code 10 = .ok (.aload_n 0, 1) := by decide +kernel
theorem d_P_writeOrder_11 : decode prog_5_method_11_code 11 = .ok (.getfield 15, 3) := by decide +kernel
theorem d_P_writeOrder_14 : decode prog_5_method_11_code 14 = .ok (.if_icmp .ge 86, 3) := by decide +kernel
theorem d_P_writeOrder_17 : decode prog_5_method_11_code 17 = .ok (.aload_n 0, 1) := by decide +kernel
theorem d_P_writeOrder_18 : decode prog_5_method_11_code 18 = .ok (.aload_n 1, 1) := by decide +kernel
theorem d_P_writeOrder_19 : decode prog_5_method_11_code 19 = .ok (.aload_n 0, 1) := by decide +kernel
theorem d_P_writeOrder_20 : decode prog_5_method_11_code 20 = .ok (.getfield 25, 3) := by decide +kernel
theorem d_P_writeOrder_23 : decode prog_5_method_11_code 23 = .ok (.iload_n 3, 1) := by decide +kernel
theorem d_P_writeOrder_24 : decode prog_5_method_11_code 24 = .ok (.iaload, 1) := by decide +kernel
theorem d_P_writeOrder_25 : decode prog_5_method_11_code 25 = .ok (.invokevirtual 93, 3) := by decide +kernel
theorem d_P_writeOrder_28 : decode prog_5_method_11_code 28 = .ok (.istore 4, 2) := by decide +kernel
theorem d_P_writeOrder_30 : decode prog_5_method_11_code 30 = .ok (.aload_n 0, 1) := by decide +kernel
theorem d_P_writeOrder_31 : decode prog_5_method_11_code 31 = .ok (.getfield 25, 3) := by decide +kernel
theorem d_P_writeOrder_34 : decode prog_5_method_11_code 34 = .ok (.iload_n 3, 1) := by decide +kernel
theorem d_P_writeOrder_35 : decode prog_5_method_11_code 35 = .ok (.iaload, 1) := by decide +kernel
theorem d_P_writeOrder_36 : decode prog_5_method_11_code 36 = .ok (.istore 5, 2) := by decide +kernel
theorem d_P_writeOrder_38 : decode prog_5_method_11_code 38 = .ok (.iload 5, 2) := by decide +kernel
theorem d_P_writeOrder_40 : decode prog_5_method_11_code 40 = .ok (.iconst (-1), 1) := by decide +kernel
theorem d_P_writeOrder_41 : decode prog_5_method_11_code 41 = .ok (.if_icmp .eq 53, 3) := by decide +kernel
theorem d_P_writeOrder_44 : decode prog_5_method_11_code 44 = .ok (.iload_n 2, 1) := by decide +kernel
theorem d_P_writeOrder_45 : decode prog_5_method_11_code 45 = .ok (.aload_n 1, 1) := by decide +kernel
theorem d_P_writeOrder_46 : decode prog_5_method_11_code 46 = .ok (.getfield 40, 3) := by decide +kernel
theorem d_P_writeOrder_49 : decode prog_5_method_11_code 49 = .ok (.if_icmp .ge 45, 3) := by decide +kernel
theorem d_P_writeOrder_52 : decode prog_5_method_11_code 52 = .ok (.aload_n 0, 1) := by decide +kernel
theorem d_P_writeOrder_53 : decode prog_5_method_11_code 53 = .ok (.getfield 9, 3) := by decide +kernel
theorem d_P_writeOrder_56 : decode prog_5_method_11_code 56 = .ok (.iload_n 2, 1) := by decide +kernel
theorem d_P_writeOrder_57 : decode prog_5_method_11_code 57 = .ok (.iload 5, 2) := by decide +kernel
theorem d_P_writeOrder_59 : decode prog_5_method_11_code 59 = .ok (.iastore, 1) := by decide +kernel
theorem d_P_writeOrder_60 : decode prog_5_method_11_code 60 = .ok (.iinc 2 1, 3) := by decide +kernel
theorem d_P_writeOrder_63 : decode prog_5_method_11_code 63 = .ok (.aload_n 0, 1) := by decide +kernel
theorem d_P_writeOrder_64 : decode prog_5_method_11_code 64 = .ok (.dup, 1) := by decide +kernel
theorem d_P_writeOrder_65 : decode prog_5_method_11_code 65 = .ok (.getfield 19, 3) := by decide +kernel
theorem d_P_writeOrder_68 : decode prog_5_method_11_code 68 = .ok (.iload 4, 2) := by decide +kernel
theorem d_P_writeOrder_70 : decode prog_5_method_11_code 70 = .ok (.ifCond .eq 7, 3) := by decide +kernel
theorem d_P_writeOrder_73 : decode prog_5_method_11_code 73 = .ok (.iconst 1, 1) := by decide +kernel
theorem d_P_writeOrder_74 : decode prog_5_method_11_code 74 = .ok (.goto 4, 3) := by decide +kernel
theorem d_P_writeOrder_77 : decode prog_5_method_11_code 77 = .ok (.iconst 0, 1) := by decide +kernel
theorem d_P_writeOrder_78 : decode prog_5_method_11_code 78 = .ok (.iadd, 1) := by decide +kernel
theorem d_P_writeOrder_79 : decode prog_5_method_11_code 79 = .ok (.putfield 19, 3) := by decide +kernel
theorem d_P_writeOrder_82 : decode prog_5_method_11_code 82 = .ok (.aload_n 0, 1) := by decide +kernel
theorem d_P_writeOrder_83 : decode prog_5_method_11_code 83 = .ok (.getfield 31, 3) := by decide +kernel
theorem d_P_writeOrder_86 : decode prog_5_method_11_code 86 = .ok (.iload 5, 2) := by decide +kernel
theorem d_P_writeOrder_88 : decode prog_5_method_11_code 88 = .ok (.iaload, 1) := by decide +kernel
theorem d_P_writeOrder_89 : decode prog_5_method_11_code 89 = .ok (.istore 5, 2) := by decide +kernel
theorem d_P_writeOrder_91 : decode prog_5_method_11_code 91 = .ok (.goto (-53), 3) := by decide +kernel
theorem d_P_writeOrder_94 : decode prog_5_method_11_code 94 = .ok (.iinc 3 1, 3) := by decide +kernel
theorem d_P_writeOrder_97 : decode prog_5_method_11_code 97 = .ok (.goto (-88), 3) := by decide +kernel
theorem d_P_writeOrder_100 : decode prog_5_method_11_code 100 = .ok (.return_, 1) := by decide +kernel
theorem d_C_lay_0 : decode prog_2_method_2_code 0 = .ok (.aload_n 0, 1) := by decide +kernel
theorem d_C_lay_1 : decode prog_2_method_2_code 1 = .ok (.iconst 0, 1) := by decide +kernel
theorem d_C_lay_2 : decode prog_2_method_2_code 2 = .ok (.putfield 29, 3) := by decide +kernel
theorem d_C_lay_5 : decode prog_2_method_2_code 5 = .ok (.aload_n 0, 1) := by decide +kernel
theorem d_C_lay_6 : decode prog_2_method_2_code 6 = .ok (.iconst 0, 1) := by decide +kernel
theorem d_C_lay_7 : decode prog_2_method_2_code 7 = .ok (.putfield 32, 3) := by decide +kernel
theorem d_C_lay_10 : decode prog_2_method_2_code 10 = .ok (.iconst 0, 1) := by decide +kernel
theorem d_C_lay_11 : decode prog_2_method_2_code 11 = .ok (.istore 4, 2) := by decide +kernel
theorem d_C_lay_13 : decode prog_2_method_2_code 13 = .ok (.iload 4, 2) := by decide +kernel
theorem d_C_lay_15 : decode prog_2_method_2_code 15 = .ok (.aload_n 1, 1) := by decide +kernel
theorem d_C_lay_16 : decode prog_2_method_2_code 16 = .ok (.getfield 35, 3) := by decide +kernel
theorem d_C_lay_19 : decode prog_2_method_2_code 19 = .ok (.if_icmp .ge 39, 3) := by decide +kernel
theorem d_C_lay_22 : decode prog_2_method_2_code 22 = .ok (.aload_n 0, 1) := by decide +kernel
theorem d_C_lay_23 : decode prog_2_method_2_code 23 = .ok (.aload_n 1, 1) := by decide +kernel
theorem d_C_lay_24 : decode prog_2_method_2_code 24 = .ok (.aload_n 2, 1) := by decide +kernel
theorem d_C_lay_25 : decode prog_2_method_2_code 25 = .ok (.iload 4, 2) := by decide +kernel
theorem d_C_lay_27 : decode prog_2_method_2_code 27 = .ok (.iaload, 1) := by decide +kernel
theorem d_C_lay_28 : decode prog_2_method_2_code 28 = .ok (.iload 4, 2) := by decide +kernel
theorem d_C_lay_30 : decode prog_2_method_2_code 30 = .ok (.iconst 1, 1) := by decide +kernel
theorem d_C_lay_31 : decode prog_2_method_2_code 31 = .ok (.iadd, 1) := by decide +kernel
theorem d_C_lay_32 : decode prog_2_method_2_code 32 = .ok (.aload_n 1, 1) := by decide +kernel
theorem d_C_lay_33 : decode prog_2_method_2_code 33 = .ok (.getfield 35, 3) := by decide +kernel
theorem d_C_lay_36 : decode prog_2_method_2_code 36 = .ok (.if_icmp .ge 12, 3) := by decide +kernel
theorem d_C_lay_39 : decode prog_2_method_2_code 39 = .ok (.aload_n 2, 1) := by decide +kernel
theorem d_C_lay_40 : decode prog_2_method_2_code 40 = .ok (.iload 4, 2) := by decide +kernel
theorem d_C_lay_42 : decode prog_2_method_2_code 42 = .ok (.iconst 1, 1) := by decide +kernel
theorem d_C_lay_43 : decode prog_2_method_2_code 43 = .ok (.iadd, 1) := by decide +kernel
theorem d_C_lay_44 : decode prog_2_method_2_code 44 = .ok (.iaload, 1) := by decide +kernel
theorem d_C_lay_45 : decode prog_2_method_2_code 45 = .ok (.goto 4, 3) := by decide +kernel
theorem d_C_lay_48 : decode prog_2_method_2_code 48 = .ok (.iconst (-1), 1) := by decide +kernel
theorem d_C_lay_49 : decode prog_2_method_2_code 49 = .ok (.invokevirtual 40, 3) := by decide +kernel
theorem d_C_lay_52 : decode prog_2_method_2_code 52 = .ok (.iinc 4 1, 3) := by decide +kernel
theorem d_C_lay_55 : decode prog_2_method_2_code 55 = .ok (.goto (-42), 3) := by decide +kernel
theorem d_C_lay_58 : decode prog_2_method_2_code 58 = .ok (.aload_n 0, 1) := by decide +kernel
theorem d_C_lay_59 : decode prog_2_method_2_code 59 = .ok (.aload_n 1, 1) := by decide +kernel
theorem d_C_lay_60 : decode prog_2_method_2_code 60 = .ok (.aload_n 2, 1) := by decide +kernel
theorem d_C_lay_61 : decode prog_2_method_2_code 61 = .ok (.invokevirtual 44, 3) := by decide +kernel
theorem d_C_lay_64 : decode prog_2_method_2_code 64 = .ok (.iconst 0, 1) := by decide +kernel
theorem d_C_lay_65 : decode prog_2_method_2_code 65 = .ok (.istore 4, 2) := by decide +kernel
theorem d_C_lay_67 : decode prog_2_method_2_code 67 = .ok (.iload 4, 2) := by decide +kernel
theorem d_C_lay_69 : decode prog_2_method_2_code 69 = .ok (.bipush 48, 2) := by decide +kernel
theorem d_C_lay_71 : decode prog_2_method_2_code 71 = .ok (.if_icmp .ge 24, 3) := by decide +kernel
theorem d_C_lay_74 : decode prog_2_method_2_code 74 = .ok (.aload_n 0, 1) := by decide +kernel
theorem d_C_lay_75 : decode prog_2_method_2_code 75 = .ok (.aload_n 1, 1) := by decide +kernel
theorem d_C_lay_76 : decode prog_2_method_2_code 76 = .ok (.iload_n 3, 1) := by decide +kernel
theorem d_C_lay_77 : decode prog_2_method_2_code 77 = .ok (.invokevirtual 48, 3) := by decide +kernel
theorem d_C_lay_80 : decode prog_2_method_2_code 80 = .ok (.ifCond .eq 15, 3) := by decide +kernel
theorem d_C_lay_83 : decode prog_2_method_2_code 83 = .ok (.aload_n 0, 1) := by decide +kernel
theorem d_C_lay_84 : decode prog_2_method_2_code 84 = .ok (.aload_n 1, 1) := by decide +kernel
theorem d_C_lay_85 : decode prog_2_method_2_code 85 = .ok (.aload_n 2, 1) := by decide +kernel
theorem d_C_lay_86 : decode prog_2_method_2_code 86 = .ok (.invokevirtual 44, 3) := by decide +kernel
theorem d_C_lay_89 : decode prog_2_method_2_code 89 = .ok (.iinc 4 1, 3) := by decide +kernel
theorem d_C_lay_92 : decode prog_2_method_2_code 92 = .ok (.goto (-25), 3) := by decide +kernel
theorem d_C_lay_95 : decode prog_2_method_2_code 95 = .ok (.return_, 1) := by decide +kernel
theorem d_C_chooseBranches_0 : decode prog_2_method_3_code 0 = .ok (.aload_n 1, 1) := by decide +kernel
theorem d_C_chooseBranches_1 : decode prog_2_method_3_code 1 = .ok (.getfield 52, 3) := by decide +kernel
theorem d_C_chooseBranches_4 : decode prog_2_method_3_code 4 = .ok (.iconst 2, 1) := by decide +kernel
theorem d_C_chooseBranches_5 : decode prog_2_method_3_code 5 = .ok (.iload_n 2, 1) := by decide +kernel
theorem d_C_chooseBranches_6 : decode prog_2_method_3_code 6 = .ok (.imul, 1) := by decide +kernel
theorem d_C_chooseBranches_7 : decode prog_2_method_3_code 7 = .ok (.iaload, 1) := by decide +kernel
theorem d_C_chooseBranches_8 : decode prog_2_method_3_code 8 = .ok (.istore 4, 2) := by decide +kernel
theorem d_C_chooseBranches_10 : decode prog_2_method_3_code 10 = .ok (.aload_n 1, 1) := by decide +kernel
theorem d_C_chooseBranches_11 : decode prog_2_method_3_code 11 = .ok (.getfield 52, 3) := by decide +kernel
theorem d_C_chooseBranches_14 : decode prog_2_method_3_code 14 = .ok (.iconst 2, 1) := by decide +kernel
theorem d_C_chooseBranches_15 : decode prog_2_method_3_code 15 = .ok (.iload_n 2, 1) := by decide +kernel
theorem d_C_chooseBranches_16 : decode prog_2_method_3_code 16 = .ok (.imul, 1) := by decide +kernel
theorem d_C_chooseBranches_17 : decode prog_2_method_3_code 17 = .ok (.iconst 1, 1) := by decide +kernel
theorem d_C_chooseBranches_18 : decode prog_2_method_3_code 18 = .ok (.iadd, 1) := by decide +kernel
theorem d_C_chooseBranches_19 : decode prog_2_method_3_code 19 = .ok (.iaload, 1) := by decide +kernel
theorem d_C_chooseBranches_20 : decode prog_2_method_3_code 20 = .ok (.istore 5, 2) := by decide +kernel
theorem d_C_chooseBranches_22 : decode prog_2_method_3_code 22 = .ok (.aload_n 0, 1) := by decide +kernel
theorem d_C_chooseBranches_23 : decode prog_2_method_3_code 23 = .ok (.iload_n 2, 1) := by decide +kernel
theorem d_C_chooseBranches_24 : decode prog_2_method_3_code 24 = .ok (.invokevirtual 55, 3) := by decide +kernel
theorem d_C_chooseBranches_27 : decode prog_2_method_3_code 27 = .ok (.aload_n 1, 1) := by decide +kernel
theorem d_C_chooseBranches_28 : decode prog_2_method_3_code 28 = .ok (.getfield 59, 3) := by decide +kernel
theorem d_C_chooseBranches_31 : decode prog_2_method_3_code 31 = .ok (.iload_n 2, 1) := by decide +kernel
theorem d_C_chooseBranches_32 : decode prog_2_method_3_code 32 = .ok (.iaload, 1) := by decide +kernel
theorem d_C_chooseBranches_33 : decode prog_2_method_3_code 33 = .ok (.iconst 1, 1) := by decide +kernel
theorem d_C_chooseBranches_34 : decode prog_2_method_3_code 34 = .ok (.if_icmp .ne 21, 3) := by decide +kernel
theorem d_C_chooseBranches_37 : decode prog_2_method_3_code 37 = .ok (.iload 4, 2) := by decide +kernel
theorem d_C_chooseBranches_39 : decode prog_2_method_3_code 39 = .ok (.iload_n 3, 1) := by decide +kernel
theorem d_C_chooseBranches_40 : decode prog_2_method_3_code 40 = .ok (.if_icmp .eq 88, 3) := by decide +kernel
theorem d_C_chooseBranches_43 : decode prog_2_method_3_code 43 = .ok (.aload_n 0, 1) := by decide +kernel
theorem d_C_chooseBranches_44 : decode prog_2_method_3_code 44 = .ok (.iconst 2, 1) := by decide +kernel
theorem d_C_chooseBranches_45 : decode prog_2_method_3_code 45 = .ok (.iload_n 2, 1) := by decide +kernel
theorem d_C_chooseBranches_46 : decode prog_2_method_3_code 46 = .ok (.imul, 1) := by decide +kernel
theorem d_C_chooseBranches_47 : decode prog_2_method_3_code 47 = .ok (.iload 4, 2) := by decide +kernel
theorem d_C_chooseBranches_49 : decode prog_2_method_3_code 49 = .ok (.invokevirtual 62, 3) := by decide +kernel
theorem d_C_chooseBranches_52 : decode prog_2_method_3_code 52 = .ok (.goto 76, 3) := by decide +kernel
theorem d_C_chooseBranches_55 : decode prog_2_method_3_code 55 = .ok (.aload_n 1, 1) := by decide +kernel
theorem d_C_chooseBranches_56 : decode prog_2_method_3_code 56 = .ok (.getfield 59, 3) := by decide +kernel
theorem d_C_chooseBranches_59 : decode prog_2_method_3_code 59 = .ok (.iload_n 2, 1) := by decide +kernel
theorem d_C_chooseBranches_60 : decode prog_2_method_3_code 60 = .ok (.iaload, 1) := by decide +kernel
theorem d_C_chooseBranches_61 : decode prog_2_method_3_code 61 = .ok (.iconst 2, 1) := by decide +kernel
theorem d_C_chooseBranches_62 : decode prog_2_method_3_code 62 = .ok (.if_icmp .ne 66, 3) := by decide +kernel
theorem d_C_chooseBranches_65 : decode prog_2_method_3_code 65 = .ok (.iload 5, 2) := by decide +kernel
theorem d_C_chooseBranches_67 : decode prog_2_method_3_code 67 = .ok (.iload_n 3, 1) := by decide +kernel
theorem d_C_chooseBranches_68 : decode prog_2_method_3_code 68 = .ok (.if_icmp .ne 15, 3) := by decide +kernel
theorem d_C_chooseBranches_71 : decode prog_2_method_3_code 71 = .ok (.aload_n 0, 1) := by decide +kernel
theorem d_C_chooseBranches_72 : decode prog_2_method_3_code 72 = .ok (.iconst 2, 1) := by decide +kernel
theorem d_C_chooseBranches_73 : decode prog_2_method_3_code 73 = .ok (.iload_n 2, 1) := by decide +kernel
theorem d_C_chooseBranches_74 : decode prog_2_method_3_code 74 = .ok (.imul, 1) := by decide +kernel
theorem d_C_chooseBranches_75 : decode prog_2_method_3_code 75 = .ok (.iload 4, 2) := by decide +kernel
theorem d_C_chooseBranches_77 : decode prog_2_method_3_code 77 = .ok (.invokevirtual 62, 3) := by decide +kernel
theorem d_C_chooseBranches_80 : decode prog_2_method_3_code 80 = .ok (.goto 48, 3) := by decide +kernel
theorem d_C_chooseBranches_83 : decode prog_2_method_3_code 83 = .ok (.iload 4, 2) := by decide +kernel
theorem d_C_chooseBranches_85 : decode prog_2_method_3_code 85 = .ok (.iload_n 3, 1) := by decide +kernel
theorem d_C_chooseBranches_86 : decode prog_2_method_3_code 86 = .ok (.if_icmp .ne 22, 3) := by decide +kernel
theorem d_C_chooseBranches_89 : decode prog_2_method_3_code 89 = .ok (.aload_n 0, 1) := by decide +kernel
theorem d_C_chooseBranches_90 : decode prog_2_method_3_code 90 = .ok (.iconst 2, 1) := by decide +kernel
theorem d_C_chooseBranches_91 : decode prog_2_method_3_code 91 = .ok (.iload_n 2, 1) := by decide +kernel
theorem d_C_chooseBranches_92 : decode prog_2_method_3_code 92 = .ok (.imul, 1) := by decide +kernel
theorem d_C_chooseBranches_93 : decode prog_2_method_3_code 93 = .ok (.iload 5, 2) := by decide +kernel
theorem d_C_chooseBranches_95 : decode prog_2_method_3_code 95 = .ok (.invokevirtual 62, 3) := by decide +kernel
theorem d_C_chooseBranches_98 : decode prog_2_method_3_code 98 = .ok (.aload_n 0, 1) := by decide +kernel
theorem d_C_chooseBranches_99 : decode prog_2_method_3_code 99 = .ok (.getfield 21, 3) := by decide +kernel
theorem d_C_chooseBranches_102 : decode prog_2_method_3_code 102 = .ok (.iload_n 2, 1) := by decide +kernel
theorem d_C_chooseBranches_103 : decode prog_2_method_3_code 103 = .ok (.iconst 1, 1) := by decide +kernel
theorem d_C_chooseBranches_104 : decode prog_2_method_3_code 104 = .ok (.bastore, 1) := by decide +kernel
theorem d_C_chooseBranches_105 : decode prog_2_method_3_code 105 = .ok (.goto 23, 3) := by decide +kernel
theorem d_C_chooseBranches_108 : decode prog_2_method_3_code 108 = .ok (.aload_n 0, 1) := by decide +kernel
theorem d_C_chooseBranches_109 : decode prog_2_method_3_code 109 = .ok (.iconst 2, 1) := by decide +kernel
theorem d_C_chooseBranches_110 : decode prog_2_method_3_code 110 = .ok (.iload_n 2, 1) := by decide +kernel
theorem d_C_chooseBranches_111 : decode prog_2_method_3_code 111 = .ok (.imul, 1) := by decide +kernel
theorem d_C_chooseBranches_112 : decode prog_2_method_3_code 112 = .ok (.iload 4, 2) := by decide +kernel
theorem d_C_chooseBranches_114 : decode prog_2_method_3_code 114 = .ok (.invokevirtual 62, 3) := by decide +kernel
theorem d_C_chooseBranches_117 : decode prog_2_method_3_code 117 = .ok (.aload_n 0, 1) := by decide +kernel
theorem d_C_chooseBranches_118 : decode prog_2_method_3_code 118 = .ok (.iconst 2, 1) := by decide +kernel
theorem d_C_chooseBranches_119 : decode prog_2_method_3_code 119 = .ok (.iload_n 2, 1) := by decide +kernel
theorem d_C_chooseBranches_120 : decode prog_2_method_3_code 120 = .ok (.imul, 1) := by decide +kernel
theorem d_C_chooseBranches_121 : decode prog_2_method_3_code 121 = .ok (.iconst 1, 1) := by decide +kernel
theorem d_C_chooseBranches_122 : decode prog_2_method_3_code 122 = .ok (.iadd, 1) := by decide +kernel
theorem d_C_chooseBranches_123 : decode prog_2_method_3_code 123 = .ok (.iload 5, 2) := by decide +kernel
theorem d_C_chooseBranches_125 : decode prog_2_method_3_code 125 = .ok (.invokevirtual 62, 3) := by decide +kernel
theorem d_C_chooseBranches_128 : decode prog_2_method_3_code 128 = .ok (.return_, 1) := by decide +kernel
theorem d_C_clearBranches_0 : decode prog_2_method_4_code 0 = .ok (.aload_n 0, 1) := by decide +kernel
theorem d_C_clearBranches_1 : decode prog_2_method_4_code 1 = .ok (.getfield 21, 3) := by decide +kernel
theorem d_C_clearBranches_4 : decode prog_2_method_4_code 4 = .ok (.iload_n 1, 1) := by decide +kernel
theorem d_C_clearBranches_5 : decode prog_2_method_4_code 5 = .ok (.iconst 0, 1) := by decide +kernel
theorem d_C_clearBranches_6 : decode prog_2_method_4_code 6 = .ok (.bastore, 1) := by decide +kernel
theorem d_C_clearBranches_7 : decode prog_2_method_4_code 7 = .ok (.iconst 2, 1) := by decide +kernel
theorem d_C_clearBranches_8 : decode prog_2_method_4_code 8 = .ok (.iload_n 1, 1) := by decide +kernel
theorem d_C_clearBranches_9 : decode prog_2_method_4_code 9 = .ok (.imul, 1) := by decide +kernel
theorem d_C_clearBranches_10 : decode prog_2_method_4_code 10 = .ok (.istore_n 2, 1) := by decide +kernel
theorem d_C_clearBranches_11 : decode prog_2_method_4_code 11 = .ok (.iload_n 2, 1) := by decide +kernel
theorem d_C_clearBranches_12 : decode prog_2_method_4_code 12 = .ok (.iconst 2, 1) := by decide +kernel
theorem d_C_clearBranches_13 : decode prog_2_method_4_code 13 = .ok (.iload_n 1, 1) := by decide +kernel
theorem d_C_clearBranches_14 : decode prog_2_method_4_code 14 = .ok (.imul, 1) := by decide +kernel
theorem d_C_clearBranches_15 : decode prog_2_method_4_code 15 = .ok (.iconst 2, 1) := by decide +kernel
theorem d_C_clearBranches_16 : decode prog_2_method_4_code 16 = .ok (.iadd, 1) := by decide +kernel
theorem d_C_clearBranches_17 : decode prog_2_method_4_code 17 = .ok (.if_icmp .ge 23, 3) := by decide +kernel
theorem d_C_clearBranches_20 : decode prog_2_method_4_code 20 = .ok (.aload_n 0, 1) := by decide +kernel
theorem d_C_clearBranches_21 : decode prog_2_method_4_code 21 = .ok (.getfield 15, 3) := by decide +kernel
theorem d_C_clearBranches_24 : decode prog_2_method_4_code 24 = .ok (.iload_n 2, 1) := by decide +kernel
theorem d_C_clearBranches_25 : decode prog_2_method_4_code 25 = .ok (.iconst (-1), 1) := by decide +kernel
theorem d_C_clearBranches_26 : decode prog_2_method_4_code 26 = .ok (.iastore, 1) := by decide +kernel
theorem d_C_clearBranches_27 : decode prog_2_method_4_code 27 = .ok (.aload_n 0, 1) := by decide +kernel
theorem d_C_clearBranches_28 : decode prog_2_method_4_code 28 = .ok (.getfield 18, 3) := by decide +kernel
theorem d_C_clearBranches_31 : decode prog_2_method_4_code 31 = .ok (.iload_n 2, 1) := by decide +kernel
theorem d_C_clearBranches_32 : decode prog_2_method_4_code 32 = .ok (.iconst 0, 1) := by decide +kernel
theorem d_C_clearBranches_33 : decode prog_2_method_4_code 33 = .ok (.iastore, 1) := by decide +kernel
theorem d_C_clearBranches_34 : decode prog_2_method_4_code 34 = .ok (.iinc 2 1, 3) := by decide +kernel
theorem d_C_clearBranches_37 : decode prog_2_method_4_code 37 = .ok (.goto (-26), 3) := by decide +kernel
theorem d_C_clearBranches_40 : decode prog_2_method_4_code 40 = .ok (.return_, 1) := by decide +kernel
theorem d_C_putBranch_0 : decode prog_2_method_5_code 0 = .ok (.aload_n 0, 1) := by decide +kernel
theorem d_C_putBranch_1 : decode prog_2_method_5_code 1 = .ok (.getfield 15, 3) := by decide +kernel
theorem d_C_putBranch_4 : decode prog_2_method_5_code 4 = .ok (.iload_n 1, 1) := by decide +kernel
theorem d_C_putBranch_5 : decode prog_2_method_5_code 5 = .ok (.iload_n 2, 1) := by decide +kernel
theorem d_C_putBranch_6 : decode prog_2_method_5_code 6 = .ok (.iastore, 1) := by decide +kernel
theorem d_C_putBranch_7 : decode prog_2_method_5_code 7 = .ok (.aload_n 0, 1) := by decide +kernel
theorem d_C_putBranch_8 : decode prog_2_method_5_code 8 = .ok (.getfield 18, 3) := by decide +kernel
theorem d_C_putBranch_11 : decode prog_2_method_5_code 11 = .ok (.iload_n 1, 1) := by decide +kernel
theorem d_C_putBranch_12 : decode prog_2_method_5_code 12 = .ok (.iconst 1, 1) := by decide +kernel
theorem d_C_putBranch_13 : decode prog_2_method_5_code 13 = .ok (.iastore, 1) := by decide +kernel
theorem d_C_putBranch_14 : decode prog_2_method_5_code 14 = .ok (.aload_n 0, 1) := by decide +kernel
theorem d_C_putBranch_15 : decode prog_2_method_5_code 15 = .ok (.dup, 1) := by decide +kernel
theorem d_C_putBranch_16 : decode prog_2_method_5_code 16 = .ok (.getfield 29, 3) := by decide +kernel
theorem d_C_putBranch_19 : decode prog_2_method_5_code 19 = .ok (.iconst 1, 1) := by decide +kernel
theorem d_C_putBranch_20 : decode prog_2_method_5_code 20 = .ok (.iadd, 1) := by decide +kernel
theorem d_C_putBranch_21 : decode prog_2_method_5_code 21 = .ok (.putfield 29, 3) := by decide +kernel
theorem d_C_putBranch_24 : decode prog_2_method_5_code 24 = .ok (.return_, 1) := by decide +kernel
theorem d_C_measure_0 : decode prog_2_method_6_code 0 = .ok (.aload_n 0, 1) := by decide +kernel
theorem d_C_measure_1 : decode prog_2_method_6_code 1 = .ok (.iconst 0, 1) := by decide +kernel
theorem d_C_measure_2 : decode prog_2_method_6_code 2 = .ok (.putfield 25, 3) := by decide +kernel
theorem d_C_measure_5 : decode prog_2_method_6_code 5 = .ok (.iconst 0, 1) := by decide +kernel
theorem d_C_measure_6 : decode prog_2_method_6_code 6 = .ok (.istore_n 3, 1) := by decide +kernel
theorem d_C_measure_7 : decode prog_2_method_6_code 7 = .ok (.iload_n 3, 1) := by decide +kernel
theorem d_C_measure_8 : decode prog_2_method_6_code 8 = .ok (.aload_n 1, 1) := by decide +kernel
theorem d_C_measure_9 : decode prog_2_method_6_code 9 = .ok (.getfield 35, 3) := by decide +kernel
theorem d_C_measure_12 : decode prog_2_method_6_code 12 = .ok (.if_icmp .ge 87, 3) := by decide +kernel
theorem d_C_measure_15 : decode prog_2_method_6_code 15 = .ok (.aload_n 2, 1) := by decide +kernel
theorem d_C_measure_16 : decode prog_2_method_6_code 16 = .ok (.iload_n 3, 1) := by decide +kernel
theorem d_C_measure_17 : decode prog_2_method_6_code 17 = .ok (.iaload, 1) := by decide +kernel
theorem d_C_measure_18 : decode prog_2_method_6_code 18 = .ok (.istore 4, 2) := by decide +kernel
theorem d_C_measure_20 : decode prog_2_method_6_code 20 = .ok (.aload_n 0, 1) := by decide +kernel
theorem d_C_measure_21 : decode prog_2_method_6_code 21 = .ok (.getfield 9, 3) := by decide +kernel
theorem d_C_measure_24 : decode prog_2_method_6_code 24 = .ok (.iload 4, 2) := by decide +kernel
theorem d_C_measure_26 : decode prog_2_method_6_code 26 = .ok (.aload_n 0, 1) := by decide +kernel
theorem d_C_measure_27 : decode prog_2_method_6_code 27 = .ok (.getfield 25, 3) := by decide +kernel
theorem d_C_measure_30 : decode prog_2_method_6_code 30 = .ok (.iastore, 1) := by decide +kernel
theorem d_C_measure_31 : decode prog_2_method_6_code 31 = .ok (.aload_n 0, 1) := by decide +kernel
theorem d_C_measure_32 : decode prog_2_method_6_code 32 = .ok (.dup, 1) := by decide +kernel
theorem d_C_measure_33 : decode prog_2_method_6_code 33 = .ok (.getfield 25, 3) := by decide +kernel
theorem d_C_measure_36 : decode prog_2_method_6_code 36 = .ok (.aload_n 1, 1) := by decide +kernel
theorem d_C_measure_37 : decode prog_2_method_6_code 37 = .ok (.getfield 66, 3) := by decide +kernel
theorem d_C_measure_40 : decode prog_2_method_6_code 40 = .ok (.iload 4, 2) := by decide +kernel
theorem d_C_measure_42 : decode prog_2_method_6_code 42 = .ok (.iaload, 1) := by decide +kernel
theorem d_C_measure_43 : decode prog_2_method_6_code 43 = .ok (.aload_n 0, 1) := by decide +kernel
theorem d_C_measure_44 : decode prog_2_method_6_code 44 = .ok (.getfield 18, 3) := by decide +kernel
theorem d_C_measure_47 : decode prog_2_method_6_code 47 = .ok (.iconst 2, 1) := by decide +kernel
theorem d_C_measure_48 : decode prog_2_method_6_code 48 = .ok (.iload 4, 2) := by decide +kernel
theorem d_C_measure_50 : decode prog_2_method_6_code 50 = .ok (.imul, 1) := by decide +kernel
theorem d_C_measure_51 : decode prog_2_method_6_code 51 = .ok (.iaload, 1) := by decide +kernel
theorem d_C_measure_52 : decode prog_2_method_6_code 52 = .ok (.iadd, 1) := by decide +kernel
theorem d_C_measure_53 : decode prog_2_method_6_code 53 = .ok (.aload_n 0, 1) := by decide +kernel
theorem d_C_measure_54 : decode prog_2_method_6_code 54 = .ok (.getfield 18, 3) := by decide +kernel
theorem d_C_measure_57 : decode prog_2_method_6_code 57 = .ok (.iconst 2, 1) := by decide +kernel
theorem d_C_measure_58 : decode prog_2_method_6_code 58 = .ok (.iload 4, 2) := by decide +kernel
theorem d_C_measure_60 : decode prog_2_method_6_code 60 = .ok (.imul, 1) := by decide +kernel
theorem d_C_measure_61 : decode prog_2_method_6_code 61 = .ok (.iconst 1, 1) := by decide +kernel
theorem d_C_measure_62 : decode prog_2_method_6_code 62 = .ok (.iadd, 1) := by decide +kernel
theorem d_C_measure_63 : decode prog_2_method_6_code 63 = .ok (.iaload, 1) := by decide +kernel
theorem d_C_measure_64 : decode prog_2_method_6_code 64 = .ok (.iadd, 1) := by decide +kernel
theorem d_C_measure_65 : decode prog_2_method_6_code 65 = .ok (.iadd, 1) := by decide +kernel
theorem d_C_measure_66 : decode prog_2_method_6_code 66 = .ok (.putfield 25, 3) := by decide +kernel
theorem d_C_measure_69 : decode prog_2_method_6_code 69 = .ok (.aload_n 0, 1) := by decide +kernel
theorem d_C_measure_70 : decode prog_2_method_6_code 70 = .ok (.dup, 1) := by decide +kernel
theorem d_C_measure_71 : decode prog_2_method_6_code 71 = .ok (.getfield 25, 3) := by decide +kernel
theorem d_C_measure_74 : decode prog_2_method_6_code 74 = .ok (.aload_n 1, 1) := by decide +kernel
theorem d_C_measure_75 : decode prog_2_method_6_code 75 = .ok (.getfield 59, 3) := by decide +kernel
theorem d_C_measure_78 : decode prog_2_method_6_code 78 = .ok (.iload 4, 2) := by decide +kernel
theorem d_C_measure_80 : decode prog_2_method_6_code 80 = .ok (.iaload, 1) := by decide +kernel
theorem d_C_measure_81 : decode prog_2_method_6_code 81 = .ok (.ifCond .ne 7, 3) := by decide +kernel
theorem d_C_measure_84 : decode prog_2_method_6_code 84 = .ok (.iconst 1, 1) := by decide +kernel
theorem d_C_measure_85 : decode prog_2_method_6_code 85 = .ok (.goto 4, 3) := by decide +kernel
theorem d_C_measure_88 : decode prog_2_method_6_code 88 = .ok (.iconst 0, 1) := by decide +kernel
theorem d_C_measure_89 : decode prog_2_method_6_code 89 = .ok (.iadd, 1) := by decide +kernel
theorem d_C_measure_90 : decode prog_2_method_6_code 90 = .ok (.putfield 25, 3) := by decide +kernel
theorem d_C_measure_93 : decode prog_2_method_6_code 93 = .ok (.iinc 3 1, 3) := by decide +kernel
theorem d_C_measure_96 : decode prog_2_method_6_code 96 = .ok (.goto (-89), 3) := by decide +kernel
theorem d_C_measure_99 : decode prog_2_method_6_code 99 = .ok (.return_, 1) := by decide +kernel
theorem d_C_lengthen_0 : decode prog_2_method_7_code 0 = .ok (.iconst 0, 1) := by decide +kernel
theorem d_C_lengthen_1 : decode prog_2_method_7_code 1 = .ok (.istore_n 3, 1) := by decide +kernel
theorem d_C_lengthen_2 : decode prog_2_method_7_code 2 = .ok (.iconst 0, 1) := by decide +kernel
theorem d_C_lengthen_3 : decode prog_2_method_7_code 3 = .ok (.istore 4, 2) := by decide +kernel
theorem d_C_lengthen_5 : decode prog_2_method_7_code 5 = .ok (.iload 4, 2) := by decide +kernel
theorem d_C_lengthen_7 : decode prog_2_method_7_code 7 = .ok (.aload_n 1, 1) := by decide +kernel
theorem d_C_lengthen_8 : decode prog_2_method_7_code 8 = .ok (.getfield 35, 3) := by decide +kernel
theorem d_C_lengthen_11 : decode prog_2_method_7_code 11 = .ok (.if_icmp .ge 70, 3) := by decide +kernel
theorem d_C_lengthen_14 : decode prog_2_method_7_code 14 = .ok (.aload_n 0, 1) := by decide +kernel
theorem d_C_lengthen_15 : decode prog_2_method_7_code 15 = .ok (.getfield 9, 3) := by decide +kernel
theorem d_C_lengthen_18 : decode prog_2_method_7_code 18 = .ok (.iload 4, 2) := by decide +kernel
theorem d_C_lengthen_20 : decode prog_2_method_7_code 20 = .ok (.iaload, 1) := by decide +kernel
theorem d_C_lengthen_21 : decode prog_2_method_7_code 21 = .ok (.aload_n 1, 1) := by decide +kernel
theorem d_C_lengthen_22 : decode prog_2_method_7_code 22 = .ok (.getfield 66, 3) := by decide +kernel
theorem d_C_lengthen_25 : decode prog_2_method_7_code 25 = .ok (.iload 4, 2) := by decide +kernel
theorem d_C_lengthen_27 : decode prog_2_method_7_code 27 = .ok (.iaload, 1) := by decide +kernel
theorem d_C_lengthen_28 : decode prog_2_method_7_code 28 = .ok (.iadd, 1) := by decide +kernel
theorem d_C_lengthen_29 : decode prog_2_method_7_code 29 = .ok (.istore 5, 2) := by decide +kernel
theorem d_C_lengthen_31 : decode prog_2_method_7_code 31 = .ok (.iload 5, 2) := by decide +kernel
theorem d_C_lengthen_33 : decode prog_2_method_7_code 33 = .ok (.aload_n 0, 1) := by decide +kernel
theorem d_C_lengthen_34 : decode prog_2_method_7_code 34 = .ok (.getfield 18, 3) := by decide +kernel
theorem d_C_lengthen_37 : decode prog_2_method_7_code 37 = .ok (.iconst 2, 1) := by decide +kernel
theorem d_C_lengthen_38 : decode prog_2_method_7_code 38 = .ok (.iload 4, 2) := by decide +kernel
theorem d_C_lengthen_40 : decode prog_2_method_7_code 40 = .ok (.imul, 1) := by decide +kernel
theorem d_C_lengthen_41 : decode prog_2_method_7_code 41 = .ok (.iaload, 1) := by decide +kernel
theorem d_C_lengthen_42 : decode prog_2_method_7_code 42 = .ok (.iadd, 1) := by decide +kernel
theorem d_C_lengthen_43 : decode prog_2_method_7_code 43 = .ok (.istore 6, 2) := by decide +kernel
theorem d_C_lengthen_45 : decode prog_2_method_7_code 45 = .ok (.iload_n 3, 1) := by decide +kernel
theorem d_C_lengthen_46 : decode prog_2_method_7_code 46 = .ok (.aload_n 0, 1) := by decide +kernel
theorem d_C_lengthen_47 : decode prog_2_method_7_code 47 = .ok (.iconst 2, 1) := by decide +kernel
theorem d_C_lengthen_48 : decode prog_2_method_7_code 48 = .ok (.iload 4, 2) := by decide +kernel
theorem d_C_lengthen_50 : decode prog_2_method_7_code 50 = .ok (.imul, 1) := by decide +kernel
theorem d_C_lengthen_51 : decode prog_2_method_7_code 51 = .ok (.iload 5, 2) := by decide +kernel
theorem d_C_lengthen_53 : decode prog_2_method_7_code 53 = .ok (.iload_n 2, 1) := by decide +kernel
theorem d_C_lengthen_54 : decode prog_2_method_7_code 54 = .ok (.invokevirtual 69, 3) := by decide +kernel
theorem d_C_lengthen_57 : decode prog_2_method_7_code 57 = .ok (.ior, 1) := by decide +kernel
theorem d_C_lengthen_58 : decode prog_2_method_7_code 58 = .ok (.istore_n 3, 1) := by decide +kernel
theorem d_C_lengthen_59 : decode prog_2_method_7_code 59 = .ok (.iload_n 3, 1) := by decide +kernel
theorem d_C_lengthen_60 : decode prog_2_method_7_code 60 = .ok (.aload_n 0, 1) := by decide +kernel
theorem d_C_lengthen_61 : decode prog_2_method_7_code 61 = .ok (.iconst 2, 1) := by decide +kernel
theorem d_C_lengthen_62 : decode prog_2_method_7_code 62 = .ok (.iload 4, 2) := by decide +kernel
theorem d_C_lengthen_64 : decode prog_2_method_7_code 64 = .ok (.imul, 1) := by decide +kernel
theorem d_C_lengthen_65 : decode prog_2_method_7_code 65 = .ok (.iconst 1, 1) := by decide +kernel
theorem d_C_lengthen_66 : decode prog_2_method_7_code 66 = .ok (.iadd, 1) := by decide +kernel
theorem d_C_lengthen_67 : decode prog_2_method_7_code 67 = .ok (.iload 6, 2) := by decide +kernel
theorem d_C_lengthen_69 : decode prog_2_method_7_code 69 = .ok (.iload_n 2, 1) := by decide +kernel
theorem d_C_lengthen_70 : decode prog_2_method_7_code 70 = .ok (.invokevirtual 69, 3) := by decide +kernel
theorem d_C_lengthen_73 : decode prog_2_method_7_code 73 = .ok (.ior, 1) := by decide +kernel
theorem d_C_lengthen_74 : decode prog_2_method_7_code 74 = .ok (.istore_n 3, 1) := by decide +kernel
theorem d_C_lengthen_75 : decode prog_2_method_7_code 75 = .ok (.iinc 4 1, 3) := by decide +kernel
theorem d_C_lengthen_78 : decode prog_2_method_7_code 78 = .ok (.goto (-73), 3) := by decide +kernel
theorem d_C_lengthen_81 : decode prog_2_method_7_code 81 = .ok (.iload_n 3, 1) := by decide +kernel
theorem d_C_lengthen_82 : decode prog_2_method_7_code 82 = .ok (.ireturn, 1) := by decide +kernel
theorem d_C_lengthenOne_0 : decode prog_2_method_8_code 0 = .ok (.aload_n 0, 1) := by decide +kernel
theorem d_C_lengthenOne_1 : decode prog_2_method_8_code 1 = .ok (.getfield 18, 3) := by decide +kernel
theorem d_C_lengthenOne_4 : decode prog_2_method_8_code 4 = .ok (.iload_n 1, 1) := by decide +kernel
theorem d_C_lengthenOne_5 : decode prog_2_method_8_code 5 = .ok (.iaload, 1) := by decide +kernel
theorem d_C_lengthenOne_6 : decode prog_2_method_8_code 6 = .ok (.iconst 1, 1) := by decide +kernel
theorem d_C_lengthenOne_7 : decode prog_2_method_8_code 7 = .ok (.if_icmp .ne 23, 3) := by decide +kernel
theorem d_C_lengthenOne_10 : decode prog_2_method_8_code 10 = .ok (.iload_n 2, 1) := by decide +kernel
theorem d_C_lengthenOne_11 : decode prog_2_method_8_code 11 = .ok (.aload_n 0, 1) := by decide +kernel
theorem d_C_lengthenOne_12 : decode prog_2_method_8_code 12 = .ok (.getfield 9, 3) := by decide +kernel
theorem d_C_lengthenOne_15 : decode prog_2_method_8_code 15 = .ok (.aload_n 0, 1) := by decide +kernel
theorem d_C_lengthenOne_16 : decode prog_2_method_8_code 16 = .ok (.getfield 15, 3) := by decide +kernel
theorem d_C_lengthenOne_19 : decode prog_2_method_8_code 19 = .ok (.iload_n 1, 1) := by decide +kernel
theorem d_C_lengthenOne_20 : decode prog_2_method_8_code 20 = .ok (.iaload, 1) := by decide +kernel
theorem d_C_lengthenOne_21 : decode prog_2_method_8_code 21 = .ok (.iaload, 1) := by decide +kernel
theorem d_C_lengthenOne_22 : decode prog_2_method_8_code 22 = .ok (.isub, 1) := by decide +kernel
theorem d_C_lengthenOne_23 : decode prog_2_method_8_code 23 = .ok (.invokestatic 73, 3) := by decide +kernel
theorem d_C_lengthenOne_26 : decode prog_2_method_8_code 26 = .ok (.iload_n 3, 1) := by decide +kernel
theorem d_C_lengthenOne_27 : decode prog_2_method_8_code 27 = .ok (.if_icmp .gt 5, 3) := by decide +kernel
theorem d_C_lengthenOne_30 : decode prog_2_method_8_code 30 = .ok (.iconst 0, 1) := by decide +kernel
theorem d_C_lengthenOne_31 : decode prog_2_method_8_code 31 = .ok (.ireturn, 1) := by decide +kernel
theorem d_C_lengthenOne_32 : decode prog_2_method_8_code 32 = .ok (.aload_n 0, 1) := by decide +kernel
theorem d_C_lengthenOne_33 : decode prog_2_method_8_code 33 = .ok (.getfield 18, 3) := by decide +kernel
theorem d_C_lengthenOne_36 : decode prog_2_method_8_code 36 = .ok (.iload_n 1, 1) := by decide +kernel
theorem d_C_lengthenOne_37 : decode prog_2_method_8_code 37 = .ok (.iconst 2, 1) := by decide +kernel
theorem d_C_lengthenOne_38 : decode prog_2_method_8_code 38 = .ok (.iastore, 1) := by decide +kernel
theorem d_C_lengthenOne_39 : decode prog_2_method_8_code 39 = .ok (.aload_n 0, 1) := by decide +kernel
theorem d_C_lengthenOne_40 : decode prog_2_method_8_code 40 = .ok (.dup, 1) := by decide +kernel
theorem d_C_lengthenOne_41 : decode prog_2_method_8_code 41 = .ok (.getfield 32, 3) := by decide +kernel
theorem d_C_lengthenOne_44 : decode prog_2_method_8_code 44 = .ok (.iconst 1, 1) := by decide +kernel
theorem d_C_lengthenOne_45 : decode prog_2_method_8_code 45 = .ok (.iadd, 1) := by decide +kernel
theorem d_C_lengthenOne_46 : decode prog_2_method_8_code 46 = .ok (.putfield 32, 3) := by decide +kernel
theorem d_C_lengthenOne_49 : decode prog_2_method_8_code 49 = .ok (.iconst 1, 1) := by decide +kernel
theorem d_C_lengthenOne_50 : decode prog_2_method_8_code 50 = .ok (.ireturn, 1) := by decide +kernel
theorem d_C_costOfLeaving_0 : decode prog_2_method_9_code 0 = .ok (.iconst 2, 1) := by decide +kernel
theorem d_C_costOfLeaving_1 : decode prog_2_method_9_code 1 = .ok (.iload_n 1, 1) := by decide +kernel
theorem d_C_costOfLeaving_2 : decode prog_2_method_9_code 2 = .ok (.imul, 1) := by decide +kernel
theorem d_C_costOfLeaving_3 : decode prog_2_method_9_code 3 = .ok (.istore 4, 2) := by decide +kernel
theorem d_C_costOfLeaving_5 : decode prog_2_method_9_code 5 = .ok (.iload 4, 2) := by decide +kernel
theorem d_C_costOfLeaving_7 : decode prog_2_method_9_code 7 = .ok (.iconst 1, 1) := by decide +kernel
theorem d_C_costOfLeaving_8 : decode prog_2_method_9_code 8 = .ok (.iadd, 1) := by decide +kernel
theorem d_C_costOfLeaving_9 : decode prog_2_method_9_code 9 = .ok (.istore 5, 2) := by decide +kernel
theorem d_C_costOfLeaving_11 : decode prog_2_method_9_code 11 = .ok (.iload_n 2, 1) := by decide +kernel
theorem d_C_costOfLeaving_12 : decode prog_2_method_9_code 12 = .ok (.ifCond .ne 5, 3) := by decide +kernel
theorem d_C_costOfLeaving_15 : decode prog_2_method_9_code 15 = .ok (.iconst 1, 1) := by decide +kernel
theorem d_C_costOfLeaving_16 : decode prog_2_method_9_code 16 = .ok (.ireturn, 1) := by decide +kernel
theorem d_C_costOfLeaving_17 : decode prog_2_method_9_code 17 = .ok (.iload_n 2, 1) := by decide +kernel
theorem d_C_costOfLeaving_18 : decode prog_2_method_9_code 18 = .ok (.iconst 1, 1) := by decide +kernel
theorem d_C_costOfLeaving_19 : decode prog_2_method_9_code 19 = .ok (.if_icmp .ne 26, 3) := by decide +kernel
theorem d_C_costOfLeaving_22 : decode prog_2_method_9_code 22 = .ok (.aload_n 0, 1) := by decide +kernel
theorem d_C_costOfLeaving_23 : decode prog_2_method_9_code 23 = .ok (.getfield 18, 3) := by decide +kernel
theorem d_C_costOfLeaving_26 : decode prog_2_method_9_code 26 = .ok (.iload 4, 2) := by decide +kernel
theorem d_C_costOfLeaving_28 : decode prog_2_method_9_code 28 = .ok (.iaload, 1) := by decide +kernel
theorem d_C_costOfLeaving_29 : decode prog_2_method_9_code 29 = .ok (.ifCond .ne 7, 3) := by decide +kernel
theorem d_C_costOfLeaving_32 : decode prog_2_method_9_code 32 = .ok (.iconst 0, 1) := by decide +kernel
theorem d_C_costOfLeaving_33 : decode prog_2_method_9_code 33 = .ok (.goto 11, 3) := by decide +kernel
theorem d_C_costOfLeaving_36 : decode prog_2_method_9_code 36 = .ok (.iconst 2, 1) := by decide +kernel
theorem d_C_costOfLeaving_37 : decode prog_2_method_9_code 37 = .ok (.aload_n 0, 1) := by decide +kernel
theorem d_C_costOfLeaving_38 : decode prog_2_method_9_code 38 = .ok (.iload 4, 2) := by decide +kernel
theorem d_C_costOfLeaving_40 : decode prog_2_method_9_code 40 = .ok (.invokevirtual 79, 3) := by decide +kernel
theorem d_C_costOfLeaving_43 : decode prog_2_method_9_code 43 = .ok (.iadd, 1) := by decide +kernel
theorem d_C_costOfLeaving_44 : decode prog_2_method_9_code 44 = .ok (.ireturn, 1) := by decide +kernel
theorem d_C_costOfLeaving_45 : decode prog_2_method_9_code 45 = .ok (.iload_n 3, 1) := by decide +kernel
theorem d_C_costOfLeaving_46 : decode prog_2_method_9_code 46 = .ok (.aload_n 0, 1) := by decide +kernel
theorem d_C_costOfLeaving_47 : decode prog_2_method_9_code 47 = .ok (.getfield 21, 3) := by decide +kernel
theorem d_C_costOfLeaving_50 : decode prog_2_method_9_code 50 = .ok (.iload_n 1, 1) := by decide +kernel
theorem d_C_costOfLeaving_51 : decode prog_2_method_9_code 51 = .ok (.baload, 1) := by decide +kernel
theorem d_C_costOfLeaving_52 : decode prog_2_method_9_code 52 = .ok (.if_icmp .eq 12, 3) := by decide +kernel
theorem d_C_costOfLeaving_55 : decode prog_2_method_9_code 55 = .ok (.iconst 2, 1) := by decide +kernel
theorem d_C_costOfLeaving_56 : decode prog_2_method_9_code 56 = .ok (.aload_n 0, 1) := by decide +kernel
theorem d_C_costOfLeaving_57 : decode prog_2_method_9_code 57 = .ok (.iload 4, 2) := by decide +kernel
theorem d_C_costOfLeaving_59 : decode prog_2_method_9_code 59 = .ok (.invokevirtual 79, 3) := by decide +kernel
theorem d_C_costOfLeaving_62 : decode prog_2_method_9_code 62 = .ok (.iadd, 1) := by decide +kernel
theorem d_C_costOfLeaving_63 : decode prog_2_method_9_code 63 = .ok (.ireturn, 1) := by decide +kernel
theorem d_C_costOfLeaving_64 : decode prog_2_method_9_code 64 = .ok (.aload_n 0, 1) := by decide +kernel
theorem d_C_costOfLeaving_65 : decode prog_2_method_9_code 65 = .ok (.getfield 18, 3) := by decide +kernel
theorem d_C_costOfLeaving_68 : decode prog_2_method_9_code 68 = .ok (.iload 5, 2) := by decide +kernel
theorem d_C_costOfLeaving_70 : decode prog_2_method_9_code 70 = .ok (.iaload, 1) := by decide +kernel
theorem d_C_costOfLeaving_71 : decode prog_2_method_9_code 71 = .ok (.ifCond .ne 7, 3) := by decide +kernel
theorem d_C_costOfLeaving_74 : decode prog_2_method_9_code 74 = .ok (.iconst 1, 1) := by decide +kernel
theorem d_C_costOfLeaving_75 : decode prog_2_method_9_code 75 = .ok (.goto 11, 3) := by decide +kernel
theorem d_C_costOfLeaving_78 : decode prog_2_method_9_code 78 = .ok (.iconst 3, 1) := by decide +kernel
theorem d_C_costOfLeaving_79 : decode prog_2_method_9_code 79 = .ok (.aload_n 0, 1) := by decide +kernel
theorem d_C_costOfLeaving_80 : decode prog_2_method_9_code 80 = .ok (.iload 5, 2) := by decide +kernel
theorem d_C_costOfLeaving_82 : decode prog_2_method_9_code 82 = .ok (.invokevirtual 79, 3) := by decide +kernel
theorem d_C_costOfLeaving_85 : decode prog_2_method_9_code 85 = .ok (.iadd, 1) := by decide +kernel
theorem d_C_costOfLeaving_86 : decode prog_2_method_9_code 86 = .ok (.ireturn, 1) := by decide +kernel
theorem d_C_longExtra_0 : decode prog_2_method_10_code 0 = .ok (.aload_n 0, 1) := by decide +kernel
theorem d_C_longExtra_1 : decode prog_2_method_10_code 1 = .ok (.getfield 18, 3) := by decide +kernel
theorem d_C_longExtra_4 : decode prog_2_method_10_code 4 = .ok (.iload_n 1, 1) := by decide +kernel
theorem d_C_longExtra_5 : decode prog_2_method_10_code 5 = .ok (.iaload, 1) := by decide +kernel
theorem d_C_longExtra_6 : decode prog_2_method_10_code 6 = .ok (.iconst 2, 1) := by decide +kernel
theorem d_C_longExtra_7 : decode prog_2_method_10_code 7 = .ok (.if_icmp .ne 7, 3) := by decide +kernel
theorem d_C_longExtra_10 : decode prog_2_method_10_code 10 = .ok (.iconst 1, 1) := by decide +kernel
theorem d_C_longExtra_11 : decode prog_2_method_10_code 11 = .ok (.goto 4, 3) := by decide +kernel
theorem d_C_longExtra_14 : decode prog_2_method_10_code 14 = .ok (.iconst 0, 1) := by decide +kernel
theorem d_C_longExtra_15 : decode prog_2_method_10_code 15 = .ok (.ireturn, 1) := by decide +kernel
end
section
theorem d_M_init_0 : decode prog_8_method_1_code 0 = .ok (.aload_n 0, 1) := by decide +kernel
theorem d_M_init_1 : decode prog_8_method_1_code 1 = .ok (.invokespecial 1, 3) := by decide +kernel
theorem d_M_init_4 : decode prog_8_method_1_code 4 = .ok (.aload_n 0, 1) := by decide +kernel
theorem d_M_init_5 : decode prog_8_method_1_code 5 = .ok (.iconst 0, 1) := by decide +kernel
theorem d_M_init_6 : decode prog_8_method_1_code 6 = .ok (.putfield 7, 3) := by decide +kernel
theorem d_M_init_9 : decode prog_8_method_1_code 9 = .ok (.aload_n 0, 1) := by decide +kernel
theorem d_M_init_10 : decode prog_8_method_1_code 10 = .ok (.iconst 0, 1) := by decide +kernel
theorem d_M_init_11 : decode prog_8_method_1_code 11 = .ok (.putfield 13, 3) := by decide +kernel
theorem d_M_init_14 : decode prog_8_method_1_code 14 = .ok (.aload_n 0, 1) := by decide +kernel
theorem d_M_init_15 : decode prog_8_method_1_code 15 = .ok (.iconst 0, 1) := by decide +kernel
theorem d_M_init_16 : decode prog_8_method_1_code 16 = .ok (.putfield 16, 3) := by decide +kernel
theorem d_M_init_19 : decode prog_8_method_1_code 19 = .ok (.aload_n 0, 1) := by decide +kernel
theorem d_M_init_20 : decode prog_8_method_1_code 20 = .ok (.iconst 0, 1) := by decide +kernel
theorem d_M_init_21 : decode prog_8_method_1_code 21 = .ok (.putfield 19, 3) := by decide +kernel
theorem d_M_init_24 : decode prog_8_method_1_code 24 = .ok (.aload_n 0, 1) := by decide +kernel
theorem d_M_init_25 : decode prog_8_method_1_code 25 = .ok (.iconst 0, 1) := by decide +kernel
theorem d_M_init_26 : decode prog_8_method_1_code 26 = .ok (.putfield 22, 3) := by decide +kernel
theorem d_M_init_29 : decode prog_8_method_1_code 29 = .ok (.aload_n 0, 1) := by decide +kernel
theorem d_M_init_30 : decode prog_8_method_1_code 30 = .ok (.bipush 24, 2) := by decide +kernel
theorem d_M_init_32 : decode prog_8_method_1_code 32 = .ok (.newarray .int, 2) := by decide +kernel
theorem d_M_init_34 : decode prog_8_method_1_code 34 = .ok (.putfield 26, 3) := by decide +kernel
theorem d_M_init_37 : decode prog_8_method_1_code 37 = .ok (.aload_n 0, 1) := by decide +kernel
theorem d_M_init_38 : decode prog_8_method_1_code 38 = .ok (.bipush 24, 2) := by decide +kernel
theorem d_M_init_40 : decode prog_8_method_1_code 40 = .ok (.newarray .int, 2) := by decide +kernel
theorem d_M_init_42 : decode prog_8_method_1_code 42 = .ok (.putfield 30, 3) := by decide +kernel
theorem d_M_init_45 : decode prog_8_method_1_code 45 = .ok (.aload_n 0, 1) := by decide +kernel
theorem d_M_init_46 : decode prog_8_method_1_code 46 = .ok (.bipush 24, 2) := by decide +kernel
theorem d_M_init_48 : decode prog_8_method_1_code 48 = .ok (.newarray .int, 2) := by decide +kernel
theorem d_M_init_50 : decode prog_8_method_1_code 50 = .ok (.putfield 33, 3) := by decide +kernel
theorem d_M_init_53 : decode prog_8_method_1_code 53 = .ok (.aload_n 0, 1) := by decide +kernel
theorem d_M_init_54 : decode prog_8_method_1_code 54 = .ok (.bipush 48, 2) := by decide +kernel
theorem d_M_init_56 : decode prog_8_method_1_code 56 = .ok (.newarray .int, 2) := by decide +kernel
theorem d_M_init_58 : decode prog_8_method_1_code 58 = .ok (.putfield 36, 3) := by decide +kernel
theorem d_M_init_61 : decode prog_8_method_1_code 61 = .ok (.aload_n 0, 1) := by decide +kernel
theorem d_M_init_62 : decode prog_8_method_1_code 62 = .ok (.bipush 24, 2) := by decide +kernel
theorem d_M_init_64 : decode prog_8_method_1_code 64 = .ok (.newarray .int, 2) := by decide +kernel
theorem d_M_init_66 : decode prog_8_method_1_code 66 = .ok (.putfield 39, 3) := by decide +kernel
theorem d_M_init_69 : decode prog_8_method_1_code 69 = .ok (.aload_n 0, 1) := by decide +kernel
theorem d_M_init_70 : decode prog_8_method_1_code 70 = .ok (.bipush 48, 2) := by decide +kernel
theorem d_M_init_72 : decode prog_8_method_1_code 72 = .ok (.newarray .int, 2) := by decide +kernel
theorem d_M_init_74 : decode prog_8_method_1_code 74 = .ok (.putfield 42, 3) := by decide +kernel
theorem d_M_init_77 : decode prog_8_method_1_code 77 = .ok (.aload_n 0, 1) := by decide +kernel
theorem d_M_init_78 : decode prog_8_method_1_code 78 = .ok (.bipush 24, 2) := by decide +kernel
theorem d_M_init_80 : decode prog_8_method_1_code 80 = .ok (.newarray .int, 2) := by decide +kernel
theorem d_M_init_82 : decode prog_8_method_1_code 82 = .ok (.putfield 45, 3) := by decide +kernel
theorem d_M_init_85 : decode prog_8_method_1_code 85 = .ok (.aload_n 0, 1) := by decide +kernel
theorem d_M_init_86 : decode prog_8_method_1_code 86 = .ok (.bipush 24, 2) := by decide +kernel
theorem d_M_init_88 : decode prog_8_method_1_code 88 = .ok (.newarray .int, 2) := by decide +kernel
theorem d_M_init_90 : decode prog_8_method_1_code 90 = .ok (.putfield 48, 3) := by decide +kernel
theorem d_M_init_93 : decode prog_8_method_1_code 93 = .ok (.aload_n 0, 1) := by decide +kernel
theorem d_M_init_94 : decode prog_8_method_1_code 94 = .ok (.bipush 48, 2) := by decide +kernel
theorem d_M_init_96 : decode prog_8_method_1_code 96 = .ok (.newarray .boolean, 2) := by decide +kernel
theorem d_M_init_98 : decode prog_8_method_1_code 98 = .ok (.putfield 51, 3) := by decide +kernel
theorem d_M_init_101 : decode prog_8_method_1_code 101 = .ok (.aload_n 0, 1) := by decide +kernel
theorem d_M_init_102 : decode prog_8_method_1_code 102 = .ok (.bipush 24, 2) := by decide +kernel
theorem d_M_init_104 : decode prog_8_method_1_code 104 = .ok (.newarray .boolean, 2) := by decide +kernel
theorem d_M_init_106 : decode prog_8_method_1_code 106 = .ok (.putfield 55, 3) := by decide +kernel
theorem d_M_init_109 : decode prog_8_method_1_code 109 = .ok (.aload_n 0, 1) := by decide +kernel
theorem d_M_init_110 : decode prog_8_method_1_code 110 = .ok (.bipush 24, 2) := by decide +kernel
theorem d_M_init_112 : decode prog_8_method_1_code 112 = .ok (.newarray .int, 2) := by decide +kernel
theorem d_M_init_114 : decode prog_8_method_1_code 114 = .ok (.putfield 58, 3) := by decide +kernel
theorem d_M_init_117 : decode prog_8_method_1_code 117 = .ok (.aload_n 0, 1) := by decide +kernel
theorem d_M_init_118 : decode prog_8_method_1_code 118 = .ok (.bipush 24, 2) := by decide +kernel
theorem d_M_init_120 : decode prog_8_method_1_code 120 = .ok (.newarray .int, 2) := by decide +kernel
theorem d_M_init_122 : decode prog_8_method_1_code 122 = .ok (.putfield 61, 3) := by decide +kernel
theorem d_M_init_125 : decode prog_8_method_1_code 125 = .ok (.aload_n 0, 1) := by decide +kernel
theorem d_M_init_126 : decode prog_8_method_1_code 126 = .ok (.bipush 48, 2) := by decide +kernel
theorem d_M_init_128 : decode prog_8_method_1_code 128 = .ok (.newarray .int, 2) := by decide +kernel
theorem d_M_init_130 : decode prog_8_method_1_code 130 = .ok (.putfield 64, 3) := by decide +kernel
theorem d_M_init_133 : decode prog_8_method_1_code 133 = .ok (.aload_n 0, 1) := by decide +kernel
theorem d_M_init_134 : decode prog_8_method_1_code 134 = .ok (.bipush 48, 2) := by decide +kernel
theorem d_M_init_136 : decode prog_8_method_1_code 136 = .ok (.newarray .int, 2) := by decide +kernel
theorem d_M_init_138 : decode prog_8_method_1_code 138 = .ok (.putfield 67, 3) := by decide +kernel
theorem d_M_init_141 : decode prog_8_method_1_code 141 = .ok (.aload_n 0, 1) := by decide +kernel
theorem d_M_init_142 : decode prog_8_method_1_code 142 = .ok (.bipush 24, 2) := by decide +kernel
theorem d_M_init_144 : decode prog_8_method_1_code 144 = .ok (.newarray .boolean, 2) := by decide +kernel
theorem d_M_init_146 : decode prog_8_method_1_code 146 = .ok (.putfield 70, 3) := by decide +kernel
theorem d_M_init_149 : decode prog_8_method_1_code 149 = .ok (.aload_n 0, 1) := by decide +kernel
theorem d_M_init_150 : decode prog_8_method_1_code 150 = .ok (.bipush 48, 2) := by decide +kernel
theorem d_M_init_152 : decode prog_8_method_1_code 152 = .ok (.newarray .boolean, 2) := by decide +kernel
theorem d_M_init_154 : decode prog_8_method_1_code 154 = .ok (.putfield 73, 3) := by decide +kernel
theorem d_M_init_157 : decode prog_8_method_1_code 157 = .ok (.aload_n 0, 1) := by decide +kernel
theorem d_M_init_158 : decode prog_8_method_1_code 158 = .ok (.iload_n 1, 1) := by decide +kernel
theorem d_M_init_159 : decode prog_8_method_1_code 159 = .ok (.iconst 4, 1) := by decide +kernel
theorem d_M_init_160 : decode prog_8_method_1_code 160 = .ok (.if_icmp .ge 7, 3) := by decide +kernel
theorem d_M_init_163 : decode prog_8_method_1_code 163 = .ok (.iconst 4, 1) := by decide +kernel
theorem d_M_init_164 : decode prog_8_method_1_code 164 = .ok (.goto 17, 3) := by decide +kernel
theorem d_M_init_167 : decode prog_8_method_1_code 167 = .ok (.iload_n 1, 1) := by decide +kernel
theorem d_M_init_168 : decode prog_8_method_1_code 168 = .ok (.sipush 400, 3) := by decide +kernel
theorem d_M_init_171 : decode prog_8_method_1_code 171 = .ok (.if_icmp .le 9, 3) := by decide +kernel
theorem d_M_init_174 : decode prog_8_method_1_code 174 = .ok (.sipush 400, 3) := by decide +kernel
theorem d_M_init_177 : decode prog_8_method_1_code 177 = .ok (.goto 4, 3) := by decide +kernel
theorem d_M_init_180 : decode prog_8_method_1_code 180 = .ok (.iload_n 1, 1) := by decide +kernel
theorem d_M_init_181 : decode prog_8_method_1_code 181 = .ok (.putfield 76, 3) := by decide +kernel
theorem d_M_init_184 : decode prog_8_method_1_code 184 = .ok (.return_, 1) := by decide +kernel
theorem d_M_block_0 : decode prog_8_method_4_code 0 = .ok (.iload_n 1, 1) := by decide +kernel
theorem d_M_block_1 : decode prog_8_method_4_code 1 = .ok (.ifCond .lt 26, 3) := by decide +kernel
theorem d_M_block_4 : decode prog_8_method_4_code 4 = .ok (.iload_n 1, 1) := by decide +kernel
theorem d_M_block_5 : decode prog_8_method_4_code 5 = .ok (.iconst 3, 1) := by decide +kernel
theorem d_M_block_6 : decode prog_8_method_4_code 6 = .ok (.if_icmp .gt 21, 3) := by decide +kernel
theorem d_M_block_9 : decode prog_8_method_4_code 9 = .ok (.iload_n 2, 1) := by decide +kernel
theorem d_M_block_10 : decode prog_8_method_4_code 10 = .ok (.iconst 1, 1) := by decide +kernel
theorem d_M_block_11 : decode prog_8_method_4_code 11 = .ok (.if_icmp .lt 16, 3) := by decide +kernel
theorem d_M_block_14 : decode prog_8_method_4_code 14 = .ok (.iload_n 2, 1) := by decide +kernel
theorem d_M_block_15 : decode prog_8_method_4_code 15 = .ok (.bipush 40, 2) := by decide +kernel
theorem d_M_block_17 : decode prog_8_method_4_code 17 = .ok (.if_icmp .gt 10, 3) := by decide +kernel
theorem d_M_block_20 : decode prog_8_method_4_code 20 = .ok (.aload_n 0, 1) := by decide +kernel
theorem d_M_block_21 : decode prog_8_method_4_code 21 = .ok (.getfield 22, 3) := by decide +kernel
theorem d_M_block_24 : decode prog_8_method_4_code 24 = .ok (.ifCond .eq 5, 3) := by decide +kernel
theorem d_M_block_27 : decode prog_8_method_4_code 27 = .ok (.iconst (-1), 1) := by decide +kernel
theorem d_M_block_28 : decode prog_8_method_4_code 28 = .ok (.ireturn, 1) := by decide +kernel
theorem d_M_block_29 : decode prog_8_method_4_code 29 = .ok (.aload_n 0, 1) := by decide +kernel
theorem d_M_block_30 : decode prog_8_method_4_code 30 = .ok (.getfield 7, 3) := by decide +kernel
theorem d_M_block_33 : decode prog_8_method_4_code 33 = .ok (.bipush 24, 2) := by decide +kernel
theorem d_M_block_35 : decode prog_8_method_4_code 35 = .ok (.if_icmp .ne 6, 3) := by decide +kernel
theorem d_M_block_38 : decode prog_8_method_4_code 38 = .ok (.bipush (-2), 2) := by decide +kernel
theorem d_M_block_40 : decode prog_8_method_4_code 40 = .ok (.ireturn, 1) := by decide +kernel
theorem d_M_block_41 : decode prog_8_method_4_code 41 = .ok (.aload_n 0, 1) := by decide +kernel
theorem d_M_block_42 : decode prog_8_method_4_code 42 = .ok (.getfield 26, 3) := by decide +kernel
theorem d_M_block_45 : decode prog_8_method_4_code 45 = .ok (.aload_n 0, 1) := by decide +kernel
theorem d_M_block_46 : decode prog_8_method_4_code 46 = .ok (.getfield 7, 3) := by decide +kernel
theorem d_M_block_49 : decode prog_8_method_4_code 49 = .ok (.iload_n 1, 1) := by decide +kernel
theorem d_M_block_50 : decode prog_8_method_4_code 50 = .ok (.iastore, 1) := by decide +kernel
theorem d_M_block_51 : decode prog_8_method_4_code 51 = .ok (.aload_n 0, 1) := by decide +kernel
theorem d_M_block_52 : decode prog_8_method_4_code 52 = .ok (.getfield 30, 3) := by decide +kernel
theorem d_M_block_55 : decode prog_8_method_4_code 55 = .ok (.aload_n 0, 1) := by decide +kernel
theorem d_M_block_56 : decode prog_8_method_4_code 56 = .ok (.getfield 7, 3) := by decide +kernel
theorem d_M_block_59 : decode prog_8_method_4_code 59 = .ok (.iload_n 2, 1) := by decide +kernel
theorem d_M_block_60 : decode prog_8_method_4_code 60 = .ok (.iastore, 1) := by decide +kernel
theorem d_M_block_61 : decode prog_8_method_4_code 61 = .ok (.aload_n 0, 1) := by decide +kernel
theorem d_M_block_62 : decode prog_8_method_4_code 62 = .ok (.dup, 1) := by decide +kernel
theorem d_M_block_63 : decode prog_8_method_4_code 63 = .ok (.getfield 7, 3) := by decide +kernel
theorem d_M_block_66 : decode prog_8_method_4_code 66 = .ok (.iconst 1, 1) := by decide +kernel
theorem d_M_block_67 : decode prog_8_method_4_code 67 = .ok (.iadd, 1) := by decide +kernel
theorem d_M_block_68 : decode prog_8_method_4_code 68 = .ok (.putfield 7, 3) := by decide +kernel
theorem d_M_block_71 : decode prog_8_method_4_code 71 = .ok (.aload_n 0, 1) := by decide +kernel
theorem d_M_block_72 : decode prog_8_method_4_code 72 = .ok (.getfield 7, 3) := by decide +kernel
theorem d_M_block_75 : decode prog_8_method_4_code 75 = .ok (.iconst 1, 1) := by decide +kernel
theorem d_M_block_76 : decode prog_8_method_4_code 76 = .ok (.isub, 1) := by decide +kernel
theorem d_M_block_77 : decode prog_8_method_4_code 77 = .ok (.ireturn, 1) := by decide +kernel
theorem d_M_jump_0 : decode prog_8_method_5_code 0 = .ok (.aload_n 0, 1) := by decide +kernel
theorem d_M_jump_1 : decode prog_8_method_5_code 1 = .ok (.iload_n 1, 1) := by decide +kernel
theorem d_M_jump_2 : decode prog_8_method_5_code 2 = .ok (.iconst 1, 1) := by decide +kernel
theorem d_M_jump_3 : decode prog_8_method_5_code 3 = .ok (.iload_n 2, 1) := by decide +kernel
theorem d_M_jump_4 : decode prog_8_method_5_code 4 = .ok (.iload_n 2, 1) := by decide +kernel
theorem d_M_jump_5 : decode prog_8_method_5_code 5 = .ok (.invokevirtual 79, 3) := by decide +kernel
theorem d_M_jump_8 : decode prog_8_method_5_code 8 = .ok (.ireturn, 1) := by decide +kernel
theorem d_M_give_0 : decode prog_8_method_7_code 0 = .ok (.aload_n 0, 1) := by decide +kernel
theorem d_M_give_1 : decode prog_8_method_7_code 1 = .ok (.getfield 22, 3) := by decide +kernel
theorem d_M_give_4 : decode prog_8_method_7_code 4 = .ok (.ifCond .ne 59, 3) := by decide +kernel
theorem d_M_give_7 : decode prog_8_method_7_code 7 = .ok (.aload_n 0, 1) := by decide +kernel
theorem d_M_give_8 : decode prog_8_method_7_code 8 = .ok (.iload_n 1, 1) := by decide +kernel
theorem d_M_give_9 : decode prog_8_method_7_code 9 = .ok (.invokevirtual 83, 3) := by decide +kernel
theorem d_M_give_12 : decode prog_8_method_7_code 12 = .ok (.ifCond .ne 51, 3) := by decide +kernel
theorem d_M_give_15 : decode prog_8_method_7_code 15 = .ok (.aload_n 0, 1) := by decide +kernel
theorem d_M_give_16 : decode prog_8_method_7_code 16 = .ok (.iload_n 3, 1) := by decide +kernel
theorem d_M_give_17 : decode prog_8_method_7_code 17 = .ok (.invokevirtual 83, 3) := by decide +kernel
theorem d_M_give_20 : decode prog_8_method_7_code 20 = .ok (.ifCond .ne 43, 3) := by decide +kernel
theorem d_M_give_23 : decode prog_8_method_7_code 23 = .ok (.aload_n 0, 1) := by decide +kernel
theorem d_M_give_24 : decode prog_8_method_7_code 24 = .ok (.iload 4, 2) := by decide +kernel
theorem d_M_give_26 : decode prog_8_method_7_code 26 = .ok (.invokevirtual 83, 3) := by decide +kernel
theorem d_M_give_29 : decode prog_8_method_7_code 29 = .ok (.ifCond .ne 34, 3) := by decide +kernel
theorem d_M_give_32 : decode prog_8_method_7_code 32 = .ok (.aload_n 0, 1) := by decide +kernel
theorem d_M_give_33 : decode prog_8_method_7_code 33 = .ok (.getfield 26, 3) := by decide +kernel
theorem d_M_give_36 : decode prog_8_method_7_code 36 = .ok (.iload_n 3, 1) := by decide +kernel
theorem d_M_give_37 : decode prog_8_method_7_code 37 = .ok (.iaload, 1) := by decide +kernel
theorem d_M_give_38 : decode prog_8_method_7_code 38 = .ok (.aload_n 0, 1) := by decide +kernel
theorem d_M_give_39 : decode prog_8_method_7_code 39 = .ok (.getfield 26, 3) := by decide +kernel
theorem d_M_give_42 : decode prog_8_method_7_code 42 = .ok (.iload_n 1, 1) := by decide +kernel
theorem d_M_give_43 : decode prog_8_method_7_code 43 = .ok (.iaload, 1) := by decide +kernel
theorem d_M_give_44 : decode prog_8_method_7_code 44 = .ok (.if_icmp .ne 19, 3) := by decide +kernel
theorem d_M_give_47 : decode prog_8_method_7_code 47 = .ok (.aload_n 0, 1) := by decide +kernel
theorem d_M_give_48 : decode prog_8_method_7_code 48 = .ok (.getfield 26, 3) := by decide +kernel
theorem d_M_give_51 : decode prog_8_method_7_code 51 = .ok (.iload 4, 2) := by decide +kernel
theorem d_M_give_53 : decode prog_8_method_7_code 53 = .ok (.iaload, 1) := by decide +kernel
theorem d_M_give_54 : decode prog_8_method_7_code 54 = .ok (.aload_n 0, 1) := by decide +kernel
theorem d_M_give_55 : decode prog_8_method_7_code 55 = .ok (.getfield 26, 3) := by decide +kernel
theorem d_M_give_58 : decode prog_8_method_7_code 58 = .ok (.iload_n 1, 1) := by decide +kernel
theorem d_M_give_59 : decode prog_8_method_7_code 59 = .ok (.iaload, 1) := by decide +kernel
theorem d_M_give_60 : decode prog_8_method_7_code 60 = .ok (.if_icmp .eq 5, 3) := by decide +kernel
theorem d_M_give_63 : decode prog_8_method_7_code 63 = .ok (.iconst (-1), 1) := by decide +kernel
theorem d_M_give_64 : decode prog_8_method_7_code 64 = .ok (.ireturn, 1) := by decide +kernel
theorem d_M_give_65 : decode prog_8_method_7_code 65 = .ok (.aload_n 0, 1) := by decide +kernel
theorem d_M_give_66 : decode prog_8_method_7_code 66 = .ok (.getfield 33, 3) := by decide +kernel
theorem d_M_give_69 : decode prog_8_method_7_code 69 = .ok (.iload_n 1, 1) := by decide +kernel
theorem d_M_give_70 : decode prog_8_method_7_code 70 = .ok (.iload_n 2, 1) := by decide +kernel
theorem d_M_give_71 : decode prog_8_method_7_code 71 = .ok (.iastore, 1) := by decide +kernel
theorem d_M_give_72 : decode prog_8_method_7_code 72 = .ok (.aload_n 0, 1) := by decide +kernel
theorem d_M_give_73 : decode prog_8_method_7_code 73 = .ok (.getfield 36, 3) := by decide +kernel
theorem d_M_give_76 : decode prog_8_method_7_code 76 = .ok (.iload_n 1, 1) := by decide +kernel
theorem d_M_give_77 : decode prog_8_method_7_code 77 = .ok (.iconst 2, 1) := by decide +kernel
theorem d_M_give_78 : decode prog_8_method_7_code 78 = .ok (.imul, 1) := by decide +kernel
theorem d_M_give_79 : decode prog_8_method_7_code 79 = .ok (.iload_n 3, 1) := by decide +kernel
theorem d_M_give_80 : decode prog_8_method_7_code 80 = .ok (.iastore, 1) := by decide +kernel
theorem d_M_give_81 : decode prog_8_method_7_code 81 = .ok (.aload_n 0, 1) := by decide +kernel
theorem d_M_give_82 : decode prog_8_method_7_code 82 = .ok (.getfield 36, 3) := by decide +kernel
theorem d_M_give_85 : decode prog_8_method_7_code 85 = .ok (.iload_n 1, 1) := by decide +kernel
theorem d_M_give_86 : decode prog_8_method_7_code 86 = .ok (.iconst 2, 1) := by decide +kernel
theorem d_M_give_87 : decode prog_8_method_7_code 87 = .ok (.imul, 1) := by decide +kernel
theorem d_M_give_88 : decode prog_8_method_7_code 88 = .ok (.iconst 1, 1) := by decide +kernel
theorem d_M_give_89 : decode prog_8_method_7_code 89 = .ok (.iadd, 1) := by decide +kernel
theorem d_M_give_90 : decode prog_8_method_7_code 90 = .ok (.iload 4, 2) := by decide +kernel
theorem d_M_give_92 : decode prog_8_method_7_code 92 = .ok (.iastore, 1) := by decide +kernel
theorem d_M_give_93 : decode prog_8_method_7_code 93 = .ok (.aload_n 0, 1) := by decide +kernel
theorem d_M_give_94 : decode prog_8_method_7_code 94 = .ok (.getfield 42, 3) := by decide +kernel
theorem d_M_give_97 : decode prog_8_method_7_code 97 = .ok (.iload_n 1, 1) := by decide +kernel
theorem d_M_give_98 : decode prog_8_method_7_code 98 = .ok (.iconst 2, 1) := by decide +kernel
theorem d_M_give_99 : decode prog_8_method_7_code 99 = .ok (.imul, 1) := by decide +kernel
theorem d_M_give_100 : decode prog_8_method_7_code 100 = .ok (.iconst 0, 1) := by decide +kernel
theorem d_M_give_101 : decode prog_8_method_7_code 101 = .ok (.iastore, 1) := by decide +kernel
theorem d_M_give_102 : decode prog_8_method_7_code 102 = .ok (.aload_n 0, 1) := by decide +kernel
theorem d_M_give_103 : decode prog_8_method_7_code 103 = .ok (.getfield 42, 3) := by decide +kernel
theorem d_M_give_106 : decode prog_8_method_7_code 106 = .ok (.iload_n 1, 1) := by decide +kernel
theorem d_M_give_107 : decode prog_8_method_7_code 107 = .ok (.iconst 2, 1) := by decide +kernel
theorem d_M_give_108 : decode prog_8_method_7_code 108 = .ok (.imul, 1) := by decide +kernel
theorem d_M_give_109 : decode prog_8_method_7_code 109 = .ok (.iconst 1, 1) := by decide +kernel
theorem d_M_give_110 : decode prog_8_method_7_code 110 = .ok (.iadd, 1) := by decide +kernel
theorem d_M_give_111 : decode prog_8_method_7_code 111 = .ok (.iconst 0, 1) := by decide +kernel
theorem d_M_give_112 : decode prog_8_method_7_code 112 = .ok (.iastore, 1) := by decide +kernel
theorem d_M_give_113 : decode prog_8_method_7_code 113 = .ok (.iconst 0, 1) := by decide +kernel
theorem d_M_give_114 : decode prog_8_method_7_code 114 = .ok (.ireturn, 1) := by decide +kernel
theorem d_M_no_0 : decode prog_8_method_2_code 0 = .ok (.iload_n 1, 1) := by decide +kernel
theorem d_M_no_1 : decode prog_8_method_2_code 1 = .ok (.ifCond .lt 11, 3) := by decide +kernel
theorem d_M_no_4 : decode prog_8_method_2_code 4 = .ok (.iload_n 1, 1) := by decide +kernel
theorem d_M_no_5 : decode prog_8_method_2_code 5 = .ok (.aload_n 0, 1) := by decide +kernel
theorem d_M_no_6 : decode prog_8_method_2_code 6 = .ok (.getfield 7, 3) := by decide +kernel
theorem d_M_no_9 : decode prog_8_method_2_code 9 = .ok (.if_icmp .lt 7, 3) := by decide +kernel
theorem d_M_no_12 : decode prog_8_method_2_code 12 = .ok (.iconst 1, 1) := by decide +kernel
theorem d_M_no_13 : decode prog_8_method_2_code 13 = .ok (.goto 4, 3) := by decide +kernel
theorem d_M_no_16 : decode prog_8_method_2_code 16 = .ok (.iconst 0, 1) := by decide +kernel
theorem d_M_no_17 : decode prog_8_method_2_code 17 = .ok (.ireturn, 1) := by decide +kernel
theorem d_M_test_0 : decode prog_8_method_6_code 0 = .ok (.aload_n 0, 1) := by decide +kernel
theorem d_M_test_1 : decode prog_8_method_6_code 1 = .ok (.iload_n 1, 1) := by decide +kernel
theorem d_M_test_2 : decode prog_8_method_6_code 2 = .ok (.iconst 2, 1) := by decide +kernel
theorem d_M_test_3 : decode prog_8_method_6_code 3 = .ok (.iload_n 2, 1) := by decide +kernel
theorem d_M_test_4 : decode prog_8_method_6_code 4 = .ok (.iload_n 3, 1) := by decide +kernel
theorem d_M_test_5 : decode prog_8_method_6_code 5 = .ok (.invokevirtual 79, 3) := by decide +kernel
theorem d_M_test_8 : decode prog_8_method_6_code 8 = .ok (.ireturn, 1) := by decide +kernel
theorem d_M_walk_0 : decode prog_8_method_10_code 0 = .ok (.iload_n 1, 1) := by decide +kernel
theorem d_M_walk_1 : decode prog_8_method_10_code 1 = .ok (.ifCond .lt 8, 3) := by decide +kernel
theorem d_M_walk_4 : decode prog_8_method_10_code 4 = .ok (.iload_n 1, 1) := by decide +kernel
theorem d_M_walk_5 : decode prog_8_method_10_code 5 = .ok (.iconst 3, 1) := by decide +kernel
theorem d_M_walk_6 : decode prog_8_method_10_code 6 = .ok (.if_icmp .le 7, 3) := by decide +kernel
theorem d_M_walk_9 : decode prog_8_method_10_code 9 = .ok (.iconst (-1), 1) := by decide +kernel
theorem d_M_walk_10 : decode prog_8_method_10_code 10 = .ok (.goto 8, 3) := by decide +kernel
theorem d_M_walk_13 : decode prog_8_method_10_code 13 = .ok (.aload_n 0, 1) := by decide +kernel
theorem d_M_walk_14 : decode prog_8_method_10_code 14 = .ok (.iload_n 1, 1) := by decide +kernel
theorem d_M_walk_15 : decode prog_8_method_10_code 15 = .ok (.invokevirtual 88, 3) := by decide +kernel
theorem d_M_walk_18 : decode prog_8_method_10_code 18 = .ok (.istore_n 3, 1) := by decide +kernel
theorem d_M_walk_19 : decode prog_8_method_10_code 19 = .ok (.iconst 0, 1) := by decide +kernel
theorem d_M_walk_20 : decode prog_8_method_10_code 20 = .ok (.istore 4, 2) := by decide +kernel
theorem d_M_walk_22 : decode prog_8_method_10_code 22 = .ok (.iconst 0, 1) := by decide +kernel
theorem d_M_walk_23 : decode prog_8_method_10_code 23 = .ok (.istore 5, 2) := by decide +kernel
theorem d_M_walk_25 : decode prog_8_method_10_code 25 = .ok (.iload_n 3, 1) := by decide +kernel
theorem d_M_walk_26 : decode prog_8_method_10_code 26 = .ok (.ifCond .ge 5, 3) := by decide +kernel
theorem d_M_walk_29 : decode prog_8_method_10_code 29 = .ok (.iconst (-1), 1) := by decide +kernel
theorem d_M_walk_30 : decode prog_8_method_10_code 30 = .ok (.ireturn, 1) := by decide +kernel
theorem d_M_walk_31 : decode prog_8_method_10_code 31 = .ok (.aload_n 0, 1) := by decide +kernel
theorem d_M_walk_32 : decode prog_8_method_10_code 32 = .ok (.getfield 39, 3) := by decide +kernel
theorem d_M_walk_35 : decode prog_8_method_10_code 35 = .ok (.iload_n 3, 1) := by decide +kernel
theorem d_M_walk_36 : decode prog_8_method_10_code 36 = .ok (.aload_n 0, 1) := by decide +kernel
theorem d_M_walk_37 : decode prog_8_method_10_code 37 = .ok (.aload_n 0, 1) := by decide +kernel
theorem d_M_walk_38 : decode prog_8_method_10_code 38 = .ok (.getfield 39, 3) := by decide +kernel
theorem d_M_walk_41 : decode prog_8_method_10_code 41 = .ok (.iload_n 3, 1) := by decide +kernel
theorem d_M_walk_42 : decode prog_8_method_10_code 42 = .ok (.iaload, 1) := by decide +kernel
theorem d_M_walk_43 : decode prog_8_method_10_code 43 = .ok (.iconst 1, 1) := by decide +kernel
theorem d_M_walk_44 : decode prog_8_method_10_code 44 = .ok (.invokevirtual 92, 3) := by decide +kernel
theorem d_M_walk_47 : decode prog_8_method_10_code 47 = .ok (.iastore, 1) := by decide +kernel
theorem d_M_walk_48 : decode prog_8_method_10_code 48 = .ok (.iinc 4 1, 3) := by decide +kernel
theorem d_M_walk_51 : decode prog_8_method_10_code 51 = .ok (.aload_n 0, 1) := by decide +kernel
theorem d_M_walk_52 : decode prog_8_method_10_code 52 = .ok (.iload_n 3, 1) := by decide +kernel
theorem d_M_walk_53 : decode prog_8_method_10_code 53 = .ok (.iload 5, 2) := by decide +kernel
theorem d_M_walk_55 : decode prog_8_method_10_code 55 = .ok (.iload_n 2, 1) := by decide +kernel
theorem d_M_walk_56 : decode prog_8_method_10_code 56 = .ok (.invokevirtual 96, 3) := by decide +kernel
theorem d_M_walk_59 : decode prog_8_method_10_code 59 = .ok (.istore 6, 2) := by decide +kernel
theorem d_M_walk_61 : decode prog_8_method_10_code 61 = .ok (.iload 4, 2) := by decide +kernel
theorem d_M_walk_63 : decode prog_8_method_10_code 63 = .ok (.bipush 60, 2) := by decide +kernel
theorem d_M_walk_65 : decode prog_8_method_10_code 65 = .ok (.if_icmp .eq 8, 3) := by decide +kernel
theorem d_M_walk_68 : decode prog_8_method_10_code 68 = .ok (.iload 6, 2) := by decide +kernel
theorem d_M_walk_70 : decode prog_8_method_10_code 70 = .ok (.ifCond .ge 6, 3) := by decide +kernel
theorem d_M_walk_73 : decode prog_8_method_10_code 73 = .ok (.iload 4, 2) := by decide +kernel
theorem d_M_walk_75 : decode prog_8_method_10_code 75 = .ok (.ireturn, 1) := by decide +kernel
theorem d_M_walk_76 : decode prog_8_method_10_code 76 = .ok (.aload_n 0, 1) := by decide +kernel
theorem d_M_walk_77 : decode prog_8_method_10_code 77 = .ok (.getfield 33, 3) := by decide +kernel
theorem d_M_walk_80 : decode prog_8_method_10_code 80 = .ok (.iload_n 3, 1) := by decide +kernel
theorem d_M_walk_81 : decode prog_8_method_10_code 81 = .ok (.iaload, 1) := by decide +kernel
theorem d_M_walk_82 : decode prog_8_method_10_code 82 = .ok (.iconst 2, 1) := by decide +kernel
theorem d_M_walk_83 : decode prog_8_method_10_code 83 = .ok (.if_icmp .ne 6, 3) := by decide +kernel
theorem d_M_walk_86 : decode prog_8_method_10_code 86 = .ok (.iinc 5 1, 3) := by decide +kernel
theorem d_M_walk_89 : decode prog_8_method_10_code 89 = .ok (.aload_n 0, 1) := by decide +kernel
theorem d_M_walk_90 : decode prog_8_method_10_code 90 = .ok (.getfield 42, 3) := by decide +kernel
theorem d_M_walk_93 : decode prog_8_method_10_code 93 = .ok (.iload_n 3, 1) := by decide +kernel
theorem d_M_walk_94 : decode prog_8_method_10_code 94 = .ok (.iconst 2, 1) := by decide +kernel
theorem d_M_walk_95 : decode prog_8_method_10_code 95 = .ok (.imul, 1) := by decide +kernel
theorem d_M_walk_96 : decode prog_8_method_10_code 96 = .ok (.iload 6, 2) := by decide +kernel
theorem d_M_walk_98 : decode prog_8_method_10_code 98 = .ok (.iadd, 1) := by decide +kernel
theorem d_M_walk_99 : decode prog_8_method_10_code 99 = .ok (.aload_n 0, 1) := by decide +kernel
theorem d_M_walk_100 : decode prog_8_method_10_code 100 = .ok (.aload_n 0, 1) := by decide +kernel
theorem d_M_walk_101 : decode prog_8_method_10_code 101 = .ok (.getfield 42, 3) := by decide +kernel
theorem d_M_walk_104 : decode prog_8_method_10_code 104 = .ok (.iload_n 3, 1) := by decide +kernel
theorem d_M_walk_105 : decode prog_8_method_10_code 105 = .ok (.iconst 2, 1) := by decide +kernel
theorem d_M_walk_106 : decode prog_8_method_10_code 106 = .ok (.imul, 1) := by decide +kernel
theorem d_M_walk_107 : decode prog_8_method_10_code 107 = .ok (.iload 6, 2) := by decide +kernel
theorem d_M_walk_109 : decode prog_8_method_10_code 109 = .ok (.iadd, 1) := by decide +kernel
theorem d_M_walk_110 : decode prog_8_method_10_code 110 = .ok (.iaload, 1) := by decide +kernel
theorem d_M_walk_111 : decode prog_8_method_10_code 111 = .ok (.iconst 1, 1) := by decide +kernel
theorem d_M_walk_112 : decode prog_8_method_10_code 112 = .ok (.invokevirtual 92, 3) := by decide +kernel
theorem d_M_walk_115 : decode prog_8_method_10_code 115 = .ok (.iastore, 1) := by decide +kernel
theorem d_M_walk_116 : decode prog_8_method_10_code 116 = .ok (.aload_n 0, 1) := by decide +kernel
theorem d_M_walk_117 : decode prog_8_method_10_code 117 = .ok (.getfield 36, 3) := by decide +kernel
theorem d_M_walk_120 : decode prog_8_method_10_code 120 = .ok (.iload_n 3, 1) := by decide +kernel
theorem d_M_walk_121 : decode prog_8_method_10_code 121 = .ok (.iconst 2, 1) := by decide +kernel
theorem d_M_walk_122 : decode prog_8_method_10_code 122 = .ok (.imul, 1) := by decide +kernel
theorem d_M_walk_123 : decode prog_8_method_10_code 123 = .ok (.iload 6, 2) := by decide +kernel
theorem d_M_walk_125 : decode prog_8_method_10_code 125 = .ok (.iadd, 1) := by decide +kernel
theorem d_M_walk_126 : decode prog_8_method_10_code 126 = .ok (.iaload, 1) := by decide +kernel
theorem d_M_walk_127 : decode prog_8_method_10_code 127 = .ok (.istore_n 3, 1) := by decide +kernel
theorem d_M_walk_128 : decode prog_8_method_10_code 128 = .ok (.goto (-97), 3) := by decide +kernel
theorem d_M_entry_0 : decode prog_8_method_3_code 0 = .ok (.iconst 0, 1) := by decide +kernel
theorem d_M_entry_1 : decode prog_8_method_3_code 1 = .ok (.istore_n 2, 1) := by decide +kernel
theorem d_M_entry_2 : decode prog_8_method_3_code 2 = .ok (.iload_n 2, 1) := by decide +kernel
theorem d_M_entry_3 : decode prog_8_method_3_code 3 = .ok (.aload_n 0, 1) := by decide +kernel
theorem d_M_entry_4 : decode prog_8_method_3_code 4 = .ok (.getfield 7, 3) := by decide +kernel
theorem d_M_entry_7 : decode prog_8_method_3_code 7 = .ok (.if_icmp .ge 21, 3) := by decide +kernel
theorem d_M_entry_10 : decode prog_8_method_3_code 10 = .ok (.aload_n 0, 1) := by decide +kernel
theorem d_M_entry_11 : decode prog_8_method_3_code 11 = .ok (.getfield 26, 3) := by decide +kernel
theorem d_M_entry_14 : decode prog_8_method_3_code 14 = .ok (.iload_n 2, 1) := by decide +kernel
theorem d_M_entry_15 : decode prog_8_method_3_code 15 = .ok (.iaload, 1) := by decide +kernel
theorem d_M_entry_16 : decode prog_8_method_3_code 16 = .ok (.iload_n 1, 1) := by decide +kernel
theorem d_M_entry_17 : decode prog_8_method_3_code 17 = .ok (.if_icmp .ne 5, 3) := by decide +kernel
theorem d_M_entry_20 : decode prog_8_method_3_code 20 = .ok (.iload_n 2, 1) := by decide +kernel
theorem d_M_entry_21 : decode prog_8_method_3_code 21 = .ok (.ireturn, 1) := by decide +kernel
theorem d_M_entry_22 : decode prog_8_method_3_code 22 = .ok (.iinc 2 1, 3) := by decide +kernel
theorem d_M_entry_25 : decode prog_8_method_3_code 25 = .ok (.goto (-23), 3) := by decide +kernel
theorem d_M_entry_28 : decode prog_8_method_3_code 28 = .ok (.iconst (-1), 1) := by decide +kernel
theorem d_M_entry_29 : decode prog_8_method_3_code 29 = .ok (.ireturn, 1) := by decide +kernel
theorem d_M_warmer_0 : decode prog_8_method_8_code 0 = .ok (.iload_n 1, 1) := by decide +kernel
theorem d_M_warmer_1 : decode prog_8_method_8_code 1 = .ok (.iload_n 2, 1) := by decide +kernel
theorem d_M_warmer_2 : decode prog_8_method_8_code 2 = .ok (.iadd, 1) := by decide +kernel
theorem d_M_warmer_3 : decode prog_8_method_8_code 3 = .ok (.ldc 87, 2) := by decide +kernel
theorem d_M_warmer_5 : decode prog_8_method_8_code 5 = .ok (.if_icmp .le 8, 3) := by decide +kernel
theorem d_M_warmer_8 : decode prog_8_method_8_code 8 = .ok (.ldc 87, 2) := by decide +kernel
theorem d_M_warmer_10 : decode prog_8_method_8_code 10 = .ok (.goto 6, 3) := by decide +kernel
theorem d_M_warmer_13 : decode prog_8_method_8_code 13 = .ok (.iload_n 1, 1) := by decide +kernel
theorem d_M_warmer_14 : decode prog_8_method_8_code 14 = .ok (.iload_n 2, 1) := by decide +kernel
theorem d_M_warmer_15 : decode prog_8_method_8_code 15 = .ok (.iadd, 1) := by decide +kernel
theorem d_M_warmer_16 : decode prog_8_method_8_code 16 = .ok (.ireturn, 1) := by decide +kernel
theorem d_M_edge_0 : decode prog_8_method_9_code 0 = .ok (.aload_n 0, 1) := by decide +kernel
theorem d_M_edge_1 : decode prog_8_method_9_code 1 = .ok (.getfield 33, 3) := by decide +kernel
theorem d_M_edge_4 : decode prog_8_method_9_code 4 = .ok (.iload_n 1, 1) := by decide +kernel
theorem d_M_edge_5 : decode prog_8_method_9_code 5 = .ok (.iaload, 1) := by decide +kernel
theorem d_M_edge_6 : decode prog_8_method_9_code 6 = .ok (.iconst 2, 1) := by decide +kernel
theorem d_M_edge_7 : decode prog_8_method_9_code 7 = .ok (.if_icmp .ge 12, 3) := by decide +kernel
theorem d_M_edge_10 : decode prog_8_method_9_code 10 = .ok (.aload_n 0, 1) := by decide +kernel
theorem d_M_edge_11 : decode prog_8_method_9_code 11 = .ok (.getfield 33, 3) := by decide +kernel
theorem d_M_edge_14 : decode prog_8_method_9_code 14 = .ok (.iload_n 1, 1) := by decide +kernel
theorem d_M_edge_15 : decode prog_8_method_9_code 15 = .ok (.iaload, 1) := by decide +kernel
theorem d_M_edge_16 : decode prog_8_method_9_code 16 = .ok (.iconst 1, 1) := by decide +kernel
theorem d_M_edge_17 : decode prog_8_method_9_code 17 = .ok (.isub, 1) := by decide +kernel
theorem d_M_edge_18 : decode prog_8_method_9_code 18 = .ok (.ireturn, 1) := by decide +kernel
theorem d_M_edge_19 : decode prog_8_method_9_code 19 = .ok (.iload_n 2, 1) := by decide +kernel
theorem d_M_edge_20 : decode prog_8_method_9_code 20 = .ok (.bipush 32, 2) := by decide +kernel
theorem d_M_edge_22 : decode prog_8_method_9_code 22 = .ok (.if_icmp .ge 16, 3) := by decide +kernel
theorem d_M_edge_25 : decode prog_8_method_9_code 25 = .ok (.iload_n 3, 1) := by decide +kernel
theorem d_M_edge_26 : decode prog_8_method_9_code 26 = .ok (.iload_n 2, 1) := by decide +kernel
theorem d_M_edge_27 : decode prog_8_method_9_code 27 = .ok (.ishr, 1) := by decide +kernel
theorem d_M_edge_28 : decode prog_8_method_9_code 28 = .ok (.iconst 1, 1) := by decide +kernel
theorem d_M_edge_29 : decode prog_8_method_9_code 29 = .ok (.iand, 1) := by decide +kernel
theorem d_M_edge_30 : decode prog_8_method_9_code 30 = .ok (.iconst 1, 1) := by decide +kernel
theorem d_M_edge_31 : decode prog_8_method_9_code 31 = .ok (.if_icmp .ne 7, 3) := by decide +kernel
theorem d_M_edge_34 : decode prog_8_method_9_code 34 = .ok (.iconst 0, 1) := by decide +kernel
theorem d_M_edge_35 : decode prog_8_method_9_code 35 = .ok (.goto 4, 3) := by decide +kernel
theorem d_M_edge_38 : decode prog_8_method_9_code 38 = .ok (.iconst 1, 1) := by decide +kernel
theorem d_M_edge_39 : decode prog_8_method_9_code 39 = .ok (.ireturn, 1) := by decide +kernel
theorem d_M_heat_0 : decode prog_8_method_11_code 0 = .ok (.aload_n 0, 1) := by decide +kernel
theorem d_M_heat_1 : decode prog_8_method_11_code 1 = .ok (.iload_n 1, 1) := by decide +kernel
theorem d_M_heat_2 : decode prog_8_method_11_code 2 = .ok (.invokevirtual 83, 3) := by decide +kernel
theorem d_M_heat_5 : decode prog_8_method_11_code 5 = .ok (.ifCond .ne 28, 3) := by decide +kernel
theorem d_M_heat_8 : decode prog_8_method_11_code 8 = .ok (.iload_n 2, 1) := by decide +kernel
theorem d_M_heat_9 : decode prog_8_method_11_code 9 = .ok (.ifCond .lt 24, 3) := by decide +kernel
theorem d_M_heat_12 : decode prog_8_method_11_code 12 = .ok (.iload_n 2, 1) := by decide +kernel
theorem d_M_heat_13 : decode prog_8_method_11_code 13 = .ok (.aload_n 0, 1) := by decide +kernel
theorem d_M_heat_14 : decode prog_8_method_11_code 14 = .ok (.getfield 33, 3) := by decide +kernel
theorem d_M_heat_17 : decode prog_8_method_11_code 17 = .ok (.iload_n 1, 1) := by decide +kernel
theorem d_M_heat_18 : decode prog_8_method_11_code 18 = .ok (.iaload, 1) := by decide +kernel
theorem d_M_heat_19 : decode prog_8_method_11_code 19 = .ok (.if_icmp .ge 14, 3) := by decide +kernel
theorem d_M_heat_22 : decode prog_8_method_11_code 22 = .ok (.iload_n 3, 1) := by decide +kernel
theorem d_M_heat_23 : decode prog_8_method_11_code 23 = .ok (.iconst 1, 1) := by decide +kernel
theorem d_M_heat_24 : decode prog_8_method_11_code 24 = .ok (.if_icmp .lt 9, 3) := by decide +kernel
theorem d_M_heat_27 : decode prog_8_method_11_code 27 = .ok (.iload_n 3, 1) := by decide +kernel
theorem d_M_heat_28 : decode prog_8_method_11_code 28 = .ok (.ldc 100, 2) := by decide +kernel
theorem d_M_heat_30 : decode prog_8_method_11_code 30 = .ok (.if_icmp .le 5, 3) := by decide +kernel
theorem d_M_heat_33 : decode prog_8_method_11_code 33 = .ok (.iconst (-1), 1) := by decide +kernel
theorem d_M_heat_34 : decode prog_8_method_11_code 34 = .ok (.ireturn, 1) := by decide +kernel
theorem d_M_heat_35 : decode prog_8_method_11_code 35 = .ok (.iload_n 1, 1) := by decide +kernel
theorem d_M_heat_36 : decode prog_8_method_11_code 36 = .ok (.iconst 2, 1) := by decide +kernel
theorem d_M_heat_37 : decode prog_8_method_11_code 37 = .ok (.imul, 1) := by decide +kernel
theorem d_M_heat_38 : decode prog_8_method_11_code 38 = .ok (.iload_n 2, 1) := by decide +kernel
theorem d_M_heat_39 : decode prog_8_method_11_code 39 = .ok (.iadd, 1) := by decide +kernel
theorem d_M_heat_40 : decode prog_8_method_11_code 40 = .ok (.istore 4, 2) := by decide +kernel
theorem d_M_heat_42 : decode prog_8_method_11_code 42 = .ok (.aload_n 0, 1) := by decide +kernel
theorem d_M_heat_43 : decode prog_8_method_11_code 43 = .ok (.getfield 42, 3) := by decide +kernel
theorem d_M_heat_46 : decode prog_8_method_11_code 46 = .ok (.iload 4, 2) := by decide +kernel
theorem d_M_heat_48 : decode prog_8_method_11_code 48 = .ok (.aload_n 0, 1) := by decide +kernel
theorem d_M_heat_49 : decode prog_8_method_11_code 49 = .ok (.aload_n 0, 1) := by decide +kernel
theorem d_M_heat_50 : decode prog_8_method_11_code 50 = .ok (.getfield 42, 3) := by decide +kernel
theorem d_M_heat_53 : decode prog_8_method_11_code 53 = .ok (.iload 4, 2) := by decide +kernel
theorem d_M_heat_55 : decode prog_8_method_11_code 55 = .ok (.iaload, 1) := by decide +kernel
theorem d_M_heat_56 : decode prog_8_method_11_code 56 = .ok (.iload_n 3, 1) := by decide +kernel
theorem d_M_heat_57 : decode prog_8_method_11_code 57 = .ok (.invokevirtual 92, 3) := by decide +kernel
theorem d_M_heat_60 : decode prog_8_method_11_code 60 = .ok (.iastore, 1) := by decide +kernel
theorem d_M_heat_61 : decode prog_8_method_11_code 61 = .ok (.aload_n 0, 1) := by decide +kernel
theorem d_M_heat_62 : decode prog_8_method_11_code 62 = .ok (.getfield 39, 3) := by decide +kernel
theorem d_M_heat_65 : decode prog_8_method_11_code 65 = .ok (.aload_n 0, 1) := by decide +kernel
theorem d_M_heat_66 : decode prog_8_method_11_code 66 = .ok (.getfield 36, 3) := by decide +kernel
theorem d_M_heat_69 : decode prog_8_method_11_code 69 = .ok (.iload 4, 2) := by decide +kernel
theorem d_M_heat_71 : decode prog_8_method_11_code 71 = .ok (.iaload, 1) := by decide +kernel
theorem d_M_heat_72 : decode prog_8_method_11_code 72 = .ok (.aload_n 0, 1) := by decide +kernel
theorem d_M_heat_73 : decode prog_8_method_11_code 73 = .ok (.aload_n 0, 1) := by decide +kernel
theorem d_M_heat_74 : decode prog_8_method_11_code 74 = .ok (.getfield 39, 3) := by decide +kernel
theorem d_M_heat_77 : decode prog_8_method_11_code 77 = .ok (.aload_n 0, 1) := by decide +kernel
theorem d_M_heat_78 : decode prog_8_method_11_code 78 = .ok (.getfield 36, 3) := by decide +kernel
theorem d_M_heat_81 : decode prog_8_method_11_code 81 = .ok (.iload 4, 2) := by decide +kernel
theorem d_M_heat_83 : decode prog_8_method_11_code 83 = .ok (.iaload, 1) := by decide +kernel
theorem d_M_heat_84 : decode prog_8_method_11_code 84 = .ok (.iaload, 1) := by decide +kernel
theorem d_M_heat_85 : decode prog_8_method_11_code 85 = .ok (.iload_n 3, 1) := by decide +kernel
theorem d_M_heat_86 : decode prog_8_method_11_code 86 = .ok (.invokevirtual 92, 3) := by decide +kernel
theorem d_M_heat_89 : decode prog_8_method_11_code 89 = .ok (.iastore, 1) := by decide +kernel
theorem d_M_heat_90 : decode prog_8_method_11_code 90 = .ok (.aload_n 0, 1) := by decide +kernel
theorem d_M_heat_91 : decode prog_8_method_11_code 91 = .ok (.getfield 42, 3) := by decide +kernel
theorem d_M_heat_94 : decode prog_8_method_11_code 94 = .ok (.iload 4, 2) := by decide +kernel
theorem d_M_heat_96 : decode prog_8_method_11_code 96 = .ok (.iaload, 1) := by decide +kernel
theorem d_M_heat_97 : decode prog_8_method_11_code 97 = .ok (.ireturn, 1) := by decide +kernel
theorem d_M_cool_0 : decode prog_8_method_12_code 0 = .ok (.iconst 0, 1) := by decide +kernel
theorem d_M_cool_1 : decode prog_8_method_12_code 1 = .ok (.istore_n 1, 1) := by decide +kernel
theorem d_M_cool_2 : decode prog_8_method_12_code 2 = .ok (.iload_n 1, 1) := by decide +kernel
theorem d_M_cool_3 : decode prog_8_method_12_code 3 = .ok (.bipush 24, 2) := by decide +kernel
theorem d_M_cool_5 : decode prog_8_method_12_code 5 = .ok (.if_icmp .ge 16, 3) := by decide +kernel
theorem d_M_cool_8 : decode prog_8_method_12_code 8 = .ok (.aload_n 0, 1) := by decide +kernel
theorem d_M_cool_9 : decode prog_8_method_12_code 9 = .ok (.getfield 39, 3) := by decide +kernel
theorem d_M_cool_12 : decode prog_8_method_12_code 12 = .ok (.iload_n 1, 1) := by decide +kernel
theorem d_M_cool_13 : decode prog_8_method_12_code 13 = .ok (.iconst 0, 1) := by decide +kernel
theorem d_M_cool_14 : decode prog_8_method_12_code 14 = .ok (.iastore, 1) := by decide +kernel
theorem d_M_cool_15 : decode prog_8_method_12_code 15 = .ok (.iinc 1 1, 3) := by decide +kernel
theorem d_M_cool_18 : decode prog_8_method_12_code 18 = .ok (.goto (-16), 3) := by decide +kernel
theorem d_M_cool_21 : decode prog_8_method_12_code 21 = .ok (.iconst 0, 1) := by decide +kernel
theorem d_M_cool_22 : decode prog_8_method_12_code 22 = .ok (.istore_n 1, 1) := by decide +kernel
theorem d_M_cool_23 : decode prog_8_method_12_code 23 = .ok (.iload_n 1, 1) := by decide +kernel
theorem d_M_cool_24 : decode prog_8_method_12_code 24 = .ok (.bipush 48, 2) := by decide +kernel
theorem d_M_cool_26 : decode prog_8_method_12_code 26 = .ok (.if_icmp .ge 16, 3) := by decide +kernel
theorem d_M_cool_29 : decode prog_8_method_12_code 29 = .ok (.aload_n 0, 1) := by decide +kernel
theorem d_M_cool_30 : decode prog_8_method_12_code 30 = .ok (.getfield 42, 3) := by decide +kernel
theorem d_M_cool_33 : decode prog_8_method_12_code 33 = .ok (.iload_n 1, 1) := by decide +kernel
theorem d_M_cool_34 : decode prog_8_method_12_code 34 = .ok (.iconst 0, 1) := by decide +kernel
theorem d_M_cool_35 : decode prog_8_method_12_code 35 = .ok (.iastore, 1) := by decide +kernel
theorem d_M_cool_36 : decode prog_8_method_12_code 36 = .ok (.iinc 1 1, 3) := by decide +kernel
theorem d_M_cool_39 : decode prog_8_method_12_code 39 = .ok (.goto (-16), 3) := by decide +kernel
theorem d_M_cool_42 : decode prog_8_method_12_code 42 = .ok (.iconst 0, 1) := by decide +kernel
theorem d_M_cool_43 : decode prog_8_method_12_code 43 = .ok (.ireturn, 1) := by decide +kernel
theorem d_M_layout_0 : decode prog_8_method_26_code 0 = .ok (.iload_n 1, 1) := by decide +kernel
theorem d_M_layout_1 : decode prog_8_method_26_code 1 = .ok (.ifCond .eq 8, 3) := by decide +kernel
theorem d_M_layout_4 : decode prog_8_method_26_code 4 = .ok (.iload_n 1, 1) := by decide +kernel
theorem d_M_layout_5 : decode prog_8_method_26_code 5 = .ok (.iconst 1, 1) := by decide +kernel
theorem d_M_layout_6 : decode prog_8_method_26_code 6 = .ok (.if_icmp .ne 10, 3) := by decide +kernel
theorem d_M_layout_9 : decode prog_8_method_26_code 9 = .ok (.aload_n 0, 1) := by decide +kernel
theorem d_M_layout_10 : decode prog_8_method_26_code 10 = .ok (.getfield 7, 3) := by decide +kernel
theorem d_M_layout_13 : decode prog_8_method_26_code 13 = .ok (.ifCond .ne 5, 3) := by decide +kernel
theorem d_M_layout_16 : decode prog_8_method_26_code 16 = .ok (.iconst (-1), 1) := by decide +kernel
theorem d_M_layout_17 : decode prog_8_method_26_code 17 = .ok (.ireturn, 1) := by decide +kernel
theorem d_M_layout_18 : decode prog_8_method_26_code 18 = .ok (.aload_n 0, 1) := by decide +kernel
theorem d_M_layout_19 : decode prog_8_method_26_code 19 = .ok (.iconst 1, 1) := by decide +kernel
theorem d_M_layout_20 : decode prog_8_method_26_code 20 = .ok (.putfield 22, 3) := by decide +kernel
theorem d_M_layout_23 : decode prog_8_method_26_code 23 = .ok (.aload_n 0, 1) := by decide +kernel
theorem d_M_layout_24 : decode prog_8_method_26_code 24 = .ok (.iconst 0, 1) := by decide +kernel
theorem d_M_layout_25 : decode prog_8_method_26_code 25 = .ok (.putfield 13, 3) := by decide +kernel
theorem d_M_layout_28 : decode prog_8_method_26_code 28 = .ok (.aload_n 0, 1) := by decide +kernel
theorem d_M_layout_29 : decode prog_8_method_26_code 29 = .ok (.iload_n 1, 1) := by decide +kernel
theorem d_M_layout_30 : decode prog_8_method_26_code 30 = .ok (.invokevirtual 128, 3) := by decide +kernel
theorem d_M_layout_33 : decode prog_8_method_26_code 33 = .ok (.aload_n 0, 1) := by decide +kernel
theorem d_M_layout_34 : decode prog_8_method_26_code 34 = .ok (.iload_n 1, 1) := by decide +kernel
theorem d_M_layout_35 : decode prog_8_method_26_code 35 = .ok (.invokevirtual 132, 3) := by decide +kernel
theorem d_M_layout_38 : decode prog_8_method_26_code 38 = .ok (.iconst 0, 1) := by decide +kernel
theorem d_M_layout_39 : decode prog_8_method_26_code 39 = .ok (.istore_n 2, 1) := by decide +kernel
theorem d_M_layout_40 : decode prog_8_method_26_code 40 = .ok (.iload_n 2, 1) := by decide +kernel
theorem d_M_layout_41 : decode prog_8_method_26_code 41 = .ok (.aload_n 0, 1) := by decide +kernel
theorem d_M_layout_42 : decode prog_8_method_26_code 42 = .ok (.getfield 7, 3) := by decide +kernel
theorem d_M_layout_45 : decode prog_8_method_26_code 45 = .ok (.if_icmp .ge 41, 3) := by decide +kernel
theorem d_M_layout_48 : decode prog_8_method_26_code 48 = .ok (.aload_n 0, 1) := by decide +kernel
theorem d_M_layout_49 : decode prog_8_method_26_code 49 = .ok (.aload_n 0, 1) := by decide +kernel
theorem d_M_layout_50 : decode prog_8_method_26_code 50 = .ok (.getfield 58, 3) := by decide +kernel
theorem d_M_layout_53 : decode prog_8_method_26_code 53 = .ok (.iload_n 2, 1) := by decide +kernel
theorem d_M_layout_54 : decode prog_8_method_26_code 54 = .ok (.iaload, 1) := by decide +kernel
theorem d_M_layout_55 : decode prog_8_method_26_code 55 = .ok (.iload_n 2, 1) := by decide +kernel
theorem d_M_layout_56 : decode prog_8_method_26_code 56 = .ok (.iconst 1, 1) := by decide +kernel
theorem d_M_layout_57 : decode prog_8_method_26_code 57 = .ok (.iadd, 1) := by decide +kernel
theorem d_M_layout_58 : decode prog_8_method_26_code 58 = .ok (.aload_n 0, 1) := by decide +kernel
theorem d_M_layout_59 : decode prog_8_method_26_code 59 = .ok (.getfield 7, 3) := by decide +kernel
theorem d_M_layout_62 : decode prog_8_method_26_code 62 = .ok (.if_icmp .ge 14, 3) := by decide +kernel
theorem d_M_layout_65 : decode prog_8_method_26_code 65 = .ok (.aload_n 0, 1) := by decide +kernel
theorem d_M_layout_66 : decode prog_8_method_26_code 66 = .ok (.getfield 58, 3) := by decide +kernel
theorem d_M_layout_69 : decode prog_8_method_26_code 69 = .ok (.iload_n 2, 1) := by decide +kernel
theorem d_M_layout_70 : decode prog_8_method_26_code 70 = .ok (.iconst 1, 1) := by decide +kernel
theorem d_M_layout_71 : decode prog_8_method_26_code 71 = .ok (.iadd, 1) := by decide +kernel
theorem d_M_layout_72 : decode prog_8_method_26_code 72 = .ok (.iaload, 1) := by decide +kernel
theorem d_M_layout_73 : decode prog_8_method_26_code 73 = .ok (.goto 4, 3) := by decide +kernel
theorem d_M_layout_76 : decode prog_8_method_26_code 76 = .ok (.iconst (-1), 1) := by decide +kernel
theorem d_M_layout_77 : decode prog_8_method_26_code 77 = .ok (.invokevirtual 135, 3) := by decide +kernel
theorem d_M_layout_80 : decode prog_8_method_26_code 80 = .ok (.iinc 2 1, 3) := by decide +kernel
theorem d_M_layout_83 : decode prog_8_method_26_code 83 = .ok (.goto (-43), 3) := by decide +kernel
theorem d_M_layout_86 : decode prog_8_method_26_code 86 = .ok (.aload_n 0, 1) := by decide +kernel
theorem d_M_layout_87 : decode prog_8_method_26_code 87 = .ok (.invokevirtual 139, 3) := by decide +kernel
theorem d_M_layout_90 : decode prog_8_method_26_code 90 = .ok (.ifCond .eq 16, 3) := by decide +kernel
theorem d_M_layout_93 : decode prog_8_method_26_code 93 = .ok (.aload_n 0, 1) := by decide +kernel
theorem d_M_layout_94 : decode prog_8_method_26_code 94 = .ok (.dup, 1) := by decide +kernel
theorem d_M_layout_95 : decode prog_8_method_26_code 95 = .ok (.getfield 13, 3) := by decide +kernel
theorem d_M_layout_98 : decode prog_8_method_26_code 98 = .ok (.iconst 1, 1) := by decide +kernel
theorem d_M_layout_99 : decode prog_8_method_26_code 99 = .ok (.iadd, 1) := by decide +kernel
theorem d_M_layout_100 : decode prog_8_method_26_code 100 = .ok (.putfield 13, 3) := by decide +kernel
theorem d_M_layout_103 : decode prog_8_method_26_code 103 = .ok (.goto (-17), 3) := by decide +kernel
theorem d_M_layout_106 : decode prog_8_method_26_code 106 = .ok (.aload_n 0, 1) := by decide +kernel
theorem d_M_layout_107 : decode prog_8_method_26_code 107 = .ok (.invokevirtual 142, 3) := by decide +kernel
theorem d_M_layout_110 : decode prog_8_method_26_code 110 = .ok (.ireturn, 1) := by decide +kernel
theorem d_M_makeChains_0 : decode prog_8_method_15_code 0 = .ok (.iconst 0, 1) := by decide +kernel
theorem d_M_makeChains_1 : decode prog_8_method_15_code 1 = .ok (.istore_n 2, 1) := by decide +kernel
theorem d_M_makeChains_2 : decode prog_8_method_15_code 2 = .ok (.iload_n 2, 1) := by decide +kernel
theorem d_M_makeChains_3 : decode prog_8_method_15_code 3 = .ok (.aload_n 0, 1) := by decide +kernel
theorem d_M_makeChains_4 : decode prog_8_method_15_code 4 = .ok (.getfield 7, 3) := by decide +kernel
theorem d_M_makeChains_7 : decode prog_8_method_15_code 7 = .ok (.if_icmp .ge 43, 3) := by decide +kernel
theorem d_M_makeChains_10 : decode prog_8_method_15_code 10 = .ok (.aload_n 0, 1) := by decide +kernel
theorem d_M_makeChains_11 : decode prog_8_method_15_code 11 = .ok (.getfield 45, 3) := by decide +kernel
theorem d_M_makeChains_14 : decode prog_8_method_15_code 14 = .ok (.iload_n 2, 1) := by decide +kernel
theorem d_M_makeChains_15 : decode prog_8_method_15_code 15 = .ok (.iload_n 2, 1) := by decide +kernel
theorem d_M_makeChains_16 : decode prog_8_method_15_code 16 = .ok (.iastore, 1) := by decide +kernel
theorem d_M_makeChains_17 : decode prog_8_method_15_code 17 = .ok (.aload_n 0, 1) := by decide +kernel
theorem d_M_makeChains_18 : decode prog_8_method_15_code 18 = .ok (.getfield 48, 3) := by decide +kernel
theorem d_M_makeChains_21 : decode prog_8_method_15_code 21 = .ok (.iload_n 2, 1) := by decide +kernel
theorem d_M_makeChains_22 : decode prog_8_method_15_code 22 = .ok (.iconst 0, 1) := by decide +kernel
theorem d_M_makeChains_23 : decode prog_8_method_15_code 23 = .ok (.iastore, 1) := by decide +kernel
theorem d_M_makeChains_24 : decode prog_8_method_15_code 24 = .ok (.aload_n 0, 1) := by decide +kernel
theorem d_M_makeChains_25 : decode prog_8_method_15_code 25 = .ok (.getfield 51, 3) := by decide +kernel
theorem d_M_makeChains_28 : decode prog_8_method_15_code 28 = .ok (.iload_n 2, 1) := by decide +kernel
theorem d_M_makeChains_29 : decode prog_8_method_15_code 29 = .ok (.iconst 2, 1) := by decide +kernel
theorem d_M_makeChains_30 : decode prog_8_method_15_code 30 = .ok (.imul, 1) := by decide +kernel
theorem d_M_makeChains_31 : decode prog_8_method_15_code 31 = .ok (.iconst 0, 1) := by decide +kernel
theorem d_M_makeChains_32 : decode prog_8_method_15_code 32 = .ok (.bastore, 1) := by decide +kernel
theorem d_M_makeChains_33 : decode prog_8_method_15_code 33 = .ok (.aload_n 0, 1) := by decide +kernel
theorem d_M_makeChains_34 : decode prog_8_method_15_code 34 = .ok (.getfield 51, 3) := by decide +kernel
theorem d_M_makeChains_37 : decode prog_8_method_15_code 37 = .ok (.iload_n 2, 1) := by decide +kernel
theorem d_M_makeChains_38 : decode prog_8_method_15_code 38 = .ok (.iconst 2, 1) := by decide +kernel
theorem d_M_makeChains_39 : decode prog_8_method_15_code 39 = .ok (.imul, 1) := by decide +kernel
theorem d_M_makeChains_40 : decode prog_8_method_15_code 40 = .ok (.iconst 1, 1) := by decide +kernel
theorem d_M_makeChains_41 : decode prog_8_method_15_code 41 = .ok (.iadd, 1) := by decide +kernel
theorem d_M_makeChains_42 : decode prog_8_method_15_code 42 = .ok (.iconst 0, 1) := by decide +kernel
theorem d_M_makeChains_43 : decode prog_8_method_15_code 43 = .ok (.bastore, 1) := by decide +kernel
theorem d_M_makeChains_44 : decode prog_8_method_15_code 44 = .ok (.iinc 2 1, 3) := by decide +kernel
theorem d_M_makeChains_47 : decode prog_8_method_15_code 47 = .ok (.goto (-45), 3) := by decide +kernel
theorem d_M_makeChains_50 : decode prog_8_method_15_code 50 = .ok (.iload_n 1, 1) := by decide +kernel
theorem d_M_makeChains_51 : decode prog_8_method_15_code 51 = .ok (.iconst 1, 1) := by decide +kernel
theorem d_M_makeChains_52 : decode prog_8_method_15_code 52 = .ok (.if_icmp .ne 23, 3) := by decide +kernel
theorem d_M_makeChains_55 : decode prog_8_method_15_code 55 = .ok (.aload_n 0, 1) := by decide +kernel
theorem d_M_makeChains_56 : decode prog_8_method_15_code 56 = .ok (.invokevirtual 104, 3) := by decide +kernel
theorem d_M_makeChains_59 : decode prog_8_method_15_code 59 = .ok (.ifCond .eq 16, 3) := by decide +kernel
theorem d_M_makeChains_62 : decode prog_8_method_15_code 62 = .ok (.aload_n 0, 1) := by decide +kernel
theorem d_M_makeChains_63 : decode prog_8_method_15_code 63 = .ok (.dup, 1) := by decide +kernel
theorem d_M_makeChains_64 : decode prog_8_method_15_code 64 = .ok (.getfield 13, 3) := by decide +kernel
theorem d_M_makeChains_67 : decode prog_8_method_15_code 67 = .ok (.iconst 1, 1) := by decide +kernel
theorem d_M_makeChains_68 : decode prog_8_method_15_code 68 = .ok (.iadd, 1) := by decide +kernel
theorem d_M_makeChains_69 : decode prog_8_method_15_code 69 = .ok (.putfield 13, 3) := by decide +kernel
theorem d_M_makeChains_72 : decode prog_8_method_15_code 72 = .ok (.goto (-22), 3) := by decide +kernel
theorem d_M_makeChains_75 : decode prog_8_method_15_code 75 = .ok (.return_, 1) := by decide +kernel
theorem d_M_joinOne_0 : decode prog_8_method_14_code 0 = .ok (.iconst (-1), 1) := by decide +kernel
theorem d_M_joinOne_1 : decode prog_8_method_14_code 1 = .ok (.istore_n 1, 1) := by decide +kernel
theorem d_M_joinOne_2 : decode prog_8_method_14_code 2 = .ok (.iconst 0, 1) := by decide +kernel
theorem d_M_joinOne_3 : decode prog_8_method_14_code 3 = .ok (.istore_n 2, 1) := by decide +kernel
theorem d_M_joinOne_4 : decode prog_8_method_14_code 4 = .ok (.iload_n 2, 1) := by decide +kernel
theorem d_M_joinOne_5 : decode prog_8_method_14_code 5 = .ok (.aload_n 0, 1) := by decide +kernel
theorem d_M_joinOne_6 : decode prog_8_method_14_code 6 = .ok (.getfield 7, 3) := by decide +kernel
theorem d_M_joinOne_9 : decode prog_8_method_14_code 9 = .ok (.iconst 2, 1) := by decide +kernel
theorem d_M_joinOne_10 : decode prog_8_method_14_code 10 = .ok (.imul, 1) := by decide +kernel
theorem d_M_joinOne_11 : decode prog_8_method_14_code 11 = .ok (.if_icmp .ge 77, 3) := by decide +kernel
theorem d_M_joinOne_14 : decode prog_8_method_14_code 14 = .ok (.aload_n 0, 1) := by decide +kernel
theorem d_M_joinOne_15 : decode prog_8_method_14_code 15 = .ok (.getfield 51, 3) := by decide +kernel
theorem d_M_joinOne_18 : decode prog_8_method_14_code 18 = .ok (.iload_n 2, 1) := by decide +kernel
theorem d_M_joinOne_19 : decode prog_8_method_14_code 19 = .ok (.baload, 1) := by decide +kernel
theorem d_M_joinOne_20 : decode prog_8_method_14_code 20 = .ok (.ifCond .ne 62, 3) := by decide +kernel
theorem d_M_joinOne_23 : decode prog_8_method_14_code 23 = .ok (.iload_n 2, 1) := by decide +kernel
theorem d_M_joinOne_24 : decode prog_8_method_14_code 24 = .ok (.iconst 2, 1) := by decide +kernel
theorem d_M_joinOne_25 : decode prog_8_method_14_code 25 = .ok (.irem, 1) := by decide +kernel
theorem d_M_joinOne_26 : decode prog_8_method_14_code 26 = .ok (.aload_n 0, 1) := by decide +kernel
theorem d_M_joinOne_27 : decode prog_8_method_14_code 27 = .ok (.getfield 33, 3) := by decide +kernel
theorem d_M_joinOne_30 : decode prog_8_method_14_code 30 = .ok (.iload_n 2, 1) := by decide +kernel
theorem d_M_joinOne_31 : decode prog_8_method_14_code 31 = .ok (.iconst 2, 1) := by decide +kernel
theorem d_M_joinOne_32 : decode prog_8_method_14_code 32 = .ok (.idiv, 1) := by decide +kernel
theorem d_M_joinOne_33 : decode prog_8_method_14_code 33 = .ok (.iaload, 1) := by decide +kernel
theorem d_M_joinOne_34 : decode prog_8_method_14_code 34 = .ok (.if_icmp .ge 48, 3) := by decide +kernel
theorem d_M_joinOne_37 : decode prog_8_method_14_code 37 = .ok (.aload_n 0, 1) := by decide +kernel
theorem d_M_joinOne_38 : decode prog_8_method_14_code 38 = .ok (.getfield 42, 3) := by decide +kernel
theorem d_M_joinOne_41 : decode prog_8_method_14_code 41 = .ok (.iload_n 2, 1) := by decide +kernel
theorem d_M_joinOne_42 : decode prog_8_method_14_code 42 = .ok (.iaload, 1) := by decide +kernel
theorem d_M_joinOne_43 : decode prog_8_method_14_code 43 = .ok (.ifCond .eq 39, 3) := by decide +kernel
theorem d_M_joinOne_46 : decode prog_8_method_14_code 46 = .ok (.aload_n 0, 1) := by decide +kernel
theorem d_M_joinOne_47 : decode prog_8_method_14_code 47 = .ok (.getfield 36, 3) := by decide +kernel
theorem d_M_joinOne_50 : decode prog_8_method_14_code 50 = .ok (.iload_n 2, 1) := by decide +kernel
theorem d_M_joinOne_51 : decode prog_8_method_14_code 51 = .ok (.iaload, 1) := by decide +kernel
theorem d_M_joinOne_52 : decode prog_8_method_14_code 52 = .ok (.iload_n 2, 1) := by decide +kernel
theorem d_M_joinOne_53 : decode prog_8_method_14_code 53 = .ok (.iconst 2, 1) := by decide +kernel
theorem d_M_joinOne_54 : decode prog_8_method_14_code 54 = .ok (.idiv, 1) := by decide +kernel
theorem d_M_joinOne_55 : decode prog_8_method_14_code 55 = .ok (.if_icmp .ne 6, 3) := by decide +kernel
theorem d_M_joinOne_58 : decode prog_8_method_14_code 58 = .ok (.goto 24, 3) := by decide +kernel
theorem d_M_joinOne_61 : decode prog_8_method_14_code 61 = .ok (.iload_n 1, 1) := by decide +kernel
theorem d_M_joinOne_62 : decode prog_8_method_14_code 62 = .ok (.ifCond .lt 18, 3) := by decide +kernel
theorem d_M_joinOne_65 : decode prog_8_method_14_code 65 = .ok (.aload_n 0, 1) := by decide +kernel
theorem d_M_joinOne_66 : decode prog_8_method_14_code 66 = .ok (.getfield 42, 3) := by decide +kernel
theorem d_M_joinOne_69 : decode prog_8_method_14_code 69 = .ok (.iload_n 2, 1) := by decide +kernel
theorem d_M_joinOne_70 : decode prog_8_method_14_code 70 = .ok (.iaload, 1) := by decide +kernel
theorem d_M_joinOne_71 : decode prog_8_method_14_code 71 = .ok (.aload_n 0, 1) := by decide +kernel
theorem d_M_joinOne_72 : decode prog_8_method_14_code 72 = .ok (.getfield 42, 3) := by decide +kernel
theorem d_M_joinOne_75 : decode prog_8_method_14_code 75 = .ok (.iload_n 1, 1) := by decide +kernel
theorem d_M_joinOne_76 : decode prog_8_method_14_code 76 = .ok (.iaload, 1) := by decide +kernel
theorem d_M_joinOne_77 : decode prog_8_method_14_code 77 = .ok (.if_icmp .le 5, 3) := by decide +kernel
theorem d_M_joinOne_80 : decode prog_8_method_14_code 80 = .ok (.iload_n 2, 1) := by decide +kernel
theorem d_M_joinOne_81 : decode prog_8_method_14_code 81 = .ok (.istore_n 1, 1) := by decide +kernel
theorem d_M_joinOne_82 : decode prog_8_method_14_code 82 = .ok (.iinc 2 1, 3) := by decide +kernel
theorem d_M_joinOne_85 : decode prog_8_method_14_code 85 = .ok (.goto (-81), 3) := by decide +kernel
theorem d_M_joinOne_88 : decode prog_8_method_14_code 88 = .ok (.iload_n 1, 1) := by decide +kernel
theorem d_M_joinOne_89 : decode prog_8_method_14_code 89 = .ok (.ifCond .ge 5, 3) := by decide +kernel
theorem d_M_joinOne_92 : decode prog_8_method_14_code 92 = .ok (.iconst 0, 1) := by decide +kernel
theorem d_M_joinOne_93 : decode prog_8_method_14_code 93 = .ok (.ireturn, 1) := by decide +kernel
theorem d_M_joinOne_94 : decode prog_8_method_14_code 94 = .ok (.aload_n 0, 1) := by decide +kernel
theorem d_M_joinOne_95 : decode prog_8_method_14_code 95 = .ok (.getfield 51, 3) := by decide +kernel
theorem d_M_joinOne_98 : decode prog_8_method_14_code 98 = .ok (.iload_n 1, 1) := by decide +kernel
theorem d_M_joinOne_99 : decode prog_8_method_14_code 99 = .ok (.iconst 1, 1) := by decide +kernel
theorem d_M_joinOne_100 : decode prog_8_method_14_code 100 = .ok (.bastore, 1) := by decide +kernel
theorem d_M_joinOne_101 : decode prog_8_method_14_code 101 = .ok (.iload_n 1, 1) := by decide +kernel
theorem d_M_joinOne_102 : decode prog_8_method_14_code 102 = .ok (.iconst 2, 1) := by decide +kernel
theorem d_M_joinOne_103 : decode prog_8_method_14_code 103 = .ok (.idiv, 1) := by decide +kernel
theorem d_M_joinOne_104 : decode prog_8_method_14_code 104 = .ok (.istore_n 2, 1) := by decide +kernel
theorem d_M_joinOne_105 : decode prog_8_method_14_code 105 = .ok (.aload_n 0, 1) := by decide +kernel
theorem d_M_joinOne_106 : decode prog_8_method_14_code 106 = .ok (.getfield 36, 3) := by decide +kernel
theorem d_M_joinOne_109 : decode prog_8_method_14_code 109 = .ok (.iload_n 1, 1) := by decide +kernel
theorem d_M_joinOne_110 : decode prog_8_method_14_code 110 = .ok (.iaload, 1) := by decide +kernel
theorem d_M_joinOne_111 : decode prog_8_method_14_code 111 = .ok (.istore_n 3, 1) := by decide +kernel
theorem d_M_joinOne_112 : decode prog_8_method_14_code 112 = .ok (.aload_n 0, 1) := by decide +kernel
theorem d_M_joinOne_113 : decode prog_8_method_14_code 113 = .ok (.getfield 45, 3) := by decide +kernel
theorem d_M_joinOne_116 : decode prog_8_method_14_code 116 = .ok (.iload_n 2, 1) := by decide +kernel
theorem d_M_joinOne_117 : decode prog_8_method_14_code 117 = .ok (.iaload, 1) := by decide +kernel
theorem d_M_joinOne_118 : decode prog_8_method_14_code 118 = .ok (.istore 4, 2) := by decide +kernel
theorem d_M_joinOne_120 : decode prog_8_method_14_code 120 = .ok (.aload_n 0, 1) := by decide +kernel
theorem d_M_joinOne_121 : decode prog_8_method_14_code 121 = .ok (.getfield 45, 3) := by decide +kernel
theorem d_M_joinOne_124 : decode prog_8_method_14_code 124 = .ok (.iload_n 3, 1) := by decide +kernel
theorem d_M_joinOne_125 : decode prog_8_method_14_code 125 = .ok (.iaload, 1) := by decide +kernel
theorem d_M_joinOne_126 : decode prog_8_method_14_code 126 = .ok (.istore 5, 2) := by decide +kernel
theorem d_M_joinOne_128 : decode prog_8_method_14_code 128 = .ok (.aload_n 0, 1) := by decide +kernel
theorem d_M_joinOne_129 : decode prog_8_method_14_code 129 = .ok (.iload 4, 2) := by decide +kernel
theorem d_M_joinOne_131 : decode prog_8_method_14_code 131 = .ok (.invokevirtual 101, 3) := by decide +kernel
theorem d_M_joinOne_134 : decode prog_8_method_14_code 134 = .ok (.istore 6, 2) := by decide +kernel
theorem d_M_joinOne_136 : decode prog_8_method_14_code 136 = .ok (.aload_n 0, 1) := by decide +kernel
theorem d_M_joinOne_137 : decode prog_8_method_14_code 137 = .ok (.getfield 48, 3) := by decide +kernel
theorem d_M_joinOne_140 : decode prog_8_method_14_code 140 = .ok (.iload_n 2, 1) := by decide +kernel
theorem d_M_joinOne_141 : decode prog_8_method_14_code 141 = .ok (.iaload, 1) := by decide +kernel
theorem d_M_joinOne_142 : decode prog_8_method_14_code 142 = .ok (.iload 6, 2) := by decide +kernel
theorem d_M_joinOne_144 : decode prog_8_method_14_code 144 = .ok (.iconst 1, 1) := by decide +kernel
theorem d_M_joinOne_145 : decode prog_8_method_14_code 145 = .ok (.isub, 1) := by decide +kernel
theorem d_M_joinOne_146 : decode prog_8_method_14_code 146 = .ok (.if_icmp .ne 33, 3) := by decide +kernel
theorem d_M_joinOne_149 : decode prog_8_method_14_code 149 = .ok (.aload_n 0, 1) := by decide +kernel
theorem d_M_joinOne_150 : decode prog_8_method_14_code 150 = .ok (.getfield 48, 3) := by decide +kernel
theorem d_M_joinOne_153 : decode prog_8_method_14_code 153 = .ok (.iload_n 3, 1) := by decide +kernel
theorem d_M_joinOne_154 : decode prog_8_method_14_code 154 = .ok (.iaload, 1) := by decide +kernel
theorem d_M_joinOne_155 : decode prog_8_method_14_code 155 = .ok (.ifCond .ne 24, 3) := by decide +kernel
theorem d_M_joinOne_158 : decode prog_8_method_14_code 158 = .ok (.iload 4, 2) := by decide +kernel
theorem d_M_joinOne_160 : decode prog_8_method_14_code 160 = .ok (.iload 5, 2) := by decide +kernel
theorem d_M_joinOne_162 : decode prog_8_method_14_code 162 = .ok (.if_icmp .eq 17, 3) := by decide +kernel
theorem d_M_joinOne_165 : decode prog_8_method_14_code 165 = .ok (.iload_n 3, 1) := by decide +kernel
theorem d_M_joinOne_166 : decode prog_8_method_14_code 166 = .ok (.aload_n 0, 1) := by decide +kernel
theorem d_M_joinOne_167 : decode prog_8_method_14_code 167 = .ok (.aload_n 0, 1) := by decide +kernel
theorem d_M_joinOne_168 : decode prog_8_method_14_code 168 = .ok (.getfield 26, 3) := by decide +kernel
theorem d_M_joinOne_171 : decode prog_8_method_14_code 171 = .ok (.iload_n 3, 1) := by decide +kernel
theorem d_M_joinOne_172 : decode prog_8_method_14_code 172 = .ok (.iaload, 1) := by decide +kernel
theorem d_M_joinOne_173 : decode prog_8_method_14_code 173 = .ok (.invokevirtual 88, 3) := by decide +kernel
theorem d_M_joinOne_176 : decode prog_8_method_14_code 176 = .ok (.if_icmp .ne 5, 3) := by decide +kernel
theorem d_M_joinOne_179 : decode prog_8_method_14_code 179 = .ok (.iconst 1, 1) := by decide +kernel
theorem d_M_joinOne_180 : decode prog_8_method_14_code 180 = .ok (.ireturn, 1) := by decide +kernel
theorem d_M_joinOne_181 : decode prog_8_method_14_code 181 = .ok (.iconst 0, 1) := by decide +kernel
theorem d_M_joinOne_182 : decode prog_8_method_14_code 182 = .ok (.istore 7, 2) := by decide +kernel
theorem d_M_joinOne_184 : decode prog_8_method_14_code 184 = .ok (.iload 7, 2) := by decide +kernel
theorem d_M_joinOne_186 : decode prog_8_method_14_code 186 = .ok (.aload_n 0, 1) := by decide +kernel
theorem d_M_joinOne_187 : decode prog_8_method_14_code 187 = .ok (.getfield 7, 3) := by decide +kernel
theorem d_M_joinOne_190 : decode prog_8_method_14_code 190 = .ok (.if_icmp .ge 45, 3) := by decide +kernel
theorem d_M_joinOne_193 : decode prog_8_method_14_code 193 = .ok (.aload_n 0, 1) := by decide +kernel
theorem d_M_joinOne_194 : decode prog_8_method_14_code 194 = .ok (.getfield 45, 3) := by decide +kernel
theorem d_M_joinOne_197 : decode prog_8_method_14_code 197 = .ok (.iload 7, 2) := by decide +kernel
theorem d_M_joinOne_199 : decode prog_8_method_14_code 199 = .ok (.iaload, 1) := by decide +kernel
theorem d_M_joinOne_200 : decode prog_8_method_14_code 200 = .ok (.iload 5, 2) := by decide +kernel
theorem d_M_joinOne_202 : decode prog_8_method_14_code 202 = .ok (.if_icmp .eq 6, 3) := by decide +kernel
theorem d_M_joinOne_205 : decode prog_8_method_14_code 205 = .ok (.goto 24, 3) := by decide +kernel
theorem d_M_joinOne_208 : decode prog_8_method_14_code 208 = .ok (.aload_n 0, 1) := by decide +kernel
theorem d_M_joinOne_209 : decode prog_8_method_14_code 209 = .ok (.getfield 45, 3) := by decide +kernel
theorem d_M_joinOne_212 : decode prog_8_method_14_code 212 = .ok (.iload 7, 2) := by decide +kernel
theorem d_M_joinOne_214 : decode prog_8_method_14_code 214 = .ok (.iload 4, 2) := by decide +kernel
theorem d_M_joinOne_216 : decode prog_8_method_14_code 216 = .ok (.iastore, 1) := by decide +kernel
theorem d_M_joinOne_217 : decode prog_8_method_14_code 217 = .ok (.aload_n 0, 1) := by decide +kernel
theorem d_M_joinOne_218 : decode prog_8_method_14_code 218 = .ok (.getfield 48, 3) := by decide +kernel
theorem d_M_joinOne_221 : decode prog_8_method_14_code 221 = .ok (.iload 7, 2) := by decide +kernel
theorem d_M_joinOne_223 : decode prog_8_method_14_code 223 = .ok (.dup2, 1) := by decide +kernel
theorem d_M_joinOne_224 : decode prog_8_method_14_code 224 = .ok (.iaload, 1) := by decide +kernel
theorem d_M_joinOne_225 : decode prog_8_method_14_code 225 = .ok (.iload 6, 2) := by decide +kernel
theorem d_M_joinOne_227 : decode prog_8_method_14_code 227 = .ok (.iadd, 1) := by decide +kernel
theorem d_M_joinOne_228 : decode prog_8_method_14_code 228 = .ok (.iastore, 1) := by decide +kernel
theorem d_M_joinOne_229 : decode prog_8_method_14_code 229 = .ok (.iinc 7 1, 3) := by decide +kernel
theorem d_M_joinOne_232 : decode prog_8_method_14_code 232 = .ok (.goto (-48), 3) := by decide +kernel
theorem d_M_joinOne_235 : decode prog_8_method_14_code 235 = .ok (.iconst 1, 1) := by decide +kernel
theorem d_M_joinOne_236 : decode prog_8_method_14_code 236 = .ok (.ireturn, 1) := by decide +kernel
theorem d_M_size_0 : decode prog_8_method_13_code 0 = .ok (.iconst 0, 1) := by decide +kernel
theorem d_M_size_1 : decode prog_8_method_13_code 1 = .ok (.istore_n 2, 1) := by decide +kernel
theorem d_M_size_2 : decode prog_8_method_13_code 2 = .ok (.iconst 0, 1) := by decide +kernel
theorem d_M_size_3 : decode prog_8_method_13_code 3 = .ok (.istore_n 3, 1) := by decide +kernel
theorem d_M_size_4 : decode prog_8_method_13_code 4 = .ok (.iload_n 3, 1) := by decide +kernel
theorem d_M_size_5 : decode prog_8_method_13_code 5 = .ok (.aload_n 0, 1) := by decide +kernel
theorem d_M_size_6 : decode prog_8_method_13_code 6 = .ok (.getfield 7, 3) := by decide +kernel
theorem d_M_size_9 : decode prog_8_method_13_code 9 = .ok (.if_icmp .ge 22, 3) := by decide +kernel
theorem d_M_size_12 : decode prog_8_method_13_code 12 = .ok (.aload_n 0, 1) := by decide +kernel
theorem d_M_size_13 : decode prog_8_method_13_code 13 = .ok (.getfield 45, 3) := by decide +kernel
theorem d_M_size_16 : decode prog_8_method_13_code 16 = .ok (.iload_n 3, 1) := by decide +kernel
theorem d_M_size_17 : decode prog_8_method_13_code 17 = .ok (.iaload, 1) := by decide +kernel
theorem d_M_size_18 : decode prog_8_method_13_code 18 = .ok (.iload_n 1, 1) := by decide +kernel
theorem d_M_size_19 : decode prog_8_method_13_code 19 = .ok (.if_icmp .ne 6, 3) := by decide +kernel
theorem d_M_size_22 : decode prog_8_method_13_code 22 = .ok (.iinc 2 1, 3) := by decide +kernel
theorem d_M_size_25 : decode prog_8_method_13_code 25 = .ok (.iinc 3 1, 3) := by decide +kernel
theorem d_M_size_28 : decode prog_8_method_13_code 28 = .ok (.goto (-24), 3) := by decide +kernel
theorem d_M_size_31 : decode prog_8_method_13_code 31 = .ok (.iload_n 2, 1) := by decide +kernel
theorem d_M_size_32 : decode prog_8_method_13_code 32 = .ok (.ireturn, 1) := by decide +kernel
theorem d_M_putOrder_0 : decode prog_8_method_20_code 0 = .ok (.iconst 0, 1) := by decide +kernel
theorem d_M_putOrder_1 : decode prog_8_method_20_code 1 = .ok (.istore_n 2, 1) := by decide +kernel
theorem d_M_putOrder_2 : decode prog_8_method_20_code 2 = .ok (.aload_n 0, 1) := by decide +kernel
theorem d_M_putOrder_3 : decode prog_8_method_20_code 3 = .ok (.iconst 0, 1) := by decide +kernel
theorem d_M_putOrder_4 : decode prog_8_method_20_code 4 = .ok (.putfield 16, 3) := by decide +kernel
theorem d_M_putOrder_7 : decode prog_8_method_20_code 7 = .ok (.aload_n 0, 1) := by decide +kernel
theorem d_M_putOrder_8 : decode prog_8_method_20_code 8 = .ok (.iconst 0, 1) := by decide +kernel
theorem d_M_putOrder_9 : decode prog_8_method_20_code 9 = .ok (.putfield 19, 3) := by decide +kernel
theorem d_M_putOrder_12 : decode prog_8_method_20_code 12 = .ok (.iconst 0, 1) := by decide +kernel
theorem d_M_putOrder_13 : decode prog_8_method_20_code 13 = .ok (.istore_n 3, 1) := by decide +kernel
theorem d_M_putOrder_14 : decode prog_8_method_20_code 14 = .ok (.iload_n 3, 1) := by decide +kernel
theorem d_M_putOrder_15 : decode prog_8_method_20_code 15 = .ok (.aload_n 0, 1) := by decide +kernel
theorem d_M_putOrder_16 : decode prog_8_method_20_code 16 = .ok (.getfield 7, 3) := by decide +kernel
theorem d_M_putOrder_19 : decode prog_8_method_20_code 19 = .ok (.if_icmp .ge 16, 3) := by decide +kernel
theorem d_M_putOrder_22 : decode prog_8_method_20_code 22 = .ok (.aload_n 0, 1) := by decide +kernel
theorem d_M_putOrder_23 : decode prog_8_method_20_code 23 = .ok (.getfield 55, 3) := by decide +kernel
theorem d_M_putOrder_26 : decode prog_8_method_20_code 26 = .ok (.iload_n 3, 1) := by decide +kernel
theorem d_M_putOrder_27 : decode prog_8_method_20_code 27 = .ok (.iconst 0, 1) := by decide +kernel
theorem d_M_putOrder_28 : decode prog_8_method_20_code 28 = .ok (.bastore, 1) := by decide +kernel
theorem d_M_putOrder_29 : decode prog_8_method_20_code 29 = .ok (.iinc 3 1, 3) := by decide +kernel
theorem d_M_putOrder_32 : decode prog_8_method_20_code 32 = .ok (.goto (-18), 3) := by decide +kernel
theorem d_M_putOrder_35 : decode prog_8_method_20_code 35 = .ok (.iload_n 2, 1) := by decide +kernel
theorem d_M_putOrder_36 : decode prog_8_method_20_code 36 = .ok (.aload_n 0, 1) := by decide +kernel
theorem d_M_putOrder_37 : decode prog_8_method_20_code 37 = .ok (.getfield 7, 3) := by decide +kernel
theorem d_M_putOrder_40 : decode prog_8_method_20_code 40 = .ok (.if_icmp .ge 184, 3) := by decide +kernel
theorem d_M_putOrder_43 : decode prog_8_method_20_code 43 = .ok (.iconst (-1), 1) := by decide +kernel
theorem d_M_putOrder_44 : decode prog_8_method_20_code 44 = .ok (.istore_n 3, 1) := by decide +kernel
theorem d_M_putOrder_45 : decode prog_8_method_20_code 45 = .ok (.iconst 0, 1) := by decide +kernel
theorem d_M_putOrder_46 : decode prog_8_method_20_code 46 = .ok (.istore 4, 2) := by decide +kernel
theorem d_M_putOrder_48 : decode prog_8_method_20_code 48 = .ok (.iload 4, 2) := by decide +kernel
theorem d_M_putOrder_50 : decode prog_8_method_20_code 50 = .ok (.aload_n 0, 1) := by decide +kernel
theorem d_M_putOrder_51 : decode prog_8_method_20_code 51 = .ok (.getfield 7, 3) := by decide +kernel
theorem d_M_putOrder_54 : decode prog_8_method_20_code 54 = .ok (.if_icmp .ge 65, 3) := by decide +kernel
theorem d_M_putOrder_57 : decode prog_8_method_20_code 57 = .ok (.aload_n 0, 1) := by decide +kernel
theorem d_M_putOrder_58 : decode prog_8_method_20_code 58 = .ok (.getfield 55, 3) := by decide +kernel
theorem d_M_putOrder_61 : decode prog_8_method_20_code 61 = .ok (.iload 4, 2) := by decide +kernel
theorem d_M_putOrder_63 : decode prog_8_method_20_code 63 = .ok (.baload, 1) := by decide +kernel
theorem d_M_putOrder_64 : decode prog_8_method_20_code 64 = .ok (.ifCond .eq 6, 3) := by decide +kernel
theorem d_M_putOrder_67 : decode prog_8_method_20_code 67 = .ok (.goto 46, 3) := by decide +kernel
theorem d_M_putOrder_70 : decode prog_8_method_20_code 70 = .ok (.iload_n 3, 1) := by decide +kernel
theorem d_M_putOrder_71 : decode prog_8_method_20_code 71 = .ok (.ifCond .lt 34, 3) := by decide +kernel
theorem d_M_putOrder_74 : decode prog_8_method_20_code 74 = .ok (.iload_n 1, 1) := by decide +kernel
theorem d_M_putOrder_75 : decode prog_8_method_20_code 75 = .ok (.iconst 1, 1) := by decide +kernel
theorem d_M_putOrder_76 : decode prog_8_method_20_code 76 = .ok (.if_icmp .ne 37, 3) := by decide +kernel
theorem d_M_putOrder_79 : decode prog_8_method_20_code 79 = .ok (.aload_n 0, 1) := by decide +kernel
theorem d_M_putOrder_80 : decode prog_8_method_20_code 80 = .ok (.getfield 45, 3) := by decide +kernel
theorem d_M_putOrder_83 : decode prog_8_method_20_code 83 = .ok (.iload 4, 2) := by decide +kernel
theorem d_M_putOrder_85 : decode prog_8_method_20_code 85 = .ok (.iaload, 1) := by decide +kernel
theorem d_M_putOrder_86 : decode prog_8_method_20_code 86 = .ok (.iload_n 3, 1) := by decide +kernel
theorem d_M_putOrder_87 : decode prog_8_method_20_code 87 = .ok (.if_icmp .eq 26, 3) := by decide +kernel
theorem d_M_putOrder_90 : decode prog_8_method_20_code 90 = .ok (.aload_n 0, 1) := by decide +kernel
theorem d_M_putOrder_91 : decode prog_8_method_20_code 91 = .ok (.aload_n 0, 1) := by decide +kernel
theorem d_M_putOrder_92 : decode prog_8_method_20_code 92 = .ok (.getfield 45, 3) := by decide +kernel
theorem d_M_putOrder_95 : decode prog_8_method_20_code 95 = .ok (.iload 4, 2) := by decide +kernel
theorem d_M_putOrder_97 : decode prog_8_method_20_code 97 = .ok (.iaload, 1) := by decide +kernel
theorem d_M_putOrder_98 : decode prog_8_method_20_code 98 = .ok (.iload_n 3, 1) := by decide +kernel
theorem d_M_putOrder_99 : decode prog_8_method_20_code 99 = .ok (.invokevirtual 118, 3) := by decide +kernel
theorem d_M_putOrder_102 : decode prog_8_method_20_code 102 = .ok (.ifCond .eq 11, 3) := by decide +kernel
theorem d_M_putOrder_105 : decode prog_8_method_20_code 105 = .ok (.aload_n 0, 1) := by decide +kernel
theorem d_M_putOrder_106 : decode prog_8_method_20_code 106 = .ok (.getfield 45, 3) := by decide +kernel
theorem d_M_putOrder_109 : decode prog_8_method_20_code 109 = .ok (.iload 4, 2) := by decide +kernel
theorem d_M_putOrder_111 : decode prog_8_method_20_code 111 = .ok (.iaload, 1) := by decide +kernel
theorem d_M_putOrder_112 : decode prog_8_method_20_code 112 = .ok (.istore_n 3, 1) := by decide +kernel
theorem d_M_putOrder_113 : decode prog_8_method_20_code 113 = .ok (.iinc 4 1, 3) := by decide +kernel
theorem d_M_putOrder_116 : decode prog_8_method_20_code 116 = .ok (.goto (-68), 3) := by decide +kernel
theorem d_M_putOrder_119 : decode prog_8_method_20_code 119 = .ok (.aload_n 0, 1) := by decide +kernel
theorem d_M_putOrder_120 : decode prog_8_method_20_code 120 = .ok (.dup, 1) := by decide +kernel
theorem d_M_putOrder_121 : decode prog_8_method_20_code 121 = .ok (.getfield 19, 3) := by decide +kernel
theorem d_M_putOrder_124 : decode prog_8_method_20_code 124 = .ok (.iconst 1, 1) := by decide +kernel
theorem d_M_putOrder_125 : decode prog_8_method_20_code 125 = .ok (.iadd, 1) := by decide +kernel
theorem d_M_putOrder_126 : decode prog_8_method_20_code 126 = .ok (.putfield 19, 3) := by decide +kernel
theorem d_M_putOrder_129 : decode prog_8_method_20_code 129 = .ok (.aload_n 0, 1) := by decide +kernel
theorem d_M_putOrder_130 : decode prog_8_method_20_code 130 = .ok (.iload_n 3, 1) := by decide +kernel
theorem d_M_putOrder_131 : decode prog_8_method_20_code 131 = .ok (.invokevirtual 101, 3) := by decide +kernel
theorem d_M_putOrder_134 : decode prog_8_method_20_code 134 = .ok (.istore 4, 2) := by decide +kernel
theorem d_M_putOrder_136 : decode prog_8_method_20_code 136 = .ok (.iload_n 1, 1) := by decide +kernel
theorem d_M_putOrder_137 : decode prog_8_method_20_code 137 = .ok (.iconst 1, 1) := by decide +kernel
theorem d_M_putOrder_138 : decode prog_8_method_20_code 138 = .ok (.if_icmp .ne 22, 3) := by decide +kernel
theorem d_M_putOrder_141 : decode prog_8_method_20_code 141 = .ok (.aload_n 0, 1) := by decide +kernel
theorem d_M_putOrder_142 : decode prog_8_method_20_code 142 = .ok (.iload_n 3, 1) := by decide +kernel
theorem d_M_putOrder_143 : decode prog_8_method_20_code 143 = .ok (.invokevirtual 111, 3) := by decide +kernel
theorem d_M_putOrder_146 : decode prog_8_method_20_code 146 = .ok (.ifCond .eq 14, 3) := by decide +kernel
theorem d_M_putOrder_149 : decode prog_8_method_20_code 149 = .ok (.aload_n 0, 1) := by decide +kernel
theorem d_M_putOrder_150 : decode prog_8_method_20_code 150 = .ok (.dup, 1) := by decide +kernel
theorem d_M_putOrder_151 : decode prog_8_method_20_code 151 = .ok (.getfield 16, 3) := by decide +kernel
theorem d_M_putOrder_154 : decode prog_8_method_20_code 154 = .ok (.iload 4, 2) := by decide +kernel
theorem d_M_putOrder_156 : decode prog_8_method_20_code 156 = .ok (.iadd, 1) := by decide +kernel
theorem d_M_putOrder_157 : decode prog_8_method_20_code 157 = .ok (.putfield 16, 3) := by decide +kernel
theorem d_M_putOrder_160 : decode prog_8_method_20_code 160 = .ok (.iconst 0, 1) := by decide +kernel
theorem d_M_putOrder_161 : decode prog_8_method_20_code 161 = .ok (.istore 5, 2) := by decide +kernel
theorem d_M_putOrder_163 : decode prog_8_method_20_code 163 = .ok (.iload 5, 2) := by decide +kernel
theorem d_M_putOrder_165 : decode prog_8_method_20_code 165 = .ok (.aload_n 0, 1) := by decide +kernel
theorem d_M_putOrder_166 : decode prog_8_method_20_code 166 = .ok (.getfield 7, 3) := by decide +kernel
theorem d_M_putOrder_169 : decode prog_8_method_20_code 169 = .ok (.if_icmp .ge 47, 3) := by decide +kernel
theorem d_M_putOrder_172 : decode prog_8_method_20_code 172 = .ok (.aload_n 0, 1) := by decide +kernel
theorem d_M_putOrder_173 : decode prog_8_method_20_code 173 = .ok (.getfield 45, 3) := by decide +kernel
theorem d_M_putOrder_176 : decode prog_8_method_20_code 176 = .ok (.iload 5, 2) := by decide +kernel
theorem d_M_putOrder_178 : decode prog_8_method_20_code 178 = .ok (.iaload, 1) := by decide +kernel
theorem d_M_putOrder_179 : decode prog_8_method_20_code 179 = .ok (.iload_n 3, 1) := by decide +kernel
theorem d_M_putOrder_180 : decode prog_8_method_20_code 180 = .ok (.if_icmp .eq 6, 3) := by decide +kernel
theorem d_M_putOrder_183 : decode prog_8_method_20_code 183 = .ok (.goto 27, 3) := by decide +kernel
theorem d_M_putOrder_186 : decode prog_8_method_20_code 186 = .ok (.aload_n 0, 1) := by decide +kernel
theorem d_M_putOrder_187 : decode prog_8_method_20_code 187 = .ok (.getfield 58, 3) := by decide +kernel
theorem d_M_putOrder_190 : decode prog_8_method_20_code 190 = .ok (.iload_n 2, 1) := by decide +kernel
theorem d_M_putOrder_191 : decode prog_8_method_20_code 191 = .ok (.aload_n 0, 1) := by decide +kernel
theorem d_M_putOrder_192 : decode prog_8_method_20_code 192 = .ok (.getfield 48, 3) := by decide +kernel
theorem d_M_putOrder_195 : decode prog_8_method_20_code 195 = .ok (.iload 5, 2) := by decide +kernel
theorem d_M_putOrder_197 : decode prog_8_method_20_code 197 = .ok (.iaload, 1) := by decide +kernel
theorem d_M_putOrder_198 : decode prog_8_method_20_code 198 = .ok (.iadd, 1) := by decide +kernel
theorem d_M_putOrder_199 : decode prog_8_method_20_code 199 = .ok (.iload 5, 2) := by decide +kernel
theorem d_M_putOrder_201 : decode prog_8_method_20_code 201 = .ok (.iastore, 1) := by decide +kernel
theorem d_M_putOrder_202 : decode prog_8_method_20_code 202 = .ok (.aload_n 0, 1) := by decide +kernel
theorem d_M_putOrder_203 : decode prog_8_method_20_code 203 = .ok (.getfield 55, 3) := by decide +kernel
theorem d_M_putOrder_206 : decode prog_8_method_20_code 206 = .ok (.iload 5, 2) := by decide +kernel
theorem d_M_putOrder_208 : decode prog_8_method_20_code 208 = .ok (.iconst 1, 1) := by decide +kernel
theorem d_M_putOrder_209 : decode prog_8_method_20_code 209 = .ok (.bastore, 1) := by decide +kernel
theorem d_M_putOrder_210 : decode prog_8_method_20_code 210 = .ok (.iinc 5 1, 3) := by decide +kernel
theorem d_M_putOrder_213 : decode prog_8_method_20_code 213 = .ok (.goto (-50), 3) := by decide +kernel
theorem d_M_putOrder_216 : decode prog_8_method_20_code 216 = .ok (.iload_n 2, 1) := by decide +kernel
theorem d_M_putOrder_217 : decode prog_8_method_20_code 217 = .ok (.iload 4, 2) := by decide +kernel
theorem d_M_putOrder_219 : decode prog_8_method_20_code 219 = .ok (.iadd, 1) := by decide +kernel
theorem d_M_putOrder_220 : decode prog_8_method_20_code 220 = .ok (.istore_n 2, 1) := by decide +kernel
theorem d_M_putOrder_221 : decode prog_8_method_20_code 221 = .ok (.goto (-186), 3) := by decide +kernel
theorem d_M_putOrder_224 : decode prog_8_method_20_code 224 = .ok (.return_, 1) := by decide +kernel
end
section
theorem d_M_before_0 : decode prog_8_method_19_code 0 = .ok (.aload_n 0, 1) := by decide +kernel
theorem d_M_before_1 : decode prog_8_method_19_code 1 = .ok (.iload_n 1, 1) := by decide +kernel
theorem d_M_before_2 : decode prog_8_method_19_code 2 = .ok (.invokevirtual 108, 3) := by decide +kernel
theorem d_M_before_5 : decode prog_8_method_19_code 5 = .ok (.istore_n 3, 1) := by decide +kernel
theorem d_M_before_6 : decode prog_8_method_19_code 6 = .ok (.aload_n 0, 1) := by decide +kernel
theorem d_M_before_7 : decode prog_8_method_19_code 7 = .ok (.iload_n 2, 1) := by decide +kernel
theorem d_M_before_8 : decode prog_8_method_19_code 8 = .ok (.invokevirtual 108, 3) := by decide +kernel
theorem d_M_before_11 : decode prog_8_method_19_code 11 = .ok (.istore 4, 2) := by decide +kernel
theorem d_M_before_13 : decode prog_8_method_19_code 13 = .ok (.aload_n 0, 1) := by decide +kernel
theorem d_M_before_14 : decode prog_8_method_19_code 14 = .ok (.getfield 26, 3) := by decide +kernel
theorem d_M_before_17 : decode prog_8_method_19_code 17 = .ok (.iload_n 3, 1) := by decide +kernel
theorem d_M_before_18 : decode prog_8_method_19_code 18 = .ok (.iaload, 1) := by decide +kernel
theorem d_M_before_19 : decode prog_8_method_19_code 19 = .ok (.istore 5, 2) := by decide +kernel
theorem d_M_before_21 : decode prog_8_method_19_code 21 = .ok (.aload_n 0, 1) := by decide +kernel
theorem d_M_before_22 : decode prog_8_method_19_code 22 = .ok (.getfield 26, 3) := by decide +kernel
theorem d_M_before_25 : decode prog_8_method_19_code 25 = .ok (.iload 4, 2) := by decide +kernel
theorem d_M_before_27 : decode prog_8_method_19_code 27 = .ok (.iaload, 1) := by decide +kernel
theorem d_M_before_28 : decode prog_8_method_19_code 28 = .ok (.istore 6, 2) := by decide +kernel
theorem d_M_before_30 : decode prog_8_method_19_code 30 = .ok (.aload_n 0, 1) := by decide +kernel
theorem d_M_before_31 : decode prog_8_method_19_code 31 = .ok (.iload_n 1, 1) := by decide +kernel
theorem d_M_before_32 : decode prog_8_method_19_code 32 = .ok (.invokevirtual 111, 3) := by decide +kernel
theorem d_M_before_35 : decode prog_8_method_19_code 35 = .ok (.aload_n 0, 1) := by decide +kernel
theorem d_M_before_36 : decode prog_8_method_19_code 36 = .ok (.iload_n 2, 1) := by decide +kernel
theorem d_M_before_37 : decode prog_8_method_19_code 37 = .ok (.invokevirtual 111, 3) := by decide +kernel
theorem d_M_before_40 : decode prog_8_method_19_code 40 = .ok (.if_icmp .eq 9, 3) := by decide +kernel
theorem d_M_before_43 : decode prog_8_method_19_code 43 = .ok (.aload_n 0, 1) := by decide +kernel
theorem d_M_before_44 : decode prog_8_method_19_code 44 = .ok (.iload_n 2, 1) := by decide +kernel
theorem d_M_before_45 : decode prog_8_method_19_code 45 = .ok (.invokevirtual 111, 3) := by decide +kernel
theorem d_M_before_48 : decode prog_8_method_19_code 48 = .ok (.ireturn, 1) := by decide +kernel
theorem d_M_before_49 : decode prog_8_method_19_code 49 = .ok (.iload 5, 2) := by decide +kernel
theorem d_M_before_51 : decode prog_8_method_19_code 51 = .ok (.iload 6, 2) := by decide +kernel
theorem d_M_before_53 : decode prog_8_method_19_code 53 = .ok (.if_icmp .eq 16, 3) := by decide +kernel
theorem d_M_before_56 : decode prog_8_method_19_code 56 = .ok (.iload 5, 2) := by decide +kernel
theorem d_M_before_58 : decode prog_8_method_19_code 58 = .ok (.iload 6, 2) := by decide +kernel
theorem d_M_before_60 : decode prog_8_method_19_code 60 = .ok (.if_icmp .ge 7, 3) := by decide +kernel
theorem d_M_before_63 : decode prog_8_method_19_code 63 = .ok (.iconst 1, 1) := by decide +kernel
theorem d_M_before_64 : decode prog_8_method_19_code 64 = .ok (.goto 4, 3) := by decide +kernel
theorem d_M_before_67 : decode prog_8_method_19_code 67 = .ok (.iconst 0, 1) := by decide +kernel
theorem d_M_before_68 : decode prog_8_method_19_code 68 = .ok (.ireturn, 1) := by decide +kernel
theorem d_M_before_69 : decode prog_8_method_19_code 69 = .ok (.aload_n 0, 1) := by decide +kernel
theorem d_M_before_70 : decode prog_8_method_19_code 70 = .ok (.iload_n 1, 1) := by decide +kernel
theorem d_M_before_71 : decode prog_8_method_19_code 71 = .ok (.invokevirtual 111, 3) := by decide +kernel
theorem d_M_before_74 : decode prog_8_method_19_code 74 = .ok (.ifCond .eq 15, 3) := by decide +kernel
theorem d_M_before_77 : decode prog_8_method_19_code 77 = .ok (.iload_n 3, 1) := by decide +kernel
theorem d_M_before_78 : decode prog_8_method_19_code 78 = .ok (.iload 4, 2) := by decide +kernel
theorem d_M_before_80 : decode prog_8_method_19_code 80 = .ok (.if_icmp .ge 7, 3) := by decide +kernel
theorem d_M_before_83 : decode prog_8_method_19_code 83 = .ok (.iconst 1, 1) := by decide +kernel
theorem d_M_before_84 : decode prog_8_method_19_code 84 = .ok (.goto 4, 3) := by decide +kernel
theorem d_M_before_87 : decode prog_8_method_19_code 87 = .ok (.iconst 0, 1) := by decide +kernel
theorem d_M_before_88 : decode prog_8_method_19_code 88 = .ok (.ireturn, 1) := by decide +kernel
theorem d_M_before_89 : decode prog_8_method_19_code 89 = .ok (.aload_n 0, 1) := by decide +kernel
theorem d_M_before_90 : decode prog_8_method_19_code 90 = .ok (.getfield 45, 3) := by decide +kernel
theorem d_M_before_93 : decode prog_8_method_19_code 93 = .ok (.aload_n 0, 1) := by decide +kernel
theorem d_M_before_94 : decode prog_8_method_19_code 94 = .ok (.iload 5, 2) := by decide +kernel
theorem d_M_before_96 : decode prog_8_method_19_code 96 = .ok (.invokevirtual 88, 3) := by decide +kernel
theorem d_M_before_99 : decode prog_8_method_19_code 99 = .ok (.iaload, 1) := by decide +kernel
theorem d_M_before_100 : decode prog_8_method_19_code 100 = .ok (.iload_n 1, 1) := by decide +kernel
theorem d_M_before_101 : decode prog_8_method_19_code 101 = .ok (.if_icmp .eq 18, 3) := by decide +kernel
theorem d_M_before_104 : decode prog_8_method_19_code 104 = .ok (.aload_n 0, 1) := by decide +kernel
theorem d_M_before_105 : decode prog_8_method_19_code 105 = .ok (.getfield 45, 3) := by decide +kernel
theorem d_M_before_108 : decode prog_8_method_19_code 108 = .ok (.aload_n 0, 1) := by decide +kernel
theorem d_M_before_109 : decode prog_8_method_19_code 109 = .ok (.iload 5, 2) := by decide +kernel
theorem d_M_before_111 : decode prog_8_method_19_code 111 = .ok (.invokevirtual 88, 3) := by decide +kernel
theorem d_M_before_114 : decode prog_8_method_19_code 114 = .ok (.iaload, 1) := by decide +kernel
theorem d_M_before_115 : decode prog_8_method_19_code 115 = .ok (.iload_n 2, 1) := by decide +kernel
theorem d_M_before_116 : decode prog_8_method_19_code 116 = .ok (.if_icmp .ne 24, 3) := by decide +kernel
theorem d_M_before_119 : decode prog_8_method_19_code 119 = .ok (.aload_n 0, 1) := by decide +kernel
theorem d_M_before_120 : decode prog_8_method_19_code 120 = .ok (.getfield 45, 3) := by decide +kernel
theorem d_M_before_123 : decode prog_8_method_19_code 123 = .ok (.aload_n 0, 1) := by decide +kernel
theorem d_M_before_124 : decode prog_8_method_19_code 124 = .ok (.iload 5, 2) := by decide +kernel
theorem d_M_before_126 : decode prog_8_method_19_code 126 = .ok (.invokevirtual 88, 3) := by decide +kernel
theorem d_M_before_129 : decode prog_8_method_19_code 129 = .ok (.iaload, 1) := by decide +kernel
theorem d_M_before_130 : decode prog_8_method_19_code 130 = .ok (.iload_n 1, 1) := by decide +kernel
theorem d_M_before_131 : decode prog_8_method_19_code 131 = .ok (.if_icmp .ne 7, 3) := by decide +kernel
theorem d_M_before_134 : decode prog_8_method_19_code 134 = .ok (.iconst 1, 1) := by decide +kernel
theorem d_M_before_135 : decode prog_8_method_19_code 135 = .ok (.goto 4, 3) := by decide +kernel
theorem d_M_before_138 : decode prog_8_method_19_code 138 = .ok (.iconst 0, 1) := by decide +kernel
theorem d_M_before_139 : decode prog_8_method_19_code 139 = .ok (.ireturn, 1) := by decide +kernel
theorem d_M_before_140 : decode prog_8_method_19_code 140 = .ok (.aload_n 0, 1) := by decide +kernel
theorem d_M_before_141 : decode prog_8_method_19_code 141 = .ok (.iload_n 1, 1) := by decide +kernel
theorem d_M_before_142 : decode prog_8_method_19_code 142 = .ok (.iconst 1, 1) := by decide +kernel
theorem d_M_before_143 : decode prog_8_method_19_code 143 = .ok (.invokevirtual 114, 3) := by decide +kernel
theorem d_M_before_146 : decode prog_8_method_19_code 146 = .ok (.aload_n 0, 1) := by decide +kernel
theorem d_M_before_147 : decode prog_8_method_19_code 147 = .ok (.iload_n 2, 1) := by decide +kernel
theorem d_M_before_148 : decode prog_8_method_19_code 148 = .ok (.iconst 0, 1) := by decide +kernel
theorem d_M_before_149 : decode prog_8_method_19_code 149 = .ok (.invokevirtual 114, 3) := by decide +kernel
theorem d_M_before_152 : decode prog_8_method_19_code 152 = .ok (.lmul, 1) := by decide +kernel
theorem d_M_before_153 : decode prog_8_method_19_code 153 = .ok (.lstore 7, 2) := by decide +kernel
theorem d_M_before_155 : decode prog_8_method_19_code 155 = .ok (.aload_n 0, 1) := by decide +kernel
theorem d_M_before_156 : decode prog_8_method_19_code 156 = .ok (.iload_n 2, 1) := by decide +kernel
theorem d_M_before_157 : decode prog_8_method_19_code 157 = .ok (.iconst 1, 1) := by decide +kernel
theorem d_M_before_158 : decode prog_8_method_19_code 158 = .ok (.invokevirtual 114, 3) := by decide +kernel
theorem d_M_before_161 : decode prog_8_method_19_code 161 = .ok (.aload_n 0, 1) := by decide +kernel
theorem d_M_before_162 : decode prog_8_method_19_code 162 = .ok (.iload_n 1, 1) := by decide +kernel
theorem d_M_before_163 : decode prog_8_method_19_code 163 = .ok (.iconst 0, 1) := by decide +kernel
theorem d_M_before_164 : decode prog_8_method_19_code 164 = .ok (.invokevirtual 114, 3) := by decide +kernel
theorem d_M_before_167 : decode prog_8_method_19_code 167 = .ok (.lmul, 1) := by decide +kernel
theorem d_M_before_168 : decode prog_8_method_19_code 168 = .ok (.lstore 9, 2) := by decide +kernel
theorem d_M_before_170 : decode prog_8_method_19_code 170 = .ok (.lload 7, 2) := by decide +kernel
theorem d_M_before_172 : decode prog_8_method_19_code 172 = .ok (.lload 9, 2) := by decide +kernel
theorem d_M_before_174 : decode prog_8_method_19_code 174 = .ok (.lcmp, 1) := by decide +kernel
theorem d_M_before_175 : decode prog_8_method_19_code 175 = .ok (.ifCond .ne 17, 3) := by decide +kernel
theorem d_M_before_178 : decode prog_8_method_19_code 178 = .ok (.iload_n 3, 1) := by decide +kernel
theorem d_M_before_179 : decode prog_8_method_19_code 179 = .ok (.iload 4, 2) := by decide +kernel
theorem d_M_before_181 : decode prog_8_method_19_code 181 = .ok (.if_icmp .ge 7, 3) := by decide +kernel
theorem d_M_before_184 : decode prog_8_method_19_code 184 = .ok (.iconst 1, 1) := by decide +kernel
theorem d_M_before_185 : decode prog_8_method_19_code 185 = .ok (.goto 20, 3) := by decide +kernel
theorem d_M_before_188 : decode prog_8_method_19_code 188 = .ok (.iconst 0, 1) := by decide +kernel
theorem d_M_before_189 : decode prog_8_method_19_code 189 = .ok (.goto 16, 3) := by decide +kernel
theorem d_M_before_192 : decode prog_8_method_19_code 192 = .ok (.lload 7, 2) := by decide +kernel
theorem d_M_before_194 : decode prog_8_method_19_code 194 = .ok (.lload 9, 2) := by decide +kernel
theorem d_M_before_196 : decode prog_8_method_19_code 196 = .ok (.lcmp, 1) := by decide +kernel
theorem d_M_before_197 : decode prog_8_method_19_code 197 = .ok (.ifCond .le 7, 3) := by decide +kernel
theorem d_M_before_200 : decode prog_8_method_19_code 200 = .ok (.iconst 1, 1) := by decide +kernel
theorem d_M_before_201 : decode prog_8_method_19_code 201 = .ok (.goto 4, 3) := by decide +kernel
theorem d_M_before_204 : decode prog_8_method_19_code 204 = .ok (.iconst 0, 1) := by decide +kernel
theorem d_M_before_205 : decode prog_8_method_19_code 205 = .ok (.ireturn, 1) := by decide +kernel
theorem d_M_head_0 : decode prog_8_method_17_code 0 = .ok (.iconst 0, 1) := by decide +kernel
theorem d_M_head_1 : decode prog_8_method_17_code 1 = .ok (.istore_n 2, 1) := by decide +kernel
theorem d_M_head_2 : decode prog_8_method_17_code 2 = .ok (.iload_n 2, 1) := by decide +kernel
theorem d_M_head_3 : decode prog_8_method_17_code 3 = .ok (.aload_n 0, 1) := by decide +kernel
theorem d_M_head_4 : decode prog_8_method_17_code 4 = .ok (.getfield 7, 3) := by decide +kernel
theorem d_M_head_7 : decode prog_8_method_17_code 7 = .ok (.if_icmp .ge 30, 3) := by decide +kernel
theorem d_M_head_10 : decode prog_8_method_17_code 10 = .ok (.aload_n 0, 1) := by decide +kernel
theorem d_M_head_11 : decode prog_8_method_17_code 11 = .ok (.getfield 45, 3) := by decide +kernel
theorem d_M_head_14 : decode prog_8_method_17_code 14 = .ok (.iload_n 2, 1) := by decide +kernel
theorem d_M_head_15 : decode prog_8_method_17_code 15 = .ok (.iaload, 1) := by decide +kernel
theorem d_M_head_16 : decode prog_8_method_17_code 16 = .ok (.iload_n 1, 1) := by decide +kernel
theorem d_M_head_17 : decode prog_8_method_17_code 17 = .ok (.if_icmp .ne 14, 3) := by decide +kernel
theorem d_M_head_20 : decode prog_8_method_17_code 20 = .ok (.aload_n 0, 1) := by decide +kernel
theorem d_M_head_21 : decode prog_8_method_17_code 21 = .ok (.getfield 48, 3) := by decide +kernel
theorem d_M_head_24 : decode prog_8_method_17_code 24 = .ok (.iload_n 2, 1) := by decide +kernel
theorem d_M_head_25 : decode prog_8_method_17_code 25 = .ok (.iaload, 1) := by decide +kernel
theorem d_M_head_26 : decode prog_8_method_17_code 26 = .ok (.ifCond .ne 5, 3) := by decide +kernel
theorem d_M_head_29 : decode prog_8_method_17_code 29 = .ok (.iload_n 2, 1) := by decide +kernel
theorem d_M_head_30 : decode prog_8_method_17_code 30 = .ok (.ireturn, 1) := by decide +kernel
theorem d_M_head_31 : decode prog_8_method_17_code 31 = .ok (.iinc 2 1, 3) := by decide +kernel
theorem d_M_head_34 : decode prog_8_method_17_code 34 = .ok (.goto (-32), 3) := by decide +kernel
theorem d_M_head_37 : decode prog_8_method_17_code 37 = .ok (.iconst (-1), 1) := by decide +kernel
theorem d_M_head_38 : decode prog_8_method_17_code 38 = .ok (.ireturn, 1) := by decide +kernel
theorem d_M_isCold_0 : decode prog_8_method_16_code 0 = .ok (.iconst 0, 1) := by decide +kernel
theorem d_M_isCold_1 : decode prog_8_method_16_code 1 = .ok (.istore_n 2, 1) := by decide +kernel
theorem d_M_isCold_2 : decode prog_8_method_16_code 2 = .ok (.iload_n 2, 1) := by decide +kernel
theorem d_M_isCold_3 : decode prog_8_method_16_code 3 = .ok (.aload_n 0, 1) := by decide +kernel
theorem d_M_isCold_4 : decode prog_8_method_16_code 4 = .ok (.getfield 7, 3) := by decide +kernel
theorem d_M_isCold_7 : decode prog_8_method_16_code 7 = .ok (.if_icmp .ge 44, 3) := by decide +kernel
theorem d_M_isCold_10 : decode prog_8_method_16_code 10 = .ok (.aload_n 0, 1) := by decide +kernel
theorem d_M_isCold_11 : decode prog_8_method_16_code 11 = .ok (.getfield 45, 3) := by decide +kernel
theorem d_M_isCold_14 : decode prog_8_method_16_code 14 = .ok (.iload_n 2, 1) := by decide +kernel
theorem d_M_isCold_15 : decode prog_8_method_16_code 15 = .ok (.iaload, 1) := by decide +kernel
theorem d_M_isCold_16 : decode prog_8_method_16_code 16 = .ok (.iload_n 1, 1) := by decide +kernel
theorem d_M_isCold_17 : decode prog_8_method_16_code 17 = .ok (.if_icmp .ne 28, 3) := by decide +kernel
theorem d_M_isCold_20 : decode prog_8_method_16_code 20 = .ok (.aload_n 0, 1) := by decide +kernel
theorem d_M_isCold_21 : decode prog_8_method_16_code 21 = .ok (.getfield 39, 3) := by decide +kernel
theorem d_M_isCold_24 : decode prog_8_method_16_code 24 = .ok (.iload_n 2, 1) := by decide +kernel
theorem d_M_isCold_25 : decode prog_8_method_16_code 25 = .ok (.iaload, 1) := by decide +kernel
theorem d_M_isCold_26 : decode prog_8_method_16_code 26 = .ok (.ifCond .gt 17, 3) := by decide +kernel
theorem d_M_isCold_29 : decode prog_8_method_16_code 29 = .ok (.iload_n 2, 1) := by decide +kernel
theorem d_M_isCold_30 : decode prog_8_method_16_code 30 = .ok (.aload_n 0, 1) := by decide +kernel
theorem d_M_isCold_31 : decode prog_8_method_16_code 31 = .ok (.aload_n 0, 1) := by decide +kernel
theorem d_M_isCold_32 : decode prog_8_method_16_code 32 = .ok (.getfield 26, 3) := by decide +kernel
theorem d_M_isCold_35 : decode prog_8_method_16_code 35 = .ok (.iload_n 2, 1) := by decide +kernel
theorem d_M_isCold_36 : decode prog_8_method_16_code 36 = .ok (.iaload, 1) := by decide +kernel
theorem d_M_isCold_37 : decode prog_8_method_16_code 37 = .ok (.invokevirtual 88, 3) := by decide +kernel
theorem d_M_isCold_40 : decode prog_8_method_16_code 40 = .ok (.if_icmp .ne 5, 3) := by decide +kernel
theorem d_M_isCold_43 : decode prog_8_method_16_code 43 = .ok (.iconst 0, 1) := by decide +kernel
theorem d_M_isCold_44 : decode prog_8_method_16_code 44 = .ok (.ireturn, 1) := by decide +kernel
theorem d_M_isCold_45 : decode prog_8_method_16_code 45 = .ok (.iinc 2 1, 3) := by decide +kernel
theorem d_M_isCold_48 : decode prog_8_method_16_code 48 = .ok (.goto (-46), 3) := by decide +kernel
theorem d_M_isCold_51 : decode prog_8_method_16_code 51 = .ok (.iconst 1, 1) := by decide +kernel
theorem d_M_isCold_52 : decode prog_8_method_16_code 52 = .ok (.ireturn, 1) := by decide +kernel
theorem d_M_sum_0 : decode prog_8_method_18_code 0 = .ok (.lconst 0, 1) := by decide +kernel
theorem d_M_sum_1 : decode prog_8_method_18_code 1 = .ok (.lstore_n 3, 1) := by decide +kernel
theorem d_M_sum_2 : decode prog_8_method_18_code 2 = .ok (.iconst 0, 1) := by decide +kernel
theorem d_M_sum_3 : decode prog_8_method_18_code 3 = .ok (.istore 5, 2) := by decide +kernel
theorem d_M_sum_5 : decode prog_8_method_18_code 5 = .ok (.iload 5, 2) := by decide +kernel
theorem d_M_sum_7 : decode prog_8_method_18_code 7 = .ok (.aload_n 0, 1) := by decide +kernel
theorem d_M_sum_8 : decode prog_8_method_18_code 8 = .ok (.getfield 7, 3) := by decide +kernel
theorem d_M_sum_11 : decode prog_8_method_18_code 11 = .ok (.if_icmp .ge 46, 3) := by decide +kernel
theorem d_M_sum_14 : decode prog_8_method_18_code 14 = .ok (.aload_n 0, 1) := by decide +kernel
theorem d_M_sum_15 : decode prog_8_method_18_code 15 = .ok (.getfield 45, 3) := by decide +kernel
theorem d_M_sum_18 : decode prog_8_method_18_code 18 = .ok (.iload 5, 2) := by decide +kernel
theorem d_M_sum_20 : decode prog_8_method_18_code 20 = .ok (.iaload, 1) := by decide +kernel
theorem d_M_sum_21 : decode prog_8_method_18_code 21 = .ok (.iload_n 1, 1) := by decide +kernel
theorem d_M_sum_22 : decode prog_8_method_18_code 22 = .ok (.if_icmp .ne 29, 3) := by decide +kernel
theorem d_M_sum_25 : decode prog_8_method_18_code 25 = .ok (.lload_n 3, 1) := by decide +kernel
theorem d_M_sum_26 : decode prog_8_method_18_code 26 = .ok (.iload_n 2, 1) := by decide +kernel
theorem d_M_sum_27 : decode prog_8_method_18_code 27 = .ok (.ifCond .eq 14, 3) := by decide +kernel
theorem d_M_sum_30 : decode prog_8_method_18_code 30 = .ok (.aload_n 0, 1) := by decide +kernel
theorem d_M_sum_31 : decode prog_8_method_18_code 31 = .ok (.getfield 39, 3) := by decide +kernel
theorem d_M_sum_34 : decode prog_8_method_18_code 34 = .ok (.iload 5, 2) := by decide +kernel
theorem d_M_sum_36 : decode prog_8_method_18_code 36 = .ok (.iaload, 1) := by decide +kernel
theorem d_M_sum_37 : decode prog_8_method_18_code 37 = .ok (.i2l, 1) := by decide +kernel
theorem d_M_sum_38 : decode prog_8_method_18_code 38 = .ok (.goto 11, 3) := by decide +kernel
theorem d_M_sum_41 : decode prog_8_method_18_code 41 = .ok (.aload_n 0, 1) := by decide +kernel
theorem d_M_sum_42 : decode prog_8_method_18_code 42 = .ok (.getfield 30, 3) := by decide +kernel
theorem d_M_sum_45 : decode prog_8_method_18_code 45 = .ok (.iload 5, 2) := by decide +kernel
theorem d_M_sum_47 : decode prog_8_method_18_code 47 = .ok (.iaload, 1) := by decide +kernel
theorem d_M_sum_48 : decode prog_8_method_18_code 48 = .ok (.i2l, 1) := by decide +kernel
theorem d_M_sum_49 : decode prog_8_method_18_code 49 = .ok (.ladd, 1) := by decide +kernel
theorem d_M_sum_50 : decode prog_8_method_18_code 50 = .ok (.lstore_n 3, 1) := by decide +kernel
theorem d_M_sum_51 : decode prog_8_method_18_code 51 = .ok (.iinc 5 1, 3) := by decide +kernel
theorem d_M_sum_54 : decode prog_8_method_18_code 54 = .ok (.goto (-49), 3) := by decide +kernel
theorem d_M_sum_57 : decode prog_8_method_18_code 57 = .ok (.lload_n 3, 1) := by decide +kernel
theorem d_M_sum_58 : decode prog_8_method_18_code 58 = .ok (.lreturn, 1) := by decide +kernel
theorem d_M_branchesOf_0 : decode prog_8_method_21_code 0 = .ok (.aload_n 0, 1) := by decide +kernel
theorem d_M_branchesOf_1 : decode prog_8_method_21_code 1 = .ok (.getfield 36, 3) := by decide +kernel
theorem d_M_branchesOf_4 : decode prog_8_method_21_code 4 = .ok (.iload_n 1, 1) := by decide +kernel
theorem d_M_branchesOf_5 : decode prog_8_method_21_code 5 = .ok (.iconst 2, 1) := by decide +kernel
theorem d_M_branchesOf_6 : decode prog_8_method_21_code 6 = .ok (.imul, 1) := by decide +kernel
theorem d_M_branchesOf_7 : decode prog_8_method_21_code 7 = .ok (.iaload, 1) := by decide +kernel
theorem d_M_branchesOf_8 : decode prog_8_method_21_code 8 = .ok (.istore_n 3, 1) := by decide +kernel
theorem d_M_branchesOf_9 : decode prog_8_method_21_code 9 = .ok (.aload_n 0, 1) := by decide +kernel
theorem d_M_branchesOf_10 : decode prog_8_method_21_code 10 = .ok (.getfield 36, 3) := by decide +kernel
theorem d_M_branchesOf_13 : decode prog_8_method_21_code 13 = .ok (.iload_n 1, 1) := by decide +kernel
theorem d_M_branchesOf_14 : decode prog_8_method_21_code 14 = .ok (.iconst 2, 1) := by decide +kernel
theorem d_M_branchesOf_15 : decode prog_8_method_21_code 15 = .ok (.imul, 1) := by decide +kernel
theorem d_M_branchesOf_16 : decode prog_8_method_21_code 16 = .ok (.iconst 1, 1) := by decide +kernel
theorem d_M_branchesOf_17 : decode prog_8_method_21_code 17 = .ok (.iadd, 1) := by decide +kernel
theorem d_M_branchesOf_18 : decode prog_8_method_21_code 18 = .ok (.iaload, 1) := by decide +kernel
theorem d_M_branchesOf_19 : decode prog_8_method_21_code 19 = .ok (.istore 4, 2) := by decide +kernel
theorem d_M_branchesOf_21 : decode prog_8_method_21_code 21 = .ok (.aload_n 0, 1) := by decide +kernel
theorem d_M_branchesOf_22 : decode prog_8_method_21_code 22 = .ok (.getfield 70, 3) := by decide +kernel
theorem d_M_branchesOf_25 : decode prog_8_method_21_code 25 = .ok (.iload_n 1, 1) := by decide +kernel
theorem d_M_branchesOf_26 : decode prog_8_method_21_code 26 = .ok (.iconst 0, 1) := by decide +kernel
theorem d_M_branchesOf_27 : decode prog_8_method_21_code 27 = .ok (.bastore, 1) := by decide +kernel
theorem d_M_branchesOf_28 : decode prog_8_method_21_code 28 = .ok (.aload_n 0, 1) := by decide +kernel
theorem d_M_branchesOf_29 : decode prog_8_method_21_code 29 = .ok (.getfield 61, 3) := by decide +kernel
theorem d_M_branchesOf_32 : decode prog_8_method_21_code 32 = .ok (.iload_n 1, 1) := by decide +kernel
theorem d_M_branchesOf_33 : decode prog_8_method_21_code 33 = .ok (.iconst 0, 1) := by decide +kernel
theorem d_M_branchesOf_34 : decode prog_8_method_21_code 34 = .ok (.iastore, 1) := by decide +kernel
theorem d_M_branchesOf_35 : decode prog_8_method_21_code 35 = .ok (.aload_n 0, 1) := by decide +kernel
theorem d_M_branchesOf_36 : decode prog_8_method_21_code 36 = .ok (.getfield 67, 3) := by decide +kernel
theorem d_M_branchesOf_39 : decode prog_8_method_21_code 39 = .ok (.iload_n 1, 1) := by decide +kernel
theorem d_M_branchesOf_40 : decode prog_8_method_21_code 40 = .ok (.iconst 2, 1) := by decide +kernel
theorem d_M_branchesOf_41 : decode prog_8_method_21_code 41 = .ok (.imul, 1) := by decide +kernel
theorem d_M_branchesOf_42 : decode prog_8_method_21_code 42 = .ok (.iconst 1, 1) := by decide +kernel
theorem d_M_branchesOf_43 : decode prog_8_method_21_code 43 = .ok (.iastore, 1) := by decide +kernel
theorem d_M_branchesOf_44 : decode prog_8_method_21_code 44 = .ok (.aload_n 0, 1) := by decide +kernel
theorem d_M_branchesOf_45 : decode prog_8_method_21_code 45 = .ok (.getfield 67, 3) := by decide +kernel
theorem d_M_branchesOf_48 : decode prog_8_method_21_code 48 = .ok (.iload_n 1, 1) := by decide +kernel
theorem d_M_branchesOf_49 : decode prog_8_method_21_code 49 = .ok (.iconst 2, 1) := by decide +kernel
theorem d_M_branchesOf_50 : decode prog_8_method_21_code 50 = .ok (.imul, 1) := by decide +kernel
theorem d_M_branchesOf_51 : decode prog_8_method_21_code 51 = .ok (.iconst 1, 1) := by decide +kernel
theorem d_M_branchesOf_52 : decode prog_8_method_21_code 52 = .ok (.iadd, 1) := by decide +kernel
theorem d_M_branchesOf_53 : decode prog_8_method_21_code 53 = .ok (.iconst 1, 1) := by decide +kernel
theorem d_M_branchesOf_54 : decode prog_8_method_21_code 54 = .ok (.iastore, 1) := by decide +kernel
theorem d_M_branchesOf_55 : decode prog_8_method_21_code 55 = .ok (.aload_n 0, 1) := by decide +kernel
theorem d_M_branchesOf_56 : decode prog_8_method_21_code 56 = .ok (.getfield 64, 3) := by decide +kernel
theorem d_M_branchesOf_59 : decode prog_8_method_21_code 59 = .ok (.iload_n 1, 1) := by decide +kernel
theorem d_M_branchesOf_60 : decode prog_8_method_21_code 60 = .ok (.iconst 2, 1) := by decide +kernel
theorem d_M_branchesOf_61 : decode prog_8_method_21_code 61 = .ok (.imul, 1) := by decide +kernel
theorem d_M_branchesOf_62 : decode prog_8_method_21_code 62 = .ok (.iload_n 3, 1) := by decide +kernel
theorem d_M_branchesOf_63 : decode prog_8_method_21_code 63 = .ok (.iastore, 1) := by decide +kernel
theorem d_M_branchesOf_64 : decode prog_8_method_21_code 64 = .ok (.aload_n 0, 1) := by decide +kernel
theorem d_M_branchesOf_65 : decode prog_8_method_21_code 65 = .ok (.getfield 64, 3) := by decide +kernel
theorem d_M_branchesOf_68 : decode prog_8_method_21_code 68 = .ok (.iload_n 1, 1) := by decide +kernel
theorem d_M_branchesOf_69 : decode prog_8_method_21_code 69 = .ok (.iconst 2, 1) := by decide +kernel
theorem d_M_branchesOf_70 : decode prog_8_method_21_code 70 = .ok (.imul, 1) := by decide +kernel
theorem d_M_branchesOf_71 : decode prog_8_method_21_code 71 = .ok (.iconst 1, 1) := by decide +kernel
theorem d_M_branchesOf_72 : decode prog_8_method_21_code 72 = .ok (.iadd, 1) := by decide +kernel
theorem d_M_branchesOf_73 : decode prog_8_method_21_code 73 = .ok (.iload 4, 2) := by decide +kernel
theorem d_M_branchesOf_75 : decode prog_8_method_21_code 75 = .ok (.iastore, 1) := by decide +kernel
theorem d_M_branchesOf_76 : decode prog_8_method_21_code 76 = .ok (.aload_n 0, 1) := by decide +kernel
theorem d_M_branchesOf_77 : decode prog_8_method_21_code 77 = .ok (.getfield 33, 3) := by decide +kernel
theorem d_M_branchesOf_80 : decode prog_8_method_21_code 80 = .ok (.iload_n 1, 1) := by decide +kernel
theorem d_M_branchesOf_81 : decode prog_8_method_21_code 81 = .ok (.iaload, 1) := by decide +kernel
theorem d_M_branchesOf_82 : decode prog_8_method_21_code 82 = .ok (.iconst 1, 1) := by decide +kernel
theorem d_M_branchesOf_83 : decode prog_8_method_21_code 83 = .ok (.if_icmp .ne 19, 3) := by decide +kernel
theorem d_M_branchesOf_86 : decode prog_8_method_21_code 86 = .ok (.aload_n 0, 1) := by decide +kernel
theorem d_M_branchesOf_87 : decode prog_8_method_21_code 87 = .ok (.getfield 61, 3) := by decide +kernel
theorem d_M_branchesOf_90 : decode prog_8_method_21_code 90 = .ok (.iload_n 1, 1) := by decide +kernel
theorem d_M_branchesOf_91 : decode prog_8_method_21_code 91 = .ok (.iload_n 3, 1) := by decide +kernel
theorem d_M_branchesOf_92 : decode prog_8_method_21_code 92 = .ok (.iload_n 2, 1) := by decide +kernel
theorem d_M_branchesOf_93 : decode prog_8_method_21_code 93 = .ok (.if_icmp .ne 7, 3) := by decide +kernel
theorem d_M_branchesOf_96 : decode prog_8_method_21_code 96 = .ok (.iconst 0, 1) := by decide +kernel
theorem d_M_branchesOf_97 : decode prog_8_method_21_code 97 = .ok (.goto 4, 3) := by decide +kernel
theorem d_M_branchesOf_100 : decode prog_8_method_21_code 100 = .ok (.iconst 1, 1) := by decide +kernel
theorem d_M_branchesOf_101 : decode prog_8_method_21_code 101 = .ok (.iastore, 1) := by decide +kernel
theorem d_M_branchesOf_102 : decode prog_8_method_21_code 102 = .ok (.aload_n 0, 1) := by decide +kernel
theorem d_M_branchesOf_103 : decode prog_8_method_21_code 103 = .ok (.getfield 33, 3) := by decide +kernel
theorem d_M_branchesOf_106 : decode prog_8_method_21_code 106 = .ok (.iload_n 1, 1) := by decide +kernel
theorem d_M_branchesOf_107 : decode prog_8_method_21_code 107 = .ok (.iaload, 1) := by decide +kernel
theorem d_M_branchesOf_108 : decode prog_8_method_21_code 108 = .ok (.iconst 2, 1) := by decide +kernel
theorem d_M_branchesOf_109 : decode prog_8_method_21_code 109 = .ok (.if_icmp .eq 4, 3) := by decide +kernel
theorem d_M_branchesOf_112 : decode prog_8_method_21_code 112 = .ok (.return_, 1) := by decide +kernel
theorem d_M_branchesOf_113 : decode prog_8_method_21_code 113 = .ok (.aload_n 0, 1) := by decide +kernel
theorem d_M_branchesOf_114 : decode prog_8_method_21_code 114 = .ok (.getfield 61, 3) := by decide +kernel
theorem d_M_branchesOf_117 : decode prog_8_method_21_code 117 = .ok (.iload_n 1, 1) := by decide +kernel
theorem d_M_branchesOf_118 : decode prog_8_method_21_code 118 = .ok (.iload 4, 2) := by decide +kernel
theorem d_M_branchesOf_120 : decode prog_8_method_21_code 120 = .ok (.iload_n 2, 1) := by decide +kernel
theorem d_M_branchesOf_121 : decode prog_8_method_21_code 121 = .ok (.if_icmp .eq 8, 3) := by decide +kernel
theorem d_M_branchesOf_124 : decode prog_8_method_21_code 124 = .ok (.iload_n 3, 1) := by decide +kernel
theorem d_M_branchesOf_125 : decode prog_8_method_21_code 125 = .ok (.iload_n 2, 1) := by decide +kernel
theorem d_M_branchesOf_126 : decode prog_8_method_21_code 126 = .ok (.if_icmp .ne 7, 3) := by decide +kernel
theorem d_M_branchesOf_129 : decode prog_8_method_21_code 129 = .ok (.iconst 1, 1) := by decide +kernel
theorem d_M_branchesOf_130 : decode prog_8_method_21_code 130 = .ok (.goto 4, 3) := by decide +kernel
theorem d_M_branchesOf_133 : decode prog_8_method_21_code 133 = .ok (.iconst 2, 1) := by decide +kernel
theorem d_M_branchesOf_134 : decode prog_8_method_21_code 134 = .ok (.iastore, 1) := by decide +kernel
theorem d_M_branchesOf_135 : decode prog_8_method_21_code 135 = .ok (.aload_n 0, 1) := by decide +kernel
theorem d_M_branchesOf_136 : decode prog_8_method_21_code 136 = .ok (.getfield 70, 3) := by decide +kernel
theorem d_M_branchesOf_139 : decode prog_8_method_21_code 139 = .ok (.iload_n 1, 1) := by decide +kernel
theorem d_M_branchesOf_140 : decode prog_8_method_21_code 140 = .ok (.iload 4, 2) := by decide +kernel
theorem d_M_branchesOf_142 : decode prog_8_method_21_code 142 = .ok (.iload_n 2, 1) := by decide +kernel
theorem d_M_branchesOf_143 : decode prog_8_method_21_code 143 = .ok (.if_icmp .eq 12, 3) := by decide +kernel
theorem d_M_branchesOf_146 : decode prog_8_method_21_code 146 = .ok (.iload_n 3, 1) := by decide +kernel
theorem d_M_branchesOf_147 : decode prog_8_method_21_code 147 = .ok (.iload_n 2, 1) := by decide +kernel
theorem d_M_branchesOf_148 : decode prog_8_method_21_code 148 = .ok (.if_icmp .ne 7, 3) := by decide +kernel
theorem d_M_branchesOf_151 : decode prog_8_method_21_code 151 = .ok (.iconst 1, 1) := by decide +kernel
theorem d_M_branchesOf_152 : decode prog_8_method_21_code 152 = .ok (.goto 4, 3) := by decide +kernel
theorem d_M_branchesOf_155 : decode prog_8_method_21_code 155 = .ok (.iconst 0, 1) := by decide +kernel
theorem d_M_branchesOf_156 : decode prog_8_method_21_code 156 = .ok (.bastore, 1) := by decide +kernel
theorem d_M_branchesOf_157 : decode prog_8_method_21_code 157 = .ok (.aload_n 0, 1) := by decide +kernel
theorem d_M_branchesOf_158 : decode prog_8_method_21_code 158 = .ok (.getfield 70, 3) := by decide +kernel
theorem d_M_branchesOf_161 : decode prog_8_method_21_code 161 = .ok (.iload_n 1, 1) := by decide +kernel
theorem d_M_branchesOf_162 : decode prog_8_method_21_code 162 = .ok (.baload, 1) := by decide +kernel
theorem d_M_branchesOf_163 : decode prog_8_method_21_code 163 = .ok (.ifCond .eq 13, 3) := by decide +kernel
theorem d_M_branchesOf_166 : decode prog_8_method_21_code 166 = .ok (.aload_n 0, 1) := by decide +kernel
theorem d_M_branchesOf_167 : decode prog_8_method_21_code 167 = .ok (.getfield 64, 3) := by decide +kernel
theorem d_M_branchesOf_170 : decode prog_8_method_21_code 170 = .ok (.iload_n 1, 1) := by decide +kernel
theorem d_M_branchesOf_171 : decode prog_8_method_21_code 171 = .ok (.iconst 2, 1) := by decide +kernel
theorem d_M_branchesOf_172 : decode prog_8_method_21_code 172 = .ok (.imul, 1) := by decide +kernel
theorem d_M_branchesOf_173 : decode prog_8_method_21_code 173 = .ok (.iload 4, 2) := by decide +kernel
theorem d_M_branchesOf_175 : decode prog_8_method_21_code 175 = .ok (.iastore, 1) := by decide +kernel
theorem d_M_branchesOf_176 : decode prog_8_method_21_code 176 = .ok (.return_, 1) := by decide +kernel
theorem d_M_lengthen_0 : decode prog_8_method_24_code 0 = .ok (.iconst 0, 1) := by decide +kernel
theorem d_M_lengthen_1 : decode prog_8_method_24_code 1 = .ok (.istore_n 1, 1) := by decide +kernel
theorem d_M_lengthen_2 : decode prog_8_method_24_code 2 = .ok (.iconst 0, 1) := by decide +kernel
theorem d_M_lengthen_3 : decode prog_8_method_24_code 3 = .ok (.istore_n 2, 1) := by decide +kernel
theorem d_M_lengthen_4 : decode prog_8_method_24_code 4 = .ok (.iload_n 2, 1) := by decide +kernel
theorem d_M_lengthen_5 : decode prog_8_method_24_code 5 = .ok (.aload_n 0, 1) := by decide +kernel
theorem d_M_lengthen_6 : decode prog_8_method_24_code 6 = .ok (.getfield 7, 3) := by decide +kernel
theorem d_M_lengthen_9 : decode prog_8_method_24_code 9 = .ok (.iconst 2, 1) := by decide +kernel
theorem d_M_lengthen_10 : decode prog_8_method_24_code 10 = .ok (.imul, 1) := by decide +kernel
theorem d_M_lengthen_11 : decode prog_8_method_24_code 11 = .ok (.if_icmp .ge 134, 3) := by decide +kernel
theorem d_M_lengthen_14 : decode prog_8_method_24_code 14 = .ok (.iload_n 2, 1) := by decide +kernel
theorem d_M_lengthen_15 : decode prog_8_method_24_code 15 = .ok (.iconst 2, 1) := by decide +kernel
theorem d_M_lengthen_16 : decode prog_8_method_24_code 16 = .ok (.idiv, 1) := by decide +kernel
theorem d_M_lengthen_17 : decode prog_8_method_24_code 17 = .ok (.istore_n 3, 1) := by decide +kernel
theorem d_M_lengthen_18 : decode prog_8_method_24_code 18 = .ok (.iload_n 2, 1) := by decide +kernel
theorem d_M_lengthen_19 : decode prog_8_method_24_code 19 = .ok (.iconst 2, 1) := by decide +kernel
theorem d_M_lengthen_20 : decode prog_8_method_24_code 20 = .ok (.irem, 1) := by decide +kernel
theorem d_M_lengthen_21 : decode prog_8_method_24_code 21 = .ok (.istore 4, 2) := by decide +kernel
theorem d_M_lengthen_23 : decode prog_8_method_24_code 23 = .ok (.aload_n 0, 1) := by decide +kernel
theorem d_M_lengthen_24 : decode prog_8_method_24_code 24 = .ok (.getfield 73, 3) := by decide +kernel
theorem d_M_lengthen_27 : decode prog_8_method_24_code 27 = .ok (.iload_n 2, 1) := by decide +kernel
theorem d_M_lengthen_28 : decode prog_8_method_24_code 28 = .ok (.iconst 0, 1) := by decide +kernel
theorem d_M_lengthen_29 : decode prog_8_method_24_code 29 = .ok (.bastore, 1) := by decide +kernel
theorem d_M_lengthen_30 : decode prog_8_method_24_code 30 = .ok (.iload 4, 2) := by decide +kernel
theorem d_M_lengthen_32 : decode prog_8_method_24_code 32 = .ok (.aload_n 0, 1) := by decide +kernel
theorem d_M_lengthen_33 : decode prog_8_method_24_code 33 = .ok (.getfield 61, 3) := by decide +kernel
theorem d_M_lengthen_36 : decode prog_8_method_24_code 36 = .ok (.iload_n 3, 1) := by decide +kernel
theorem d_M_lengthen_37 : decode prog_8_method_24_code 37 = .ok (.iaload, 1) := by decide +kernel
theorem d_M_lengthen_38 : decode prog_8_method_24_code 38 = .ok (.if_icmp .ge 101, 3) := by decide +kernel
theorem d_M_lengthen_41 : decode prog_8_method_24_code 41 = .ok (.aload_n 0, 1) := by decide +kernel
theorem d_M_lengthen_42 : decode prog_8_method_24_code 42 = .ok (.getfield 67, 3) := by decide +kernel
theorem d_M_lengthen_45 : decode prog_8_method_24_code 45 = .ok (.iload_n 2, 1) := by decide +kernel
theorem d_M_lengthen_46 : decode prog_8_method_24_code 46 = .ok (.iaload, 1) := by decide +kernel
theorem d_M_lengthen_47 : decode prog_8_method_24_code 47 = .ok (.iconst 2, 1) := by decide +kernel
theorem d_M_lengthen_48 : decode prog_8_method_24_code 48 = .ok (.if_icmp .ne 6, 3) := by decide +kernel
theorem d_M_lengthen_51 : decode prog_8_method_24_code 51 = .ok (.goto 88, 3) := by decide +kernel
theorem d_M_lengthen_54 : decode prog_8_method_24_code 54 = .ok (.aload_n 0, 1) := by decide +kernel
theorem d_M_lengthen_55 : decode prog_8_method_24_code 55 = .ok (.iload_n 3, 1) := by decide +kernel
theorem d_M_lengthen_56 : decode prog_8_method_24_code 56 = .ok (.invokevirtual 125, 3) := by decide +kernel
theorem d_M_lengthen_59 : decode prog_8_method_24_code 59 = .ok (.aload_n 0, 1) := by decide +kernel
theorem d_M_lengthen_60 : decode prog_8_method_24_code 60 = .ok (.getfield 30, 3) := by decide +kernel
theorem d_M_lengthen_63 : decode prog_8_method_24_code 63 = .ok (.iload_n 3, 1) := by decide +kernel
theorem d_M_lengthen_64 : decode prog_8_method_24_code 64 = .ok (.iaload, 1) := by decide +kernel
theorem d_M_lengthen_65 : decode prog_8_method_24_code 65 = .ok (.iadd, 1) := by decide +kernel
theorem d_M_lengthen_66 : decode prog_8_method_24_code 66 = .ok (.iload 4, 2) := by decide +kernel
theorem d_M_lengthen_68 : decode prog_8_method_24_code 68 = .ok (.iconst 1, 1) := by decide +kernel
theorem d_M_lengthen_69 : decode prog_8_method_24_code 69 = .ok (.if_icmp .ne 14, 3) := by decide +kernel
theorem d_M_lengthen_72 : decode prog_8_method_24_code 72 = .ok (.aload_n 0, 1) := by decide +kernel
theorem d_M_lengthen_73 : decode prog_8_method_24_code 73 = .ok (.getfield 67, 3) := by decide +kernel
theorem d_M_lengthen_76 : decode prog_8_method_24_code 76 = .ok (.iload_n 2, 1) := by decide +kernel
theorem d_M_lengthen_77 : decode prog_8_method_24_code 77 = .ok (.iconst 1, 1) := by decide +kernel
theorem d_M_lengthen_78 : decode prog_8_method_24_code 78 = .ok (.isub, 1) := by decide +kernel
theorem d_M_lengthen_79 : decode prog_8_method_24_code 79 = .ok (.iaload, 1) := by decide +kernel
theorem d_M_lengthen_80 : decode prog_8_method_24_code 80 = .ok (.goto 4, 3) := by decide +kernel
theorem d_M_lengthen_83 : decode prog_8_method_24_code 83 = .ok (.iconst 0, 1) := by decide +kernel
theorem d_M_lengthen_84 : decode prog_8_method_24_code 84 = .ok (.iadd, 1) := by decide +kernel
theorem d_M_lengthen_85 : decode prog_8_method_24_code 85 = .ok (.aload_n 0, 1) := by decide +kernel
theorem d_M_lengthen_86 : decode prog_8_method_24_code 86 = .ok (.aload_n 0, 1) := by decide +kernel
theorem d_M_lengthen_87 : decode prog_8_method_24_code 87 = .ok (.getfield 64, 3) := by decide +kernel
theorem d_M_lengthen_90 : decode prog_8_method_24_code 90 = .ok (.iload_n 2, 1) := by decide +kernel
theorem d_M_lengthen_91 : decode prog_8_method_24_code 91 = .ok (.iaload, 1) := by decide +kernel
theorem d_M_lengthen_92 : decode prog_8_method_24_code 92 = .ok (.invokevirtual 125, 3) := by decide +kernel
theorem d_M_lengthen_95 : decode prog_8_method_24_code 95 = .ok (.isub, 1) := by decide +kernel
theorem d_M_lengthen_96 : decode prog_8_method_24_code 96 = .ok (.istore 5, 2) := by decide +kernel
theorem d_M_lengthen_98 : decode prog_8_method_24_code 98 = .ok (.aload_n 0, 1) := by decide +kernel
theorem d_M_lengthen_99 : decode prog_8_method_24_code 99 = .ok (.getfield 73, 3) := by decide +kernel
theorem d_M_lengthen_102 : decode prog_8_method_24_code 102 = .ok (.iload_n 2, 1) := by decide +kernel
theorem d_M_lengthen_103 : decode prog_8_method_24_code 103 = .ok (.iload 5, 2) := by decide +kernel
theorem d_M_lengthen_105 : decode prog_8_method_24_code 105 = .ok (.aload_n 0, 1) := by decide +kernel
theorem d_M_lengthen_106 : decode prog_8_method_24_code 106 = .ok (.getfield 76, 3) := by decide +kernel
theorem d_M_lengthen_109 : decode prog_8_method_24_code 109 = .ok (.if_icmp .gt 13, 3) := by decide +kernel
theorem d_M_lengthen_112 : decode prog_8_method_24_code 112 = .ok (.iload 5, 2) := by decide +kernel
theorem d_M_lengthen_114 : decode prog_8_method_24_code 114 = .ok (.aload_n 0, 1) := by decide +kernel
theorem d_M_lengthen_115 : decode prog_8_method_24_code 115 = .ok (.getfield 76, 3) := by decide +kernel
theorem d_M_lengthen_118 : decode prog_8_method_24_code 118 = .ok (.ineg, 1) := by decide +kernel
theorem d_M_lengthen_119 : decode prog_8_method_24_code 119 = .ok (.if_icmp .ge 7, 3) := by decide +kernel
theorem d_M_lengthen_122 : decode prog_8_method_24_code 122 = .ok (.iconst 1, 1) := by decide +kernel
theorem d_M_lengthen_123 : decode prog_8_method_24_code 123 = .ok (.goto 4, 3) := by decide +kernel
theorem d_M_lengthen_126 : decode prog_8_method_24_code 126 = .ok (.iconst 0, 1) := by decide +kernel
theorem d_M_lengthen_127 : decode prog_8_method_24_code 127 = .ok (.bastore, 1) := by decide +kernel
theorem d_M_lengthen_128 : decode prog_8_method_24_code 128 = .ok (.aload_n 0, 1) := by decide +kernel
theorem d_M_lengthen_129 : decode prog_8_method_24_code 129 = .ok (.getfield 73, 3) := by decide +kernel
theorem d_M_lengthen_132 : decode prog_8_method_24_code 132 = .ok (.iload_n 2, 1) := by decide +kernel
theorem d_M_lengthen_133 : decode prog_8_method_24_code 133 = .ok (.baload, 1) := by decide +kernel
theorem d_M_lengthen_134 : decode prog_8_method_24_code 134 = .ok (.ifCond .eq 5, 3) := by decide +kernel
theorem d_M_lengthen_137 : decode prog_8_method_24_code 137 = .ok (.iconst 1, 1) := by decide +kernel
theorem d_M_lengthen_138 : decode prog_8_method_24_code 138 = .ok (.istore_n 1, 1) := by decide +kernel
theorem d_M_lengthen_139 : decode prog_8_method_24_code 139 = .ok (.iinc 2 1, 3) := by decide +kernel
theorem d_M_lengthen_142 : decode prog_8_method_24_code 142 = .ok (.goto (-138), 3) := by decide +kernel
theorem d_M_lengthen_145 : decode prog_8_method_24_code 145 = .ok (.iconst 0, 1) := by decide +kernel
theorem d_M_lengthen_146 : decode prog_8_method_24_code 146 = .ok (.istore_n 2, 1) := by decide +kernel
theorem d_M_lengthen_147 : decode prog_8_method_24_code 147 = .ok (.iload_n 2, 1) := by decide +kernel
theorem d_M_lengthen_148 : decode prog_8_method_24_code 148 = .ok (.aload_n 0, 1) := by decide +kernel
theorem d_M_lengthen_149 : decode prog_8_method_24_code 149 = .ok (.getfield 7, 3) := by decide +kernel
theorem d_M_lengthen_152 : decode prog_8_method_24_code 152 = .ok (.iconst 2, 1) := by decide +kernel
theorem d_M_lengthen_153 : decode prog_8_method_24_code 153 = .ok (.imul, 1) := by decide +kernel
theorem d_M_lengthen_154 : decode prog_8_method_24_code 154 = .ok (.if_icmp .ge 25, 3) := by decide +kernel
theorem d_M_lengthen_157 : decode prog_8_method_24_code 157 = .ok (.aload_n 0, 1) := by decide +kernel
theorem d_M_lengthen_158 : decode prog_8_method_24_code 158 = .ok (.getfield 73, 3) := by decide +kernel
theorem d_M_lengthen_161 : decode prog_8_method_24_code 161 = .ok (.iload_n 2, 1) := by decide +kernel
theorem d_M_lengthen_162 : decode prog_8_method_24_code 162 = .ok (.baload, 1) := by decide +kernel
theorem d_M_lengthen_163 : decode prog_8_method_24_code 163 = .ok (.ifCond .eq 10, 3) := by decide +kernel
theorem d_M_lengthen_166 : decode prog_8_method_24_code 166 = .ok (.aload_n 0, 1) := by decide +kernel
theorem d_M_lengthen_167 : decode prog_8_method_24_code 167 = .ok (.getfield 67, 3) := by decide +kernel
theorem d_M_lengthen_170 : decode prog_8_method_24_code 170 = .ok (.iload_n 2, 1) := by decide +kernel
theorem d_M_lengthen_171 : decode prog_8_method_24_code 171 = .ok (.iconst 2, 1) := by decide +kernel
theorem d_M_lengthen_172 : decode prog_8_method_24_code 172 = .ok (.iastore, 1) := by decide +kernel
theorem d_M_lengthen_173 : decode prog_8_method_24_code 173 = .ok (.iinc 2 1, 3) := by decide +kernel
theorem d_M_lengthen_176 : decode prog_8_method_24_code 176 = .ok (.goto (-29), 3) := by decide +kernel
theorem d_M_lengthen_179 : decode prog_8_method_24_code 179 = .ok (.iload_n 1, 1) := by decide +kernel
theorem d_M_lengthen_180 : decode prog_8_method_24_code 180 = .ok (.ireturn, 1) := by decide +kernel
theorem d_M_addressOf_0 : decode prog_8_method_23_code 0 = .ok (.iconst 0, 1) := by decide +kernel
theorem d_M_addressOf_1 : decode prog_8_method_23_code 1 = .ok (.istore_n 2, 1) := by decide +kernel
theorem d_M_addressOf_2 : decode prog_8_method_23_code 2 = .ok (.iconst 0, 1) := by decide +kernel
theorem d_M_addressOf_3 : decode prog_8_method_23_code 3 = .ok (.istore_n 3, 1) := by decide +kernel
theorem d_M_addressOf_4 : decode prog_8_method_23_code 4 = .ok (.aload_n 0, 1) := by decide +kernel
theorem d_M_addressOf_5 : decode prog_8_method_23_code 5 = .ok (.getfield 58, 3) := by decide +kernel
theorem d_M_addressOf_8 : decode prog_8_method_23_code 8 = .ok (.iload_n 3, 1) := by decide +kernel
theorem d_M_addressOf_9 : decode prog_8_method_23_code 9 = .ok (.iaload, 1) := by decide +kernel
theorem d_M_addressOf_10 : decode prog_8_method_23_code 10 = .ok (.iload_n 1, 1) := by decide +kernel
theorem d_M_addressOf_11 : decode prog_8_method_23_code 11 = .ok (.if_icmp .eq 22, 3) := by decide +kernel
theorem d_M_addressOf_14 : decode prog_8_method_23_code 14 = .ok (.iload_n 2, 1) := by decide +kernel
theorem d_M_addressOf_15 : decode prog_8_method_23_code 15 = .ok (.aload_n 0, 1) := by decide +kernel
theorem d_M_addressOf_16 : decode prog_8_method_23_code 16 = .ok (.aload_n 0, 1) := by decide +kernel
theorem d_M_addressOf_17 : decode prog_8_method_23_code 17 = .ok (.getfield 58, 3) := by decide +kernel
theorem d_M_addressOf_20 : decode prog_8_method_23_code 20 = .ok (.iload_n 3, 1) := by decide +kernel
theorem d_M_addressOf_21 : decode prog_8_method_23_code 21 = .ok (.iaload, 1) := by decide +kernel
theorem d_M_addressOf_22 : decode prog_8_method_23_code 22 = .ok (.invokevirtual 122, 3) := by decide +kernel
theorem d_M_addressOf_25 : decode prog_8_method_23_code 25 = .ok (.iadd, 1) := by decide +kernel
theorem d_M_addressOf_26 : decode prog_8_method_23_code 26 = .ok (.istore_n 2, 1) := by decide +kernel
theorem d_M_addressOf_27 : decode prog_8_method_23_code 27 = .ok (.iinc 3 1, 3) := by decide +kernel
theorem d_M_addressOf_30 : decode prog_8_method_23_code 30 = .ok (.goto (-26), 3) := by decide +kernel
theorem d_M_addressOf_33 : decode prog_8_method_23_code 33 = .ok (.iload_n 2, 1) := by decide +kernel
theorem d_M_addressOf_34 : decode prog_8_method_23_code 34 = .ok (.ireturn, 1) := by decide +kernel
theorem d_M_units_0 : decode prog_8_method_22_code 0 = .ok (.aload_n 0, 1) := by decide +kernel
theorem d_M_units_1 : decode prog_8_method_22_code 1 = .ok (.getfield 30, 3) := by decide +kernel
theorem d_M_units_4 : decode prog_8_method_22_code 4 = .ok (.iload_n 1, 1) := by decide +kernel
theorem d_M_units_5 : decode prog_8_method_22_code 5 = .ok (.iaload, 1) := by decide +kernel
theorem d_M_units_6 : decode prog_8_method_22_code 6 = .ok (.aload_n 0, 1) := by decide +kernel
theorem d_M_units_7 : decode prog_8_method_22_code 7 = .ok (.getfield 33, 3) := by decide +kernel
theorem d_M_units_10 : decode prog_8_method_22_code 10 = .ok (.iload_n 1, 1) := by decide +kernel
theorem d_M_units_11 : decode prog_8_method_22_code 11 = .ok (.iaload, 1) := by decide +kernel
theorem d_M_units_12 : decode prog_8_method_22_code 12 = .ok (.ifCond .ne 7, 3) := by decide +kernel
theorem d_M_units_15 : decode prog_8_method_22_code 15 = .ok (.iconst 1, 1) := by decide +kernel
theorem d_M_units_16 : decode prog_8_method_22_code 16 = .ok (.goto 4, 3) := by decide +kernel
theorem d_M_units_19 : decode prog_8_method_22_code 19 = .ok (.iconst 0, 1) := by decide +kernel
theorem d_M_units_20 : decode prog_8_method_22_code 20 = .ok (.iadd, 1) := by decide +kernel
theorem d_M_units_21 : decode prog_8_method_22_code 21 = .ok (.istore_n 2, 1) := by decide +kernel
theorem d_M_units_22 : decode prog_8_method_22_code 22 = .ok (.iconst 0, 1) := by decide +kernel
theorem d_M_units_23 : decode prog_8_method_22_code 23 = .ok (.istore_n 3, 1) := by decide +kernel
theorem d_M_units_24 : decode prog_8_method_22_code 24 = .ok (.iload_n 3, 1) := by decide +kernel
theorem d_M_units_25 : decode prog_8_method_22_code 25 = .ok (.aload_n 0, 1) := by decide +kernel
theorem d_M_units_26 : decode prog_8_method_22_code 26 = .ok (.getfield 61, 3) := by decide +kernel
theorem d_M_units_29 : decode prog_8_method_22_code 29 = .ok (.iload_n 1, 1) := by decide +kernel
theorem d_M_units_30 : decode prog_8_method_22_code 30 = .ok (.iaload, 1) := by decide +kernel
theorem d_M_units_31 : decode prog_8_method_22_code 31 = .ok (.if_icmp .ge 22, 3) := by decide +kernel
theorem d_M_units_34 : decode prog_8_method_22_code 34 = .ok (.iload_n 2, 1) := by decide +kernel
theorem d_M_units_35 : decode prog_8_method_22_code 35 = .ok (.aload_n 0, 1) := by decide +kernel
theorem d_M_units_36 : decode prog_8_method_22_code 36 = .ok (.getfield 67, 3) := by decide +kernel
theorem d_M_units_39 : decode prog_8_method_22_code 39 = .ok (.iload_n 1, 1) := by decide +kernel
theorem d_M_units_40 : decode prog_8_method_22_code 40 = .ok (.iconst 2, 1) := by decide +kernel
theorem d_M_units_41 : decode prog_8_method_22_code 41 = .ok (.imul, 1) := by decide +kernel
theorem d_M_units_42 : decode prog_8_method_22_code 42 = .ok (.iload_n 3, 1) := by decide +kernel
theorem d_M_units_43 : decode prog_8_method_22_code 43 = .ok (.iadd, 1) := by decide +kernel
theorem d_M_units_44 : decode prog_8_method_22_code 44 = .ok (.iaload, 1) := by decide +kernel
theorem d_M_units_45 : decode prog_8_method_22_code 45 = .ok (.iadd, 1) := by decide +kernel
theorem d_M_units_46 : decode prog_8_method_22_code 46 = .ok (.istore_n 2, 1) := by decide +kernel
theorem d_M_units_47 : decode prog_8_method_22_code 47 = .ok (.iinc 3 1, 3) := by decide +kernel
theorem d_M_units_50 : decode prog_8_method_22_code 50 = .ok (.goto (-26), 3) := by decide +kernel
theorem d_M_units_53 : decode prog_8_method_22_code 53 = .ok (.iload_n 2, 1) := by decide +kernel
theorem d_M_units_54 : decode prog_8_method_22_code 54 = .ok (.ireturn, 1) := by decide +kernel
theorem d_M_total_0 : decode prog_8_method_25_code 0 = .ok (.iconst 0, 1) := by decide +kernel
theorem d_M_total_1 : decode prog_8_method_25_code 1 = .ok (.istore_n 1, 1) := by decide +kernel
theorem d_M_total_2 : decode prog_8_method_25_code 2 = .ok (.iconst 0, 1) := by decide +kernel
theorem d_M_total_3 : decode prog_8_method_25_code 3 = .ok (.istore_n 2, 1) := by decide +kernel
theorem d_M_total_4 : decode prog_8_method_25_code 4 = .ok (.iload_n 2, 1) := by decide +kernel
theorem d_M_total_5 : decode prog_8_method_25_code 5 = .ok (.aload_n 0, 1) := by decide +kernel
theorem d_M_total_6 : decode prog_8_method_25_code 6 = .ok (.getfield 7, 3) := by decide +kernel
theorem d_M_total_9 : decode prog_8_method_25_code 9 = .ok (.if_icmp .ge 17, 3) := by decide +kernel
theorem d_M_total_12 : decode prog_8_method_25_code 12 = .ok (.iload_n 1, 1) := by decide +kernel
theorem d_M_total_13 : decode prog_8_method_25_code 13 = .ok (.aload_n 0, 1) := by decide +kernel
theorem d_M_total_14 : decode prog_8_method_25_code 14 = .ok (.iload_n 2, 1) := by decide +kernel
theorem d_M_total_15 : decode prog_8_method_25_code 15 = .ok (.invokevirtual 122, 3) := by decide +kernel
theorem d_M_total_18 : decode prog_8_method_25_code 18 = .ok (.iadd, 1) := by decide +kernel
theorem d_M_total_19 : decode prog_8_method_25_code 19 = .ok (.istore_n 1, 1) := by decide +kernel
theorem d_M_total_20 : decode prog_8_method_25_code 20 = .ok (.iinc 2 1, 3) := by decide +kernel
theorem d_M_total_23 : decode prog_8_method_25_code 23 = .ok (.goto (-19), 3) := by decide +kernel
theorem d_M_total_26 : decode prog_8_method_25_code 26 = .ok (.iload_n 1, 1) := by decide +kernel
theorem d_M_total_27 : decode prog_8_method_25_code 27 = .ok (.ireturn, 1) := by decide +kernel
theorem d_M_at_0 : decode prog_8_method_27_code 0 = .ok (.aload_n 0, 1) := by decide +kernel
theorem d_M_at_1 : decode prog_8_method_27_code 1 = .ok (.getfield 22, 3) := by decide +kernel
theorem d_M_at_4 : decode prog_8_method_27_code 4 = .ok (.ifCond .eq 11, 3) := by decide +kernel
theorem d_M_at_7 : decode prog_8_method_27_code 7 = .ok (.aload_n 0, 1) := by decide +kernel
theorem d_M_at_8 : decode prog_8_method_27_code 8 = .ok (.iload_n 1, 1) := by decide +kernel
theorem d_M_at_9 : decode prog_8_method_27_code 9 = .ok (.invokevirtual 83, 3) := by decide +kernel
theorem d_M_at_12 : decode prog_8_method_27_code 12 = .ok (.ifCond .eq 8, 3) := by decide +kernel
theorem d_M_at_15 : decode prog_8_method_27_code 15 = .ok (.bipush (-3), 2) := by decide +kernel
theorem d_M_at_17 : decode prog_8_method_27_code 17 = .ok (.goto 9, 3) := by decide +kernel
theorem d_M_at_20 : decode prog_8_method_27_code 20 = .ok (.aload_n 0, 1) := by decide +kernel
theorem d_M_at_21 : decode prog_8_method_27_code 21 = .ok (.getfield 58, 3) := by decide +kernel
theorem d_M_at_24 : decode prog_8_method_27_code 24 = .ok (.iload_n 1, 1) := by decide +kernel
theorem d_M_at_25 : decode prog_8_method_27_code 25 = .ok (.iaload, 1) := by decide +kernel
theorem d_M_at_26 : decode prog_8_method_27_code 26 = .ok (.ireturn, 1) := by decide +kernel
theorem d_M_address_0 : decode prog_8_method_28_code 0 = .ok (.aload_n 0, 1) := by decide +kernel
theorem d_M_address_1 : decode prog_8_method_28_code 1 = .ok (.getfield 22, 3) := by decide +kernel
theorem d_M_address_4 : decode prog_8_method_28_code 4 = .ok (.ifCond .eq 11, 3) := by decide +kernel
theorem d_M_address_7 : decode prog_8_method_28_code 7 = .ok (.aload_n 0, 1) := by decide +kernel
theorem d_M_address_8 : decode prog_8_method_28_code 8 = .ok (.iload_n 1, 1) := by decide +kernel
theorem d_M_address_9 : decode prog_8_method_28_code 9 = .ok (.invokevirtual 83, 3) := by decide +kernel
theorem d_M_address_12 : decode prog_8_method_28_code 12 = .ok (.ifCond .eq 8, 3) := by decide +kernel
theorem d_M_address_15 : decode prog_8_method_28_code 15 = .ok (.bipush (-3), 2) := by decide +kernel
theorem d_M_address_17 : decode prog_8_method_28_code 17 = .ok (.goto 8, 3) := by decide +kernel
theorem d_M_address_20 : decode prog_8_method_28_code 20 = .ok (.aload_n 0, 1) := by decide +kernel
theorem d_M_address_21 : decode prog_8_method_28_code 21 = .ok (.iload_n 1, 1) := by decide +kernel
theorem d_M_address_22 : decode prog_8_method_28_code 22 = .ok (.invokevirtual 125, 3) := by decide +kernel
theorem d_M_address_25 : decode prog_8_method_28_code 25 = .ok (.ireturn, 1) := by decide +kernel
theorem d_M_branch_0 : decode prog_8_method_30_code 0 = .ok (.aload_n 0, 1) := by decide +kernel
theorem d_M_branch_1 : decode prog_8_method_30_code 1 = .ok (.iload_n 1, 1) := by decide +kernel
theorem d_M_branch_2 : decode prog_8_method_30_code 2 = .ok (.iload_n 2, 1) := by decide +kernel
theorem d_M_branch_3 : decode prog_8_method_30_code 3 = .ok (.invokevirtual 146, 3) := by decide +kernel
theorem d_M_branch_6 : decode prog_8_method_30_code 6 = .ok (.ifCond .eq 8, 3) := by decide +kernel
theorem d_M_branch_9 : decode prog_8_method_30_code 9 = .ok (.bipush (-3), 2) := by decide +kernel
theorem d_M_branch_11 : decode prog_8_method_30_code 11 = .ok (.goto 13, 3) := by decide +kernel
theorem d_M_branch_14 : decode prog_8_method_30_code 14 = .ok (.aload_n 0, 1) := by decide +kernel
theorem d_M_branch_15 : decode prog_8_method_30_code 15 = .ok (.getfield 67, 3) := by decide +kernel
theorem d_M_branch_18 : decode prog_8_method_30_code 18 = .ok (.iload_n 1, 1) := by decide +kernel
theorem d_M_branch_19 : decode prog_8_method_30_code 19 = .ok (.iconst 2, 1) := by decide +kernel
theorem d_M_branch_20 : decode prog_8_method_30_code 20 = .ok (.imul, 1) := by decide +kernel
theorem d_M_branch_21 : decode prog_8_method_30_code 21 = .ok (.iload_n 2, 1) := by decide +kernel
theorem d_M_branch_22 : decode prog_8_method_30_code 22 = .ok (.iadd, 1) := by decide +kernel
theorem d_M_branch_23 : decode prog_8_method_30_code 23 = .ok (.iaload, 1) := by decide +kernel
theorem d_M_branch_24 : decode prog_8_method_30_code 24 = .ok (.ireturn, 1) := by decide +kernel
theorem d_M_noBranch_0 : decode prog_8_method_29_code 0 = .ok (.aload_n 0, 1) := by decide +kernel
theorem d_M_noBranch_1 : decode prog_8_method_29_code 1 = .ok (.getfield 22, 3) := by decide +kernel
theorem d_M_noBranch_4 : decode prog_8_method_29_code 4 = .ok (.ifCond .eq 25, 3) := by decide +kernel
theorem d_M_noBranch_7 : decode prog_8_method_29_code 7 = .ok (.aload_n 0, 1) := by decide +kernel
theorem d_M_noBranch_8 : decode prog_8_method_29_code 8 = .ok (.iload_n 1, 1) := by decide +kernel
theorem d_M_noBranch_9 : decode prog_8_method_29_code 9 = .ok (.invokevirtual 83, 3) := by decide +kernel
theorem d_M_noBranch_12 : decode prog_8_method_29_code 12 = .ok (.ifCond .ne 17, 3) := by decide +kernel
theorem d_M_noBranch_15 : decode prog_8_method_29_code 15 = .ok (.iload_n 2, 1) := by decide +kernel
theorem d_M_noBranch_16 : decode prog_8_method_29_code 16 = .ok (.ifCond .lt 13, 3) := by decide +kernel
theorem d_M_noBranch_19 : decode prog_8_method_29_code 19 = .ok (.iload_n 2, 1) := by decide +kernel
theorem d_M_noBranch_20 : decode prog_8_method_29_code 20 = .ok (.aload_n 0, 1) := by decide +kernel
theorem d_M_noBranch_21 : decode prog_8_method_29_code 21 = .ok (.getfield 61, 3) := by decide +kernel
theorem d_M_noBranch_24 : decode prog_8_method_29_code 24 = .ok (.iload_n 1, 1) := by decide +kernel
theorem d_M_noBranch_25 : decode prog_8_method_29_code 25 = .ok (.iaload, 1) := by decide +kernel
theorem d_M_noBranch_26 : decode prog_8_method_29_code 26 = .ok (.if_icmp .lt 7, 3) := by decide +kernel
theorem d_M_noBranch_29 : decode prog_8_method_29_code 29 = .ok (.iconst 1, 1) := by decide +kernel
theorem d_M_noBranch_30 : decode prog_8_method_29_code 30 = .ok (.goto 4, 3) := by decide +kernel
theorem d_M_noBranch_33 : decode prog_8_method_29_code 33 = .ok (.iconst 0, 1) := by decide +kernel
theorem d_M_noBranch_34 : decode prog_8_method_29_code 34 = .ok (.ireturn, 1) := by decide +kernel
theorem d_M_target_0 : decode prog_8_method_31_code 0 = .ok (.aload_n 0, 1) := by decide +kernel
theorem d_M_target_1 : decode prog_8_method_31_code 1 = .ok (.iload_n 1, 1) := by decide +kernel
theorem d_M_target_2 : decode prog_8_method_31_code 2 = .ok (.iload_n 2, 1) := by decide +kernel
theorem d_M_target_3 : decode prog_8_method_31_code 3 = .ok (.invokevirtual 146, 3) := by decide +kernel
theorem d_M_target_6 : decode prog_8_method_31_code 6 = .ok (.ifCond .eq 8, 3) := by decide +kernel
theorem d_M_target_9 : decode prog_8_method_31_code 9 = .ok (.bipush (-3), 2) := by decide +kernel
theorem d_M_target_11 : decode prog_8_method_31_code 11 = .ok (.goto 13, 3) := by decide +kernel
theorem d_M_target_14 : decode prog_8_method_31_code 14 = .ok (.aload_n 0, 1) := by decide +kernel
theorem d_M_target_15 : decode prog_8_method_31_code 15 = .ok (.getfield 64, 3) := by decide +kernel
theorem d_M_target_18 : decode prog_8_method_31_code 18 = .ok (.iload_n 1, 1) := by decide +kernel
theorem d_M_target_19 : decode prog_8_method_31_code 19 = .ok (.iconst 2, 1) := by decide +kernel
theorem d_M_target_20 : decode prog_8_method_31_code 20 = .ok (.imul, 1) := by decide +kernel
theorem d_M_target_21 : decode prog_8_method_31_code 21 = .ok (.iload_n 2, 1) := by decide +kernel
theorem d_M_target_22 : decode prog_8_method_31_code 22 = .ok (.iadd, 1) := by decide +kernel
theorem d_M_target_23 : decode prog_8_method_31_code 23 = .ok (.iaload, 1) := by decide +kernel
theorem d_M_target_24 : decode prog_8_method_31_code 24 = .ok (.ireturn, 1) := by decide +kernel
theorem d_M_cost_0 : decode prog_8_method_33_code 0 = .ok (.iload_n 1, 1) := by decide +kernel
theorem d_M_cost_1 : decode prog_8_method_33_code 1 = .ok (.ifCond .lt 8, 3) := by decide +kernel
theorem d_M_cost_4 : decode prog_8_method_33_code 4 = .ok (.iload_n 1, 1) := by decide +kernel
theorem d_M_cost_5 : decode prog_8_method_33_code 5 = .ok (.iconst 3, 1) := by decide +kernel
theorem d_M_cost_6 : decode prog_8_method_33_code 6 = .ok (.if_icmp .le 7, 3) := by decide +kernel
theorem d_M_cost_9 : decode prog_8_method_33_code 9 = .ok (.iconst (-1), 1) := by decide +kernel
theorem d_M_cost_10 : decode prog_8_method_33_code 10 = .ok (.goto 8, 3) := by decide +kernel
theorem d_M_cost_13 : decode prog_8_method_33_code 13 = .ok (.aload_n 0, 1) := by decide +kernel
theorem d_M_cost_14 : decode prog_8_method_33_code 14 = .ok (.iload_n 1, 1) := by decide +kernel
theorem d_M_cost_15 : decode prog_8_method_33_code 15 = .ok (.invokevirtual 88, 3) := by decide +kernel
theorem d_M_cost_18 : decode prog_8_method_33_code 18 = .ok (.istore_n 3, 1) := by decide +kernel
theorem d_M_cost_19 : decode prog_8_method_33_code 19 = .ok (.iconst 0, 1) := by decide +kernel
theorem d_M_cost_20 : decode prog_8_method_33_code 20 = .ok (.istore 4, 2) := by decide +kernel
theorem d_M_cost_22 : decode prog_8_method_33_code 22 = .ok (.iconst 0, 1) := by decide +kernel
theorem d_M_cost_23 : decode prog_8_method_33_code 23 = .ok (.istore 5, 2) := by decide +kernel
theorem d_M_cost_25 : decode prog_8_method_33_code 25 = .ok (.iconst 0, 1) := by decide +kernel
theorem d_M_cost_26 : decode prog_8_method_33_code 26 = .ok (.istore 6, 2) := by decide +kernel
theorem d_M_cost_28 : decode prog_8_method_33_code 28 = .ok (.iload_n 3, 1) := by decide +kernel
theorem d_M_cost_29 : decode prog_8_method_33_code 29 = .ok (.ifCond .lt 10, 3) := by decide +kernel
theorem d_M_cost_32 : decode prog_8_method_33_code 32 = .ok (.aload_n 0, 1) := by decide +kernel
theorem d_M_cost_33 : decode prog_8_method_33_code 33 = .ok (.getfield 22, 3) := by decide +kernel
theorem d_M_cost_36 : decode prog_8_method_33_code 36 = .ok (.ifCond .ne 5, 3) := by decide +kernel
theorem d_M_cost_39 : decode prog_8_method_33_code 39 = .ok (.iconst (-1), 1) := by decide +kernel
theorem d_M_cost_40 : decode prog_8_method_33_code 40 = .ok (.ireturn, 1) := by decide +kernel
theorem d_M_cost_41 : decode prog_8_method_33_code 41 = .ok (.iinc 4 1, 3) := by decide +kernel
theorem d_M_cost_44 : decode prog_8_method_33_code 44 = .ok (.aload_n 0, 1) := by decide +kernel
theorem d_M_cost_45 : decode prog_8_method_33_code 45 = .ok (.iload_n 3, 1) := by decide +kernel
theorem d_M_cost_46 : decode prog_8_method_33_code 46 = .ok (.iload 5, 2) := by decide +kernel
theorem d_M_cost_48 : decode prog_8_method_33_code 48 = .ok (.iload_n 2, 1) := by decide +kernel
theorem d_M_cost_49 : decode prog_8_method_33_code 49 = .ok (.invokevirtual 96, 3) := by decide +kernel
theorem d_M_cost_52 : decode prog_8_method_33_code 52 = .ok (.istore 7, 2) := by decide +kernel
theorem d_M_cost_54 : decode prog_8_method_33_code 54 = .ok (.iload 6, 2) := by decide +kernel
theorem d_M_cost_56 : decode prog_8_method_33_code 56 = .ok (.aload_n 0, 1) := by decide +kernel
theorem d_M_cost_57 : decode prog_8_method_33_code 57 = .ok (.iload_n 3, 1) := by decide +kernel
theorem d_M_cost_58 : decode prog_8_method_33_code 58 = .ok (.iload 7, 2) := by decide +kernel
theorem d_M_cost_60 : decode prog_8_method_33_code 60 = .ok (.invokevirtual 149, 3) := by decide +kernel
theorem d_M_cost_63 : decode prog_8_method_33_code 63 = .ok (.iadd, 1) := by decide +kernel
theorem d_M_cost_64 : decode prog_8_method_33_code 64 = .ok (.istore 6, 2) := by decide +kernel
theorem d_M_cost_66 : decode prog_8_method_33_code 66 = .ok (.iload 4, 2) := by decide +kernel
theorem d_M_cost_68 : decode prog_8_method_33_code 68 = .ok (.bipush 60, 2) := by decide +kernel
theorem d_M_cost_70 : decode prog_8_method_33_code 70 = .ok (.if_icmp .eq 8, 3) := by decide +kernel
theorem d_M_cost_73 : decode prog_8_method_33_code 73 = .ok (.iload 7, 2) := by decide +kernel
theorem d_M_cost_75 : decode prog_8_method_33_code 75 = .ok (.ifCond .ge 6, 3) := by decide +kernel
theorem d_M_cost_78 : decode prog_8_method_33_code 78 = .ok (.iload 6, 2) := by decide +kernel
theorem d_M_cost_80 : decode prog_8_method_33_code 80 = .ok (.ireturn, 1) := by decide +kernel
theorem d_M_cost_81 : decode prog_8_method_33_code 81 = .ok (.aload_n 0, 1) := by decide +kernel
theorem d_M_cost_82 : decode prog_8_method_33_code 82 = .ok (.getfield 33, 3) := by decide +kernel
theorem d_M_cost_85 : decode prog_8_method_33_code 85 = .ok (.iload_n 3, 1) := by decide +kernel
theorem d_M_cost_86 : decode prog_8_method_33_code 86 = .ok (.iaload, 1) := by decide +kernel
theorem d_M_cost_87 : decode prog_8_method_33_code 87 = .ok (.iconst 2, 1) := by decide +kernel
theorem d_M_cost_88 : decode prog_8_method_33_code 88 = .ok (.if_icmp .ne 6, 3) := by decide +kernel
theorem d_M_cost_91 : decode prog_8_method_33_code 91 = .ok (.iinc 5 1, 3) := by decide +kernel
theorem d_M_cost_94 : decode prog_8_method_33_code 94 = .ok (.aload_n 0, 1) := by decide +kernel
theorem d_M_cost_95 : decode prog_8_method_33_code 95 = .ok (.getfield 36, 3) := by decide +kernel
theorem d_M_cost_98 : decode prog_8_method_33_code 98 = .ok (.iload_n 3, 1) := by decide +kernel
theorem d_M_cost_99 : decode prog_8_method_33_code 99 = .ok (.iconst 2, 1) := by decide +kernel
theorem d_M_cost_100 : decode prog_8_method_33_code 100 = .ok (.imul, 1) := by decide +kernel
theorem d_M_cost_101 : decode prog_8_method_33_code 101 = .ok (.iload 7, 2) := by decide +kernel
theorem d_M_cost_103 : decode prog_8_method_33_code 103 = .ok (.iadd, 1) := by decide +kernel
theorem d_M_cost_104 : decode prog_8_method_33_code 104 = .ok (.iaload, 1) := by decide +kernel
theorem d_M_cost_105 : decode prog_8_method_33_code 105 = .ok (.istore_n 3, 1) := by decide +kernel
theorem d_M_cost_106 : decode prog_8_method_33_code 106 = .ok (.goto (-65), 3) := by decide +kernel
theorem d_M_leaving_0 : decode prog_8_method_32_code 0 = .ok (.iload_n 1, 1) := by decide +kernel
theorem d_M_leaving_1 : decode prog_8_method_32_code 1 = .ok (.iconst 2, 1) := by decide +kernel
theorem d_M_leaving_2 : decode prog_8_method_32_code 2 = .ok (.imul, 1) := by decide +kernel
theorem d_M_leaving_3 : decode prog_8_method_32_code 3 = .ok (.istore_n 3, 1) := by decide +kernel
theorem d_M_leaving_4 : decode prog_8_method_32_code 4 = .ok (.aload_n 0, 1) := by decide +kernel
theorem d_M_leaving_5 : decode prog_8_method_32_code 5 = .ok (.getfield 33, 3) := by decide +kernel
theorem d_M_leaving_8 : decode prog_8_method_32_code 8 = .ok (.iload_n 1, 1) := by decide +kernel
theorem d_M_leaving_9 : decode prog_8_method_32_code 9 = .ok (.iaload, 1) := by decide +kernel
theorem d_M_leaving_10 : decode prog_8_method_32_code 10 = .ok (.ifCond .ne 5, 3) := by decide +kernel
theorem d_M_leaving_13 : decode prog_8_method_32_code 13 = .ok (.iconst 1, 1) := by decide +kernel
theorem d_M_leaving_14 : decode prog_8_method_32_code 14 = .ok (.ireturn, 1) := by decide +kernel
theorem d_M_leaving_15 : decode prog_8_method_32_code 15 = .ok (.aload_n 0, 1) := by decide +kernel
theorem d_M_leaving_16 : decode prog_8_method_32_code 16 = .ok (.getfield 33, 3) := by decide +kernel
theorem d_M_leaving_19 : decode prog_8_method_32_code 19 = .ok (.iload_n 1, 1) := by decide +kernel
theorem d_M_leaving_20 : decode prog_8_method_32_code 20 = .ok (.iaload, 1) := by decide +kernel
theorem d_M_leaving_21 : decode prog_8_method_32_code 21 = .ok (.iconst 1, 1) := by decide +kernel
theorem d_M_leaving_22 : decode prog_8_method_32_code 22 = .ok (.if_icmp .ne 25, 3) := by decide +kernel
theorem d_M_leaving_25 : decode prog_8_method_32_code 25 = .ok (.aload_n 0, 1) := by decide +kernel
theorem d_M_leaving_26 : decode prog_8_method_32_code 26 = .ok (.getfield 61, 3) := by decide +kernel
theorem d_M_leaving_29 : decode prog_8_method_32_code 29 = .ok (.iload_n 1, 1) := by decide +kernel
theorem d_M_leaving_30 : decode prog_8_method_32_code 30 = .ok (.iaload, 1) := by decide +kernel
theorem d_M_leaving_31 : decode prog_8_method_32_code 31 = .ok (.ifCond .ne 7, 3) := by decide +kernel
theorem d_M_leaving_34 : decode prog_8_method_32_code 34 = .ok (.iconst 0, 1) := by decide +kernel
theorem d_M_leaving_35 : decode prog_8_method_32_code 35 = .ok (.goto 11, 3) := by decide +kernel
theorem d_M_leaving_38 : decode prog_8_method_32_code 38 = .ok (.iconst 1, 1) := by decide +kernel
theorem d_M_leaving_39 : decode prog_8_method_32_code 39 = .ok (.aload_n 0, 1) := by decide +kernel
theorem d_M_leaving_40 : decode prog_8_method_32_code 40 = .ok (.getfield 67, 3) := by decide +kernel
theorem d_M_leaving_43 : decode prog_8_method_32_code 43 = .ok (.iload_n 3, 1) := by decide +kernel
theorem d_M_leaving_44 : decode prog_8_method_32_code 44 = .ok (.iaload, 1) := by decide +kernel
theorem d_M_leaving_45 : decode prog_8_method_32_code 45 = .ok (.iadd, 1) := by decide +kernel
theorem d_M_leaving_46 : decode prog_8_method_32_code 46 = .ok (.ireturn, 1) := by decide +kernel
theorem d_M_leaving_47 : decode prog_8_method_32_code 47 = .ok (.iload_n 2, 1) := by decide +kernel
theorem d_M_leaving_48 : decode prog_8_method_32_code 48 = .ok (.ifCond .ne 7, 3) := by decide +kernel
theorem d_M_leaving_51 : decode prog_8_method_32_code 51 = .ok (.iconst 1, 1) := by decide +kernel
theorem d_M_leaving_52 : decode prog_8_method_32_code 52 = .ok (.goto 4, 3) := by decide +kernel
theorem d_M_leaving_55 : decode prog_8_method_32_code 55 = .ok (.iconst 0, 1) := by decide +kernel
theorem d_M_leaving_56 : decode prog_8_method_32_code 56 = .ok (.aload_n 0, 1) := by decide +kernel
theorem d_M_leaving_57 : decode prog_8_method_32_code 57 = .ok (.getfield 70, 3) := by decide +kernel
theorem d_M_leaving_60 : decode prog_8_method_32_code 60 = .ok (.iload_n 1, 1) := by decide +kernel
theorem d_M_leaving_61 : decode prog_8_method_32_code 61 = .ok (.baload, 1) := by decide +kernel
theorem d_M_leaving_62 : decode prog_8_method_32_code 62 = .ok (.if_icmp .eq 7, 3) := by decide +kernel
theorem d_M_leaving_65 : decode prog_8_method_32_code 65 = .ok (.iconst 1, 1) := by decide +kernel
theorem d_M_leaving_66 : decode prog_8_method_32_code 66 = .ok (.goto 4, 3) := by decide +kernel
theorem d_M_leaving_69 : decode prog_8_method_32_code 69 = .ok (.iconst 0, 1) := by decide +kernel
theorem d_M_leaving_70 : decode prog_8_method_32_code 70 = .ok (.istore 4, 2) := by decide +kernel
theorem d_M_leaving_72 : decode prog_8_method_32_code 72 = .ok (.iload 4, 2) := by decide +kernel
theorem d_M_leaving_74 : decode prog_8_method_32_code 74 = .ok (.ifCond .eq 12, 3) := by decide +kernel
theorem d_M_leaving_77 : decode prog_8_method_32_code 77 = .ok (.iconst 1, 1) := by decide +kernel
theorem d_M_leaving_78 : decode prog_8_method_32_code 78 = .ok (.aload_n 0, 1) := by decide +kernel
theorem d_M_leaving_79 : decode prog_8_method_32_code 79 = .ok (.getfield 67, 3) := by decide +kernel
theorem d_M_leaving_82 : decode prog_8_method_32_code 82 = .ok (.iload_n 3, 1) := by decide +kernel
theorem d_M_leaving_83 : decode prog_8_method_32_code 83 = .ok (.iaload, 1) := by decide +kernel
theorem d_M_leaving_84 : decode prog_8_method_32_code 84 = .ok (.iadd, 1) := by decide +kernel
theorem d_M_leaving_85 : decode prog_8_method_32_code 85 = .ok (.ireturn, 1) := by decide +kernel
theorem d_M_leaving_86 : decode prog_8_method_32_code 86 = .ok (.aload_n 0, 1) := by decide +kernel
theorem d_M_leaving_87 : decode prog_8_method_32_code 87 = .ok (.getfield 61, 3) := by decide +kernel
theorem d_M_leaving_90 : decode prog_8_method_32_code 90 = .ok (.iload_n 1, 1) := by decide +kernel
theorem d_M_leaving_91 : decode prog_8_method_32_code 91 = .ok (.iaload, 1) := by decide +kernel
theorem d_M_leaving_92 : decode prog_8_method_32_code 92 = .ok (.iconst 1, 1) := by decide +kernel
theorem d_M_leaving_93 : decode prog_8_method_32_code 93 = .ok (.if_icmp .ne 7, 3) := by decide +kernel
theorem d_M_leaving_96 : decode prog_8_method_32_code 96 = .ok (.iconst 1, 1) := by decide +kernel
theorem d_M_leaving_97 : decode prog_8_method_32_code 97 = .ok (.goto 13, 3) := by decide +kernel
theorem d_M_leaving_100 : decode prog_8_method_32_code 100 = .ok (.iconst 2, 1) := by decide +kernel
theorem d_M_leaving_101 : decode prog_8_method_32_code 101 = .ok (.aload_n 0, 1) := by decide +kernel
theorem d_M_leaving_102 : decode prog_8_method_32_code 102 = .ok (.getfield 67, 3) := by decide +kernel
theorem d_M_leaving_105 : decode prog_8_method_32_code 105 = .ok (.iload_n 3, 1) := by decide +kernel
theorem d_M_leaving_106 : decode prog_8_method_32_code 106 = .ok (.iconst 1, 1) := by decide +kernel
theorem d_M_leaving_107 : decode prog_8_method_32_code 107 = .ok (.iadd, 1) := by decide +kernel
theorem d_M_leaving_108 : decode prog_8_method_32_code 108 = .ok (.iaload, 1) := by decide +kernel
theorem d_M_leaving_109 : decode prog_8_method_32_code 109 = .ok (.iadd, 1) := by decide +kernel
theorem d_M_leaving_110 : decode prog_8_method_32_code 110 = .ok (.ireturn, 1) := by decide +kernel
theorem d_M_heatOf_0 : decode prog_8_method_34_code 0 = .ok (.aload_n 0, 1) := by decide +kernel
theorem d_M_heatOf_1 : decode prog_8_method_34_code 1 = .ok (.iload_n 1, 1) := by decide +kernel
theorem d_M_heatOf_2 : decode prog_8_method_34_code 2 = .ok (.invokevirtual 83, 3) := by decide +kernel
theorem d_M_heatOf_5 : decode prog_8_method_34_code 5 = .ok (.ifCond .ne 18, 3) := by decide +kernel
theorem d_M_heatOf_8 : decode prog_8_method_34_code 8 = .ok (.iload_n 2, 1) := by decide +kernel
theorem d_M_heatOf_9 : decode prog_8_method_34_code 9 = .ok (.iconst (-1), 1) := by decide +kernel
theorem d_M_heatOf_10 : decode prog_8_method_34_code 10 = .ok (.if_icmp .lt 13, 3) := by decide +kernel
theorem d_M_heatOf_13 : decode prog_8_method_34_code 13 = .ok (.iload_n 2, 1) := by decide +kernel
theorem d_M_heatOf_14 : decode prog_8_method_34_code 14 = .ok (.aload_n 0, 1) := by decide +kernel
theorem d_M_heatOf_15 : decode prog_8_method_34_code 15 = .ok (.getfield 33, 3) := by decide +kernel
theorem d_M_heatOf_18 : decode prog_8_method_34_code 18 = .ok (.iload_n 1, 1) := by decide +kernel
theorem d_M_heatOf_19 : decode prog_8_method_34_code 19 = .ok (.iaload, 1) := by decide +kernel
theorem d_M_heatOf_20 : decode prog_8_method_34_code 20 = .ok (.if_icmp .lt 6, 3) := by decide +kernel
theorem d_M_heatOf_23 : decode prog_8_method_34_code 23 = .ok (.bipush (-3), 2) := by decide +kernel
theorem d_M_heatOf_25 : decode prog_8_method_34_code 25 = .ok (.ireturn, 1) := by decide +kernel
theorem d_M_heatOf_26 : decode prog_8_method_34_code 26 = .ok (.iload_n 2, 1) := by decide +kernel
theorem d_M_heatOf_27 : decode prog_8_method_34_code 27 = .ok (.ifCond .ge 12, 3) := by decide +kernel
theorem d_M_heatOf_30 : decode prog_8_method_34_code 30 = .ok (.aload_n 0, 1) := by decide +kernel
theorem d_M_heatOf_31 : decode prog_8_method_34_code 31 = .ok (.getfield 39, 3) := by decide +kernel
theorem d_M_heatOf_34 : decode prog_8_method_34_code 34 = .ok (.iload_n 1, 1) := by decide +kernel
theorem d_M_heatOf_35 : decode prog_8_method_34_code 35 = .ok (.iaload, 1) := by decide +kernel
theorem d_M_heatOf_36 : decode prog_8_method_34_code 36 = .ok (.goto 13, 3) := by decide +kernel
theorem d_M_heatOf_39 : decode prog_8_method_34_code 39 = .ok (.aload_n 0, 1) := by decide +kernel
theorem d_M_heatOf_40 : decode prog_8_method_34_code 40 = .ok (.getfield 42, 3) := by decide +kernel
theorem d_M_heatOf_43 : decode prog_8_method_34_code 43 = .ok (.iload_n 1, 1) := by decide +kernel
theorem d_M_heatOf_44 : decode prog_8_method_34_code 44 = .ok (.iconst 2, 1) := by decide +kernel
theorem d_M_heatOf_45 : decode prog_8_method_34_code 45 = .ok (.imul, 1) := by decide +kernel
theorem d_M_heatOf_46 : decode prog_8_method_34_code 46 = .ok (.iload_n 2, 1) := by decide +kernel
theorem d_M_heatOf_47 : decode prog_8_method_34_code 47 = .ok (.iadd, 1) := by decide +kernel
theorem d_M_heatOf_48 : decode prog_8_method_34_code 48 = .ok (.iaload, 1) := by decide +kernel
theorem d_M_heatOf_49 : decode prog_8_method_34_code 49 = .ok (.ireturn, 1) := by decide +kernel
theorem d_M_count_0 : decode prog_8_method_35_code 0 = .ok (.iconst 0, 1) := by decide +kernel
theorem d_M_count_1 : decode prog_8_method_35_code 1 = .ok (.istore_n 2, 1) := by decide +kernel
theorem d_M_count_2 : decode prog_8_method_35_code 2 = .ok (.iconst 0, 1) := by decide +kernel
theorem d_M_count_3 : decode prog_8_method_35_code 3 = .ok (.istore_n 3, 1) := by decide +kernel
theorem d_M_count_4 : decode prog_8_method_35_code 4 = .ok (.iconst 0, 1) := by decide +kernel
theorem d_M_count_5 : decode prog_8_method_35_code 5 = .ok (.istore 4, 2) := by decide +kernel
theorem d_M_count_7 : decode prog_8_method_35_code 7 = .ok (.iload 4, 2) := by decide +kernel
theorem d_M_count_9 : decode prog_8_method_35_code 9 = .ok (.aload_n 0, 1) := by decide +kernel
theorem d_M_count_10 : decode prog_8_method_35_code 10 = .ok (.getfield 7, 3) := by decide +kernel
theorem d_M_count_13 : decode prog_8_method_35_code 13 = .ok (.if_icmp .ge 66, 3) := by decide +kernel
theorem d_M_count_16 : decode prog_8_method_35_code 16 = .ok (.aload_n 0, 1) := by decide +kernel
theorem d_M_count_17 : decode prog_8_method_35_code 17 = .ok (.getfield 22, 3) := by decide +kernel
theorem d_M_count_20 : decode prog_8_method_35_code 20 = .ok (.ifCond .eq 59, 3) := by decide +kernel
theorem d_M_count_23 : decode prog_8_method_35_code 23 = .ok (.iload_n 2, 1) := by decide +kernel
theorem d_M_count_24 : decode prog_8_method_35_code 24 = .ok (.aload_n 0, 1) := by decide +kernel
theorem d_M_count_25 : decode prog_8_method_35_code 25 = .ok (.getfield 61, 3) := by decide +kernel
theorem d_M_count_28 : decode prog_8_method_35_code 28 = .ok (.iload 4, 2) := by decide +kernel
theorem d_M_count_30 : decode prog_8_method_35_code 30 = .ok (.iaload, 1) := by decide +kernel
theorem d_M_count_31 : decode prog_8_method_35_code 31 = .ok (.iadd, 1) := by decide +kernel
theorem d_M_count_32 : decode prog_8_method_35_code 32 = .ok (.istore_n 2, 1) := by decide +kernel
theorem d_M_count_33 : decode prog_8_method_35_code 33 = .ok (.iconst 0, 1) := by decide +kernel
theorem d_M_count_34 : decode prog_8_method_35_code 34 = .ok (.istore 5, 2) := by decide +kernel
theorem d_M_count_36 : decode prog_8_method_35_code 36 = .ok (.iload 5, 2) := by decide +kernel
theorem d_M_count_38 : decode prog_8_method_35_code 38 = .ok (.aload_n 0, 1) := by decide +kernel
theorem d_M_count_39 : decode prog_8_method_35_code 39 = .ok (.getfield 61, 3) := by decide +kernel
theorem d_M_count_42 : decode prog_8_method_35_code 42 = .ok (.iload 4, 2) := by decide +kernel
theorem d_M_count_44 : decode prog_8_method_35_code 44 = .ok (.iaload, 1) := by decide +kernel
theorem d_M_count_45 : decode prog_8_method_35_code 45 = .ok (.if_icmp .ge 28, 3) := by decide +kernel
theorem d_M_count_48 : decode prog_8_method_35_code 48 = .ok (.aload_n 0, 1) := by decide +kernel
theorem d_M_count_49 : decode prog_8_method_35_code 49 = .ok (.getfield 67, 3) := by decide +kernel
theorem d_M_count_52 : decode prog_8_method_35_code 52 = .ok (.iload 4, 2) := by decide +kernel
theorem d_M_count_54 : decode prog_8_method_35_code 54 = .ok (.iconst 2, 1) := by decide +kernel
theorem d_M_count_55 : decode prog_8_method_35_code 55 = .ok (.imul, 1) := by decide +kernel
theorem d_M_count_56 : decode prog_8_method_35_code 56 = .ok (.iload 5, 2) := by decide +kernel
theorem d_M_count_58 : decode prog_8_method_35_code 58 = .ok (.iadd, 1) := by decide +kernel
theorem d_M_count_59 : decode prog_8_method_35_code 59 = .ok (.iaload, 1) := by decide +kernel
theorem d_M_count_60 : decode prog_8_method_35_code 60 = .ok (.iconst 2, 1) := by decide +kernel
theorem d_M_count_61 : decode prog_8_method_35_code 61 = .ok (.if_icmp .ne 6, 3) := by decide +kernel
theorem d_M_count_64 : decode prog_8_method_35_code 64 = .ok (.iinc 3 1, 3) := by decide +kernel
theorem d_M_count_67 : decode prog_8_method_35_code 67 = .ok (.iinc 5 1, 3) := by decide +kernel
theorem d_M_count_70 : decode prog_8_method_35_code 70 = .ok (.goto (-34), 3) := by decide +kernel
theorem d_M_count_73 : decode prog_8_method_35_code 73 = .ok (.iinc 4 1, 3) := by decide +kernel
theorem d_M_count_76 : decode prog_8_method_35_code 76 = .ok (.goto (-69), 3) := by decide +kernel
theorem d_M_count_79 : decode prog_8_method_35_code 79 = .ok (.iload_n 1, 1) := by decide +kernel
theorem d_M_count_80 : decode prog_8_method_35_code 80 = .ok (.ifCond .ne 8, 3) := by decide +kernel
theorem d_M_count_83 : decode prog_8_method_35_code 83 = .ok (.aload_n 0, 1) := by decide +kernel
theorem d_M_count_84 : decode prog_8_method_35_code 84 = .ok (.getfield 7, 3) := by decide +kernel
theorem d_M_count_87 : decode prog_8_method_35_code 87 = .ok (.ireturn, 1) := by decide +kernel
theorem d_M_count_88 : decode prog_8_method_35_code 88 = .ok (.iload_n 1, 1) := by decide +kernel
theorem d_M_count_89 : decode prog_8_method_35_code 89 = .ok (.iconst 1, 1) := by decide +kernel
theorem d_M_count_90 : decode prog_8_method_35_code 90 = .ok (.if_icmp .lt 8, 3) := by decide +kernel
theorem d_M_count_93 : decode prog_8_method_35_code 93 = .ok (.iload_n 1, 1) := by decide +kernel
theorem d_M_count_94 : decode prog_8_method_35_code 94 = .ok (.iconst 5, 1) := by decide +kernel
theorem d_M_count_95 : decode prog_8_method_35_code 95 = .ok (.if_icmp .le 5, 3) := by decide +kernel
theorem d_M_count_98 : decode prog_8_method_35_code 98 = .ok (.iconst (-1), 1) := by decide +kernel
theorem d_M_count_99 : decode prog_8_method_35_code 99 = .ok (.ireturn, 1) := by decide +kernel
theorem d_M_count_100 : decode prog_8_method_35_code 100 = .ok (.aload_n 0, 1) := by decide +kernel
theorem d_M_count_101 : decode prog_8_method_35_code 101 = .ok (.getfield 22, 3) := by decide +kernel
theorem d_M_count_104 : decode prog_8_method_35_code 104 = .ok (.ifCond .ne 5, 3) := by decide +kernel
theorem d_M_count_107 : decode prog_8_method_35_code 107 = .ok (.iconst 0, 1) := by decide +kernel
theorem d_M_count_108 : decode prog_8_method_35_code 108 = .ok (.ireturn, 1) := by decide +kernel
theorem d_M_count_109 : decode prog_8_method_35_code 109 = .ok (.iload_n 1, 1) := by decide +kernel
theorem d_M_count_110 : decode prog_8_method_35_code 110 = .ok (.iconst 1, 1) := by decide +kernel
theorem d_M_count_111 : decode prog_8_method_35_code 111 = .ok (.if_icmp .ne 10, 3) := by decide +kernel
theorem d_M_count_114 : decode prog_8_method_35_code 114 = .ok (.aload_n 0, 1) := by decide +kernel
theorem d_M_count_115 : decode prog_8_method_35_code 115 = .ok (.invokevirtual 142, 3) := by decide +kernel
theorem d_M_count_118 : decode prog_8_method_35_code 118 = .ok (.goto 37, 3) := by decide +kernel
theorem d_M_count_121 : decode prog_8_method_35_code 121 = .ok (.iload_n 1, 1) := by decide +kernel
theorem d_M_count_122 : decode prog_8_method_35_code 122 = .ok (.iconst 2, 1) := by decide +kernel
theorem d_M_count_123 : decode prog_8_method_35_code 123 = .ok (.if_icmp .ne 7, 3) := by decide +kernel
theorem d_M_count_126 : decode prog_8_method_35_code 126 = .ok (.iload_n 2, 1) := by decide +kernel
theorem d_M_count_127 : decode prog_8_method_35_code 127 = .ok (.goto 28, 3) := by decide +kernel
theorem d_M_count_130 : decode prog_8_method_35_code 130 = .ok (.iload_n 1, 1) := by decide +kernel
theorem d_M_count_131 : decode prog_8_method_35_code 131 = .ok (.iconst 3, 1) := by decide +kernel
theorem d_M_count_132 : decode prog_8_method_35_code 132 = .ok (.if_icmp .ne 7, 3) := by decide +kernel
theorem d_M_count_135 : decode prog_8_method_35_code 135 = .ok (.iload_n 3, 1) := by decide +kernel
theorem d_M_count_136 : decode prog_8_method_35_code 136 = .ok (.goto 19, 3) := by decide +kernel
theorem d_M_count_139 : decode prog_8_method_35_code 139 = .ok (.iload_n 1, 1) := by decide +kernel
theorem d_M_count_140 : decode prog_8_method_35_code 140 = .ok (.iconst 4, 1) := by decide +kernel
theorem d_M_count_141 : decode prog_8_method_35_code 141 = .ok (.if_icmp .ne 10, 3) := by decide +kernel
theorem d_M_count_144 : decode prog_8_method_35_code 144 = .ok (.aload_n 0, 1) := by decide +kernel
theorem d_M_count_145 : decode prog_8_method_35_code 145 = .ok (.getfield 16, 3) := by decide +kernel
theorem d_M_count_148 : decode prog_8_method_35_code 148 = .ok (.goto 7, 3) := by decide +kernel
theorem d_M_count_151 : decode prog_8_method_35_code 151 = .ok (.aload_n 0, 1) := by decide +kernel
theorem d_M_count_152 : decode prog_8_method_35_code 152 = .ok (.getfield 19, 3) := by decide +kernel
theorem d_M_count_155 : decode prog_8_method_35_code 155 = .ok (.ireturn, 1) := by decide +kernel
end
section
theorem d_W_cell_0 : decode method_2_code 0 = .ok (.iload_n 1, 1) := by decide +kernel
theorem d_W_cell_1 : decode method_2_code 1 = .ok (.aload_n 0, 1) := by decide +kernel
theorem d_W_cell_2 : decode method_2_code 2 = .ok (.arraylength, 1) := by decide +kernel
theorem d_W_cell_3 : decode method_2_code 3 = .ok (.if_icmp .ge 9, 3) := by decide +kernel
theorem d_W_cell_6 : decode method_2_code 6 = .ok (.aload_n 0, 1) := by decide +kernel
theorem d_W_cell_7 : decode method_2_code 7 = .ok (.iload_n 1, 1) := by decide +kernel
theorem d_W_cell_8 : decode method_2_code 8 = .ok (.iaload, 1) := by decide +kernel
theorem d_W_cell_9 : decode method_2_code 9 = .ok (.goto 4, 3) := by decide +kernel
theorem d_W_cell_12 : decode method_2_code 12 = .ok (.iconst 0, 1) := by decide +kernel
theorem d_W_cell_13 : decode method_2_code 13 = .ok (.ireturn, 1) := by decide +kernel
theorem d_W_law_0 : decode code 0 = .ok (.new 7, 3) := by decide +kernel
theorem d_W_law_3 : decode code 3 = .ok (.dup, 1) := by decide +kernel
theorem d_W_law_4 : decode code 4 = .ok (.aload_n 0, 1) := by decide +kernel
theorem d_W_law_5 : decode code 5 = .ok (.iconst 0, 1) := by decide +kernel
theorem d_W_law_6 : decode code 6 = .ok (.invokestatic 9, 3) := by decide +kernel
theorem d_W_law_9 : decode code 9 = .ok (.invokespecial 15, 3) := by decide +kernel
theorem d_W_law_12 : decode code 12 = .ok (.astore_n 1, 1) := by decide +kernel
theorem d_W_law_13 : decode code 13 = .ok (.new 18, 3) := by decide +kernel
theorem d_W_law_16 : decode code 16 = .ok (.dup, 1) := by decide +kernel
theorem d_W_law_17 : decode code 17 = .ok (.aload_n 0, 1) := by decide +kernel
theorem d_W_law_18 : decode code 18 = .ok (.iconst 0, 1) := by decide +kernel
theorem d_W_law_19 : decode code 19 = .ok (.invokestatic 9, 3) := by decide +kernel
theorem d_W_law_22 : decode code 22 = .ok (.invokespecial 20, 3) := by decide +kernel
theorem d_W_law_25 : decode code 25 = .ok (.astore_n 2, 1) := by decide +kernel
theorem d_W_law_26 : decode code 26 = .ok (.iconst 1, 1) := by decide +kernel
theorem d_W_law_27 : decode code 27 = .ok (.istore_n 3, 1) := by decide +kernel
theorem d_W_law_28 : decode code 28 = .ok (.iload_n 3, 1) := by decide +kernel
theorem d_W_law_29 : decode code 29 = .ok (.aload_n 0, 1) := by decide +kernel
theorem d_W_law_30 : decode code 30 = .ok (.arraylength, 1) := by decide +kernel
theorem d_W_law_31 : decode code 31 = .ok (.iconst 4, 1) := by decide +kernel
theorem d_W_law_32 : decode code 32 = .ok (.isub, 1) := by decide +kernel
theorem d_W_law_33 : decode code 33 = .ok (.if_icmp .gt 507, 3) := by decide +kernel
theorem d_W_law_36 : decode code 36 = .ok (.aload_n 0, 1) := by decide +kernel
theorem d_W_law_37 : decode code 37 = .ok (.iload_n 3, 1) := by decide +kernel
theorem d_W_law_38 : decode code 38 = .ok (.iaload, 1) := by decide +kernel
theorem d_W_law_39 : decode code 39 = .ok (.bipush 15, 2) := by decide +kernel
theorem d_W_law_41 : decode code 41 = .ok (.iand, 1) := by decide +kernel
theorem d_W_law_42 : decode code 42 = .ok (.tableswitch 492 0 13 #[70, 103, 136, 179, 212, 255, 268, 291, 314, 337, 370, 403, 436, 469], 70) := by decide +kernel
theorem d_W_law_112 : decode code 112 = .ok (.aload_n 1, 1) := by decide +kernel
theorem d_W_law_113 : decode code 113 = .ok (.aload_n 0, 1) := by decide +kernel
theorem d_W_law_114 : decode code 114 = .ok (.iload_n 3, 1) := by decide +kernel
theorem d_W_law_115 : decode code 115 = .ok (.iconst 1, 1) := by decide +kernel
theorem d_W_law_116 : decode code 116 = .ok (.iadd, 1) := by decide +kernel
theorem d_W_law_117 : decode code 117 = .ok (.iaload, 1) := by decide +kernel
theorem d_W_law_118 : decode code 118 = .ok (.aload_n 0, 1) := by decide +kernel
theorem d_W_law_119 : decode code 119 = .ok (.iload_n 3, 1) := by decide +kernel
theorem d_W_law_120 : decode code 120 = .ok (.iconst 2, 1) := by decide +kernel
theorem d_W_law_121 : decode code 121 = .ok (.iadd, 1) := by decide +kernel
theorem d_W_law_122 : decode code 122 = .ok (.iaload, 1) := by decide +kernel
theorem d_W_law_123 : decode code 123 = .ok (.invokevirtual 21, 3) := by decide +kernel
theorem d_W_law_126 : decode code 126 = .ok (.aload_n 2, 1) := by decide +kernel
theorem d_W_law_127 : decode code 127 = .ok (.aload_n 0, 1) := by decide +kernel
theorem d_W_law_128 : decode code 128 = .ok (.iload_n 3, 1) := by decide +kernel
theorem d_W_law_129 : decode code 129 = .ok (.iconst 1, 1) := by decide +kernel
theorem d_W_law_130 : decode code 130 = .ok (.iadd, 1) := by decide +kernel
theorem d_W_law_131 : decode code 131 = .ok (.iaload, 1) := by decide +kernel
theorem d_W_law_132 : decode code 132 = .ok (.aload_n 0, 1) := by decide +kernel
theorem d_W_law_133 : decode code 133 = .ok (.iload_n 3, 1) := by decide +kernel
theorem d_W_law_134 : decode code 134 = .ok (.iconst 2, 1) := by decide +kernel
theorem d_W_law_135 : decode code 135 = .ok (.iadd, 1) := by decide +kernel
theorem d_W_law_136 : decode code 136 = .ok (.iaload, 1) := by decide +kernel
theorem d_W_law_137 : decode code 137 = .ok (.invokevirtual 25, 3) := by decide +kernel
theorem d_W_law_140 : decode code 140 = .ok (.if_icmp .eq 394, 3) := by decide +kernel
theorem d_W_law_143 : decode code 143 = .ok (.iconst 0, 1) := by decide +kernel
theorem d_W_law_144 : decode code 144 = .ok (.ireturn, 1) := by decide +kernel
theorem d_W_law_145 : decode code 145 = .ok (.aload_n 1, 1) := by decide +kernel
theorem d_W_law_146 : decode code 146 = .ok (.aload_n 0, 1) := by decide +kernel
theorem d_W_law_147 : decode code 147 = .ok (.iload_n 3, 1) := by decide +kernel
theorem d_W_law_148 : decode code 148 = .ok (.iconst 1, 1) := by decide +kernel
theorem d_W_law_149 : decode code 149 = .ok (.iadd, 1) := by decide +kernel
theorem d_W_law_150 : decode code 150 = .ok (.iaload, 1) := by decide +kernel
theorem d_W_law_151 : decode code 151 = .ok (.aload_n 0, 1) := by decide +kernel
theorem d_W_law_152 : decode code 152 = .ok (.iload_n 3, 1) := by decide +kernel
theorem d_W_law_153 : decode code 153 = .ok (.iconst 2, 1) := by decide +kernel
theorem d_W_law_154 : decode code 154 = .ok (.iadd, 1) := by decide +kernel
theorem d_W_law_155 : decode code 155 = .ok (.iaload, 1) := by decide +kernel
theorem d_W_law_156 : decode code 156 = .ok (.invokevirtual 26, 3) := by decide +kernel
theorem d_W_law_159 : decode code 159 = .ok (.aload_n 2, 1) := by decide +kernel
theorem d_W_law_160 : decode code 160 = .ok (.aload_n 0, 1) := by decide +kernel
theorem d_W_law_161 : decode code 161 = .ok (.iload_n 3, 1) := by decide +kernel
theorem d_W_law_162 : decode code 162 = .ok (.iconst 1, 1) := by decide +kernel
theorem d_W_law_163 : decode code 163 = .ok (.iadd, 1) := by decide +kernel
theorem d_W_law_164 : decode code 164 = .ok (.iaload, 1) := by decide +kernel
theorem d_W_law_165 : decode code 165 = .ok (.aload_n 0, 1) := by decide +kernel
theorem d_W_law_166 : decode code 166 = .ok (.iload_n 3, 1) := by decide +kernel
theorem d_W_law_167 : decode code 167 = .ok (.iconst 2, 1) := by decide +kernel
theorem d_W_law_168 : decode code 168 = .ok (.iadd, 1) := by decide +kernel
theorem d_W_law_169 : decode code 169 = .ok (.iaload, 1) := by decide +kernel
theorem d_W_law_170 : decode code 170 = .ok (.invokevirtual 29, 3) := by decide +kernel
theorem d_W_law_173 : decode code 173 = .ok (.if_icmp .eq 361, 3) := by decide +kernel
theorem d_W_law_176 : decode code 176 = .ok (.iconst 0, 1) := by decide +kernel
theorem d_W_law_177 : decode code 177 = .ok (.ireturn, 1) := by decide +kernel
theorem d_W_law_178 : decode code 178 = .ok (.aload_n 1, 1) := by decide +kernel
theorem d_W_law_179 : decode code 179 = .ok (.aload_n 0, 1) := by decide +kernel
theorem d_W_law_180 : decode code 180 = .ok (.iload_n 3, 1) := by decide +kernel
theorem d_W_law_181 : decode code 181 = .ok (.iconst 1, 1) := by decide +kernel
theorem d_W_law_182 : decode code 182 = .ok (.iadd, 1) := by decide +kernel
theorem d_W_law_183 : decode code 183 = .ok (.iaload, 1) := by decide +kernel
theorem d_W_law_184 : decode code 184 = .ok (.aload_n 0, 1) := by decide +kernel
theorem d_W_law_185 : decode code 185 = .ok (.iload_n 3, 1) := by decide +kernel
theorem d_W_law_186 : decode code 186 = .ok (.iconst 2, 1) := by decide +kernel
theorem d_W_law_187 : decode code 187 = .ok (.iadd, 1) := by decide +kernel
theorem d_W_law_188 : decode code 188 = .ok (.iaload, 1) := by decide +kernel
theorem d_W_law_189 : decode code 189 = .ok (.aload_n 0, 1) := by decide +kernel
theorem d_W_law_190 : decode code 190 = .ok (.iload_n 3, 1) := by decide +kernel
theorem d_W_law_191 : decode code 191 = .ok (.iconst 3, 1) := by decide +kernel
theorem d_W_law_192 : decode code 192 = .ok (.iadd, 1) := by decide +kernel
theorem d_W_law_193 : decode code 193 = .ok (.iaload, 1) := by decide +kernel
theorem d_W_law_194 : decode code 194 = .ok (.invokevirtual 30, 3) := by decide +kernel
theorem d_W_law_197 : decode code 197 = .ok (.aload_n 2, 1) := by decide +kernel
theorem d_W_law_198 : decode code 198 = .ok (.aload_n 0, 1) := by decide +kernel
theorem d_W_law_199 : decode code 199 = .ok (.iload_n 3, 1) := by decide +kernel
theorem d_W_law_200 : decode code 200 = .ok (.iconst 1, 1) := by decide +kernel
theorem d_W_law_201 : decode code 201 = .ok (.iadd, 1) := by decide +kernel
theorem d_W_law_202 : decode code 202 = .ok (.iaload, 1) := by decide +kernel
theorem d_W_law_203 : decode code 203 = .ok (.aload_n 0, 1) := by decide +kernel
theorem d_W_law_204 : decode code 204 = .ok (.iload_n 3, 1) := by decide +kernel
theorem d_W_law_205 : decode code 205 = .ok (.iconst 2, 1) := by decide +kernel
theorem d_W_law_206 : decode code 206 = .ok (.iadd, 1) := by decide +kernel
theorem d_W_law_207 : decode code 207 = .ok (.iaload, 1) := by decide +kernel
theorem d_W_law_208 : decode code 208 = .ok (.aload_n 0, 1) := by decide +kernel
theorem d_W_law_209 : decode code 209 = .ok (.iload_n 3, 1) := by decide +kernel
theorem d_W_law_210 : decode code 210 = .ok (.iconst 3, 1) := by decide +kernel
theorem d_W_law_211 : decode code 211 = .ok (.iadd, 1) := by decide +kernel
theorem d_W_law_212 : decode code 212 = .ok (.iaload, 1) := by decide +kernel
theorem d_W_law_213 : decode code 213 = .ok (.invokevirtual 34, 3) := by decide +kernel
theorem d_W_law_216 : decode code 216 = .ok (.if_icmp .eq 318, 3) := by decide +kernel
theorem d_W_law_219 : decode code 219 = .ok (.iconst 0, 1) := by decide +kernel
theorem d_W_law_220 : decode code 220 = .ok (.ireturn, 1) := by decide +kernel
theorem d_W_law_221 : decode code 221 = .ok (.aload_n 1, 1) := by decide +kernel
theorem d_W_law_222 : decode code 222 = .ok (.aload_n 0, 1) := by decide +kernel
theorem d_W_law_223 : decode code 223 = .ok (.iload_n 3, 1) := by decide +kernel
theorem d_W_law_224 : decode code 224 = .ok (.iconst 1, 1) := by decide +kernel
theorem d_W_law_225 : decode code 225 = .ok (.iadd, 1) := by decide +kernel
theorem d_W_law_226 : decode code 226 = .ok (.iaload, 1) := by decide +kernel
theorem d_W_law_227 : decode code 227 = .ok (.aload_n 0, 1) := by decide +kernel
theorem d_W_law_228 : decode code 228 = .ok (.iload_n 3, 1) := by decide +kernel
theorem d_W_law_229 : decode code 229 = .ok (.iconst 2, 1) := by decide +kernel
theorem d_W_law_230 : decode code 230 = .ok (.iadd, 1) := by decide +kernel
theorem d_W_law_231 : decode code 231 = .ok (.iaload, 1) := by decide +kernel
theorem d_W_law_232 : decode code 232 = .ok (.invokevirtual 35, 3) := by decide +kernel
theorem d_W_law_235 : decode code 235 = .ok (.aload_n 2, 1) := by decide +kernel
theorem d_W_law_236 : decode code 236 = .ok (.aload_n 0, 1) := by decide +kernel
theorem d_W_law_237 : decode code 237 = .ok (.iload_n 3, 1) := by decide +kernel
theorem d_W_law_238 : decode code 238 = .ok (.iconst 1, 1) := by decide +kernel
theorem d_W_law_239 : decode code 239 = .ok (.iadd, 1) := by decide +kernel
theorem d_W_law_240 : decode code 240 = .ok (.iaload, 1) := by decide +kernel
theorem d_W_law_241 : decode code 241 = .ok (.aload_n 0, 1) := by decide +kernel
theorem d_W_law_242 : decode code 242 = .ok (.iload_n 3, 1) := by decide +kernel
theorem d_W_law_243 : decode code 243 = .ok (.iconst 2, 1) := by decide +kernel
theorem d_W_law_244 : decode code 244 = .ok (.iadd, 1) := by decide +kernel
theorem d_W_law_245 : decode code 245 = .ok (.iaload, 1) := by decide +kernel
theorem d_W_law_246 : decode code 246 = .ok (.invokevirtual 38, 3) := by decide +kernel
theorem d_W_law_249 : decode code 249 = .ok (.if_icmp .eq 285, 3) := by decide +kernel
theorem d_W_law_252 : decode code 252 = .ok (.iconst 0, 1) := by decide +kernel
theorem d_W_law_253 : decode code 253 = .ok (.ireturn, 1) := by decide +kernel
theorem d_W_law_254 : decode code 254 = .ok (.aload_n 1, 1) := by decide +kernel
theorem d_W_law_255 : decode code 255 = .ok (.aload_n 0, 1) := by decide +kernel
theorem d_W_law_256 : decode code 256 = .ok (.iload_n 3, 1) := by decide +kernel
theorem d_W_law_257 : decode code 257 = .ok (.iconst 1, 1) := by decide +kernel
theorem d_W_law_258 : decode code 258 = .ok (.iadd, 1) := by decide +kernel
theorem d_W_law_259 : decode code 259 = .ok (.iaload, 1) := by decide +kernel
theorem d_W_law_260 : decode code 260 = .ok (.aload_n 0, 1) := by decide +kernel
theorem d_W_law_261 : decode code 261 = .ok (.iload_n 3, 1) := by decide +kernel
theorem d_W_law_262 : decode code 262 = .ok (.iconst 2, 1) := by decide +kernel
theorem d_W_law_263 : decode code 263 = .ok (.iadd, 1) := by decide +kernel
theorem d_W_law_264 : decode code 264 = .ok (.iaload, 1) := by decide +kernel
theorem d_W_law_265 : decode code 265 = .ok (.aload_n 0, 1) := by decide +kernel
theorem d_W_law_266 : decode code 266 = .ok (.iload_n 3, 1) := by decide +kernel
theorem d_W_law_267 : decode code 267 = .ok (.iconst 3, 1) := by decide +kernel
theorem d_W_law_268 : decode code 268 = .ok (.iadd, 1) := by decide +kernel
theorem d_W_law_269 : decode code 269 = .ok (.iaload, 1) := by decide +kernel
theorem d_W_law_270 : decode code 270 = .ok (.invokevirtual 39, 3) := by decide +kernel
theorem d_W_law_273 : decode code 273 = .ok (.aload_n 2, 1) := by decide +kernel
theorem d_W_law_274 : decode code 274 = .ok (.aload_n 0, 1) := by decide +kernel
theorem d_W_law_275 : decode code 275 = .ok (.iload_n 3, 1) := by decide +kernel
theorem d_W_law_276 : decode code 276 = .ok (.iconst 1, 1) := by decide +kernel
theorem d_W_law_277 : decode code 277 = .ok (.iadd, 1) := by decide +kernel
theorem d_W_law_278 : decode code 278 = .ok (.iaload, 1) := by decide +kernel
theorem d_W_law_279 : decode code 279 = .ok (.aload_n 0, 1) := by decide +kernel
theorem d_W_law_280 : decode code 280 = .ok (.iload_n 3, 1) := by decide +kernel
theorem d_W_law_281 : decode code 281 = .ok (.iconst 2, 1) := by decide +kernel
theorem d_W_law_282 : decode code 282 = .ok (.iadd, 1) := by decide +kernel
theorem d_W_law_283 : decode code 283 = .ok (.iaload, 1) := by decide +kernel
theorem d_W_law_284 : decode code 284 = .ok (.aload_n 0, 1) := by decide +kernel
theorem d_W_law_285 : decode code 285 = .ok (.iload_n 3, 1) := by decide +kernel
theorem d_W_law_286 : decode code 286 = .ok (.iconst 3, 1) := by decide +kernel
theorem d_W_law_287 : decode code 287 = .ok (.iadd, 1) := by decide +kernel
theorem d_W_law_288 : decode code 288 = .ok (.iaload, 1) := by decide +kernel
theorem d_W_law_289 : decode code 289 = .ok (.invokevirtual 42, 3) := by decide +kernel
theorem d_W_law_292 : decode code 292 = .ok (.if_icmp .eq 242, 3) := by decide +kernel
theorem d_W_law_295 : decode code 295 = .ok (.iconst 0, 1) := by decide +kernel
theorem d_W_law_296 : decode code 296 = .ok (.ireturn, 1) := by decide +kernel
theorem d_W_law_297 : decode code 297 = .ok (.aload_n 1, 1) := by decide +kernel
theorem d_W_law_298 : decode code 298 = .ok (.invokevirtual 43, 3) := by decide +kernel
theorem d_W_law_301 : decode code 301 = .ok (.aload_n 2, 1) := by decide +kernel
theorem d_W_law_302 : decode code 302 = .ok (.invokevirtual 47, 3) := by decide +kernel
theorem d_W_law_305 : decode code 305 = .ok (.if_icmp .eq 229, 3) := by decide +kernel
theorem d_W_law_308 : decode code 308 = .ok (.iconst 0, 1) := by decide +kernel
theorem d_W_law_309 : decode code 309 = .ok (.ireturn, 1) := by decide +kernel
theorem d_W_law_310 : decode code 310 = .ok (.aload_n 1, 1) := by decide +kernel
theorem d_W_law_311 : decode code 311 = .ok (.aload_n 0, 1) := by decide +kernel
theorem d_W_law_312 : decode code 312 = .ok (.iload_n 3, 1) := by decide +kernel
theorem d_W_law_313 : decode code 313 = .ok (.iconst 1, 1) := by decide +kernel
theorem d_W_law_314 : decode code 314 = .ok (.iadd, 1) := by decide +kernel
theorem d_W_law_315 : decode code 315 = .ok (.iaload, 1) := by decide +kernel
theorem d_W_law_316 : decode code 316 = .ok (.invokevirtual 48, 3) := by decide +kernel
theorem d_W_law_319 : decode code 319 = .ok (.aload_n 2, 1) := by decide +kernel
theorem d_W_law_320 : decode code 320 = .ok (.aload_n 0, 1) := by decide +kernel
theorem d_W_law_321 : decode code 321 = .ok (.iload_n 3, 1) := by decide +kernel
theorem d_W_law_322 : decode code 322 = .ok (.iconst 1, 1) := by decide +kernel
theorem d_W_law_323 : decode code 323 = .ok (.iadd, 1) := by decide +kernel
theorem d_W_law_324 : decode code 324 = .ok (.iaload, 1) := by decide +kernel
theorem d_W_law_325 : decode code 325 = .ok (.invokevirtual 52, 3) := by decide +kernel
theorem d_W_law_328 : decode code 328 = .ok (.if_icmp .eq 206, 3) := by decide +kernel
theorem d_W_law_331 : decode code 331 = .ok (.iconst 0, 1) := by decide +kernel
theorem d_W_law_332 : decode code 332 = .ok (.ireturn, 1) := by decide +kernel
theorem d_W_law_333 : decode code 333 = .ok (.aload_n 1, 1) := by decide +kernel
theorem d_W_law_334 : decode code 334 = .ok (.aload_n 0, 1) := by decide +kernel
theorem d_W_law_335 : decode code 335 = .ok (.iload_n 3, 1) := by decide +kernel
theorem d_W_law_336 : decode code 336 = .ok (.iconst 1, 1) := by decide +kernel
theorem d_W_law_337 : decode code 337 = .ok (.iadd, 1) := by decide +kernel
theorem d_W_law_338 : decode code 338 = .ok (.iaload, 1) := by decide +kernel
theorem d_W_law_339 : decode code 339 = .ok (.invokevirtual 53, 3) := by decide +kernel
theorem d_W_law_342 : decode code 342 = .ok (.aload_n 2, 1) := by decide +kernel
theorem d_W_law_343 : decode code 343 = .ok (.aload_n 0, 1) := by decide +kernel
theorem d_W_law_344 : decode code 344 = .ok (.iload_n 3, 1) := by decide +kernel
theorem d_W_law_345 : decode code 345 = .ok (.iconst 1, 1) := by decide +kernel
theorem d_W_law_346 : decode code 346 = .ok (.iadd, 1) := by decide +kernel
theorem d_W_law_347 : decode code 347 = .ok (.iaload, 1) := by decide +kernel
theorem d_W_law_348 : decode code 348 = .ok (.invokevirtual 56, 3) := by decide +kernel
theorem d_W_law_351 : decode code 351 = .ok (.if_icmp .eq 183, 3) := by decide +kernel
theorem d_W_law_354 : decode code 354 = .ok (.iconst 0, 1) := by decide +kernel
theorem d_W_law_355 : decode code 355 = .ok (.ireturn, 1) := by decide +kernel
theorem d_W_law_356 : decode code 356 = .ok (.aload_n 1, 1) := by decide +kernel
theorem d_W_law_357 : decode code 357 = .ok (.aload_n 0, 1) := by decide +kernel
theorem d_W_law_358 : decode code 358 = .ok (.iload_n 3, 1) := by decide +kernel
theorem d_W_law_359 : decode code 359 = .ok (.iconst 1, 1) := by decide +kernel
theorem d_W_law_360 : decode code 360 = .ok (.iadd, 1) := by decide +kernel
theorem d_W_law_361 : decode code 361 = .ok (.iaload, 1) := by decide +kernel
theorem d_W_law_362 : decode code 362 = .ok (.invokevirtual 57, 3) := by decide +kernel
theorem d_W_law_365 : decode code 365 = .ok (.aload_n 2, 1) := by decide +kernel
theorem d_W_law_366 : decode code 366 = .ok (.aload_n 0, 1) := by decide +kernel
theorem d_W_law_367 : decode code 367 = .ok (.iload_n 3, 1) := by decide +kernel
theorem d_W_law_368 : decode code 368 = .ok (.iconst 1, 1) := by decide +kernel
theorem d_W_law_369 : decode code 369 = .ok (.iadd, 1) := by decide +kernel
theorem d_W_law_370 : decode code 370 = .ok (.iaload, 1) := by decide +kernel
theorem d_W_law_371 : decode code 371 = .ok (.invokevirtual 60, 3) := by decide +kernel
theorem d_W_law_374 : decode code 374 = .ok (.if_icmp .eq 160, 3) := by decide +kernel
theorem d_W_law_377 : decode code 377 = .ok (.iconst 0, 1) := by decide +kernel
theorem d_W_law_378 : decode code 378 = .ok (.ireturn, 1) := by decide +kernel
theorem d_W_law_379 : decode code 379 = .ok (.aload_n 1, 1) := by decide +kernel
theorem d_W_law_380 : decode code 380 = .ok (.aload_n 0, 1) := by decide +kernel
theorem d_W_law_381 : decode code 381 = .ok (.iload_n 3, 1) := by decide +kernel
theorem d_W_law_382 : decode code 382 = .ok (.iconst 1, 1) := by decide +kernel
theorem d_W_law_383 : decode code 383 = .ok (.iadd, 1) := by decide +kernel
theorem d_W_law_384 : decode code 384 = .ok (.iaload, 1) := by decide +kernel
theorem d_W_law_385 : decode code 385 = .ok (.aload_n 0, 1) := by decide +kernel
theorem d_W_law_386 : decode code 386 = .ok (.iload_n 3, 1) := by decide +kernel
theorem d_W_law_387 : decode code 387 = .ok (.iconst 2, 1) := by decide +kernel
theorem d_W_law_388 : decode code 388 = .ok (.iadd, 1) := by decide +kernel
theorem d_W_law_389 : decode code 389 = .ok (.iaload, 1) := by decide +kernel
theorem d_W_law_390 : decode code 390 = .ok (.invokevirtual 61, 3) := by decide +kernel
theorem d_W_law_393 : decode code 393 = .ok (.aload_n 2, 1) := by decide +kernel
theorem d_W_law_394 : decode code 394 = .ok (.aload_n 0, 1) := by decide +kernel
theorem d_W_law_395 : decode code 395 = .ok (.iload_n 3, 1) := by decide +kernel
theorem d_W_law_396 : decode code 396 = .ok (.iconst 1, 1) := by decide +kernel
theorem d_W_law_397 : decode code 397 = .ok (.iadd, 1) := by decide +kernel
theorem d_W_law_398 : decode code 398 = .ok (.iaload, 1) := by decide +kernel
theorem d_W_law_399 : decode code 399 = .ok (.aload_n 0, 1) := by decide +kernel
theorem d_W_law_400 : decode code 400 = .ok (.iload_n 3, 1) := by decide +kernel
theorem d_W_law_401 : decode code 401 = .ok (.iconst 2, 1) := by decide +kernel
theorem d_W_law_402 : decode code 402 = .ok (.iadd, 1) := by decide +kernel
theorem d_W_law_403 : decode code 403 = .ok (.iaload, 1) := by decide +kernel
theorem d_W_law_404 : decode code 404 = .ok (.invokevirtual 64, 3) := by decide +kernel
theorem d_W_law_407 : decode code 407 = .ok (.if_icmp .eq 127, 3) := by decide +kernel
theorem d_W_law_410 : decode code 410 = .ok (.iconst 0, 1) := by decide +kernel
theorem d_W_law_411 : decode code 411 = .ok (.ireturn, 1) := by decide +kernel
theorem d_W_law_412 : decode code 412 = .ok (.aload_n 1, 1) := by decide +kernel
theorem d_W_law_413 : decode code 413 = .ok (.aload_n 0, 1) := by decide +kernel
theorem d_W_law_414 : decode code 414 = .ok (.iload_n 3, 1) := by decide +kernel
theorem d_W_law_415 : decode code 415 = .ok (.iconst 1, 1) := by decide +kernel
theorem d_W_law_416 : decode code 416 = .ok (.iadd, 1) := by decide +kernel
theorem d_W_law_417 : decode code 417 = .ok (.iaload, 1) := by decide +kernel
theorem d_W_law_418 : decode code 418 = .ok (.aload_n 0, 1) := by decide +kernel
theorem d_W_law_419 : decode code 419 = .ok (.iload_n 3, 1) := by decide +kernel
theorem d_W_law_420 : decode code 420 = .ok (.iconst 2, 1) := by decide +kernel
theorem d_W_law_421 : decode code 421 = .ok (.iadd, 1) := by decide +kernel
theorem d_W_law_422 : decode code 422 = .ok (.iaload, 1) := by decide +kernel
theorem d_W_law_423 : decode code 423 = .ok (.invokevirtual 65, 3) := by decide +kernel
theorem d_W_law_426 : decode code 426 = .ok (.aload_n 2, 1) := by decide +kernel
theorem d_W_law_427 : decode code 427 = .ok (.aload_n 0, 1) := by decide +kernel
theorem d_W_law_428 : decode code 428 = .ok (.iload_n 3, 1) := by decide +kernel
theorem d_W_law_429 : decode code 429 = .ok (.iconst 1, 1) := by decide +kernel
theorem d_W_law_430 : decode code 430 = .ok (.iadd, 1) := by decide +kernel
theorem d_W_law_431 : decode code 431 = .ok (.iaload, 1) := by decide +kernel
theorem d_W_law_432 : decode code 432 = .ok (.aload_n 0, 1) := by decide +kernel
theorem d_W_law_433 : decode code 433 = .ok (.iload_n 3, 1) := by decide +kernel
theorem d_W_law_434 : decode code 434 = .ok (.iconst 2, 1) := by decide +kernel
theorem d_W_law_435 : decode code 435 = .ok (.iadd, 1) := by decide +kernel
theorem d_W_law_436 : decode code 436 = .ok (.iaload, 1) := by decide +kernel
theorem d_W_law_437 : decode code 437 = .ok (.invokevirtual 68, 3) := by decide +kernel
theorem d_W_law_440 : decode code 440 = .ok (.if_icmp .eq 94, 3) := by decide +kernel
theorem d_W_law_443 : decode code 443 = .ok (.iconst 0, 1) := by decide +kernel
theorem d_W_law_444 : decode code 444 = .ok (.ireturn, 1) := by decide +kernel
theorem d_W_law_445 : decode code 445 = .ok (.aload_n 1, 1) := by decide +kernel
theorem d_W_law_446 : decode code 446 = .ok (.aload_n 0, 1) := by decide +kernel
theorem d_W_law_447 : decode code 447 = .ok (.iload_n 3, 1) := by decide +kernel
theorem d_W_law_448 : decode code 448 = .ok (.iconst 1, 1) := by decide +kernel
theorem d_W_law_449 : decode code 449 = .ok (.iadd, 1) := by decide +kernel
theorem d_W_law_450 : decode code 450 = .ok (.iaload, 1) := by decide +kernel
theorem d_W_law_451 : decode code 451 = .ok (.aload_n 0, 1) := by decide +kernel
theorem d_W_law_452 : decode code 452 = .ok (.iload_n 3, 1) := by decide +kernel
theorem d_W_law_453 : decode code 453 = .ok (.iconst 2, 1) := by decide +kernel
theorem d_W_law_454 : decode code 454 = .ok (.iadd, 1) := by decide +kernel
theorem d_W_law_455 : decode code 455 = .ok (.iaload, 1) := by decide +kernel
theorem d_W_law_456 : decode code 456 = .ok (.invokevirtual 69, 3) := by decide +kernel
theorem d_W_law_459 : decode code 459 = .ok (.aload_n 2, 1) := by decide +kernel
theorem d_W_law_460 : decode code 460 = .ok (.aload_n 0, 1) := by decide +kernel
theorem d_W_law_461 : decode code 461 = .ok (.iload_n 3, 1) := by decide +kernel
theorem d_W_law_462 : decode code 462 = .ok (.iconst 1, 1) := by decide +kernel
theorem d_W_law_463 : decode code 463 = .ok (.iadd, 1) := by decide +kernel
theorem d_W_law_464 : decode code 464 = .ok (.iaload, 1) := by decide +kernel
theorem d_W_law_465 : decode code 465 = .ok (.aload_n 0, 1) := by decide +kernel
theorem d_W_law_466 : decode code 466 = .ok (.iload_n 3, 1) := by decide +kernel
theorem d_W_law_467 : decode code 467 = .ok (.iconst 2, 1) := by decide +kernel
theorem d_W_law_468 : decode code 468 = .ok (.iadd, 1) := by decide +kernel
theorem d_W_law_469 : decode code 469 = .ok (.iaload, 1) := by decide +kernel
theorem d_W_law_470 : decode code 470 = .ok (.invokevirtual 72, 3) := by decide +kernel
theorem d_W_law_473 : decode code 473 = .ok (.if_icmp .eq 61, 3) := by decide +kernel
theorem d_W_law_476 : decode code 476 = .ok (.iconst 0, 1) := by decide +kernel
theorem d_W_law_477 : decode code 477 = .ok (.ireturn, 1) := by decide +kernel
theorem d_W_law_478 : decode code 478 = .ok (.aload_n 1, 1) := by decide +kernel
theorem d_W_law_479 : decode code 479 = .ok (.aload_n 0, 1) := by decide +kernel
theorem d_W_law_480 : decode code 480 = .ok (.iload_n 3, 1) := by decide +kernel
theorem d_W_law_481 : decode code 481 = .ok (.iconst 1, 1) := by decide +kernel
theorem d_W_law_482 : decode code 482 = .ok (.iadd, 1) := by decide +kernel
theorem d_W_law_483 : decode code 483 = .ok (.iaload, 1) := by decide +kernel
theorem d_W_law_484 : decode code 484 = .ok (.aload_n 0, 1) := by decide +kernel
theorem d_W_law_485 : decode code 485 = .ok (.iload_n 3, 1) := by decide +kernel
theorem d_W_law_486 : decode code 486 = .ok (.iconst 2, 1) := by decide +kernel
theorem d_W_law_487 : decode code 487 = .ok (.iadd, 1) := by decide +kernel
theorem d_W_law_488 : decode code 488 = .ok (.iaload, 1) := by decide +kernel
theorem d_W_law_489 : decode code 489 = .ok (.invokevirtual 73, 3) := by decide +kernel
theorem d_W_law_492 : decode code 492 = .ok (.aload_n 2, 1) := by decide +kernel
theorem d_W_law_493 : decode code 493 = .ok (.aload_n 0, 1) := by decide +kernel
theorem d_W_law_494 : decode code 494 = .ok (.iload_n 3, 1) := by decide +kernel
theorem d_W_law_495 : decode code 495 = .ok (.iconst 1, 1) := by decide +kernel
theorem d_W_law_496 : decode code 496 = .ok (.iadd, 1) := by decide +kernel
theorem d_W_law_497 : decode code 497 = .ok (.iaload, 1) := by decide +kernel
theorem d_W_law_498 : decode code 498 = .ok (.aload_n 0, 1) := by decide +kernel
theorem d_W_law_499 : decode code 499 = .ok (.iload_n 3, 1) := by decide +kernel
theorem d_W_law_500 : decode code 500 = .ok (.iconst 2, 1) := by decide +kernel
theorem d_W_law_501 : decode code 501 = .ok (.iadd, 1) := by decide +kernel
theorem d_W_law_502 : decode code 502 = .ok (.iaload, 1) := by decide +kernel
theorem d_W_law_503 : decode code 503 = .ok (.invokevirtual 76, 3) := by decide +kernel
theorem d_W_law_506 : decode code 506 = .ok (.if_icmp .eq 28, 3) := by decide +kernel
theorem d_W_law_509 : decode code 509 = .ok (.iconst 0, 1) := by decide +kernel
theorem d_W_law_510 : decode code 510 = .ok (.ireturn, 1) := by decide +kernel
theorem d_W_law_511 : decode code 511 = .ok (.aload_n 1, 1) := by decide +kernel
theorem d_W_law_512 : decode code 512 = .ok (.aload_n 0, 1) := by decide +kernel
theorem d_W_law_513 : decode code 513 = .ok (.iload_n 3, 1) := by decide +kernel
theorem d_W_law_514 : decode code 514 = .ok (.iconst 1, 1) := by decide +kernel
theorem d_W_law_515 : decode code 515 = .ok (.iadd, 1) := by decide +kernel
theorem d_W_law_516 : decode code 516 = .ok (.iaload, 1) := by decide +kernel
theorem d_W_law_517 : decode code 517 = .ok (.invokevirtual 77, 3) := by decide +kernel
theorem d_W_law_520 : decode code 520 = .ok (.aload_n 2, 1) := by decide +kernel
theorem d_W_law_521 : decode code 521 = .ok (.aload_n 0, 1) := by decide +kernel
theorem d_W_law_522 : decode code 522 = .ok (.iload_n 3, 1) := by decide +kernel
theorem d_W_law_523 : decode code 523 = .ok (.iconst 1, 1) := by decide +kernel
theorem d_W_law_524 : decode code 524 = .ok (.iadd, 1) := by decide +kernel
theorem d_W_law_525 : decode code 525 = .ok (.iaload, 1) := by decide +kernel
theorem d_W_law_526 : decode code 526 = .ok (.invokevirtual 80, 3) := by decide +kernel
theorem d_W_law_529 : decode code 529 = .ok (.if_icmp .eq 5, 3) := by decide +kernel
theorem d_W_law_532 : decode code 532 = .ok (.iconst 0, 1) := by decide +kernel
theorem d_W_law_533 : decode code 533 = .ok (.ireturn, 1) := by decide +kernel
theorem d_W_law_534 : decode code 534 = .ok (.iinc 3 4, 3) := by decide +kernel
theorem d_W_law_537 : decode code 537 = .ok (.goto (-509), 3) := by decide +kernel
theorem d_W_law_540 : decode code 540 = .ok (.iconst 1, 1) := by decide +kernel
theorem d_W_law_541 : decode code 541 = .ok (.ireturn, 1) := by decide +kernel
end
section
/-! THE ABSTRACT MACHINE. Values are mathematical: an int is an Int, a reference is the place of a cell in a list, a long is an Int; an array's contents are a function of Int. av_Rn says: from this pc, these locals, this stack and these cells the method comes to an end where Φ holds of its answer and its cells. Each rule rn_.. is an instruction. -/
abbrev av_V : Type := Int ⊕ Option Nat ⊕ Int ⊕ Unit
abbrev vI (z : Int) : av_V := .inl z
abbrev vR (k : Nat) : av_V := .inr (.inl (some k))
abbrev vN : av_V := .inr (.inl none)
abbrev vG (z : Int) : av_V := .inr (.inr (.inl z))
abbrev vS : av_V := .inr (.inr (.inr ()))
abbrev av_C : Type := (Nat × Nat × (Int → Int)) ⊕ (Nat × List av_V)
abbrev av_H : Type := List av_C
abbrev av_L : Type := List (Option av_V)
abbrev av_M : Type := MethodName × ByteArray × Nat × Option FieldType
abbrev av_sc : Type := Nat × (Int → Int)
def av_in (z : Int) : Prop := -2147483648 ≤ z ∧ z < 2147483648
def av_tv (b : Nat) (ad : Nat → Nat) : av_V → Value
  | .inl z => .int (Int32.ofInt z)
  | .inr (.inl none) => .null
  | .inr (.inl (some k)) => .ref (ad k)
  | .inr (.inr (.inl z)) => .long (Int64.ofInt z)
  | .inr (.inr (.inr _)) => .ref b
def av_cat : av_V → Nat
  | .inr (.inr (.inl _)) => 2
  | _ => 1
theorem av_cat_tv (b : Nat) (ad : Nat → Nat) (v : av_V) : (av_tv b ad v).category = av_cat v := by
  rcases v with z | (_ | k) | z | u <;> rfl
def av_tc (b : Nat) (ad : Nat → Nat) (ty : Nat → ClassId) : av_C → va_E
  | .inl a => .inl (ty a.1, a.2.1, .inl (fun j => Int32.ofInt (a.2.2 (j : Int))))
  | .inr o => .inr (o.1, o.2.map (av_tv b ad))
def av_tw (b : Nat) (ad : Nat → Nat) (ty : Nat → ClassId) (h : av_H) : va_W := h.mapIdx (fun i c => (ad i, av_tc b ad ty c))
theorem av_tw_at {b : Nat} {ad : Nat → Nat} {ty : Nat → ClassId} {h : av_H} {k : Nat} {c : av_C} (hk : h[k]? = some c) : (av_tw b ad ty h)[k]? = some (ad k, av_tc b ad ty c) := by
  simp [av_tw, List.getElem?_mapIdx, hk]
theorem av_tw_set {b : Nat} {ad : Nat → Nat} {ty : Nat → ClassId} {h : av_H} {k : Nat} {c : av_C} : (av_tw b ad ty h).set k (ad k, av_tc b ad ty c) = av_tw b ad ty (h.set k c) := by
  simp [av_tw, List.mapIdx_set]
/-- the references in it are places below n -/
def av_scv (n : Nat) : av_V → Bool
  | .inr (.inl (some k)) => decide (k < n)
  | _ => true
def av_scc (n : Nat) : av_C → Bool
  | .inl _ => true
  | .inr o => o.2.all (av_scv n)
def av_scl (n : Nat) : Option av_V → Bool
  | some v => av_scv n v
  | none => true
def av_ok (lv : av_L) (st : List av_V) (h : av_H) : Bool := lv.all (av_scl h.length) && st.all (av_scv h.length) && h.all (av_scc h.length)
theorem av_tv_ext {b : Nat} {ad ad' : Nat → Nat} {n : Nat} {v : av_V} (hs : av_scv n v = true) (he : ∀ i, i < n → ad' i = ad i) : av_tv b ad' v = av_tv b ad v := by
  rcases v with z | (_ | k) | z | u
  · rfl
  · rfl
  · show Value.ref (ad' k) = Value.ref (ad k)
    rw [he k (by simpa [av_scv] using hs)]
  · rfl
  · rfl
theorem av_tc_ext {b : Nat} {ad ad' : Nat → Nat} {ty : Nat → ClassId} {n : Nat} {c : av_C} (hs : av_scc n c = true) (he : ∀ i, i < n → ad' i = ad i) : av_tc b ad' ty c = av_tc b ad ty c := by
  rcases c with a | o
  · rfl
  · show Sum.inr (o.1, o.2.map (av_tv b ad')) = Sum.inr (o.1, o.2.map (av_tv b ad))
    rw [List.map_congr_left (fun v hv => av_tv_ext (List.all_eq_true.mp hs v hv) he)]
theorem av_ts_ext {b : Nat} {ad ad' : Nat → Nat} {n : Nat} {st : List av_V} (hs : st.all (av_scv n) = true) (he : ∀ i, i < n → ad' i = ad i) : st.map (av_tv b ad') = st.map (av_tv b ad) :=
  List.map_congr_left (fun v hv => av_tv_ext (List.all_eq_true.mp hs v hv) he)
theorem av_tw_ext {b : Nat} {ad ad' : Nat → Nat} {ty : Nat → ClassId} {n : Nat} {h : av_H} (hl : h.length ≤ n) (hs : h.all (av_scc n) = true) (he : ∀ i, i < n → ad' i = ad i) : av_tw b ad' ty h = av_tw b ad ty h := by
  refine List.ext_getElem? fun i => ?_
  simp only [av_tw, List.getElem?_mapIdx]
  cases hi : h[i]? with
  | none => rfl
  | some c =>
    have h1 : i < h.length := (List.getElem?_eq_some_iff.mp hi).1
    simp only [Option.map_some]
    rw [he i (Nat.lt_of_lt_of_le h1 hl), av_tc_ext (List.all_eq_true.mp hs c (List.mem_of_getElem? hi)) he]
/-- the locals, by their places -/
def av_tl (b : Nat) (ad : Nat → Nat) (lv : av_L) : List (Nat × Value) := lv.zipIdx.filterMap (fun q => q.1.map (fun v => (q.2, av_tv b ad v)))
theorem av_tl_mem {b : Nat} {ad : Nat → Nat} {lv : av_L} {i : Nat} {w : Value} : (i, w) ∈ av_tl b ad lv ↔ ∃ v, lv[i]? = some (some v) ∧ w = av_tv b ad v := by
  simp only [av_tl, List.mem_filterMap]
  constructor
  · rintro ⟨⟨o, j⟩, hm, he⟩
    have hm := List.mem_zipIdx_iff_getElem?.mp hm
    cases o with
    | none => simp at he
    | some v =>
      simp only [Option.map_some, Option.some.injEq, Prod.mk.injEq] at he
      obtain ⟨rfl, rfl⟩ := he
      exact ⟨v, hm, rfl⟩
  · rintro ⟨v, hv, rfl⟩
    exact ⟨(some v, i), List.mem_zipIdx_iff_getElem?.mpr hv, rfl⟩
def av_hs (b : Nat) (ad : Nat → Nat) (ls : Array Slot) (nL : Nat) (lv : av_L) : Prop := lv_has ls nL (av_tl b ad lv)
theorem av_hs_at {b : Nat} {ad : Nat → Nat} {ls : Array Slot} {nL : Nat} {lv : av_L} (h : av_hs b ad ls nL lv) {i : Nat} {v : av_V} (hv : lv[i]? = some (some v)) : ls[i]? = some (.val (av_tv b ad v)) :=
  h.2.2 (i, av_tv b ad v) (av_tl_mem.mpr ⟨v, hv, rfl⟩)
theorem av_hs_sub {b : Nat} {ad : Nat → Nat} {ls : Array Slot} {nL : Nat} {l : List (Nat × Value)} {lv : av_L} (h : lv_has ls nL l) (hs : ∀ i v, lv[i]? = some (some v) → (i, av_tv b ad v) ∈ l) : av_hs b ad ls nL lv := by
  refine ⟨h.1, h.2.1, fun q hq => ?_⟩
  obtain ⟨i, w⟩ := q
  obtain ⟨v, hv, rfl⟩ := av_tl_mem.mp hq
  exact h.2.2 _ (hs i v hv)
theorem av_tl_ext {b : Nat} {ad ad' : Nat → Nat} {n : Nat} {lv : av_L} (hs : lv.all (av_scl n) = true) (he : ∀ i, i < n → ad' i = ad i) : ∀ (i : Nat) (v : av_V), lv[i]? = some (some v) → av_tv b ad' v = av_tv b ad v :=
  fun _ v hv => av_tv_ext (show av_scl n (some v) = true from List.all_eq_true.mp hs (some v) (List.mem_of_getElem? hv)) he
/-- the place before isn't a long's -/
def av_nl (lv : av_L) : Nat → Bool
  | 0 => true
  | i + 1 => match lv[i]? with
    | some (some v) => av_cat v == 1
    | _ => true
theorem av_st1 {b : Nat} {ad : Nat → Nat} {ls : Array Slot} {nL : Nat} {lv : av_L} {i : Nat} {v : av_V} (hnl : av_nl lv i = true)
    (h : lv_has ls nL ((i, av_tv b ad v) :: (av_tl b ad lv).filter (fun q => !(q.1 == i) && !(q.1 + 1 == i && q.2.category == 2)))) : av_hs b ad ls nL (lv.set i (some v)) := by
  refine av_hs_sub h fun j w hw => ?_
  rw [List.getElem?_set] at hw
  by_cases hij : i = j
  · subst hij
    simp only [if_true] at hw
    split at hw
    · cases hw; exact List.mem_cons_self
    · cases hw
  · simp only [hij, if_false] at hw
    refine List.mem_cons_of_mem _ (List.mem_filter.mpr ⟨av_tl_mem.mpr ⟨w, hw, rfl⟩, ?_⟩)
    have h1 : ¬ j = i := fun q => hij q.symm
    simp only [av_cat_tv]
    by_cases h2 : j + 1 = i
    · subst h2
      have h3 : (av_cat w == 1) = true := by simpa [av_nl, hw] using hnl
      have h4 : av_cat w = 1 := by simpa using h3
      simp [h4]
    · simp [h1, h2]
theorem av_st2 {b : Nat} {ad : Nat → Nat} {ls : Array Slot} {nL : Nat} {lv : av_L} {i : Nat} {v : av_V} (hnl : av_nl lv i = true)
    (h : lv_has ls nL ((i, av_tv b ad v) :: (av_tl b ad lv).filter (fun q => !(q.1 == i) && (!(q.1 == i + 1) && !(q.1 + 1 == i && q.2.category == 2))))) : av_hs b ad ls nL ((lv.set i (some v)).set (i + 1) none) := by
  refine av_hs_sub h fun j w hw => ?_
  rw [List.getElem?_set] at hw
  by_cases h0 : i + 1 = j
  · subst h0
    simp only [if_true] at hw
    split at hw <;> cases hw
  simp only [h0, if_false] at hw
  rw [List.getElem?_set] at hw
  by_cases hij : i = j
  · subst hij
    simp only [if_true] at hw
    split at hw
    · cases hw; exact List.mem_cons_self
    · cases hw
  · simp only [hij, if_false] at hw
    refine List.mem_cons_of_mem _ (List.mem_filter.mpr ⟨av_tl_mem.mpr ⟨w, hw, rfl⟩, ?_⟩)
    have h1 : ¬ j = i := fun q => hij q.symm
    have h5 : ¬ j = i + 1 := fun q => h0 q.symm
    simp only [av_cat_tv]
    by_cases h2 : j + 1 = i
    · subst h2
      have h3 : (av_cat w == 1) = true := by simpa [av_nl, hw] using hnl
      have h4 : av_cat w = 1 := by simpa using h3
      simp [h4]; omega
    · simp [h1, h2, h5]
-- ints
theorem av_lt {x y : Int} (hx : av_in x) (hy : av_in y) : Int32.ofInt x < Int32.ofInt y ↔ x < y := by
  rw [Int32.lt_iff_toInt_lt, Int32.toInt_ofInt_of_le (by have := hx.1; omega) (by have := hx.2; omega), Int32.toInt_ofInt_of_le (by have := hy.1; omega) (by have := hy.2; omega)]
theorem av_le {x y : Int} (hx : av_in x) (hy : av_in y) : Int32.ofInt x ≤ Int32.ofInt y ↔ x ≤ y := by
  rw [Int32.le_iff_toInt_le, Int32.toInt_ofInt_of_le (by have := hx.1; omega) (by have := hx.2; omega), Int32.toInt_ofInt_of_le (by have := hy.1; omega) (by have := hy.2; omega)]
theorem av_eq {x y : Int} (hx : av_in x) (hy : av_in y) : Int32.ofInt x = Int32.ofInt y ↔ x = y := by
  rw [← Int32.toInt_inj, Int32.toInt_ofInt_of_le (by have := hx.1; omega) (by have := hx.2; omega), Int32.toInt_ofInt_of_le (by have := hy.1; omega) (by have := hy.2; omega)]
theorem av_in0 : av_in 0 := ⟨by decide, by decide⟩
theorem av_ix {i : Int} {n : Nat} (h0 : 0 ≤ i) (hn : i < (n : Int)) (hi : av_in i) : vp_in (Int32.ofInt i) n := by
  rw [vp_in_iff, Int32.toInt_ofInt_of_le (by have := hi.1; omega) (by have := hi.2; omega)]
  exact ⟨h0, hn⟩
theorem av_cl {i : Int} (h0 : 0 ≤ i) (hi : av_in i) : (((Int32.ofInt i).toNatClampNeg : Nat) : Int) = i := by
  rw [Int32.toNatClampNeg_ofInt_of_le (by have := hi.1; omega) (by have := hi.2; omega)]
  exact Int.toNat_of_nonneg h0
/-- an array with one place changed -/
def uI (f : Int → Int) (i z : Int) : Int → Int := fun j => if j = i then z else f j
theorem av_uI {f : Int → Int} {i z : Int} (h0 : 0 ≤ i) (hi : av_in i) : upd (fun j : Nat => Int32.ofInt (f (j : Int))) (Int32.ofInt i).toNatClampNeg (Int32.ofInt z) = fun j : Nat => Int32.ofInt (uI f i z (j : Int)) := by
  funext j
  have hc := av_cl h0 hi
  by_cases hj : j = (Int32.ofInt i).toNatClampNeg
  · subst hj
    simp [upd, uI, hc]
  · have : ¬ (j : Int) = i := fun q => hj (by omega)
    simp [upd, uI, hj, this]
theorem av_div {x y : Int} (hx : av_in x) (hy : av_in y) : Int32.ofInt (x.tdiv y) = Int32.ofInt x / Int32.ofInt y :=
  Int32.ofInt_tdiv hx.1 (Int.le_of_lt_add_one hx.2) hy.1 (Int.le_of_lt_add_one hy.2)
theorem av_mod {x y : Int} : x - x.tdiv y * y = x.tmod y := by
  rw [Int.tmod_def, Int.mul_comm]
def av_iL (z : Int) : Prop := -9223372036854775808 ≤ z ∧ z < 9223372036854775808
theorem av_lcmp {x y : Int} (hx : av_iL x) (hy : av_iL y) : lg_cmp (Int64.ofInt x) (Int64.ofInt y) = Int32.ofInt (if y < x then 1 else if x = y then 0 else -1) := by
  have ex : (Int64.ofInt x).toInt = x := Int64.toInt_ofInt_of_le (by have := hx.1; omega) (by have := hx.2; omega)
  have ey : (Int64.ofInt y).toInt = y := Int64.toInt_ofInt_of_le (by have := hy.1; omega) (by have := hy.2; omega)
  have h1 : Int64.ofInt y < Int64.ofInt x ↔ y < x := by rw [Int64.lt_iff_toInt_lt, ex, ey]
  have h2 : Int64.ofInt x = Int64.ofInt y ↔ x = y := by rw [← Int64.toInt_inj, ex, ey]
  unfold lg_cmp
  by_cases c1 : y < x
  · rw [if_pos (h1.mpr c1), if_pos c1]; rfl
  · rw [if_neg (fun q => c1 (h1.mp q)), if_neg c1]
    by_cases c2 : x = y
    · rw [if_pos (h2.mpr c2), if_pos c2]; rfl
    · rw [if_neg (fun q => c2 (h2.mp q)), if_neg c2]; rfl
end
section
/-- the words that every method may use -/
def av_T : List Cond := lw_tbl.filter goodWord
def av_ws (M : av_M) : List Cond := Cond.code M.1 M.2.1 M.2.2.1 M.2.2.2 :: av_T
def av_tys (ty : Nat → ClassId) : List (ClassId × FieldType) := [(ty 0, .int), (ty 1, .boolean)]
/-- what stays through a method's run -/
def av_X (sc : av_sc) (M : av_M) (d : Nat) (p : Program) (R : Room) (s : State) (m : MethodId) (args : Array Value) (meth : Method) (c : Code) (D : va_G) (ty : Nat → ClassId) (A : Nat → Prop) (b mc ms : Nat) : Prop :=
  (p.tables.exec = Jvm.exec ∧ c.code = M.2.1 ∧ c.maxLocals = M.2.2.1 ∧ s.vm.findClass M.1.cls = some m.cls ∧ (M.1.name = "<init>" → meth.name = "<init>")) ∧ (∀ w ∈ av_T, w.before args s = true) ∧ (∀ w ∈ av_N, va_Nw w s) ∧ va_K D vwCl (av_tys ty) s ∧ (∀ q, s.heap.size ≤ q → A q) ∧ (d ≤ R.frames ∧ d * 40 ≤ R.locals ∧ mc ≤ R.cells ∧ ms ≤ R.slots) ∧ (va_X b sc.1 (fun j => Int32.ofInt (sc.2 (j : Int))) s s.heap ∧ b < s.heap.size ∧ ¬ A b)
/-- the cells -/
def av_G (al : Bool) (n0 : Nat) (D : va_G) (ty : Nat → ClassId) (A : Nat → Prop) (b : Nat) (ad0 ad : Nat → Nat) (s : State) (H : Heap) (locs : List Loc) (h : av_H) : Prop :=
  (n0 ≤ h.length ∧ (al = false → ad = ad0) ∧ ∀ i, i < n0 → ad i = ad0 i) ∧ va_P D vwCl (av_tw b ad ty h) H ∧ va_D A (av_tw b ad ty h) ∧ va_S A s.heap H locs
/-- the return instruction that fits the answer -/
def av_rt (M : av_M) (pc : Nat) : Option av_V → Prop
  | none => decode M.2.1 pc = .ok (.return_, 1) ∧ M.2.2.2 = none
  | some (.inl z) => decode M.2.1 pc = .ok (.ireturn, 1) ∧ (M.2.2.2 = some .int ∨ (M.2.2.2 = some .boolean ∧ (z = 0 ∨ z = 1)))
  | some (.inr (.inr (.inl _))) => decode M.2.1 pc = .ok (.lreturn, 1) ∧ M.2.2.2 = some .long
  | some _ => False
def av_HR (M : av_M) (al : Bool) (n0 : Nat) (Φ : Option av_V → av_H → Prop) (p : Program) (l : Launch) (e : Env) (R : Room) (s : State) (m : MethodId) (args : Array Value) (below : List Frame) (meth : Method) (c : Code) (D : va_G) (ty : Nat → ClassId) (A : Nat → Prop) (b : Nat) (ad0 : Nat → Nat) (mc ms : Nat) (Q : State → Prop) : Prop :=
  ∀ (ad : Nat → Nat) (H : Heap) (locs : List Loc) (ls : Array Slot) (cells slots pc : Nat) (r : Option av_V) (h : av_H), Φ r h → av_G al n0 D ty A b ad0 ad s H locs h → cells ≤ mc → slots ≤ ms → av_rt M pc r →
    W p l e R s m args below meth c H locs cells slots Q (F0 m pc ls (r.map (av_tv b ad)).toList)
/-- from here the method comes to an end with Φ -/
def av_Rn (sc : av_sc) (M : av_M) (d : Nat) (al : Bool) (n0 bc bs pc : Nat) (lv : av_L) (st : List av_V) (h : av_H) (Φ : Option av_V → av_H → Prop) : Prop :=
  ∀ (p : Program) (l : Launch) (e : Env) (R : Room) (s : State) (m : MethodId) (args : Array Value) (below : List Frame) (meth : Method) (c : Code) (D : va_G) (ty : Nat → ClassId) (A : Nat → Prop) (b : Nat) (ad0 : Nat → Nat) (mc ms : Nat) (Q : State → Prop),
    av_X sc M d p R s m args meth c D ty A b mc ms → av_HR M al n0 Φ p l e R s m args below meth c D ty A b ad0 mc ms Q →
    ∀ (ad : Nat → Nat) (H : Heap) (locs : List Loc) (ls : Array Slot) (cells slots : Nat), av_G al n0 D ty A b ad0 ad s H locs h → av_hs b ad ls M.2.2.1 lv → cells + bc ≤ mc → slots + bs ≤ ms →
      W p l e R s m args below meth c H locs cells slots Q (F0 m pc ls (st.map (av_tv b ad)))
/-- a method's start, and its end -/
def av_Pc (sc : av_sc) (D : va_G) (ty : Nat → ClassId) (b : Nat) (ad : Nat → Nat) (sz : Nat) (as : List av_V) (h : av_H) : Array Value → State → Prop :=
  va_Pc (as.map (av_tv b ad)) (fun U => U.heap.size = sz ∧ va_P D vwCl (av_tw b ad ty h) U.heap ∧ va_K D vwCl (av_tys ty) U ∧ va_D (fun _ => True) (av_tw b ad ty h) ∧ (∀ w ∈ av_N, va_Nw w U) ∧ va_X b sc.1 (fun j => Int32.ofInt (sc.2 (j : Int))) U U.heap ∧ b < sz ∧ ¬ va_A (av_tw b ad ty h) sz b)
def av_Q (al : Bool) (n0 : Nat) (D : va_G) (ty : Nat → ClassId) (b : Nat) (ad : Nat → Nat) (Φ : Option av_V → av_H → Prop) (A : Nat → Prop) : Array Value → State → Outcome → State → Prop := fun _ st oc t =>
  (∃ (r : Option av_V) (h : av_H) (ad' : Nat → Nat), oc = .returned (r.map (av_tv b ad')) ∧ Φ r h ∧ (n0 ≤ h.length ∧ (al = false → ad' = ad) ∧ ∀ i, i < n0 → ad' i = ad i) ∧ va_P D vwCl (av_tw b ad' ty h) t.heap ∧ va_D A (av_tw b ad' ty h)) ∧ va_F A st t
/-- a method's contract -/
def av_Ev (sc : av_sc) (M : av_M) (d : Nat) (al : Bool) (mc ms : Nat) (as : List av_V) (h : av_H) (Φ : Option av_V → av_H → Prop) : Prop :=
  ∀ (l : Launch) (D : va_G) (ty : Nat → ClassId) (b : Nat) (ad : Nat → Nat) (sz : Nat), Met l M.1 (av_ws M) { frames := d, cells := mc, slots := ms, locals := d * 40 }
    (av_Pc sc D ty b ad sz as h) (av_Q al h.length D ty b ad Φ (va_A (av_tw b ad ty h) sz)) mc ms (va_A (av_tw b ad ty h) sz)
theorem av_args : ∀ (vs : List Value) (k : Nat), (∀ v ∈ vs, v.category = 1) → ∀ (i : Nat) (v : Value), vs[i]? = some v → (k + i, v) ∈ lv_args k vs := by
  intro vs
  induction vs with
  | nil => intro k _ i v h; simp at h
  | cons a vs ih =>
    intro k hc i v h
    have ha : ¬ a.category = 2 := by rw [hc a List.mem_cons_self]; decide
    cases i with
    | zero =>
      simp only [List.getElem?_cons_zero, Option.some.injEq] at h
      subst h
      exact List.mem_cons_self
    | succ i =>
      simp only [List.getElem?_cons_succ] at h
      have h1 := ih (k + 1) (fun v hv => hc v (List.mem_cons_of_mem _ hv)) i v h
      simp only [lv_args, if_neg ha]
      rw [show k + (i + 1) = k + 1 + i by omega]
      exact List.mem_cons_of_mem _ h1
theorem av_sl : ∀ (vs : List Value), (∀ v ∈ vs, v.category = 1) → (lg_sl vs).length = vs.length := by
  intro vs
  induction vs with
  | nil => intro _; rfl
  | cons a vs ih =>
    intro hc
    have ha : ¬ a.category = 2 := by rw [hc a List.mem_cons_self]; decide
    have h1 := ih (fun v hv => hc v (List.mem_cons_of_mem _ hv))
    simp only [lg_sl, List.flatMap_cons, if_neg ha, List.length_append, List.length_cons, List.length_nil] at h1 ⊢
    omega
theorem av_ents {as : List av_V} {n : Nat} {lv : av_L} (hlv : as.map some ++ List.replicate n none = lv) {i : Nat} {v : av_V} (h : lv[i]? = some (some v)) : as[i]? = some v := by
  subst hlv
  by_cases hi : i < as.length
  · rw [List.getElem?_append_left (by simpa using hi), List.getElem?_map] at h
    cases hq : as[i]? with
    | none => rw [hq] at h; cases h
    | some w => rw [hq] at h; simpa using h
  · rw [List.getElem?_append_right (by simpa using Nat.le_of_not_lt hi)] at h
    have := List.mem_of_getElem? h
    simp at this
set_option maxHeartbeats 1000000 in
/-- a contract out of a run from the entry -/
theorem av_ev {sc : av_sc} {M : av_M} {d mc ms : Nat} {al : Bool} {as : List av_V} {h : av_H} {Φ : Option av_V → av_H → Prop} (hy : plainName M.1.cls = true) (hc : as.all (fun v => av_cat v == 1) = true) (hn : as.length ≤ M.2.2.1) {lv : av_L} (hlv : as.map some ++ List.replicate (M.2.2.1 - as.length) none = lv)
    (k : av_Rn sc M d al h.length mc ms 0 lv [] h Φ) : av_Ev sc M d al mc ms as h Φ := by
  intro l D ty b ad sz
  have hcat : ∀ v ∈ as.map (av_tv b ad), v.category = 1 := by
    intro v hv
    obtain ⟨w, hw, rfl⟩ := List.mem_map.mp hv
    rw [av_cat_tv]
    simpa using List.all_eq_true.mp hc w hw
  have hlen : (lg_sl (as.map (av_tv b ad))).length ≤ M.2.2.1 := by rw [av_sl _ hcat, List.length_map]; exact hn
  refine Met.ofW (cc := M.2.1) (maxL := M.2.2.1) (ret := M.2.2.2) hy rfl ?_
  intro p e s m args below meth c s₁ B hml hv
  obtain ⟨rfl, hsz, hP, hK, hD0, hN, hX, hbl, hbA⟩ := hv
  subst hsz
  have hx := B.exec
  have hb := B.bytes
  have hr := B.returns
  have hlocks := B.notSynchronized
  have hts := atoms_spec (ws := av_ws M) B.pre
  have hown : s.vm.findClass M.1.cls = some m.cls := findClass_of_methodNamed B.named
  have hD := hD0.self (sz := s.heap.size)
  rw [lg_entry_eq]
  have hl := lv_entry (as.map (av_tv b ad)) (n := M.2.2.1) hlen
  refine k p l e _ s m _ below meth c D ty (va_A (av_tw b ad ty h) s.heap.size) b ad mc ms _ ?_ ?_ ad s.heap [] _ 0 0 ⟨⟨Nat.le_refl _, fun _ => rfl, fun _ _ => rfl⟩, hP, hD, va_S.rf⟩ (av_hs_sub hl fun i v hv => ?_) (by omega) (by omega)
  · exact ⟨⟨hx, hb, hml, hown, fun hi => (name_of_methodNamed B.named B.method).1.trans hi⟩, fun w hw => hts w (List.mem_cons_of_mem _ hw), hN, hK, fun q hq => Or.inr hq, ⟨Nat.le_refl _, Nat.le_refl _, Nat.le_refl _, Nat.le_refl _⟩, hX, hbl, hbA⟩
  · intro ad' H' locs' ls' cells' slots' pc' r h' hΦ hG hc1 hs1 hrt
    obtain ⟨g1, g2, g3, g4⟩ := hG
    refine W.widen (k := mc) (n := ms) hc1 hs1 ?_
    rcases r with _ | (z | (_ | q) | z | u)
    · exact W.vret hx hb (hr.trans hrt.2) (fun t ht hW => ⟨⟨none, h', ad', rfl, hΦ, g1, by rw [ht]; exact g2, g3⟩, g4.F ht⟩) g4.2.2 hrt.1 hlocks
    · obtain ⟨hd, hty | ⟨hty, hz⟩⟩ := hrt
      · exact W.iret (v := Int32.ofInt z) hx hb (hr.trans hty) (fun t ht hW => ⟨⟨some (vI z), h', ad', rfl, hΦ, g1, by rw [ht]; exact g2, g3⟩, g4.F ht⟩) g4.2.2 hd hlocks
      · refine W.zret (v := Int32.ofInt z) (ty := .boolean) hx hb (hr.trans hty) ?_ (fun t ht hW => ⟨⟨some (vI z), h', ad', rfl, hΦ, g1, by rw [ht]; exact g2, g3⟩, g4.F ht⟩) g4.2.2 hd hlocks
        rcases hz with rfl | rfl <;> rfl
    · exact hrt.elim
    · exact hrt.elim
    · exact W.lret (v := Int64.ofInt z) hx hb (hr.trans hrt.2) (fun t ht hW => ⟨⟨some (vG z), h', ad', rfl, hΦ, g1, by rw [ht]; exact g2, g3⟩, g4.F ht⟩) g4.2.2 hrt.1 hlocks
    · exact hrt.elim
  · have h1 := av_ents hlv hv
    have h2 := av_args (as.map (av_tv b ad)) 0 hcat i (av_tv b ad v) (by rw [List.getElem?_map, h1]; rfl)
    simpa using h2
/-- a wider end -/
theorem av_Rn.mono {sc : av_sc} {M : av_M} {d n0 bc bs pc : Nat} {al : Bool} {lv : av_L} {st : List av_V} {h : av_H} {Φ Ψ : Option av_V → av_H → Prop} (hr : av_Rn sc M d al n0 bc bs pc lv st h Φ) (hi : ∀ r h, Φ r h → Ψ r h) : av_Rn sc M d al n0 bc bs pc lv st h Ψ := by
  intro p l e R s m args below meth c D ty A b ad0 mc ms Q X HR
  exact hr p l e R s m args below meth c D ty A b ad0 mc ms Q X (fun ad H locs ls cells slots pc r h hΦ => HR ad H locs ls cells slots pc r h (hi r h hΦ))
end
section
section
variable {sc : av_sc} {M : av_M} {d n0 bc bs pc : Nat} {al : Bool} {lv : av_L} {st : List av_V} {h : av_H} {Φ : Option av_V → av_H → Prop}
theorem rn_iconst (pc' : Nat) {n : Int} (hd : decode M.2.1 pc = .ok (.iconst n, 1)) (hp : pc + 1 = pc')  (k : av_Rn sc M d al n0 bc bs pc' lv (vI n :: st) h Φ) : av_Rn sc M d al n0 bc bs pc lv (st) h Φ := by
  subst hp
  intro p l e R s m args below meth c D ty A b ad0 mc ms Q X HR ad H locs ls cells slots G L hc hs
  have k := k p l e R s m args below meth c D ty A b ad0 mc ms Q X HR ad H locs ls cells slots G L hc hs
  exact lv_iconst X.1.1 X.1.2.1 hd rfl k
theorem rn_bipush (pc' : Nat) {n : Int} (hd : decode M.2.1 pc = .ok (.bipush n, 2)) (hp : pc + 2 = pc') (hv : (Int8.ofInt n).toInt32 = Int32.ofInt n) (k : av_Rn sc M d al n0 bc bs pc' lv (vI n :: st) h Φ) : av_Rn sc M d al n0 bc bs pc lv (st) h Φ := by
  subst hp
  intro p l e R s m args below meth c D ty A b ad0 mc ms Q X HR ad H locs ls cells slots G L hc hs
  have k := k p l e R s m args below meth c D ty A b ad0 mc ms Q X HR ad H locs ls cells slots G L hc hs
  exact lv_bipush X.1.1 X.1.2.1 hd hv k
theorem rn_sipush (pc' : Nat) {n : Int} (hd : decode M.2.1 pc = .ok (.sipush n, 3)) (hp : pc + 3 = pc') (hv : (Int16.ofInt n).toInt32 = Int32.ofInt n) (k : av_Rn sc M d al n0 bc bs pc' lv (vI n :: st) h Φ) : av_Rn sc M d al n0 bc bs pc lv (st) h Φ := by
  subst hp
  intro p l e R s m args below meth c D ty A b ad0 mc ms Q X HR ad H locs ls cells slots G L hc hs
  have k := k p l e R s m args below meth c D ty A b ad0 mc ms Q X HR ad H locs ls cells slots G L hc hs
  exact lv_sipush X.1.1 X.1.2.1 hd hv k
theorem rn_ldc (pc' : Nat) {i : Nat} {v : Int32} (hd : decode M.2.1 pc = .ok (.ldc i, 2)) (hp : pc + 2 = pc') (n : Int) (hw : Cond.constant M.1.cls i v ∈ av_T) (hv : v = Int32.ofInt n) (k : av_Rn sc M d al n0 bc bs pc' lv (vI n :: st) h Φ) : av_Rn sc M d al n0 bc bs pc lv (st) h Φ := by
  subst hp
  intro p l e R s m args below meth c D ty A b ad0 mc ms Q X HR ad H locs ls cells slots G L hc hs
  have k := k p l e R s m args below meth c D ty A b ad0 mc ms Q X HR ad H locs ls cells slots G L hc hs
  exact lv_ldc X.1.1 X.1.2.1 X.1.2.2.2.1 (X.2.1 _ hw) hd (hv ▸ k)
theorem rn_iload_n (pc' : Nat) {i : Fin 4} {z : Int} (hd : decode M.2.1 pc = .ok (.iload_n i, 1)) (hp : pc + 1 = pc') (hv : lv[(i : Nat)]? = some (some (vI z))) (k : av_Rn sc M d al n0 bc bs pc' lv (vI z :: st) h Φ) : av_Rn sc M d al n0 bc bs pc lv (st) h Φ := by
  subst hp
  intro p l e R s m args below meth c D ty A b ad0 mc ms Q X HR ad H locs ls cells slots G L hc hs
  have k := k p l e R s m args below meth c D ty A b ad0 mc ms Q X HR ad H locs ls cells slots G L hc hs
  exact lv_iload_n X.1.1 X.1.2.1 hd rfl (av_hs_at L hv) k
theorem rn_iload (pc' : Nat) {i : Nat} {z : Int} (hd : decode M.2.1 pc = .ok (.iload i, 2)) (hp : pc + 2 = pc') (hv : lv[i]? = some (some (vI z))) (k : av_Rn sc M d al n0 bc bs pc' lv (vI z :: st) h Φ) : av_Rn sc M d al n0 bc bs pc lv (st) h Φ := by
  subst hp
  intro p l e R s m args below meth c D ty A b ad0 mc ms Q X HR ad H locs ls cells slots G L hc hs
  have k := k p l e R s m args below meth c D ty A b ad0 mc ms Q X HR ad H locs ls cells slots G L hc hs
  exact lv_iload X.1.1 X.1.2.1 hd (av_hs_at L hv) k
theorem rn_aload_n (pc' : Nat) {i : Fin 4} {q : Nat} (hd : decode M.2.1 pc = .ok (.aload_n i, 1)) (hp : pc + 1 = pc') (hv : lv[(i : Nat)]? = some (some (vR q))) (k : av_Rn sc M d al n0 bc bs pc' lv (vR q :: st) h Φ) : av_Rn sc M d al n0 bc bs pc lv (st) h Φ := by
  subst hp
  intro p l e R s m args below meth c D ty A b ad0 mc ms Q X HR ad H locs ls cells slots G L hc hs
  have k := k p l e R s m args below meth c D ty A b ad0 mc ms Q X HR ad H locs ls cells slots G L hc hs
  exact lv_aload_n X.1.1 X.1.2.1 hd rfl (av_hs_at L hv) k
theorem rn_aload (pc' : Nat) {i : Nat} {q : Nat} (hd : decode M.2.1 pc = .ok (.aload i, 2)) (hp : pc + 2 = pc') (hv : lv[i]? = some (some (vR q))) (k : av_Rn sc M d al n0 bc bs pc' lv (vR q :: st) h Φ) : av_Rn sc M d al n0 bc bs pc lv (st) h Φ := by
  subst hp
  intro p l e R s m args below meth c D ty A b ad0 mc ms Q X HR ad H locs ls cells slots G L hc hs
  have k := k p l e R s m args below meth c D ty A b ad0 mc ms Q X HR ad H locs ls cells slots G L hc hs
  exact lv_aload X.1.1 X.1.2.1 hd (av_hs_at L hv) k
theorem rn_aload_nS (pc' : Nat) {i : Fin 4} (hd : decode M.2.1 pc = .ok (.aload_n i, 1)) (hp : pc + 1 = pc') (hv : lv[(i : Nat)]? = some (some vS)) (k : av_Rn sc M d al n0 bc bs pc' lv (vS :: st) h Φ) : av_Rn sc M d al n0 bc bs pc lv (st) h Φ := by
  subst hp
  intro p l e R s m args below meth c D ty A b ad0 mc ms Q X HR ad H locs ls cells slots G L hc hs
  have k := k p l e R s m args below meth c D ty A b ad0 mc ms Q X HR ad H locs ls cells slots G L hc hs
  exact lv_aload_n X.1.1 X.1.2.1 hd rfl (av_hs_at L hv) k
theorem rn_lload_n (pc' : Nat) {i : Fin 4} {z : Int} (hd : decode M.2.1 pc = .ok (.lload_n i, 1)) (hp : pc + 1 = pc') (hv : lv[(i : Nat)]? = some (some (vG z))) (k : av_Rn sc M d al n0 bc bs pc' lv (vG z :: st) h Φ) : av_Rn sc M d al n0 bc bs pc lv (st) h Φ := by
  subst hp
  intro p l e R s m args below meth c D ty A b ad0 mc ms Q X HR ad H locs ls cells slots G L hc hs
  have k := k p l e R s m args below meth c D ty A b ad0 mc ms Q X HR ad H locs ls cells slots G L hc hs
  exact lv_lload_n X.1.1 X.1.2.1 hd rfl (av_hs_at L hv) k
theorem rn_lload (pc' : Nat) {i : Nat} {z : Int} (hd : decode M.2.1 pc = .ok (.lload i, 2)) (hp : pc + 2 = pc') (hv : lv[i]? = some (some (vG z))) (k : av_Rn sc M d al n0 bc bs pc' lv (vG z :: st) h Φ) : av_Rn sc M d al n0 bc bs pc lv (st) h Φ := by
  subst hp
  intro p l e R s m args below meth c D ty A b ad0 mc ms Q X HR ad H locs ls cells slots G L hc hs
  have k := k p l e R s m args below meth c D ty A b ad0 mc ms Q X HR ad H locs ls cells slots G L hc hs
  exact lv_lload X.1.1 X.1.2.1 hd (av_hs_at L hv) k
theorem rn_istore_n (pc' : Nat) {i : Fin 4} {z : Int} {lv' : av_L} (hd : decode M.2.1 pc = .ok (.istore_n i, 1)) (hp : pc + 1 = pc') (hn : (i : Nat) < M.2.2.1) (hnl : av_nl lv (i : Nat) = true) (hl : (lv.set (i : Nat) (some (vI z))) = lv') (k : av_Rn sc M d al n0 bc bs pc' lv' (st) h Φ) : av_Rn sc M d al n0 bc bs pc lv (vI z :: st) h Φ := by
  subst hp; subst hl
  intro p l e R s m args below meth c D ty A b ad0 mc ms Q X HR ad H locs ls cells slots G L hc hs
  exact lv_istore_n X.1.1 X.1.2.1 hd rfl L hn rfl (fun ls' L' => k p l e R s m args below meth c D ty A b ad0 mc ms Q X HR ad H locs ls' cells slots G (av_st1 hnl L') hc hs)
theorem rn_istore (pc' : Nat) {i : Nat} {z : Int} {lv' : av_L} (hd : decode M.2.1 pc = .ok (.istore i, 2)) (hp : pc + 2 = pc') (hn : i < M.2.2.1) (hnl : av_nl lv i = true) (hl : (lv.set i (some (vI z))) = lv') (k : av_Rn sc M d al n0 bc bs pc' lv' (st) h Φ) : av_Rn sc M d al n0 bc bs pc lv (vI z :: st) h Φ := by
  subst hp; subst hl
  intro p l e R s m args below meth c D ty A b ad0 mc ms Q X HR ad H locs ls cells slots G L hc hs
  exact lv_istore X.1.1 X.1.2.1 hd  L hn rfl (fun ls' L' => k p l e R s m args below meth c D ty A b ad0 mc ms Q X HR ad H locs ls' cells slots G (av_st1 hnl L') hc hs)
theorem rn_astore_n (pc' : Nat) {i : Fin 4} {q : Nat} {lv' : av_L} (hd : decode M.2.1 pc = .ok (.astore_n i, 1)) (hp : pc + 1 = pc') (hn : (i : Nat) < M.2.2.1) (hnl : av_nl lv (i : Nat) = true) (hl : (lv.set (i : Nat) (some (vR q))) = lv') (k : av_Rn sc M d al n0 bc bs pc' lv' (st) h Φ) : av_Rn sc M d al n0 bc bs pc lv (vR q :: st) h Φ := by
  subst hp; subst hl
  intro p l e R s m args below meth c D ty A b ad0 mc ms Q X HR ad H locs ls cells slots G L hc hs
  exact lv_astore_n X.1.1 X.1.2.1 hd rfl L hn rfl (fun ls' L' => k p l e R s m args below meth c D ty A b ad0 mc ms Q X HR ad H locs ls' cells slots G (av_st1 hnl L') hc hs)
theorem rn_astore (pc' : Nat) {i : Nat} {q : Nat} {lv' : av_L} (hd : decode M.2.1 pc = .ok (.astore i, 2)) (hp : pc + 2 = pc') (hn : i < M.2.2.1) (hnl : av_nl lv i = true) (hl : (lv.set i (some (vR q))) = lv') (k : av_Rn sc M d al n0 bc bs pc' lv' (st) h Φ) : av_Rn sc M d al n0 bc bs pc lv (vR q :: st) h Φ := by
  subst hp; subst hl
  intro p l e R s m args below meth c D ty A b ad0 mc ms Q X HR ad H locs ls cells slots G L hc hs
  exact lv_astore X.1.1 X.1.2.1 hd  L hn rfl (fun ls' L' => k p l e R s m args below meth c D ty A b ad0 mc ms Q X HR ad H locs ls' cells slots G (av_st1 hnl L') hc hs)
theorem rn_lstore_n (pc' : Nat) {i : Fin 4} {z : Int} {lv' : av_L} (hd : decode M.2.1 pc = .ok (.lstore_n i, 1)) (hp : pc + 1 = pc') (hn : (i : Nat) + 1 < M.2.2.1) (hnl : av_nl lv (i : Nat) = true) (hl : ((lv.set (i : Nat) (some (vG z))).set ((i : Nat) + 1) none) = lv') (k : av_Rn sc M d al n0 bc bs pc' lv' (st) h Φ) : av_Rn sc M d al n0 bc bs pc lv (vG z :: st) h Φ := by
  subst hp; subst hl
  intro p l e R s m args below meth c D ty A b ad0 mc ms Q X HR ad H locs ls cells slots G L hc hs
  exact lv_lstore_n X.1.1 X.1.2.1 hd rfl L hn rfl (fun ls' L' => k p l e R s m args below meth c D ty A b ad0 mc ms Q X HR ad H locs ls' cells slots G (av_st2 hnl L') hc hs)
theorem rn_lstore (pc' : Nat) {i : Nat} {z : Int} {lv' : av_L} (hd : decode M.2.1 pc = .ok (.lstore i, 2)) (hp : pc + 2 = pc') (hn : i + 1 < M.2.2.1) (hnl : av_nl lv i = true) (hl : ((lv.set i (some (vG z))).set (i + 1) none) = lv') (k : av_Rn sc M d al n0 bc bs pc' lv' (st) h Φ) : av_Rn sc M d al n0 bc bs pc lv (vG z :: st) h Φ := by
  subst hp; subst hl
  intro p l e R s m args below meth c D ty A b ad0 mc ms Q X HR ad H locs ls cells slots G L hc hs
  exact lv_lstore X.1.1 X.1.2.1 hd  L hn rfl (fun ls' L' => k p l e R s m args below meth c D ty A b ad0 mc ms Q X HR ad H locs ls' cells slots G (av_st2 hnl L') hc hs)
theorem rn_iinc (pc' : Nat) {i : Nat} {n z : Int} {lv' : av_L} (hd : decode M.2.1 pc = .ok (.iinc i n, 3)) (hp : pc + 3 = pc') (hv : lv[i]? = some (some (vI z))) (hn : i < M.2.2.1) (hnl : av_nl lv i = true) (hl : lv.set i (some (vI (z + n))) = lv') (k : av_Rn sc M d al n0 bc bs pc' lv' (st) h Φ) : av_Rn sc M d al n0 bc bs pc lv (st) h Φ := by
  subst hp; subst hl
  intro p l e R s m args below meth c D ty A b ad0 mc ms Q X HR ad H locs ls cells slots G L hc hs
  obtain ⟨j, hj⟩ := List.getElem?_of_mem (av_tl_mem.mpr ⟨vI z, hv, rfl⟩ : (i, av_tv b ad (vI z)) ∈ av_tl b ad lv)
  exact lv_iinc (k := j) X.1.1 X.1.2.1 hd L hj (v := Int32.ofInt (z + n)) (Int32.ofInt_add z n).symm hn rfl (fun ls' L' => k p l e R s m args below meth c D ty A b ad0 mc ms Q X HR ad H locs ls' cells slots G (av_st1 (v := vI (z + n)) hnl L') hc hs)
theorem rn_iadd (pc' : Nat) {x y : Int} (hd : decode M.2.1 pc = .ok (.iadd, 1)) (hp : pc + 1 = pc')  (k : av_Rn sc M d al n0 bc bs pc' lv (vI (x + y) :: st) h Φ) : av_Rn sc M d al n0 bc bs pc lv (vI y :: vI x :: st) h Φ := by
  subst hp
  intro p l e R s m args below meth c D ty A b ad0 mc ms Q X HR ad H locs ls cells slots G L hc hs
  have k := k p l e R s m args below meth c D ty A b ad0 mc ms Q X HR ad H locs ls cells slots G L hc hs
  exact lv_iadd X.1.1 X.1.2.1 hd (by rw [← Int32.ofInt_add]; exact k)
theorem rn_isub (pc' : Nat) {x y : Int} (hd : decode M.2.1 pc = .ok (.isub, 1)) (hp : pc + 1 = pc')  (k : av_Rn sc M d al n0 bc bs pc' lv (vI (x - y) :: st) h Φ) : av_Rn sc M d al n0 bc bs pc lv (vI y :: vI x :: st) h Φ := by
  subst hp
  intro p l e R s m args below meth c D ty A b ad0 mc ms Q X HR ad H locs ls cells slots G L hc hs
  have k := k p l e R s m args below meth c D ty A b ad0 mc ms Q X HR ad H locs ls cells slots G L hc hs
  exact lv_isub X.1.1 X.1.2.1 hd (by rw [← Int32.ofInt_sub]; exact k)
theorem rn_imul (pc' : Nat) {x y : Int} (hd : decode M.2.1 pc = .ok (.imul, 1)) (hp : pc + 1 = pc')  (k : av_Rn sc M d al n0 bc bs pc' lv (vI (x * y) :: st) h Φ) : av_Rn sc M d al n0 bc bs pc lv (vI y :: vI x :: st) h Φ := by
  subst hp
  intro p l e R s m args below meth c D ty A b ad0 mc ms Q X HR ad H locs ls cells slots G L hc hs
  have k := k p l e R s m args below meth c D ty A b ad0 mc ms Q X HR ad H locs ls cells slots G L hc hs
  exact lv_imul X.1.1 X.1.2.1 hd (by rw [← Int32.ofInt_mul]; exact k)
theorem rn_ineg (pc' : Nat) {x : Int} (hd : decode M.2.1 pc = .ok (.ineg, 1)) (hp : pc + 1 = pc')  (k : av_Rn sc M d al n0 bc bs pc' lv (vI (-x) :: st) h Φ) : av_Rn sc M d al n0 bc bs pc lv (vI x :: st) h Φ := by
  subst hp
  intro p l e R s m args below meth c D ty A b ad0 mc ms Q X HR ad H locs ls cells slots G L hc hs
  have k := k p l e R s m args below meth c D ty A b ad0 mc ms Q X HR ad H locs ls cells slots G L hc hs
  exact lv_ineg X.1.1 X.1.2.1 hd (by rw [← Int32.ofInt_neg]; exact k)
theorem rn_idiv (pc' : Nat) {x y : Int} (hd : decode M.2.1 pc = .ok (.idiv, 1)) (hp : pc + 1 = pc') (hx : av_in x) (hy : av_in y) (hy0 : y ≠ 0) (k : av_Rn sc M d al n0 bc bs pc' lv (vI (x.tdiv y) :: st) h Φ) : av_Rn sc M d al n0 bc bs pc lv (vI y :: vI x :: st) h Φ := by
  subst hp
  intro p l e R s m args below meth c D ty A b ad0 mc ms Q X HR ad H locs ls cells slots G L hc hs
  have k := k p l e R s m args below meth c D ty A b ad0 mc ms Q X HR ad H locs ls cells slots G L hc hs
  exact lv_idiv X.1.1 X.1.2.1 hd (fun q => hy0 ((av_eq hy av_in0).mp q)) (by rw [← av_div hx hy]; exact k)
theorem rn_irem (pc' : Nat) {x y : Int} (hd : decode M.2.1 pc = .ok (.irem, 1)) (hp : pc + 1 = pc') (hx : av_in x) (hy : av_in y) (hy0 : y ≠ 0) (k : av_Rn sc M d al n0 bc bs pc' lv (vI (x.tmod y) :: st) h Φ) : av_Rn sc M d al n0 bc bs pc lv (vI y :: vI x :: st) h Φ := by
  subst hp
  intro p l e R s m args below meth c D ty A b ad0 mc ms Q X HR ad H locs ls cells slots G L hc hs
  have k := k p l e R s m args below meth c D ty A b ad0 mc ms Q X HR ad H locs ls cells slots G L hc hs
  exact lv_irem X.1.1 X.1.2.1 hd (fun q => hy0 ((av_eq hy av_in0).mp q)) (by rw [← av_div hx hy, ← Int32.ofInt_mul, ← Int32.ofInt_sub, av_mod]; exact k)
theorem rn_iand (pc' : Nat) {x y : Int} (hd : decode M.2.1 pc = .ok (.iand, 1)) (hp : pc + 1 = pc') (z : Int) (hz : Int32.ofInt x &&& Int32.ofInt y = Int32.ofInt z) (k : av_Rn sc M d al n0 bc bs pc' lv (vI z :: st) h Φ) : av_Rn sc M d al n0 bc bs pc lv (vI y :: vI x :: st) h Φ := by
  subst hp
  intro p l e R s m args below meth c D ty A b ad0 mc ms Q X HR ad H locs ls cells slots G L hc hs
  have k := k p l e R s m args below meth c D ty A b ad0 mc ms Q X HR ad H locs ls cells slots G L hc hs
  exact lv_iand X.1.1 X.1.2.1 hd (by rw [hz]; exact k)
theorem rn_ior (pc' : Nat) {x y : Int} (hd : decode M.2.1 pc = .ok (.ior, 1)) (hp : pc + 1 = pc') (z : Int) (hz : Int32.ofInt x ||| Int32.ofInt y = Int32.ofInt z) (k : av_Rn sc M d al n0 bc bs pc' lv (vI z :: st) h Φ) : av_Rn sc M d al n0 bc bs pc lv (vI y :: vI x :: st) h Φ := by
  subst hp
  intro p l e R s m args below meth c D ty A b ad0 mc ms Q X HR ad H locs ls cells slots G L hc hs
  have k := k p l e R s m args below meth c D ty A b ad0 mc ms Q X HR ad H locs ls cells slots G L hc hs
  exact lv_ior X.1.1 X.1.2.1 hd (by rw [hz]; exact k)
theorem rn_iushr (pc' : Nat) {x y : Int} (hd : decode M.2.1 pc = .ok (.iushr, 1)) (hp : pc + 1 = pc') (z : Int) (hz : ((Int32.ofInt x).toUInt32 >>> ((Int32.ofInt y).toUInt32 &&& Int32.toUInt32 31)).toInt32 = Int32.ofInt z) (k : av_Rn sc M d al n0 bc bs pc' lv (vI z :: st) h Φ) : av_Rn sc M d al n0 bc bs pc lv (vI y :: vI x :: st) h Φ := by
  subst hp
  intro p l e R s m args below meth c D ty A b ad0 mc ms Q X HR ad H locs ls cells slots G L hc hs
  have k := k p l e R s m args below meth c D ty A b ad0 mc ms Q X HR ad H locs ls cells slots G L hc hs
  exact lv_iushr X.1.1 X.1.2.1 hd hz k
theorem rn_i2l (pc' : Nat) {x : Int} (hd : decode M.2.1 pc = .ok (.i2l, 1)) (hp : pc + 1 = pc') (hx : av_in x) (k : av_Rn sc M d al n0 bc bs pc' lv (vG x :: st) h Φ) : av_Rn sc M d al n0 bc bs pc lv (vI x :: st) h Φ := by
  subst hp
  intro p l e R s m args below meth c D ty A b ad0 mc ms Q X HR ad H locs ls cells slots G L hc hs
  have k := k p l e R s m args below meth c D ty A b ad0 mc ms Q X HR ad H locs ls cells slots G L hc hs
  exact lv_i2l X.1.1 X.1.2.1 hd (Int32.toInt64_ofInt hx.1 (Int.le_of_lt_add_one hx.2)) k
theorem rn_lmul (pc' : Nat) {x y : Int} (hd : decode M.2.1 pc = .ok (.lmul, 1)) (hp : pc + 1 = pc')  (k : av_Rn sc M d al n0 bc bs pc' lv (vG (x * y) :: st) h Φ) : av_Rn sc M d al n0 bc bs pc lv (vG y :: vG x :: st) h Φ := by
  subst hp
  intro p l e R s m args below meth c D ty A b ad0 mc ms Q X HR ad H locs ls cells slots G L hc hs
  have k := k p l e R s m args below meth c D ty A b ad0 mc ms Q X HR ad H locs ls cells slots G L hc hs
  exact lv_lmul X.1.1 X.1.2.1 hd (by rw [← Int64.ofInt_mul]; exact k)
theorem rn_ladd (pc' : Nat) {x y : Int} (hd : decode M.2.1 pc = .ok (.ladd, 1)) (hp : pc + 1 = pc')  (k : av_Rn sc M d al n0 bc bs pc' lv (vG (x + y) :: st) h Φ) : av_Rn sc M d al n0 bc bs pc lv (vG y :: vG x :: st) h Φ := by
  subst hp
  intro p l e R s m args below meth c D ty A b ad0 mc ms Q X HR ad H locs ls cells slots G L hc hs
  have k := k p l e R s m args below meth c D ty A b ad0 mc ms Q X HR ad H locs ls cells slots G L hc hs
  exact lv_ladd X.1.1 X.1.2.1 hd (by rw [← Int64.ofInt_add]; exact k)
theorem rn_lconst0 (pc' : Nat)  (hd : decode M.2.1 pc = .ok (.lconst 0, 1)) (hp : pc + 1 = pc')  (k : av_Rn sc M d al n0 bc bs pc' lv (vG 0 :: st) h Φ) : av_Rn sc M d al n0 bc bs pc lv (st) h Φ := by
  subst hp
  intro p l e R s m args below meth c D ty A b ad0 mc ms Q X HR ad H locs ls cells slots G L hc hs
  have k := k p l e R s m args below meth c D ty A b ad0 mc ms Q X HR ad H locs ls cells slots G L hc hs
  exact lv_lconst (v := Int64.ofInt 0) X.1.1 X.1.2.1 hd rfl k
theorem rn_lcmp (pc' : Nat) {x y : Int} (hd : decode M.2.1 pc = .ok (.lcmp, 1)) (hp : pc + 1 = pc') (hx : av_iL x) (hy : av_iL y) (k : av_Rn sc M d al n0 bc bs pc' lv (vI (if y < x then 1 else if x = y then 0 else -1) :: st) h Φ) : av_Rn sc M d al n0 bc bs pc lv (vG y :: vG x :: st) h Φ := by
  subst hp
  intro p l e R s m args below meth c D ty A b ad0 mc ms Q X HR ad H locs ls cells slots G L hc hs
  have k := k p l e R s m args below meth c D ty A b ad0 mc ms Q X HR ad H locs ls cells slots G L hc hs
  exact W.lcmp X.1.1 X.1.2.1 hd (by rw [av_lcmp hx hy]; exact k)
theorem rn_dup (pc' : Nat) {v : av_V} (hd : decode M.2.1 pc = .ok (.dup, 1)) (hp : pc + 1 = pc') (hv : av_cat v = 1) (k : av_Rn sc M d al n0 bc bs pc' lv (v :: v :: st) h Φ) : av_Rn sc M d al n0 bc bs pc lv (v :: st) h Φ := by
  subst hp
  intro p l e R s m args below meth c D ty A b ad0 mc ms Q X HR ad H locs ls cells slots G L hc hs
  have k := k p l e R s m args below meth c D ty A b ad0 mc ms Q X HR ad H locs ls cells slots G L hc hs
  exact lv_dup X.1.1 X.1.2.1 hd ((av_cat_tv _ _ _).trans hv) k
theorem rn_pop (pc' : Nat) {v : av_V} (hd : decode M.2.1 pc = .ok (.pop, 1)) (hp : pc + 1 = pc') (hv : av_cat v = 1) (k : av_Rn sc M d al n0 bc bs pc' lv (st) h Φ) : av_Rn sc M d al n0 bc bs pc lv (v :: st) h Φ := by
  subst hp
  intro p l e R s m args below meth c D ty A b ad0 mc ms Q X HR ad H locs ls cells slots G L hc hs
  have k := k p l e R s m args below meth c D ty A b ad0 mc ms Q X HR ad H locs ls cells slots G L hc hs
  exact lv_pop X.1.1 X.1.2.1 hd ((av_cat_tv _ _ _).trans hv) k
theorem rn_dup_x1 (pc' : Nat) {v v2 : av_V} (hd : decode M.2.1 pc = .ok (.dup_x1, 1)) (hp : pc + 1 = pc') (hv : av_cat v = 1) (hv2 : av_cat v2 = 1) (k : av_Rn sc M d al n0 bc bs pc' lv (v :: v2 :: v :: st) h Φ) : av_Rn sc M d al n0 bc bs pc lv (v :: v2 :: st) h Φ := by
  subst hp
  intro p l e R s m args below meth c D ty A b ad0 mc ms Q X HR ad H locs ls cells slots G L hc hs
  have k := k p l e R s m args below meth c D ty A b ad0 mc ms Q X HR ad H locs ls cells slots G L hc hs
  exact lv_dup_x1 X.1.1 X.1.2.1 hd ((av_cat_tv _ _ _).trans hv) ((av_cat_tv _ _ _).trans hv2) k
theorem rn_dup_x2 (pc' : Nat) {v v2 v3 : av_V} (hd : decode M.2.1 pc = .ok (.dup_x2, 1)) (hp : pc + 1 = pc') (hv : av_cat v = 1) (hv2 : av_cat v2 = 1) (hv3 : av_cat v3 = 1) (k : av_Rn sc M d al n0 bc bs pc' lv (v :: v2 :: v3 :: v :: st) h Φ) : av_Rn sc M d al n0 bc bs pc lv (v :: v2 :: v3 :: st) h Φ := by
  subst hp
  intro p l e R s m args below meth c D ty A b ad0 mc ms Q X HR ad H locs ls cells slots G L hc hs
  have k := k p l e R s m args below meth c D ty A b ad0 mc ms Q X HR ad H locs ls cells slots G L hc hs
  exact lv_dup_x2 X.1.1 X.1.2.1 hd ((av_cat_tv _ _ _).trans hv) ((av_cat_tv _ _ _).trans hv2) ((av_cat_tv _ _ _).trans hv3) k
theorem rn_dup2 (pc' : Nat) {v v2 : av_V} (hd : decode M.2.1 pc = .ok (.dup2, 1)) (hp : pc + 1 = pc') (hv : av_cat v = 1) (hv2 : av_cat v2 = 1) (k : av_Rn sc M d al n0 bc bs pc' lv (v :: v2 :: v :: v2 :: st) h Φ) : av_Rn sc M d al n0 bc bs pc lv (v :: v2 :: st) h Φ := by
  subst hp
  intro p l e R s m args below meth c D ty A b ad0 mc ms Q X HR ad H locs ls cells slots G L hc hs
  have k := k p l e R s m args below meth c D ty A b ad0 mc ms Q X HR ad H locs ls cells slots G L hc hs
  exact lv_dup2_11 X.1.1 X.1.2.1 hd ((av_cat_tv _ _ _).trans hv) ((av_cat_tv _ _ _).trans hv2) k
theorem rn_goto (tgt : Nat) {off : Int} (hd : decode M.2.1 pc = .ok (.goto off, 3)) (ht : (pc : Int) + off = (tgt : Int)) (k : av_Rn sc M d al n0 bc bs tgt lv (st) h Φ) : av_Rn sc M d al n0 bc bs pc lv (st) h Φ := by
  intro p l e R s m args below meth c D ty A b ad0 mc ms Q X HR ad H locs ls cells slots G L hc hs
  exact lv_goto X.1.1 X.1.2.1 hd ht (k p l e R s m args below meth c D ty A b ad0 mc ms Q X HR ad H locs ls cells slots G L hc hs)
theorem rn_icmp_eq (tgt pc' : Nat) {off : Int} {x y : Int} (hd : decode M.2.1 pc = .ok (.if_icmp .eq off, 3)) (ht : (pc : Int) + off = (tgt : Int)) (hp : pc + 3 = pc') (hx : av_in x) (hy : av_in y) (kt : x = y → av_Rn sc M d al n0 bc bs tgt lv (st) h Φ) (kf : ¬ x = y → av_Rn sc M d al n0 bc bs pc' lv (st) h Φ) : av_Rn sc M d al n0 bc bs pc lv (vI y :: vI x :: st) h Φ := by
  subst hp
  intro p l e R s m args below meth c D ty A b ad0 mc ms Q X HR ad H locs ls cells slots G L hc hs
  exact lv_icmp_eq X.1.1 X.1.2.1 hd ht (fun q => kt ((av_eq hx hy).mp q) p l e R s m args below meth c D ty A b ad0 mc ms Q X HR ad H locs ls cells slots G L hc hs) (fun q => kf (fun z => q ((av_eq hx hy).mpr z)) p l e R s m args below meth c D ty A b ad0 mc ms Q X HR ad H locs ls cells slots G L hc hs)
theorem rn_if_eq (tgt pc' : Nat) {off : Int} {x : Int} (hd : decode M.2.1 pc = .ok (.ifCond .eq off, 3)) (ht : (pc : Int) + off = (tgt : Int)) (hp : pc + 3 = pc') (hx : av_in x) (kt : x = 0 → av_Rn sc M d al n0 bc bs tgt lv (st) h Φ) (kf : ¬ x = 0 → av_Rn sc M d al n0 bc bs pc' lv (st) h Φ) : av_Rn sc M d al n0 bc bs pc lv (vI x :: st) h Φ := by
  subst hp
  intro p l e R s m args below meth c D ty A b ad0 mc ms Q X HR ad H locs ls cells slots G L hc hs
  exact lv_if_eq X.1.1 X.1.2.1 hd ht (fun q => kt ((av_eq hx av_in0).mp q) p l e R s m args below meth c D ty A b ad0 mc ms Q X HR ad H locs ls cells slots G L hc hs) (fun q => kf (fun z => q ((av_eq hx av_in0).mpr z)) p l e R s m args below meth c D ty A b ad0 mc ms Q X HR ad H locs ls cells slots G L hc hs)
theorem rn_icmp_ne (tgt pc' : Nat) {off : Int} {x y : Int} (hd : decode M.2.1 pc = .ok (.if_icmp .ne off, 3)) (ht : (pc : Int) + off = (tgt : Int)) (hp : pc + 3 = pc') (hx : av_in x) (hy : av_in y) (kt : ¬ x = y → av_Rn sc M d al n0 bc bs tgt lv (st) h Φ) (kf : x = y → av_Rn sc M d al n0 bc bs pc' lv (st) h Φ) : av_Rn sc M d al n0 bc bs pc lv (vI y :: vI x :: st) h Φ := by
  subst hp
  intro p l e R s m args below meth c D ty A b ad0 mc ms Q X HR ad H locs ls cells slots G L hc hs
  exact lv_icmp_ne X.1.1 X.1.2.1 hd ht (fun q => kt (fun z => q ((av_eq hx hy).mpr z)) p l e R s m args below meth c D ty A b ad0 mc ms Q X HR ad H locs ls cells slots G L hc hs) (fun q => kf ((av_eq hx hy).mp q) p l e R s m args below meth c D ty A b ad0 mc ms Q X HR ad H locs ls cells slots G L hc hs)
theorem rn_if_ne (tgt pc' : Nat) {off : Int} {x : Int} (hd : decode M.2.1 pc = .ok (.ifCond .ne off, 3)) (ht : (pc : Int) + off = (tgt : Int)) (hp : pc + 3 = pc') (hx : av_in x) (kt : ¬ x = 0 → av_Rn sc M d al n0 bc bs tgt lv (st) h Φ) (kf : x = 0 → av_Rn sc M d al n0 bc bs pc' lv (st) h Φ) : av_Rn sc M d al n0 bc bs pc lv (vI x :: st) h Φ := by
  subst hp
  intro p l e R s m args below meth c D ty A b ad0 mc ms Q X HR ad H locs ls cells slots G L hc hs
  exact lv_if_ne X.1.1 X.1.2.1 hd ht (fun q => kt (fun z => q ((av_eq hx av_in0).mpr z)) p l e R s m args below meth c D ty A b ad0 mc ms Q X HR ad H locs ls cells slots G L hc hs) (fun q => kf ((av_eq hx av_in0).mp q) p l e R s m args below meth c D ty A b ad0 mc ms Q X HR ad H locs ls cells slots G L hc hs)
theorem rn_icmp_lt (tgt pc' : Nat) {off : Int} {x y : Int} (hd : decode M.2.1 pc = .ok (.if_icmp .lt off, 3)) (ht : (pc : Int) + off = (tgt : Int)) (hp : pc + 3 = pc') (hx : av_in x) (hy : av_in y) (kt : x < y → av_Rn sc M d al n0 bc bs tgt lv (st) h Φ) (kf : y ≤ x → av_Rn sc M d al n0 bc bs pc' lv (st) h Φ) : av_Rn sc M d al n0 bc bs pc lv (vI y :: vI x :: st) h Φ := by
  subst hp
  intro p l e R s m args below meth c D ty A b ad0 mc ms Q X HR ad H locs ls cells slots G L hc hs
  exact lv_icmp_lt X.1.1 X.1.2.1 hd ht (fun q => kt ((av_lt hx hy).mp q) p l e R s m args below meth c D ty A b ad0 mc ms Q X HR ad H locs ls cells slots G L hc hs) (fun q => kf (Int.not_lt.mp (fun z => q ((av_lt hx hy).mpr z))) p l e R s m args below meth c D ty A b ad0 mc ms Q X HR ad H locs ls cells slots G L hc hs)
theorem rn_if_lt (tgt pc' : Nat) {off : Int} {x : Int} (hd : decode M.2.1 pc = .ok (.ifCond .lt off, 3)) (ht : (pc : Int) + off = (tgt : Int)) (hp : pc + 3 = pc') (hx : av_in x) (kt : x < 0 → av_Rn sc M d al n0 bc bs tgt lv (st) h Φ) (kf : 0 ≤ x → av_Rn sc M d al n0 bc bs pc' lv (st) h Φ) : av_Rn sc M d al n0 bc bs pc lv (vI x :: st) h Φ := by
  subst hp
  intro p l e R s m args below meth c D ty A b ad0 mc ms Q X HR ad H locs ls cells slots G L hc hs
  exact lv_if_lt X.1.1 X.1.2.1 hd ht (fun q => kt ((av_lt hx av_in0).mp q) p l e R s m args below meth c D ty A b ad0 mc ms Q X HR ad H locs ls cells slots G L hc hs) (fun q => kf (Int.not_lt.mp (fun z => q ((av_lt hx av_in0).mpr z))) p l e R s m args below meth c D ty A b ad0 mc ms Q X HR ad H locs ls cells slots G L hc hs)
theorem rn_icmp_ge (tgt pc' : Nat) {off : Int} {x y : Int} (hd : decode M.2.1 pc = .ok (.if_icmp .ge off, 3)) (ht : (pc : Int) + off = (tgt : Int)) (hp : pc + 3 = pc') (hx : av_in x) (hy : av_in y) (kt : y ≤ x → av_Rn sc M d al n0 bc bs tgt lv (st) h Φ) (kf : x < y → av_Rn sc M d al n0 bc bs pc' lv (st) h Φ) : av_Rn sc M d al n0 bc bs pc lv (vI y :: vI x :: st) h Φ := by
  subst hp
  intro p l e R s m args below meth c D ty A b ad0 mc ms Q X HR ad H locs ls cells slots G L hc hs
  exact lv_icmp_ge X.1.1 X.1.2.1 hd ht (fun q => kt ((av_le hy hx).mp q) p l e R s m args below meth c D ty A b ad0 mc ms Q X HR ad H locs ls cells slots G L hc hs) (fun q => kf (Int.not_le.mp (fun z => q ((av_le hy hx).mpr z))) p l e R s m args below meth c D ty A b ad0 mc ms Q X HR ad H locs ls cells slots G L hc hs)
theorem rn_if_ge (tgt pc' : Nat) {off : Int} {x : Int} (hd : decode M.2.1 pc = .ok (.ifCond .ge off, 3)) (ht : (pc : Int) + off = (tgt : Int)) (hp : pc + 3 = pc') (hx : av_in x) (kt : 0 ≤ x → av_Rn sc M d al n0 bc bs tgt lv (st) h Φ) (kf : x < 0 → av_Rn sc M d al n0 bc bs pc' lv (st) h Φ) : av_Rn sc M d al n0 bc bs pc lv (vI x :: st) h Φ := by
  subst hp
  intro p l e R s m args below meth c D ty A b ad0 mc ms Q X HR ad H locs ls cells slots G L hc hs
  exact lv_if_ge X.1.1 X.1.2.1 hd ht (fun q => kt ((av_le av_in0 hx).mp q) p l e R s m args below meth c D ty A b ad0 mc ms Q X HR ad H locs ls cells slots G L hc hs) (fun q => kf (Int.not_le.mp (fun z => q ((av_le av_in0 hx).mpr z))) p l e R s m args below meth c D ty A b ad0 mc ms Q X HR ad H locs ls cells slots G L hc hs)
theorem rn_icmp_gt (tgt pc' : Nat) {off : Int} {x y : Int} (hd : decode M.2.1 pc = .ok (.if_icmp .gt off, 3)) (ht : (pc : Int) + off = (tgt : Int)) (hp : pc + 3 = pc') (hx : av_in x) (hy : av_in y) (kt : y < x → av_Rn sc M d al n0 bc bs tgt lv (st) h Φ) (kf : x ≤ y → av_Rn sc M d al n0 bc bs pc' lv (st) h Φ) : av_Rn sc M d al n0 bc bs pc lv (vI y :: vI x :: st) h Φ := by
  subst hp
  intro p l e R s m args below meth c D ty A b ad0 mc ms Q X HR ad H locs ls cells slots G L hc hs
  exact lv_icmp_gt X.1.1 X.1.2.1 hd ht (fun q => kt ((av_lt hy hx).mp q) p l e R s m args below meth c D ty A b ad0 mc ms Q X HR ad H locs ls cells slots G L hc hs) (fun q => kf (Int.not_lt.mp (fun z => q ((av_lt hy hx).mpr z))) p l e R s m args below meth c D ty A b ad0 mc ms Q X HR ad H locs ls cells slots G L hc hs)
theorem rn_if_gt (tgt pc' : Nat) {off : Int} {x : Int} (hd : decode M.2.1 pc = .ok (.ifCond .gt off, 3)) (ht : (pc : Int) + off = (tgt : Int)) (hp : pc + 3 = pc') (hx : av_in x) (kt : 0 < x → av_Rn sc M d al n0 bc bs tgt lv (st) h Φ) (kf : x ≤ 0 → av_Rn sc M d al n0 bc bs pc' lv (st) h Φ) : av_Rn sc M d al n0 bc bs pc lv (vI x :: st) h Φ := by
  subst hp
  intro p l e R s m args below meth c D ty A b ad0 mc ms Q X HR ad H locs ls cells slots G L hc hs
  exact lv_if_gt X.1.1 X.1.2.1 hd ht (fun q => kt ((av_lt av_in0 hx).mp q) p l e R s m args below meth c D ty A b ad0 mc ms Q X HR ad H locs ls cells slots G L hc hs) (fun q => kf (Int.not_lt.mp (fun z => q ((av_lt av_in0 hx).mpr z))) p l e R s m args below meth c D ty A b ad0 mc ms Q X HR ad H locs ls cells slots G L hc hs)
theorem rn_icmp_le (tgt pc' : Nat) {off : Int} {x y : Int} (hd : decode M.2.1 pc = .ok (.if_icmp .le off, 3)) (ht : (pc : Int) + off = (tgt : Int)) (hp : pc + 3 = pc') (hx : av_in x) (hy : av_in y) (kt : x ≤ y → av_Rn sc M d al n0 bc bs tgt lv (st) h Φ) (kf : y < x → av_Rn sc M d al n0 bc bs pc' lv (st) h Φ) : av_Rn sc M d al n0 bc bs pc lv (vI y :: vI x :: st) h Φ := by
  subst hp
  intro p l e R s m args below meth c D ty A b ad0 mc ms Q X HR ad H locs ls cells slots G L hc hs
  exact lv_icmp_le X.1.1 X.1.2.1 hd ht (fun q => kt ((av_le hx hy).mp q) p l e R s m args below meth c D ty A b ad0 mc ms Q X HR ad H locs ls cells slots G L hc hs) (fun q => kf (Int.not_le.mp (fun z => q ((av_le hx hy).mpr z))) p l e R s m args below meth c D ty A b ad0 mc ms Q X HR ad H locs ls cells slots G L hc hs)
theorem rn_if_le (tgt pc' : Nat) {off : Int} {x : Int} (hd : decode M.2.1 pc = .ok (.ifCond .le off, 3)) (ht : (pc : Int) + off = (tgt : Int)) (hp : pc + 3 = pc') (hx : av_in x) (kt : x ≤ 0 → av_Rn sc M d al n0 bc bs tgt lv (st) h Φ) (kf : 0 < x → av_Rn sc M d al n0 bc bs pc' lv (st) h Φ) : av_Rn sc M d al n0 bc bs pc lv (vI x :: st) h Φ := by
  subst hp
  intro p l e R s m args below meth c D ty A b ad0 mc ms Q X HR ad H locs ls cells slots G L hc hs
  exact lv_if_le X.1.1 X.1.2.1 hd ht (fun q => kt ((av_le hx av_in0).mp q) p l e R s m args below meth c D ty A b ad0 mc ms Q X HR ad H locs ls cells slots G L hc hs) (fun q => kf (Int.not_le.mp (fun z => q ((av_le hx av_in0).mpr z))) p l e R s m args below meth c D ty A b ad0 mc ms Q X HR ad H locs ls cells slots G L hc hs)
theorem rn_ireturn {z : Int} (hd : decode M.2.1 pc = .ok (.ireturn, 1)) (hr : M.2.2.2 = some .int ∨ (M.2.2.2 = some .boolean ∧ (z = 0 ∨ z = 1))) (k : Φ (some (vI z)) h) : av_Rn sc M d al n0 bc bs pc lv ([vI z]) h Φ := by
  intro p l e R s m args below meth c D ty A b ad0 mc ms Q X HR ad H locs ls cells slots G L hc hs
  exact HR ad H locs ls cells slots pc (some (vI z)) h k G (by omega) (by omega) ⟨hd, hr⟩
theorem rn_return (hd : decode M.2.1 pc = .ok (.return_, 1)) (hr : M.2.2.2 = none) (k : Φ none h) : av_Rn sc M d al n0 bc bs pc lv ([]) h Φ := by
  intro p l e R s m args below meth c D ty A b ad0 mc ms Q X HR ad H locs ls cells slots G L hc hs
  exact HR ad H locs ls cells slots pc none h k G (by omega) (by omega) ⟨hd, hr⟩
theorem rn_lreturn {z : Int} (hd : decode M.2.1 pc = .ok (.lreturn, 1)) (hr : M.2.2.2 = some .long) (k : Φ (some (vG z)) h) : av_Rn sc M d al n0 bc bs pc lv ([vG z]) h Φ := by
  intro p l e R s m args below meth c D ty A b ad0 mc ms Q X HR ad H locs ls cells slots G L hc hs
  exact HR ad H locs ls cells slots pc (some (vG z)) h k G (by omega) (by omega) ⟨hd, hr⟩
theorem rn_drop (lv' : av_L) (hs0 : ∀ (i : Nat) (v : av_V), lv'[i]? = some (some v) → lv[i]? = some (some v)) (k : av_Rn sc M d al n0 bc bs pc lv' st h Φ) : av_Rn sc M d al n0 bc bs pc lv st h Φ := by
  intro p l e R s m args below meth c D ty A b ad0 mc ms Q X HR ad H locs ls cells slots G L hc hs
  exact k p l e R s m args below meth c D ty A b ad0 mc ms Q X HR ad H locs ls cells slots G (av_hs_sub L fun i v hv => av_tl_mem.mpr ⟨v, hs0 i v hv, rfl⟩) hc hs
end
end
section
/-- a field that can be read: class cls links it at idx: field f of objects of class ci -/
def av_fd (cls : String) (idx ci f : Nat) : Prop := ∃ (C : String) (T : u_T) (N : Nat), vwCl[ci]? = some (C, T, N) ∧ f < N ∧ (∀ w ∈ u_ws C T N, w ∈ av_T) ∧ Cond.fieldLink cls idx (T f).1 (T f).2.1 (T f).2.2.1 ∈ av_T
/-- a field that can be written: of type ty; final ones in the class's own constructors -/
def av_fp (cls : String) (idx ci f : Nat) (fin : Bool) (ty : FieldType) : Prop := ∃ (C : String) (T : u_T) (N : Nat) (tyf : Nat → FieldType), vwCl[ci]? = some (C, T, N) ∧ f < N ∧ (∀ w ∈ u_ws C T N, w ∈ av_T) ∧ Cond.fieldLink cls idx (T f).1 (T f).2.1 (T f).2.2.1 ∈ av_T ∧ (∀ k, k < N → parseFieldDescriptor (T k).2.2.1 = some (tyf k)) ∧ (∀ a, a < N → ∀ b, b < N → a ≠ b → (T a).2.1 ≠ (T b).2.1) ∧ (T f).2.2.2 = fin ∧ parseFieldDescriptor (T f).2.2.1 = some ty ∧ (T f).1 = cls
def av_fit (ty : FieldType) (v : av_V) : Prop := ∀ (b : Nat) (ad : Nat → Nat), narrow ty (av_tv b ad v) = av_tv b ad v ∧ fits ty (av_tv b ad v) = true
theorem av_fitI {z : Int} : av_fit .int (vI z) := fun _ _ => ⟨rfl, rfl⟩
theorem av_fitZ {z : Int} (hz : z = 0 ∨ z = 1) : av_fit .boolean (vI z) := fun _ _ => by rcases hz with rfl | rfl <;> exact ⟨rfl, rfl⟩
theorem av_fitO {C : String} {k : Nat} : av_fit (.object C) (vR k) := fun _ _ => ⟨rfl, rfl⟩
theorem av_fitA {t : FieldType} {k : Nat} : av_fit (.array t) (vR k) := fun _ _ => ⟨rfl, rfl⟩
section
variable {sc : av_sc} {M : av_M} {d n0 bc bs pc : Nat} {al : Bool} {lv : av_L} {st : List av_V} {h : av_H} {Φ : Option av_V → av_H → Prop}
theorem rn_getfield (pc' : Nat) {idx ci f q : Nat} {fs : List av_V} {v : av_V} (hd : decode M.2.1 pc = .ok (.getfield idx, 3)) (hp : pc + 3 = pc') (hf : av_fd M.1.cls idx ci f) (hk : h[q]? = some (.inr (ci, fs))) (hv : fs[f]? = some v) (k : av_Rn sc M d al n0 bc bs pc' lv (v :: st) h Φ) : av_Rn sc M d al n0 bc bs pc lv (vR q :: st) h Φ := by
  subst hp
  intro p l e R s m args below meth c D ty A b ad0 mc ms Q X HR ad H locs ls cells slots G L hc hs
  obtain ⟨C, T, N, h1, h2, h3, h4⟩ := hf
  exact va_get (ci := ci) (v := av_tv b ad v) X.1.1 X.1.2.1 X.2.1 h3 X.1.2.2.2.1 X.2.2.2.1 G.2.1 q (av_tw_at hk) h1 f h2 (X.2.1 _ h4) (fun _ h => h) (by rw [List.getElem?_map, hv]; rfl) hd (k p l e R s m args below meth c D ty A b ad0 mc ms Q X HR ad H locs ls cells slots G L hc hs)
theorem av_tw_put {b : Nat} {ad : Nat → Nat} {ty : Nat → ClassId} {ci q f : Nat} {fs : List av_V} {v : av_V} : (av_tw b ad ty h).set q (ad q, .inr (ci, (fs.map (av_tv b ad)).set f (av_tv b ad v))) = av_tw b ad ty (h.set q (.inr (ci, fs.set f v))) := by
  rw [← av_tw_set]
  simp only [av_tc, List.map_set]
theorem rn_putfield (pc' : Nat) {idx ci f q : Nat} {fs : List av_V} {v : av_V} {h' : av_H} {ty1 : FieldType} (hd : decode M.2.1 pc = .ok (.putfield idx, 3)) (hp : pc + 3 = pc') (hf : av_fp M.1.cls idx ci f false ty1) (hk : h[q]? = some (.inr (ci, fs))) (hl : f < fs.length) (hfit : av_fit ty1 v) (hh : h.set q (.inr (ci, fs.set f v)) = h') (k : av_Rn sc M d al n0 bc bs pc' lv st h' Φ) : av_Rn sc M d al n0 bc bs pc lv (v :: vR q :: st) h Φ := by
  subst hp; subst hh
  intro p l e R s m args below meth c D ty A b ad0 mc ms Q X HR ad H locs ls cells slots G L hc hs
  obtain ⟨C, T, N, tyf, h1, h2, h3, h4, h5, h6, h7, h8, -⟩ := hf
  refine va_put (ci := ci) (v := av_tv b ad v) (ty := ty1) X.1.1 X.1.2.1 X.2.1 h3 tyf h5 h6 X.1.2.2.2.1 X.2.2.2.1 G.2.1 G.2.2.1 G.2.2.2 q (av_tw_at hk) h1 f h2 (X.2.1 _ h4) (fun _ h => h) h7 h8 (hfit b ad).1 (hfit b ad).2 (by rw [List.length_map]; exact hl) hd (fun H1 locs1 hP hD hS => ?_)
  rw [av_tw_put] at hP hD
  exact k p l e R s m args below meth c D ty A b ad0 mc ms Q X HR ad H1 locs1 ls cells slots ⟨⟨by rw [List.length_set]; exact G.1.1, G.1.2⟩, hP, hD, hS⟩ L hc hs
theorem rn_putfinal (pc' : Nat) {idx ci f q : Nat} {fs : List av_V} {v : av_V} {h' : av_H} {ty1 : FieldType} (hd : decode M.2.1 pc = .ok (.putfield idx, 3)) (hp : pc + 3 = pc') (hf : av_fp M.1.cls idx ci f true ty1) (hi : M.1.name = "<init>") (hk : h[q]? = some (.inr (ci, fs))) (hl : f < fs.length) (hfit : av_fit ty1 v) (hh : h.set q (.inr (ci, fs.set f v)) = h') (k : av_Rn sc M d al n0 bc bs pc' lv st h' Φ) : av_Rn sc M d al n0 bc bs pc lv (v :: vR q :: st) h Φ := by
  subst hp; subst hh
  intro p l e R s m args below meth c D ty A b ad0 mc ms Q X HR ad H locs ls cells slots G L hc hs
  obtain ⟨C, T, N, tyf, h1, h2, h3, h4, h5, h6, h7, h8, h9⟩ := hf
  refine va_putF (ci := ci) (v := av_tv b ad v) (ty := ty1) X.1.1 X.1.2.1 X.2.1 h3 tyf h5 h6 X.1.2.2.2.1 X.2.2.2.1 G.2.1 G.2.2.1 G.2.2.2 q (av_tw_at hk) h1 f h2 (X.2.1 _ h4) (fun _ h => h) h7 (X.1.2.2.2.2 hi) h9 h8 (hfit b ad).1 (hfit b ad).2 (by rw [List.length_map]; exact hl) hd (fun H1 locs1 hP hD hS => ?_)
  rw [av_tw_put] at hP hD
  exact k p l e R s m args below meth c D ty A b ad0 mc ms Q X HR ad H1 locs1 ls cells slots ⟨⟨by rw [List.length_set]; exact G.1.1, G.1.2⟩, hP, hD, hS⟩ L hc hs
theorem av_ii {i : Int} {n : Nat} (h0 : 0 ≤ i) (h1 : i < (n : Int)) (hn : n ≤ 2147483648) : av_in i := ⟨by omega, by omega⟩
theorem rn_iaload (pc' : Nat) {q n : Nat} {f : Int → Int} {i : Int} (hd : decode M.2.1 pc = .ok (.iaload, 1)) (hp : pc + 1 = pc') (hk : h[q]? = some (.inl (0, n, f))) (hn : n ≤ 2147483648) (h0 : 0 ≤ i) (h1 : i < (n : Int)) (k : av_Rn sc M d al n0 bc bs pc' lv (vI (f i) :: st) h Φ) : av_Rn sc M d al n0 bc bs pc lv (vI i :: vR q :: st) h Φ := by
  subst hp
  intro p l e R s m args below meth c D ty A b ad0 mc ms Q X HR ad H locs ls cells slots G L hc hs
  have hi := av_ii h0 h1 hn
  have k := k p l e R s m args below meth c D ty A b ad0 mc ms Q X HR ad H locs ls cells slots G L hc hs
  refine va_iald X.1.1 X.1.2.1 X.2.2.2.1 G.2.1 q 0 (av_tw_at hk) rfl (av_ix h0 h1 hi) hd ?_
  show W p l e R s m args below meth c H locs cells slots Q (F0 m (pc + 1) ls (.int (Int32.ofInt (f (((Int32.ofInt i).toNatClampNeg : Nat) : Int))) :: st.map (av_tv b ad)))
  rw [av_cl h0 hi]
  exact k
theorem rn_baload (pc' : Nat) {q n : Nat} {f : Int → Int} {i : Int} (hd : decode M.2.1 pc = .ok (.baload, 1)) (hp : pc + 1 = pc') (hk : h[q]? = some (.inl (1, n, f))) (hn : n ≤ 2147483648) (h0 : 0 ≤ i) (h1 : i < (n : Int)) (k : av_Rn sc M d al n0 bc bs pc' lv (vI (f i) :: st) h Φ) : av_Rn sc M d al n0 bc bs pc lv (vI i :: vR q :: st) h Φ := by
  subst hp
  intro p l e R s m args below meth c D ty A b ad0 mc ms Q X HR ad H locs ls cells slots G L hc hs
  have hi := av_ii h0 h1 hn
  have k := k p l e R s m args below meth c D ty A b ad0 mc ms Q X HR ad H locs ls cells slots G L hc hs
  refine va_zald X.1.1 X.1.2.1 X.2.2.2.1 G.2.1 q 1 (av_tw_at hk) rfl (av_ix h0 h1 hi) hd ?_
  show W p l e R s m args below meth c H locs cells slots Q (F0 m (pc + 1) ls (.int (Int32.ofInt (f (((Int32.ofInt i).toNatClampNeg : Nat) : Int))) :: st.map (av_tv b ad)))
  rw [av_cl h0 hi]
  exact k
theorem av_tw_ast {b : Nat} {ad : Nat → Nat} {ty : Nat → ClassId} {t n q : Nat} {f : Int → Int} {i z : Int} (h0 : 0 ≤ i) (hi : av_in i) : (av_tw b ad ty h).set q (ad q, .inl (ty t, n, .inl (upd (fun j : Nat => Int32.ofInt (f (j : Int))) (Int32.ofInt i).toNatClampNeg (Int32.ofInt z)))) = av_tw b ad ty (h.set q (.inl (t, n, uI f i z))) := by
  rw [← av_tw_set, av_uI h0 hi]
  rfl
theorem rn_iastore (pc' : Nat) {q n : Nat} {f : Int → Int} {i z : Int} {h' : av_H} (hd : decode M.2.1 pc = .ok (.iastore, 1)) (hp : pc + 1 = pc') (hk : h[q]? = some (.inl (0, n, f))) (hn : n ≤ 2147483648) (h0 : 0 ≤ i) (h1 : i < (n : Int)) (hh : h.set q (.inl (0, n, uI f i z)) = h') (k : av_Rn sc M d al n0 bc bs pc' lv st h' Φ) : av_Rn sc M d al n0 bc bs pc lv (vI z :: vI i :: vR q :: st) h Φ := by
  subst hp; subst hh
  intro p l e R s m args below meth c D ty A b ad0 mc ms Q X HR ad H locs ls cells slots G L hc hs
  have hi := av_ii h0 h1 hn
  refine va_iast X.1.1 X.1.2.1 X.2.2.2.1 G.2.1 G.2.2.1 G.2.2.2 q 0 (av_tw_at hk) rfl (av_ix h0 h1 hi) hd (fun H1 locs1 hP hD hS => ?_)
  have e2 := av_tw_ast (h := h) (b := b) (ad := ad) (ty := ty) (t := 0) (n := n) (q := q) (f := f) (z := z) h0 hi
  rw [e2] at hP hD
  exact k p l e R s m args below meth c D ty A b ad0 mc ms Q X HR ad H1 locs1 ls cells slots ⟨⟨by rw [List.length_set]; exact G.1.1, G.1.2⟩, hP, hD, hS⟩ L hc hs
theorem rn_bastore (pc' : Nat) {q n : Nat} {f : Int → Int} {i z : Int} {h' : av_H} (hd : decode M.2.1 pc = .ok (.bastore, 1)) (hp : pc + 1 = pc') (hk : h[q]? = some (.inl (1, n, f))) (hn : n ≤ 2147483648) (h0 : 0 ≤ i) (h1 : i < (n : Int)) (hz : z = 0 ∨ z = 1) (hh : h.set q (.inl (1, n, uI f i z)) = h') (k : av_Rn sc M d al n0 bc bs pc' lv st h' Φ) : av_Rn sc M d al n0 bc bs pc lv (vI z :: vI i :: vR q :: st) h Φ := by
  subst hp; subst hh
  intro p l e R s m args below meth c D ty A b ad0 mc ms Q X HR ad H locs ls cells slots G L hc hs
  have hi := av_ii h0 h1 hn
  refine va_zast X.1.1 X.1.2.1 X.2.2.2.1 G.2.1 G.2.2.1 G.2.2.2 q 1 (av_tw_at hk) rfl (av_ix h0 h1 hi) hd (fun H1 locs1 hP hD hS => ?_)
  have ez : vp_nar .boolean (Int32.ofInt z) = Int32.ofInt z := by rcases hz with rfl | rfl <;> rfl
  rw [ez] at hP hD
  have e2 := av_tw_ast (h := h) (b := b) (ad := ad) (ty := ty) (t := 1) (n := n) (q := q) (f := f) (z := z) h0 hi
  rw [e2] at hP hD
  exact k p l e R s m args below meth c D ty A b ad0 mc ms Q X HR ad H1 locs1 ls cells slots ⟨⟨by rw [List.length_set]; exact G.1.1, G.1.2⟩, hP, hD, hS⟩ L hc hs
theorem rn_alen (pc' : Nat) {q t n : Nat} {f : Int → Int} (hd : decode M.2.1 pc = .ok (.arraylength, 1)) (hp : pc + 1 = pc') (hk : h[q]? = some (.inl (t, n, f))) (ht : t < 2) (k : av_Rn sc M d al n0 bc bs pc' lv (vI (n : Int) :: st) h Φ) : av_Rn sc M d al n0 bc bs pc lv (vR q :: st) h Φ := by
  subst hp
  intro p l e R s m args below meth c D ty A b ad0 mc ms Q X HR ad H locs ls cells slots G L hc hs
  have k := k p l e R s m args below meth c D ty A b ad0 mc ms Q X HR ad H locs ls cells slots G L hc hs
  rcases (show t = 0 ∨ t = 1 by omega) with rfl | rfl
  · exact va_alen X.1.1 X.1.2.1 X.2.2.2.1 G.2.1 q 0 (av_tw_at hk) rfl (v := Int32.ofInt (n : Int)) Int32.ofInt_eq_ofNat.symm hd k
  · exact va_alen X.1.1 X.1.2.1 X.2.2.2.1 G.2.1 q 1 (av_tw_at hk) rfl (v := Int32.ofInt (n : Int)) Int32.ofInt_eq_ofNat.symm hd k
/-- the script -/
theorem rn_ialoadS (pc' : Nat) {i : Int} (hd : decode M.2.1 pc = .ok (.iaload, 1)) (hp : pc + 1 = pc') (hn : sc.1 ≤ 2147483648) (h0 : 0 ≤ i) (h1 : i < (sc.1 : Int)) (k : av_Rn sc M d al n0 bc bs pc' lv (vI (sc.2 i) :: st) h Φ) : av_Rn sc M d al n0 bc bs pc lv (vI i :: vS :: st) h Φ := by
  subst hp
  intro p l e R s m args below meth c D ty A b ad0 mc ms Q X HR ad H locs ls cells slots G L hc hs
  have hi := av_ii h0 h1 hn
  have k := k p l e R s m args below meth c D ty A b ad0 mc ms Q X HR ad H locs ls cells slots G L hc hs
  refine va_sld X.1.1 X.1.2.1 X.2.2.2.2.2.2.1 X.2.2.2.2.2.2.2.1 X.2.2.2.2.2.2.2.2 G.2.2.2 (av_ix h0 h1 hi) hd ?_
  show W p l e R s m args below meth c H locs cells slots Q (F0 m (pc + 1) ls (.int (Int32.ofInt (sc.2 (((Int32.ofInt i).toNatClampNeg : Nat) : Int))) :: st.map (av_tv b ad)))
  rw [av_cl h0 hi]
  exact k
theorem rn_alenS (pc' : Nat) (hd : decode M.2.1 pc = .ok (.arraylength, 1)) (hp : pc + 1 = pc') (k : av_Rn sc M d al n0 bc bs pc' lv (vI (sc.1 : Int) :: st) h Φ) : av_Rn sc M d al n0 bc bs pc lv (vS :: st) h Φ := by
  subst hp
  intro p l e R s m args below meth c D ty A b ad0 mc ms Q X HR ad H locs ls cells slots G L hc hs
  have k := k p l e R s m args below meth c D ty A b ad0 mc ms Q X HR ad H locs ls cells slots G L hc hs
  refine va_slen X.1.1 X.1.2.1 X.2.2.2.2.2.2.1 X.2.2.2.2.2.2.2.1 X.2.2.2.2.2.2.2.2 G.2.2.2 hd ?_
  rw [← Int32.ofInt_eq_ofNat]
  exact k
/-- an array's contents behind its end don't matter -/
theorem rn_arr {q t n : Nat} {f g : Int → Int} (hk : h[q]? = some (.inl (t, n, f))) (he : ∀ j : Int, 0 ≤ j → j < (n : Int) → f j = g j) (k : av_Rn sc M d al n0 bc bs pc lv st (h.set q (.inl (t, n, g))) Φ) : av_Rn sc M d al n0 bc bs pc lv st h Φ := by
  intro p l e R s m args below meth c D ty A b ad0 mc ms Q X HR ad H locs ls cells slots G L hc hs
  have hq : q < h.length := (List.getElem?_eq_some_iff.mp hk).1
  have e1 : ∀ (j : Nat) (x : Nat × va_E), (av_tw b ad ty (h.set q (.inl (t, n, g))))[j]? = some x → ∃ y, (av_tw b ad ty h)[j]? = some (x.1, y) ∧ ∀ H : Heap, va_at D vwCl (x.1, y) H → va_at D vwCl x H := by
    intro j x hx
    simp only [av_tw, List.getElem?_mapIdx, List.getElem?_set] at hx ⊢
    by_cases hj : q = j
    · subst hj
      simp only [if_true, if_pos hq, Option.map_some, Option.some.injEq] at hx
      subst hx
      refine ⟨_, by rw [hk]; rfl, fun H hH => ?_⟩
      show H[ad q]? = some (vp_cell (ty t) (n, .inl (fun j => Int32.ofInt (g (j : Int)))))
      have hH : H[ad q]? = some (vp_cell (ty t) (n, .inl (fun j => Int32.ofInt (f (j : Int))))) := hH
      rw [hH, vp_cell_i, vp_cell_i]
      simp only [arrV]
      congr 2
      refine Array.ext (by simp) fun i h1 h2 => ?_
      simp only [Array.getElem_ofFn]
      rw [he (i : Int) (by omega) (by have : i < n := by simpa using h1
                                      omega)]
    · simp only [if_neg hj] at hx
      exact ⟨x.2, hx, fun H hH => hH⟩
  refine k p l e R s m args below meth c D ty A b ad0 mc ms Q X HR ad H locs ls cells slots ⟨⟨by rw [List.length_set]; exact G.1.1, G.1.2⟩, fun j x hx => ?_, ⟨fun i j x y hx hy hxy => ?_, fun j x hx => ?_⟩, G.2.2.2⟩ L hc hs
  · obtain ⟨y, hy, hz⟩ := e1 j x hx
    exact hz H (G.2.1 j _ hy)
  · obtain ⟨x', hx', -⟩ := e1 i x hx
    obtain ⟨y', hy', -⟩ := e1 j y hy
    exact G.2.2.1.1 i j _ _ hx' hy' hxy
  · obtain ⟨y, hy, -⟩ := e1 j x hx
    exact G.2.2.1.2 j (x.1, y) hy
end
end
section
/-- what a call of y at idx in class cls needs of the tables -/
def av_cw (cls : String) (idx : Nat) (y : av_M) (n : Nat) : Prop := Cond.code y.1 y.2.1 y.2.2.1 y.2.2.2 ∈ av_T ∧ Cond.methodLink cls idx y.1 ∈ av_T ∧ Cond.initialized y.1.cls ∈ av_T ∧ (y.1.cls ≠ "java/lang/invoke/MethodHandle" ∧ y.1.cls ≠ "java/lang/invoke/VarHandle") ∧ (parseMethodDescriptor y.1.desc).map (fun d => d.parameters.length) = some n ∧ y.2.2.1 ≤ 21
def av_cwV (cls : String) (idx : Nat) (y : av_M) (n ci : Nat) : Prop := av_cw cls idx y n ∧ Cond.instanceMethod y.1 ∈ av_T ∧ Cond.selects y.1.cls y.1 y.1 ∈ av_T ∧ ∃ (T : u_T) (N : Nat), vwCl[ci]? = some (y.1.cls, T, N)
def av_cwS (cls : String) (idx : Nat) (y : av_M) (n : Nat) : Prop := av_cw cls idx y n ∧ Cond.static y.1 ∈ av_T
def av_cwI (cls : String) (idx : Nat) (y : av_M) (n : Nat) : Prop := av_cw cls idx y n ∧ y.1.name = "<init>" ∧ Cond.instanceMethod y.1 ∈ av_T ∧ y.2.2.2 = none
def av_cwN (cls : String) (idx : Nat) (y : av_M) (n : Nat) : Prop := Cond.code y.1 y.2.1 y.2.2.1 y.2.2.2 ∈ av_T ∧ (∃ host, Cond.methodLinkNest cls idx y.1 host ∈ av_N) ∧ Cond.initialized y.1.cls ∈ av_T ∧ (y.1.cls ≠ "java/lang/invoke/MethodHandle" ∧ y.1.cls ≠ "java/lang/invoke/VarHandle") ∧ (parseMethodDescriptor y.1.desc).map (fun d => d.parameters.length) = some n ∧ y.2.2.1 ≤ 21 ∧ y.1.name = "<init>" ∧ Cond.instanceMethod y.1 ∈ av_T ∧ y.2.2.2 = none
theorem av_good {y : av_M} (hc : Cond.code y.1 y.2.1 y.2.2.1 y.2.2.2 ∈ av_T) : GoodIn av_T (av_ws y) := by
  intro w hw
  rcases List.mem_cons.mp hw with rfl | h
  · exact ⟨hc, Or.inl rfl⟩
  · exact ⟨h, good_of_word (List.mem_filter.mp h).2⟩
theorem av_blind {sc : av_sc} {D : va_G} {ty : Nat → ClassId} {b sz : Nat} {ad : Nat → Nat} {as : List av_V} {h : av_H} : FrameBlind (av_Pc sc D ty b ad sz as h) := by
  intro a U g mk q
  obtain ⟨q0, q1, qP, qK, qD, qN, qX, qb, qA⟩ := q
  exact ⟨q0, q1, qP, va_K.moved (u := U) (U := U.calling g mk a) (Vm.Alike.refl U.vm) qK, qD, fun w hw => va_Nw.same (u := U) (U := U.calling g mk a) (av_N_on w hw) rfl (qN w hw), va_X.moved (u := U) (U := U.calling g mk a) (Vm.Alike.refl U.vm) qX, qb, qA⟩
theorem av_sub {A : Nat → Prop} {s : State} {H : Heap} {locs : List Loc} {w : va_W} (hA : ∀ q, s.heap.size ≤ q → A q) (hD : va_D A w) (hS : va_S A s.heap H locs) : ∀ q, va_A w H.size q → A q := by
  intro q h
  rcases h with ⟨k, e, h⟩ | h
  · exact hD.2 k (q, e) h
  · exact hA q (Nat.le_trans hS.1 h)
section
variable {sc : av_sc} {M : av_M} {d n0 bc bs pc : Nat} {al : Bool} {lv : av_L} {st : List av_V} {h : av_H} {Φ : Option av_V → av_H → Prop}
/-- the callee's start, in the caller's heap -/
theorem av_pre {p : Program} {R : Room} {s : State} {m : MethodId} {args : Array Value} {meth : Method} {c : Code} {D : va_G} {ty : Nat → ClassId} {A : Nat → Prop} {b mc ms : Nat} {ad0 ad : Nat → Nat} {H : Heap} {locs : List Loc} (X : av_X sc M d p R s m args meth c D ty A b mc ms) (G : av_G al n0 D ty A b ad0 ad s H locs h) (as : List av_V) :
    ∀ U : State, U.heap = H → s.WarmedH U.vm → av_Pc sc D ty b ad H.size as h (as.map (av_tv b ad)).toArray U := by
  intro U hU hW
  obtain ⟨-, -, hN, hK, hA, -, hX, hbl, hbA⟩ := X
  refine ⟨rfl, by rw [hU], by rw [hU]; exact G.2.1, va_K.moved hW.alike hK, G.2.2.1.weaken (fun _ _ _ _ => trivial), fun w hw => av_N_warm w hw s U hW (hN w hw), ?_, Nat.lt_of_lt_of_le hbl G.2.2.2.1, fun q => hbA (av_sub hA G.2.2.1 G.2.2.2 b q)⟩
  rw [hU]
  exact (va_X.moved hW.alike hX).kept (G.2.2.2.2.1 b hbl hbA)
/-- behind a call -/
theorem av_back {p : Program} {l : Launch} {e : Env} {R : Room} {s : State} {m : MethodId} {args : Array Value} {below : List Frame} {meth : Method} {c : Code} {D : va_G} {ty : Nat → ClassId} {A : Nat → Prop} {b mc ms : Nat} {ad0 ad : Nat → Nat} {H : Heap} {locs : List Loc} {Q : State → Prop} {ls : Array Slot} {cells slots c1 s1 : Nat} {al' : Bool} {Ψ : Option av_V → av_H → Prop} {st0 : List Value} {a : Array Value}
    (X : av_X sc M d p R s m args meth c D ty A b mc ms) (HR : av_HR M al n0 Φ p l e R s m args below meth c D ty A b ad0 mc ms Q) (G : av_G al n0 D ty A b ad0 ad s H locs h) (L : av_hs b ad ls M.2.2.1 lv) (hc : cells + (bc + c1) ≤ mc) (hs : slots + (bs + s1) ≤ ms)
    (hr : va_Run p l e R s m args below meth c H locs cells slots c1 s1 (F0 m pc ls st0) (st.map (av_tv b ad)) (av_Q al' h.length D ty b ad Ψ (va_A (av_tw b ad ty h) H.size) a) (va_A (av_tw b ad ty h) H.size))
    (ha : al' = false ∨ (al = true ∧ av_ok lv st h = true))
    (kk : ∀ r h', Ψ r h' → av_Rn sc M d al n0 bc bs (pc + 3) lv (r.toList ++ st) h' Φ) : W p l e R s m args below meth c H locs cells slots Q (F0 m pc ls st0) := by
  intro T hT XX
  obtain ⟨v, st₀, t, T', L', h0, X', hL, e1, e2, ⟨⟨r, h1, ad1, hv, hΨ, ⟨g1, g2, g3⟩, hP1, hD1⟩, hz, hk⟩, stp⟩ := hr T hT XX
  have hv : v = r.map (av_tv b ad1) := by simpa using hv
  subst hv
  rw [h0] at hz hk
  have hsub := av_sub X.2.2.2.2.1 G.2.2.1 G.2.2.2
  have hS : va_S A s.heap T'.heap (locs ++ L') := ⟨Nat.le_trans G.2.2.2.1 (by rw [e1]; exact hz), fun q h1 h2 => by
      rw [e1, hk q (Nat.lt_of_lt_of_le h1 G.2.2.2.1) (fun z => h2 (hsub q z))]; exact G.2.2.2.2.1 q h1 h2, fun q hq => by
      rcases List.mem_append.mp hq with h | h
      · exact G.2.2.2.2.2 q h
      · exact hsub _ (hL q h)⟩
  have hst : st.map (av_tv b ad1) = st.map (av_tv b ad) ∧ av_hs b ad1 ls M.2.2.1 lv ∧ (al = false → ad1 = ad0) := by
    rcases ha with ha | ⟨ha, hok⟩
    · have := g2 ha
      subst this
      exact ⟨rfl, L, G.1.2.1⟩
    · simp only [av_ok, Bool.and_eq_true] at hok
      refine ⟨av_ts_ext hok.1.2 g3, av_hs_sub L fun i v hv => ?_, fun q => by rw [ha] at q; cases q⟩
      rw [av_tl_ext hok.1.1 g3 i v hv]
      exact av_tl_mem.mpr ⟨v, hv, rfl⟩
  have K := kk r h1 hΨ p l e R s m args below meth c D ty A b ad0 mc ms Q X HR ad1 T'.heap (locs ++ L') ls (cells + c1) (slots + s1)
    ⟨⟨Nat.le_trans G.1.1 g1, hst.2.2, fun i hi => (g3 i (Nat.lt_of_lt_of_le hi G.1.1)).trans (G.1.2.2 i hi)⟩, by rw [e1]; exact hP1, hD1.weaken (fun k q _ h => hsub q.1 h), hS⟩ hst.2.1 (by omega) (by omega)
  have e3 : (r.toList ++ st).map (av_tv b ad1) = (r.map (av_tv b ad1)).toList ++ st.map (av_tv b ad) := by
    rw [List.map_append, hst.1]
    cases r <;> rfl
  rw [e3] at K
  obtain ⟨t2, a1, b1⟩ := K T' rfl X'
  exact ⟨t2, stp t2 a1, b1⟩
theorem av_callB {p : Program} {R : Room} {s : State} {m : MethodId} {args : Array Value} {meth : Method} {c : Code} {D : va_G} {ty : Nat → ClassId} {A : Nat → Prop} {b mc ms idx n c1 s1 : Nat} {y : av_M} (X : av_X sc M (d + 1) p R s m args meth c D ty A b mc ms) (hw : av_cw M.1.cls idx y n) :
    CallB R s args M.1.cls idx y.1 y.2.1 y.2.2.1 y.2.2.2 (av_ws y) { frames := d, cells := c1, slots := s1, locals := d * 40 } c1 s1 n := by
  obtain ⟨h1, h2, h3, h4, h5, h6⟩ := hw
  obtain ⟨-, hts, -, -, -, ⟨r1, r2, -, -⟩, -⟩ := X
  refine ⟨rfl, rfl, r1, ?_, pay_in hts (av_good h1), List.mem_cons_self, hts _ h1, hts _ h3, h4, fun sig h => ?_, hts _ h2⟩
  · show 8 + (y.2.2.1 + 11) + d * 40 ≤ R.locals
    omega
  · rw [h] at h5
    exact (Option.some.inj h5).symm
theorem av_callN {p : Program} {R : Room} {s : State} {m : MethodId} {args : Array Value} {meth : Method} {c : Code} {D : va_G} {ty : Nat → ClassId} {A : Nat → Prop} {b mc ms idx n c1 s1 : Nat} {y : av_M} (X : av_X sc M (d + 1) p R s m args meth c D ty A b mc ms) (hw : av_cwN M.1.cls idx y n) :
    ∃ host, va_CN R s args M.1.cls idx y.1 host y.2.1 y.2.2.1 none (av_ws y) { frames := d, cells := c1, slots := s1, locals := d * 40 } c1 s1 n ∧ y.1.name = "<init>" ∧ (Cond.instanceMethod y.1).before args s = true := by
  obtain ⟨h1, ⟨host, h2⟩, h3, h4, h5, h6, h7, h8, h9⟩ := hw
  obtain ⟨-, hts, hN, -, -, ⟨r1, r2, -, -⟩, -⟩ := X
  rw [← h9]
  refine ⟨host, ⟨⟨rfl, rfl, r1, ?_, pay_in hts (av_good h1), List.mem_cons_self⟩, hts _ h1, hts _ h3, h4, fun sig h => ?_, va_Nw.use (av_N_on _ h2) (hN _ h2)⟩, h7, hts _ h8⟩
  · show 8 + (y.2.2.1 + 11) + d * 40 ≤ R.locals
    omega
  · rw [h] at h5
    exact (Option.some.inj h5).symm
theorem av_mr {b : Nat} {ad : Nat → Nat} (st : List av_V) (h : (st.map av_cat).sum ≤ 8) : ((st.map (av_tv b ad)).map fun v => v.category).sum ≤ 8 := by
  rw [List.map_map, show ((fun v : Value => v.category) ∘ av_tv b ad) = av_cat from funext fun v => av_cat_tv b ad v]
  exact h
set_option maxHeartbeats 1000000 in
theorem rn_callV (pc' : Nat) {idx ci q c1 s1 n : Nat} {y : av_M} {al' : Bool} {as fs : List av_V} {stk : List av_V} {Ψ : Option av_V → av_H → Prop} (hd : decode M.2.1 pc = .ok (.invokevirtual idx, 3)) (hp : pc + 3 = pc') (hw : av_cwV M.1.cls idx y n ci) (hk : h[q]? = some (.inr (ci, fs))) (hn : as.length = n) (hst : stk = as.reverse ++ vR q :: st) (hm : (st.map av_cat).sum ≤ 8) (hE : av_Ev sc y d al' c1 s1 (vR q :: as) h Ψ)
    (ha : al' = false ∨ (al = true ∧ av_ok lv st h = true)) (kk : ∀ r h', Ψ r h' → av_Rn sc M (d + 1) al n0 bc bs pc' lv (r.toList ++ st) h' Φ) : av_Rn sc M (d + 1) al n0 (bc + c1) (bs + s1) pc lv stk h Φ := by
  subst hp; subst hst
  intro p l e R s m args below meth c D ty A b ad0 mc ms Q X HR ad H locs ls cells slots G L hc hs
  obtain ⟨hw0, h1, h2, T, N, h3⟩ := hw
  have hP := av_pre X G (vR q :: as)
  refine av_back X HR G L hc hs (va_runV (nL := M.2.2.1) (b := ad q) (As := as.map (av_tv b ad)) (C := y.1.cls) ⟨X.1.1, X.1.2.1, X.1.2.2.1, X.1.2.2.2.1, X.2.1⟩ (hE l D ty b ad H.size) ⟨av_callB X hw0, X.2.1 _ h1, X.2.1 _ h2⟩ ⟨av_blind, va_recv X.2.2.2.1 G.2.1 h3 (av_tw_at hk), hP⟩ rfl ((List.length_map ..).trans hn) L.1 ?_ (lv_room (av_mr st hm)) hd ⟨?_, ?_⟩) ha kk
  · show ((as.reverse ++ vR q :: st).map (av_tv b ad)) = _
    rw [List.map_append, List.map_reverse]; rfl
  · have := X.2.2.2.2.2.1.2.2.1; omega
  · have := X.2.2.2.2.2.1.2.2.2; omega
set_option maxHeartbeats 1000000 in
theorem rn_callS (pc' : Nat) {idx c1 s1 n : Nat} {y : av_M} {al' : Bool} {as : List av_V} {stk : List av_V} {Ψ : Option av_V → av_H → Prop} (hd : decode M.2.1 pc = .ok (.invokestatic idx, 3)) (hp : pc + 3 = pc') (hw : av_cwS M.1.cls idx y n) (hn : as.length = n) (hst : stk = as.reverse ++ st) (hm : (st.map av_cat).sum ≤ 8) (hE : av_Ev sc y d al' c1 s1 as h Ψ)
    (ha : al' = false ∨ (al = true ∧ av_ok lv st h = true)) (kk : ∀ r h', Ψ r h' → av_Rn sc M (d + 1) al n0 bc bs pc' lv (r.toList ++ st) h' Φ) : av_Rn sc M (d + 1) al n0 (bc + c1) (bs + s1) pc lv stk h Φ := by
  subst hp; subst hst
  intro p l e R s m args below meth c D ty A b ad0 mc ms Q X HR ad H locs ls cells slots G L hc hs
  obtain ⟨hw0, h1⟩ := hw
  have hP := av_pre X G as
  refine av_back X HR G L hc hs (va_runS (nL := M.2.2.1) (As := as.map (av_tv b ad)) ⟨X.1.1, X.1.2.1, X.1.2.2.1, X.1.2.2.2.1, X.2.1⟩ (hE l D ty b ad H.size) ⟨av_callB X hw0, X.2.1 _ h1⟩ ⟨av_blind, hP⟩ rfl ((List.length_map ..).trans hn) L.1 ?_ (lv_room (av_mr st hm)) hd ⟨?_, ?_⟩) ha kk
  · show ((as.reverse ++ st).map (av_tv b ad)) = _
    rw [List.map_append, List.map_reverse]
  · have := X.2.2.2.2.2.1.2.2.1; omega
  · have := X.2.2.2.2.2.1.2.2.2; omega
set_option maxHeartbeats 1000000 in
theorem rn_callI (pc' : Nat) {idx q c1 s1 n : Nat} {y : av_M} {al' : Bool} {as : List av_V} {stk : List av_V} {Ψ : Option av_V → av_H → Prop} (hd : decode M.2.1 pc = .ok (.invokespecial idx, 3)) (hp : pc + 3 = pc') (hw : av_cwI M.1.cls idx y n) (hn : as.length = n) (hst : stk = as.reverse ++ vR q :: st) (hm : (st.map av_cat).sum ≤ 8) (hE : av_Ev sc y d al' c1 s1 (vR q :: as) h Ψ)
    (ha : al' = false ∨ (al = true ∧ av_ok lv st h = true)) (kk : ∀ r h', Ψ r h' → av_Rn sc M (d + 1) al n0 bc bs pc' lv (r.toList ++ st) h' Φ) : av_Rn sc M (d + 1) al n0 (bc + c1) (bs + s1) pc lv stk h Φ := by
  subst hp; subst hst
  intro p l e R s m args below meth c D ty A b ad0 mc ms Q X HR ad H locs ls cells slots G L hc hs
  obtain ⟨hw0, h1, h2, h3⟩ := hw
  have hP := av_pre X G (vR q :: as)
  have hB := av_callB (c1 := c1) (s1 := s1) X hw0
  rw [h3] at hB
  refine av_back X HR G L hc hs (va_runI (nL := M.2.2.1) (b := ad q) (As := as.map (av_tv b ad)) ⟨X.1.1, X.1.2.1, X.1.2.2.1, X.1.2.2.2.1, X.2.1⟩ (hE l D ty b ad H.size) ⟨hB, h1, X.2.1 _ h2⟩ ⟨av_blind, hP⟩ rfl ((List.length_map ..).trans hn) L.1 ?_ (lv_room (av_mr st hm)) hd ⟨?_, ?_⟩) ha kk
  · show ((as.reverse ++ vR q :: st).map (av_tv b ad)) = _
    rw [List.map_append, List.map_reverse]; rfl
  · have := X.2.2.2.2.2.1.2.2.1; omega
  · have := X.2.2.2.2.2.1.2.2.2; omega
set_option maxHeartbeats 1000000 in
theorem rn_callN (pc' : Nat) {idx q c1 s1 n : Nat} {y : av_M} {al' : Bool} {as : List av_V} {stk : List av_V} {Ψ : Option av_V → av_H → Prop} (hd : decode M.2.1 pc = .ok (.invokespecial idx, 3)) (hp : pc + 3 = pc') (hw : av_cwN M.1.cls idx y n) (hn : as.length = n) (hst : stk = as.reverse ++ vR q :: st) (hm : (st.map av_cat).sum ≤ 8) (hE : av_Ev sc y d al' c1 s1 (vR q :: as) h Ψ)
    (ha : al' = false ∨ (al = true ∧ av_ok lv st h = true)) (kk : ∀ r h', Ψ r h' → av_Rn sc M (d + 1) al n0 bc bs pc' lv (r.toList ++ st) h' Φ) : av_Rn sc M (d + 1) al n0 (bc + c1) (bs + s1) pc lv stk h Φ := by
  subst hp; subst hst
  intro p l e R s m args below meth c D ty A b ad0 mc ms Q X HR ad H locs ls cells slots G L hc hs
  have hP := av_pre X G (vR q :: as)
  obtain ⟨host, hB⟩ := av_callN (c1 := c1) (s1 := s1) X hw
  refine av_back X HR G L hc hs (va_runIN (nL := M.2.2.1) (b := ad q) (As := as.map (av_tv b ad)) ⟨X.1.1, X.1.2.1, X.1.2.2.1, X.1.2.2.2.1, X.2.1⟩ (hE l D ty b ad H.size) hB ⟨av_blind, hP⟩ rfl ((List.length_map ..).trans hn) L.1 ?_ (lv_room (av_mr st hm)) hd ⟨?_, ?_⟩) ha kk
  · show ((as.reverse ++ vR q :: st).map (av_tv b ad)) = _
    rw [List.map_append, List.map_reverse]; rfl
  · have := X.2.2.2.2.2.1.2.2.1; omega
  · have := X.2.2.2.2.2.1.2.2.2; omega
end
end
section
/-- a class whose objects can be made at idx in class cls; fs: a new one's fields -/
def av_nw (cls : String) (idx ci : Nat) (fs : List av_V) : Prop := ∃ (C : String) (T : u_T) (tyf : Nat → FieldType), vwCl[ci]? = some (C, T, fs.length) ∧ (∀ w ∈ u_ws C T fs.length, w ∈ av_T) ∧ (∀ k, k < fs.length → parseFieldDescriptor (T k).2.2.1 = some (tyf k)) ∧ Cond.classLink cls idx C ∈ av_T ∧ Cond.instantiable C fs.length ∈ av_T ∧ Cond.initialized C ∈ av_T ∧ (∀ j, j < fs.length → defaultValue (tyf j) = vp_V (fs.map (av_tv 0 id)) j) ∧ fs.all (av_scv 0) = true
section
variable {sc : av_sc} {M : av_M} {d n0 bc bs pc : Nat} {al : Bool} {lv : av_L} {st : List av_V} {h : av_H} {Φ : Option av_V → av_H → Prop}
/-- the addresses with one more -/
def av_up (ad : Nat → Nat) (n q : Nat) : Nat → Nat := fun i => if i = n then q else ad i
theorem av_up_old {ad : Nat → Nat} {n q i : Nat} (h : i < n) : av_up ad n q i = ad i := if_neg (Nat.ne_of_lt h)
theorem av_sc0 {b : Nat} {ad ad' : Nat → Nat} {v : av_V} (hs : av_scv 0 v = true) : av_tv b ad v = av_tv b ad' v := (av_tv_ext hs (fun i hi => absurd hi (Nat.not_lt_zero i))).symm
def av_ns : av_V → Bool
  | .inr (.inr (.inr _)) => false
  | _ => true
theorem av_sc0b {b b' : Nat} {ad ad' : Nat → Nat} {v : av_V} (hs : av_scv 0 v = true) (hv : av_ns v = true) : av_tv b ad v = av_tv b' ad' v := by
  rcases v with z | (_ | k) | z | u
  · rfl
  · rfl
  · simp [av_scv] at hs
  · rfl
  · cases hv
theorem av_tw_push {b : Nat} {ad : Nat → Nat} {ty : Nat → ClassId} {q : Nat} {c : av_C} (hs : h.all (av_scc h.length) = true) (hc : av_scc h.length c = true) : av_tw b ad ty h ++ [(q, av_tc b ad ty c)] = av_tw b (av_up ad h.length q) ty (h ++ [c]) := by
  have e1 : av_tw b (av_up ad h.length q) ty (h ++ [c]) = av_tw b (av_up ad h.length q) ty h ++ [(av_up ad h.length q h.length, av_tc b (av_up ad h.length q) ty c)] := by
    simp [av_tw, List.mapIdx_concat]
  rw [e1, av_tw_ext (Nat.le_refl _) hs (fun i hi => av_up_old hi), av_tc_ext hc (fun i hi => av_up_old hi)]
  simp [av_up]
theorem av_push {p : Program} {l : Launch} {e : Env} {R : Room} {s : State} {m : MethodId} {args : Array Value} {below : List Frame} {meth : Method} {c : Code} {D : va_G} {ty : Nat → ClassId} {A : Nat → Prop} {b mc ms : Nat} {ad0 ad : Nat → Nat} {H H1 : Heap} {locs : List Loc} {Q : State → Prop} {ls : Array Slot} {cells slots q pc' : Nat} {x : av_C}
    (X : av_X sc M d p R s m args meth c D ty A b mc ms) (HR : av_HR M al n0 Φ p l e R s m args below meth c D ty A b ad0 mc ms Q) (hal : al = true) (G : av_G al n0 D ty A b ad0 ad s H locs h) (L : av_hs b ad ls M.2.2.1 lv) (hc : cells + bc ≤ mc) (hs : slots + bs ≤ ms) (hok : av_ok lv st h = true) (hx : av_scc h.length x = true)
    (hP : va_P D vwCl (av_tw b ad ty h ++ [(q, av_tc b ad ty x)]) H1) (hD : va_D A (av_tw b ad ty h ++ [(q, av_tc b ad ty x)])) (hS : va_S A s.heap H1 locs)
    (k : av_Rn sc M d al n0 bc bs pc' lv (vR h.length :: st) (h ++ [x]) Φ) : W p l e R s m args below meth c H1 locs cells slots Q (F0 m pc' ls (.ref q :: st.map (av_tv b ad))) := by
  simp only [av_ok, Bool.and_eq_true] at hok
  rw [av_tw_push hok.2 hx] at hP hD
  have K := k p l e R s m args below meth c D ty A b ad0 mc ms Q X HR (av_up ad h.length q) H1 locs ls cells slots ⟨⟨by rw [List.length_append]; exact Nat.le_trans G.1.1 (Nat.le_add_right _ _), (fun q => absurd (hal.symm.trans q) (by decide)), fun i hi => (av_up_old (Nat.lt_of_lt_of_le hi G.1.1)).trans (G.1.2.2 i hi)⟩, hP, hD, hS⟩
    (av_hs_sub L fun i v hv => by rw [av_tl_ext hok.1.1 (fun i hi => av_up_old hi) i v hv]; exact av_tl_mem.mpr ⟨v, hv, rfl⟩) hc hs
  have e3 : (vR h.length :: st).map (av_tv b (av_up ad h.length q)) = .ref q :: st.map (av_tv b ad) := by
    rw [List.map_cons, av_ts_ext hok.1.2 (fun i hi => av_up_old hi)]
    simp [av_tv, av_up]
  rw [e3] at K
  exact K
theorem av_nameI {s : State} {D : va_G} {ty : Nat → ClassId} {cA : ClassId} (hK : va_K D vwCl (av_tys ty) s) (hK2 : va_K D vwCl (av_tys ty ++ [(cA, .int)]) s) : cA = ty 0 := by
  have h1 : s.vm.findClass ("[" ++ FieldType.int.toString) = some (ty 0) := (hK.2 0 _ rfl).2
  have h2 : s.vm.findClass ("[" ++ FieldType.int.toString) = some cA := (hK2.2 2 (cA, .int) rfl).2
  exact Option.some.inj (h2.symm.trans h1)
theorem av_nameZ {s : State} {D : va_G} {ty : Nat → ClassId} {cA : ClassId} (hK : va_K D vwCl (av_tys ty) s) (hK2 : va_K D vwCl (av_tys ty ++ [(cA, .boolean)]) s) : cA = ty 1 := by
  have h1 : s.vm.findClass ("[" ++ FieldType.boolean.toString) = some (ty 1) := (hK.2 1 _ rfl).2
  have h2 : s.vm.findClass ("[" ++ FieldType.boolean.toString) = some cA := (hK2.2 2 (cA, .boolean) rfl).2
  exact Option.some.inj (h2.symm.trans h1)
theorem rn_newI (pc' : Nat) {z : Int} {at1 : ArrayType} (N : Nat) (hd : decode M.2.1 pc = .ok (.newarray at1, 2)) (hty : newarray.typeOf at1 = .int) (hp : pc + 2 = pc') (harr : Cond.arrayClass .int ∈ av_T) (hz : z = (N : Int)) (hN : N ≤ 100000000) (hal : al = true) (hok : av_ok lv st h = true) {h' : av_H} (hh : h ++ [.inl (0, N, fun _ => 0)] = h') (k : av_Rn sc M d al n0 bc bs pc' lv (vR h.length :: st) h' Φ) : av_Rn sc M d al n0 (bc + 1) (bs + N) pc lv (vI z :: st) h Φ := by
  subst hp; subst hh; subst hz
  intro p l e R s m args below meth c D ty A b ad0 mc ms Q X HR ad H locs ls cells slots G L hc hs
  have hin : av_in (N : Int) := ⟨by omega, by omega⟩
  have r1 := X.2.2.2.2.2.1.2.2.1
  have r2 := X.2.2.2.2.2.1.2.2.2
  refine va_newa (ty := .int) (N' := N) (a0 := (N, .inl (fun _ => Int32.ofInt 0))) X.1.1 X.1.2.1 (hty ▸ X.2.1 _ harr) hty X.2.2.2.1 G.2.1 G.2.2.1 G.2.2.2 X.2.2.2.2.1 (fun cA => rfl) (fun q => ?_) ?_ ?_ ?_ ?_ hd (fun q cA H1 hK2 hP hD hS => ?_)
  · have := (av_lt hin av_in0).mp q; omega
  · have := av_cl (i := (N : Int)) (by omega) hin; omega
  · show N * 4 ≤ 536870912; omega
  · omega
  · omega
  · rw [av_nameI X.2.2.2.1 hK2] at hP hD
    exact av_push (x := .inl (0, N, fun _ => 0)) X HR hal G L (by omega) (by omega) hok rfl hP hD hS k
theorem rn_newZ (pc' : Nat) {z : Int} {at1 : ArrayType} (N : Nat) (hd : decode M.2.1 pc = .ok (.newarray at1, 2)) (hty : newarray.typeOf at1 = .boolean) (hp : pc + 2 = pc') (harr : Cond.arrayClass .boolean ∈ av_T) (hz : z = (N : Int)) (hN : N ≤ 100000000) (hal : al = true) (hok : av_ok lv st h = true) {h' : av_H} (hh : h ++ [.inl (1, N, fun _ => 0)] = h') (k : av_Rn sc M d al n0 bc bs pc' lv (vR h.length :: st) h' Φ) : av_Rn sc M d al n0 (bc + 1) (bs + N) pc lv (vI z :: st) h Φ := by
  subst hp; subst hh; subst hz
  intro p l e R s m args below meth c D ty A b ad0 mc ms Q X HR ad H locs ls cells slots G L hc hs
  have hin : av_in (N : Int) := ⟨by omega, by omega⟩
  have r1 := X.2.2.2.2.2.1.2.2.1
  have r2 := X.2.2.2.2.2.1.2.2.2
  refine va_newa (ty := .boolean) (N' := N) (a0 := (N, .inl (fun _ => Int32.ofInt 0))) X.1.1 X.1.2.1 (hty ▸ X.2.1 _ harr) hty X.2.2.2.1 G.2.1 G.2.2.1 G.2.2.2 X.2.2.2.2.1 (fun cA => rfl) (fun q => ?_) ?_ ?_ ?_ ?_ hd (fun q cA H1 hK2 hP hD hS => ?_)
  · have := (av_lt hin av_in0).mp q; omega
  · have := av_cl (i := (N : Int)) (by omega) hin; omega
  · show N * 1 ≤ 536870912; omega
  · omega
  · omega
  · rw [av_nameZ X.2.2.2.1 hK2] at hP hD
    exact av_push (x := .inl (1, N, fun _ => 0)) X HR hal G L (by omega) (by omega) hok rfl hP hD hS k
theorem rn_new (pc' : Nat) {idx ci : Nat} {fs : List av_V} (hd : decode M.2.1 pc = .ok (.new idx, 3)) (hp : pc + 3 = pc') (hw : av_nw M.1.cls idx ci fs) (hvs : fs.all av_ns = true) (hal : al = true) (hok : av_ok lv st h = true) {h' : av_H} (hh : h ++ [.inr (ci, fs)] = h') (k : av_Rn sc M d al n0 bc bs pc' lv (vR h.length :: st) h' Φ) : av_Rn sc M d al n0 (bc + 1) (bs + fs.length) pc lv st h Φ := by
  subst hp; subst hh
  intro p l e R s m args below meth c D ty A b ad0 mc ms Q X HR ad H locs ls cells slots G L hc hs
  obtain ⟨C, T, tyf, w1, w2, w3, w4, w5, w6, w7, w8⟩ := hw
  have r1 := X.2.2.2.2.2.1.2.2.1
  have r2 := X.2.2.2.2.2.1.2.2.2
  have e1 : fs.map (av_tv b ad) = fs.map (av_tv 0 id) := List.map_congr_left fun v hv => av_sc0b (List.all_eq_true.mp w8 v hv) (List.all_eq_true.mp hvs v hv)
  refine va_new (ci := ci) (fs := fs.map (av_tv b ad)) (N := fs.length) X.1.1 X.1.2.1 X.2.1 w2 tyf w3 X.1.2.2.2.1 (X.2.1 _ w4) (X.2.1 _ w5) (X.2.1 _ w6) X.2.2.2.1 G.2.1 G.2.2.1 G.2.2.2 X.2.2.2.2.1 w1 (by rw [e1]; exact w7) (by omega) (by omega) hd (fun q H1 hP hD hS => ?_)
  refine av_push (x := .inr (ci, fs)) X HR hal G L (by omega) (by omega) hok ?_ hP hD hS k
  refine List.all_eq_true.mpr fun v hv => ?_
  have h0 := List.all_eq_true.mp w8 v hv
  rcases v with z | (_ | k) | z | u
  · rfl
  · rfl
  · simp [av_scv] at h0
  · rfl
  · rfl
theorem rn_objInit (pc' : Nat) {idx q : Nat} (hd : decode M.2.1 pc = .ok (.invokespecial idx, 3)) (hp : pc + 3 = pc') (hw : Cond.methodLink M.1.cls idx objectInit ∈ av_T ∧ Cond.instanceMethod objectInit ∈ av_T ∧ Cond.code objectInit ⟨#[0xb1]⟩ 1 none ∈ av_T) (hm : (st.map av_cat).sum ≤ 8) (k : av_Rn sc M (d + 1) al n0 bc bs pc' lv st h Φ) : av_Rn sc M (d + 1) al n0 bc bs pc lv (vR q :: st) h Φ := by
  subst hp
  intro p l e R s m args below meth c D ty A b ad0 mc ms Q X HR ad H locs ls cells slots G L hc hs
  have r1 := X.2.2.2.2.2.1.1
  have r2 := X.2.2.2.2.2.1.2.1
  have hm2 := av_mr (b := b) (ad := ad) st hm
  refine W.objInit X.1.1 X.1.2.1 X.1.2.2.2.1 (X.2.1 _ hw.1) (X.2.1 _ hw.2.1) (X.2.1 _ hw.2.2) rfl (L.1.trans X.1.2.2.1.symm) rfl hd (by omega) ?_ (k p l e R s m args below meth c D ty A b ad0 mc ms Q X HR ad H locs ls cells slots G L hc hs)
  show 2 * 0 + _ + 12 ≤ R.locals
  omega
/-- Math -/
def av_cwM (cls : String) (idx : Nat) (y : MethodName) (bytes : ByteArray) (n : Nat) : Prop := Cond.methodLink cls idx y ∈ av_T ∧ Cond.static y ∈ av_T ∧ Cond.initialized "java/lang/Math" ∈ av_T ∧ Cond.code y bytes n (some .int) ∈ av_T
theorem rn_max (pc' : Nat) {idx : Nat} {x y : Int} (hd : decode M.2.1 pc = .ok (.invokestatic idx, 3)) (hp : pc + 3 = pc') (hw : av_cwM M.1.cls idx Lib.Math.max.name Lib.Math.max.code 2) (hm : (st.map av_cat).sum ≤ 8) (hx : av_in x) (hy : av_in y) (k : av_Rn sc M (d + 1) al n0 bc bs pc' lv (vI (if x < y then y else x) :: st) h Φ) : av_Rn sc M (d + 1) al n0 bc bs pc lv (vI y :: vI x :: st) h Φ := by
  subst hp
  intro p l e R s m args below meth c D ty A b ad0 mc ms Q X HR ad H locs ls cells slots G L hc hs
  obtain ⟨-, -, -, -, -, ⟨r1, r2, r3, r4⟩, -⟩ := id X
  have hm2 := av_mr (b := b) (ad := ad) st hm
  have k := k p l e R s m args below meth c D ty A b ad0 mc ms Q X HR ad H locs ls cells slots G L hc hs
  refine va_mmax X.1.1 X.1.2.1 (X.1.2.2.1.trans L.1.symm) X.1.2.2.2.1 (X.2.1 _ hw.1) (X.2.1 _ hw.2.1) (X.2.1 _ hw.2.2.1) (X.2.1 _ hw.2.2.2) (by omega) (by omega) (by omega) (by omega) hd ?_
  have e2 : (if Int32.ofInt x < Int32.ofInt y then Int32.ofInt y else Int32.ofInt x) = Int32.ofInt (if x < y then y else x) := by
    by_cases q : x < y
    · rw [if_pos q, if_pos ((av_lt hx hy).mpr q)]
    · rw [if_neg q, if_neg (fun z => q ((av_lt hx hy).mp z))]
  rw [e2]
  exact k
theorem rn_min (pc' : Nat) {idx : Nat} {x y : Int} (hd : decode M.2.1 pc = .ok (.invokestatic idx, 3)) (hp : pc + 3 = pc') (hw : av_cwM M.1.cls idx Lib.Math.min.name Lib.Math.min.code 2) (hm : (st.map av_cat).sum ≤ 8) (hx : av_in x) (hy : av_in y) (k : av_Rn sc M (d + 1) al n0 bc bs pc' lv (vI (if y < x then y else x) :: st) h Φ) : av_Rn sc M (d + 1) al n0 bc bs pc lv (vI y :: vI x :: st) h Φ := by
  subst hp
  intro p l e R s m args below meth c D ty A b ad0 mc ms Q X HR ad H locs ls cells slots G L hc hs
  obtain ⟨-, -, -, -, -, ⟨r1, r2, r3, r4⟩, -⟩ := id X
  have hm2 := av_mr (b := b) (ad := ad) st hm
  have k := k p l e R s m args below meth c D ty A b ad0 mc ms Q X HR ad H locs ls cells slots G L hc hs
  refine va_mmin X.1.1 X.1.2.1 (X.1.2.2.1.trans L.1.symm) X.1.2.2.2.1 (X.2.1 _ hw.1) (X.2.1 _ hw.2.1) (X.2.1 _ hw.2.2.1) (X.2.1 _ hw.2.2.2) (by omega) (by omega) (by omega) (by omega) hd ?_
  have e2 : (if Int32.ofInt y < Int32.ofInt x then Int32.ofInt y else Int32.ofInt x) = Int32.ofInt (if y < x then y else x) := by
    by_cases q : y < x
    · rw [if_pos q, if_pos ((av_lt hy hx).mpr q)]
    · rw [if_neg q, if_neg (fun z => q ((av_lt hy hx).mp z))]
  rw [e2]
  exact k
theorem rn_abs (pc' : Nat) {idx : Nat} {x : Int} (hd : decode M.2.1 pc = .ok (.invokestatic idx, 3)) (hp : pc + 3 = pc') (hw : av_cwM M.1.cls idx Lib.Math.abs.name Lib.Math.abs.code 1) (hm : (st.map av_cat).sum ≤ 8) (hx : av_in x) (k : av_Rn sc M (d + 1) al n0 bc bs pc' lv (vI (if 0 ≤ x then x else 0 - x) :: st) h Φ) : av_Rn sc M (d + 1) al n0 bc bs pc lv (vI x :: st) h Φ := by
  subst hp
  intro p l e R s m args below meth c D ty A b ad0 mc ms Q X HR ad H locs ls cells slots G L hc hs
  obtain ⟨-, -, -, -, -, ⟨r1, r2, r3, r4⟩, -⟩ := id X
  have hm2 := av_mr (b := b) (ad := ad) st hm
  have k := k p l e R s m args below meth c D ty A b ad0 mc ms Q X HR ad H locs ls cells slots G L hc hs
  refine va_mabs X.1.1 X.1.2.1 (X.1.2.2.1.trans L.1.symm) X.1.2.2.2.1 (X.2.1 _ hw.1) (X.2.1 _ hw.2.1) (X.2.1 _ hw.2.2.1) (X.2.1 _ hw.2.2.2) (by omega) (by omega) (by omega) (by omega) hd ?_
  have e2 : (if 0 ≤ Int32.ofInt x then Int32.ofInt x else 0 - Int32.ofInt x) = Int32.ofInt (if 0 ≤ x then x else 0 - x) := by
    have h0 : ((0 : Int32) ≤ Int32.ofInt x) ↔ 0 ≤ x := av_le (x := 0) av_in0 hx
    by_cases q : 0 ≤ x
    · rw [if_pos q, if_pos (h0.mpr q)]
    · rw [if_neg q, if_neg (fun z => q (h0.mp z)), Int32.ofInt_sub]; rfl
  rw [e2]
  exact k
theorem rn_tabOut (tgt : Nat) {dflt lo hi : Int} {offs : Array Int} {len : Nat} {x : Int} (hd : decode M.2.1 pc = .ok (.tableswitch dflt lo hi offs, len)) (hx : av_in x) (h1 : x < lo ∨ hi < x) (ht : (pc : Int) + dflt = (tgt : Int)) (k : av_Rn sc M d al n0 bc bs tgt lv st h Φ) : av_Rn sc M d al n0 bc bs pc lv (vI x :: st) h Φ := by
  intro p l e R s m args below meth c D ty A b ad0 mc ms Q X HR ad H locs ls cells slots G L hc hs
  have ex : (Int32.ofInt x).toInt = x := Int32.toInt_ofInt_of_le (by have := hx.1; omega) (by have := hx.2; omega)
  exact lv_tableOut X.1.1 X.1.2.1 hd (by rw [ex]; exact h1) ht (k p l e R s m args below meth c D ty A b ad0 mc ms Q X HR ad H locs ls cells slots G L hc hs)
theorem rn_tabIn (tgt : Nat) {dflt lo hi off : Int} {offs : Array Int} {len : Nat} {x : Int} (hd : decode M.2.1 pc = .ok (.tableswitch dflt lo hi offs, len)) (hx : av_in x) (h1 : ¬ x < lo) (h2 : ¬ hi < x) (ho : offs[(x - lo).toNat]? = some off) (ht : (pc : Int) + off = (tgt : Int)) (k : av_Rn sc M d al n0 bc bs tgt lv st h Φ) : av_Rn sc M d al n0 bc bs pc lv (vI x :: st) h Φ := by
  intro p l e R s m args below meth c D ty A b ad0 mc ms Q X HR ad H locs ls cells slots G L hc hs
  have ex : (Int32.ofInt x).toInt = x := Int32.toInt_ofInt_of_le (by have := hx.1; omega) (by have := hx.2; omega)
  exact lv_tableIn X.1.1 X.1.2.1 hd (by rw [ex]; exact h1) (by rw [ex]; exact h2) (by rw [ex]; exact ho) ht (k p l e R s m args below meth c D ty A b ad0 mc ms Q X HR ad H locs ls cells slots G L hc hs)
end
end
section
def bz (P : Prop) [Decidable P] : Int := if P then 1 else 0
theorem bz_t {P : Prop} [Decidable P] (h : P) : bz P = 1 := if_pos h
theorem bz_f {P : Prop} [Decidable P] (h : ¬ P) : bz P = 0 := if_neg h
theorem bz_01 {P : Prop} [Decidable P] : bz P = 0 ∨ bz P = 1 := by
  by_cases h : P
  · exact Or.inr (bz_t h)
  · exact Or.inl (bz_f h)
theorem bz_in {P : Prop} [Decidable P] : av_in (bz P) := by
  rcases bz_01 (P := P) with h | h <;> rw [h] <;> exact ⟨by decide, by decide⟩
theorem bz_iff {P : Prop} [Decidable P] : bz P = 1 ↔ P := by
  by_cases h : P
  · simp [bz, h]
  · simp [bz, h]
section
variable {sc : av_sc} {M : av_M} {d n0 bc bs pc : Nat} {al : Bool} {lv : av_L} {st : List av_V} {h : av_H} {Φ : Option av_V → av_H → Prop}
theorem rn_ifB_eq (tgt pc' : Nat) {off : Int} {P : Prop} [Decidable P] (hd : decode M.2.1 pc = .ok (.ifCond .eq off, 3)) (ht : (pc : Int) + off = (tgt : Int)) (hp : pc + 3 = pc') (kt : ¬ P → av_Rn sc M d al n0 bc bs tgt lv st h Φ) (kf : P → av_Rn sc M d al n0 bc bs pc' lv st h Φ) : av_Rn sc M d al n0 bc bs pc lv (vI (bz P) :: st) h Φ :=
  rn_if_eq tgt pc' hd ht hp bz_in (fun q => kt (fun z => by rw [bz_t z] at q; cases q)) (fun q => kf (by
    by_cases z : P
    · exact z
    · exact absurd (bz_f z) q))
theorem rn_ifB_ne (tgt pc' : Nat) {off : Int} {P : Prop} [Decidable P] (hd : decode M.2.1 pc = .ok (.ifCond .ne off, 3)) (ht : (pc : Int) + off = (tgt : Int)) (hp : pc + 3 = pc') (kt : P → av_Rn sc M d al n0 bc bs tgt lv st h Φ) (kf : ¬ P → av_Rn sc M d al n0 bc bs pc' lv st h Φ) : av_Rn sc M d al n0 bc bs pc lv (vI (bz P) :: st) h Φ :=
  rn_if_ne tgt pc' hd ht hp bz_in (fun q => kt (by
    by_cases z : P
    · exact z
    · exact absurd (bz_f z) q)) (fun q => kf (fun z => by rw [bz_t z] at q; cases q))
theorem rn_icmp_same_ne (tgt pc' : Nat) {off : Int} {x : Int} (hd : decode M.2.1 pc = .ok (.if_icmp .ne off, 3)) (hp : pc + 3 = pc') (ht : (pc : Int) + off = (tgt : Int)) (kf : av_Rn sc M d al n0 bc bs pc' lv st h Φ) : av_Rn sc M d al n0 bc bs pc lv (vI x :: vI x :: st) h Φ := by
  subst hp
  intro p l e R s m args below meth c D ty A b ad0 mc ms Q X HR ad H locs ls cells slots G L hc hs
  exact lv_icmp_ne X.1.1 X.1.2.1 hd ht (fun q => absurd rfl q) (fun q => kf p l e R s m args below meth c D ty A b ad0 mc ms Q X HR ad H locs ls cells slots G L hc hs)
theorem rn_icmp_same_eq (tgt : Nat) {off : Int} {x : Int} (hd : decode M.2.1 pc = .ok (.if_icmp .eq off, 3)) (ht : (pc : Int) + off = (tgt : Int)) (kt : av_Rn sc M d al n0 bc bs tgt lv st h Φ) : av_Rn sc M d al n0 bc bs pc lv (vI x :: vI x :: st) h Φ := by
  intro p l e R s m args below meth c D ty A b ad0 mc ms Q X HR ad H locs ls cells slots G L hc hs
  exact lv_icmp_eq X.1.1 X.1.2.1 hd ht (fun q => kt p l e R s m args below meth c D ty A b ad0 mc ms Q X HR ad H locs ls cells slots G L hc hs) (fun q => absurd rfl q)
theorem rn_callV0 (pc' : Nat) {idx ci q : Nat} {fs : List av_V} {y : av_M}  {Ψ : Option av_V → av_H → Prop} (hd : decode M.2.1 pc = .ok (.invokevirtual idx, 3)) (hp : pc + 3 = pc') (hw : av_cwV M.1.cls idx y 0 ci) (hk : h[q]? = some (.inr (ci, fs))) (hm : (st.map av_cat).sum ≤ 8) (hE : av_Ev sc y d false 0 0 [vR q] h Ψ) (kk : ∀ r h', Ψ r h' → av_Rn sc M (d + 1) al n0 bc bs pc' lv (r.toList ++ st) h' Φ) : av_Rn sc M (d + 1) al n0 bc bs pc lv (vR q :: st) h Φ :=
  rn_callV (as := []) pc' hd hp hw hk rfl rfl hm hE (Or.inl rfl) kk
theorem rn_callV0A (pc' : Nat) {idx ci q c1 s1 : Nat} {fs : List av_V} {y : av_M}  {Ψ : Option av_V → av_H → Prop} (hd : decode M.2.1 pc = .ok (.invokevirtual idx, 3)) (hp : pc + 3 = pc') (hw : av_cwV M.1.cls idx y 0 ci) (hk : h[q]? = some (.inr (ci, fs))) (hm : (st.map av_cat).sum ≤ 8) (hE : av_Ev sc y d true c1 s1 [vR q] h Ψ) (hal : al = true) (hok : av_ok lv st h = true) (kk : ∀ r h', Ψ r h' → av_Rn sc M (d + 1) al n0 bc bs pc' lv (r.toList ++ st) h' Φ) : av_Rn sc M (d + 1) al n0 (bc + c1) (bs + s1) pc lv (vR q :: st) h Φ :=
  rn_callV (as := []) pc' hd hp hw hk rfl rfl hm hE (Or.inr ⟨hal, hok⟩) kk
theorem rn_callV1 (pc' : Nat) {idx ci q : Nat} {fs : List av_V} {y : av_M} {a1 : av_V} {Ψ : Option av_V → av_H → Prop} (hd : decode M.2.1 pc = .ok (.invokevirtual idx, 3)) (hp : pc + 3 = pc') (hw : av_cwV M.1.cls idx y 1 ci) (hk : h[q]? = some (.inr (ci, fs))) (hm : (st.map av_cat).sum ≤ 8) (hE : av_Ev sc y d false 0 0 [vR q, a1] h Ψ) (kk : ∀ r h', Ψ r h' → av_Rn sc M (d + 1) al n0 bc bs pc' lv (r.toList ++ st) h' Φ) : av_Rn sc M (d + 1) al n0 bc bs pc lv (a1 :: vR q :: st) h Φ :=
  rn_callV (as := [a1]) pc' hd hp hw hk rfl rfl hm hE (Or.inl rfl) kk
theorem rn_callV1A (pc' : Nat) {idx ci q c1 s1 : Nat} {fs : List av_V} {y : av_M} {a1 : av_V} {Ψ : Option av_V → av_H → Prop} (hd : decode M.2.1 pc = .ok (.invokevirtual idx, 3)) (hp : pc + 3 = pc') (hw : av_cwV M.1.cls idx y 1 ci) (hk : h[q]? = some (.inr (ci, fs))) (hm : (st.map av_cat).sum ≤ 8) (hE : av_Ev sc y d true c1 s1 [vR q, a1] h Ψ) (hal : al = true) (hok : av_ok lv st h = true) (kk : ∀ r h', Ψ r h' → av_Rn sc M (d + 1) al n0 bc bs pc' lv (r.toList ++ st) h' Φ) : av_Rn sc M (d + 1) al n0 (bc + c1) (bs + s1) pc lv (a1 :: vR q :: st) h Φ :=
  rn_callV (as := [a1]) pc' hd hp hw hk rfl rfl hm hE (Or.inr ⟨hal, hok⟩) kk
theorem rn_callV2 (pc' : Nat) {idx ci q : Nat} {fs : List av_V} {y : av_M} {a1 a2 : av_V} {Ψ : Option av_V → av_H → Prop} (hd : decode M.2.1 pc = .ok (.invokevirtual idx, 3)) (hp : pc + 3 = pc') (hw : av_cwV M.1.cls idx y 2 ci) (hk : h[q]? = some (.inr (ci, fs))) (hm : (st.map av_cat).sum ≤ 8) (hE : av_Ev sc y d false 0 0 [vR q, a1, a2] h Ψ) (kk : ∀ r h', Ψ r h' → av_Rn sc M (d + 1) al n0 bc bs pc' lv (r.toList ++ st) h' Φ) : av_Rn sc M (d + 1) al n0 bc bs pc lv (a2 :: a1 :: vR q :: st) h Φ :=
  rn_callV (as := [a1, a2]) pc' hd hp hw hk rfl rfl hm hE (Or.inl rfl) kk
theorem rn_callV2A (pc' : Nat) {idx ci q c1 s1 : Nat} {fs : List av_V} {y : av_M} {a1 a2 : av_V} {Ψ : Option av_V → av_H → Prop} (hd : decode M.2.1 pc = .ok (.invokevirtual idx, 3)) (hp : pc + 3 = pc') (hw : av_cwV M.1.cls idx y 2 ci) (hk : h[q]? = some (.inr (ci, fs))) (hm : (st.map av_cat).sum ≤ 8) (hE : av_Ev sc y d true c1 s1 [vR q, a1, a2] h Ψ) (hal : al = true) (hok : av_ok lv st h = true) (kk : ∀ r h', Ψ r h' → av_Rn sc M (d + 1) al n0 bc bs pc' lv (r.toList ++ st) h' Φ) : av_Rn sc M (d + 1) al n0 (bc + c1) (bs + s1) pc lv (a2 :: a1 :: vR q :: st) h Φ :=
  rn_callV (as := [a1, a2]) pc' hd hp hw hk rfl rfl hm hE (Or.inr ⟨hal, hok⟩) kk
theorem rn_callV3 (pc' : Nat) {idx ci q : Nat} {fs : List av_V} {y : av_M} {a1 a2 a3 : av_V} {Ψ : Option av_V → av_H → Prop} (hd : decode M.2.1 pc = .ok (.invokevirtual idx, 3)) (hp : pc + 3 = pc') (hw : av_cwV M.1.cls idx y 3 ci) (hk : h[q]? = some (.inr (ci, fs))) (hm : (st.map av_cat).sum ≤ 8) (hE : av_Ev sc y d false 0 0 [vR q, a1, a2, a3] h Ψ) (kk : ∀ r h', Ψ r h' → av_Rn sc M (d + 1) al n0 bc bs pc' lv (r.toList ++ st) h' Φ) : av_Rn sc M (d + 1) al n0 bc bs pc lv (a3 :: a2 :: a1 :: vR q :: st) h Φ :=
  rn_callV (as := [a1, a2, a3]) pc' hd hp hw hk rfl rfl hm hE (Or.inl rfl) kk
theorem rn_callV3A (pc' : Nat) {idx ci q c1 s1 : Nat} {fs : List av_V} {y : av_M} {a1 a2 a3 : av_V} {Ψ : Option av_V → av_H → Prop} (hd : decode M.2.1 pc = .ok (.invokevirtual idx, 3)) (hp : pc + 3 = pc') (hw : av_cwV M.1.cls idx y 3 ci) (hk : h[q]? = some (.inr (ci, fs))) (hm : (st.map av_cat).sum ≤ 8) (hE : av_Ev sc y d true c1 s1 [vR q, a1, a2, a3] h Ψ) (hal : al = true) (hok : av_ok lv st h = true) (kk : ∀ r h', Ψ r h' → av_Rn sc M (d + 1) al n0 bc bs pc' lv (r.toList ++ st) h' Φ) : av_Rn sc M (d + 1) al n0 (bc + c1) (bs + s1) pc lv (a3 :: a2 :: a1 :: vR q :: st) h Φ :=
  rn_callV (as := [a1, a2, a3]) pc' hd hp hw hk rfl rfl hm hE (Or.inr ⟨hal, hok⟩) kk
theorem rn_callV4 (pc' : Nat) {idx ci q : Nat} {fs : List av_V} {y : av_M} {a1 a2 a3 a4 : av_V} {Ψ : Option av_V → av_H → Prop} (hd : decode M.2.1 pc = .ok (.invokevirtual idx, 3)) (hp : pc + 3 = pc') (hw : av_cwV M.1.cls idx y 4 ci) (hk : h[q]? = some (.inr (ci, fs))) (hm : (st.map av_cat).sum ≤ 8) (hE : av_Ev sc y d false 0 0 [vR q, a1, a2, a3, a4] h Ψ) (kk : ∀ r h', Ψ r h' → av_Rn sc M (d + 1) al n0 bc bs pc' lv (r.toList ++ st) h' Φ) : av_Rn sc M (d + 1) al n0 bc bs pc lv (a4 :: a3 :: a2 :: a1 :: vR q :: st) h Φ :=
  rn_callV (as := [a1, a2, a3, a4]) pc' hd hp hw hk rfl rfl hm hE (Or.inl rfl) kk
theorem rn_callV4A (pc' : Nat) {idx ci q c1 s1 : Nat} {fs : List av_V} {y : av_M} {a1 a2 a3 a4 : av_V} {Ψ : Option av_V → av_H → Prop} (hd : decode M.2.1 pc = .ok (.invokevirtual idx, 3)) (hp : pc + 3 = pc') (hw : av_cwV M.1.cls idx y 4 ci) (hk : h[q]? = some (.inr (ci, fs))) (hm : (st.map av_cat).sum ≤ 8) (hE : av_Ev sc y d true c1 s1 [vR q, a1, a2, a3, a4] h Ψ) (hal : al = true) (hok : av_ok lv st h = true) (kk : ∀ r h', Ψ r h' → av_Rn sc M (d + 1) al n0 bc bs pc' lv (r.toList ++ st) h' Φ) : av_Rn sc M (d + 1) al n0 (bc + c1) (bs + s1) pc lv (a4 :: a3 :: a2 :: a1 :: vR q :: st) h Φ :=
  rn_callV (as := [a1, a2, a3, a4]) pc' hd hp hw hk rfl rfl hm hE (Or.inr ⟨hal, hok⟩) kk
theorem rn_callV5 (pc' : Nat) {idx ci q : Nat} {fs : List av_V} {y : av_M} {a1 a2 a3 a4 a5 : av_V} {Ψ : Option av_V → av_H → Prop} (hd : decode M.2.1 pc = .ok (.invokevirtual idx, 3)) (hp : pc + 3 = pc') (hw : av_cwV M.1.cls idx y 5 ci) (hk : h[q]? = some (.inr (ci, fs))) (hm : (st.map av_cat).sum ≤ 8) (hE : av_Ev sc y d false 0 0 [vR q, a1, a2, a3, a4, a5] h Ψ) (kk : ∀ r h', Ψ r h' → av_Rn sc M (d + 1) al n0 bc bs pc' lv (r.toList ++ st) h' Φ) : av_Rn sc M (d + 1) al n0 bc bs pc lv (a5 :: a4 :: a3 :: a2 :: a1 :: vR q :: st) h Φ :=
  rn_callV (as := [a1, a2, a3, a4, a5]) pc' hd hp hw hk rfl rfl hm hE (Or.inl rfl) kk
theorem rn_callV5A (pc' : Nat) {idx ci q c1 s1 : Nat} {fs : List av_V} {y : av_M} {a1 a2 a3 a4 a5 : av_V} {Ψ : Option av_V → av_H → Prop} (hd : decode M.2.1 pc = .ok (.invokevirtual idx, 3)) (hp : pc + 3 = pc') (hw : av_cwV M.1.cls idx y 5 ci) (hk : h[q]? = some (.inr (ci, fs))) (hm : (st.map av_cat).sum ≤ 8) (hE : av_Ev sc y d true c1 s1 [vR q, a1, a2, a3, a4, a5] h Ψ) (hal : al = true) (hok : av_ok lv st h = true) (kk : ∀ r h', Ψ r h' → av_Rn sc M (d + 1) al n0 bc bs pc' lv (r.toList ++ st) h' Φ) : av_Rn sc M (d + 1) al n0 (bc + c1) (bs + s1) pc lv (a5 :: a4 :: a3 :: a2 :: a1 :: vR q :: st) h Φ :=
  rn_callV (as := [a1, a2, a3, a4, a5]) pc' hd hp hw hk rfl rfl hm hE (Or.inr ⟨hal, hok⟩) kk
theorem rn_callS0 (pc' : Nat) {idx : Nat} {y : av_M}  {Ψ : Option av_V → av_H → Prop} (hd : decode M.2.1 pc = .ok (.invokestatic idx, 3)) (hp : pc + 3 = pc') (hw : av_cwS M.1.cls idx y 0) (hm : (st.map av_cat).sum ≤ 8) (hE : av_Ev sc y d false 0 0 [] h Ψ) (kk : ∀ r h', Ψ r h' → av_Rn sc M (d + 1) al n0 bc bs pc' lv (r.toList ++ st) h' Φ) : av_Rn sc M (d + 1) al n0 bc bs pc lv (st) h Φ :=
  rn_callS (as := []) pc' hd hp hw rfl rfl hm hE (Or.inl rfl) kk
theorem rn_callS0A (pc' : Nat) {idx c1 s1 : Nat} {y : av_M}  {Ψ : Option av_V → av_H → Prop} (hd : decode M.2.1 pc = .ok (.invokestatic idx, 3)) (hp : pc + 3 = pc') (hw : av_cwS M.1.cls idx y 0) (hm : (st.map av_cat).sum ≤ 8) (hE : av_Ev sc y d true c1 s1 [] h Ψ) (hal : al = true) (hok : av_ok lv st h = true) (kk : ∀ r h', Ψ r h' → av_Rn sc M (d + 1) al n0 bc bs pc' lv (r.toList ++ st) h' Φ) : av_Rn sc M (d + 1) al n0 (bc + c1) (bs + s1) pc lv (st) h Φ :=
  rn_callS (as := []) pc' hd hp hw rfl rfl hm hE (Or.inr ⟨hal, hok⟩) kk
theorem rn_callS1 (pc' : Nat) {idx : Nat} {y : av_M} {a1 : av_V} {Ψ : Option av_V → av_H → Prop} (hd : decode M.2.1 pc = .ok (.invokestatic idx, 3)) (hp : pc + 3 = pc') (hw : av_cwS M.1.cls idx y 1) (hm : (st.map av_cat).sum ≤ 8) (hE : av_Ev sc y d false 0 0 [a1] h Ψ) (kk : ∀ r h', Ψ r h' → av_Rn sc M (d + 1) al n0 bc bs pc' lv (r.toList ++ st) h' Φ) : av_Rn sc M (d + 1) al n0 bc bs pc lv (a1 :: st) h Φ :=
  rn_callS (as := [a1]) pc' hd hp hw rfl rfl hm hE (Or.inl rfl) kk
theorem rn_callS1A (pc' : Nat) {idx c1 s1 : Nat} {y : av_M} {a1 : av_V} {Ψ : Option av_V → av_H → Prop} (hd : decode M.2.1 pc = .ok (.invokestatic idx, 3)) (hp : pc + 3 = pc') (hw : av_cwS M.1.cls idx y 1) (hm : (st.map av_cat).sum ≤ 8) (hE : av_Ev sc y d true c1 s1 [a1] h Ψ) (hal : al = true) (hok : av_ok lv st h = true) (kk : ∀ r h', Ψ r h' → av_Rn sc M (d + 1) al n0 bc bs pc' lv (r.toList ++ st) h' Φ) : av_Rn sc M (d + 1) al n0 (bc + c1) (bs + s1) pc lv (a1 :: st) h Φ :=
  rn_callS (as := [a1]) pc' hd hp hw rfl rfl hm hE (Or.inr ⟨hal, hok⟩) kk
theorem rn_callS2 (pc' : Nat) {idx : Nat} {y : av_M} {a1 a2 : av_V} {Ψ : Option av_V → av_H → Prop} (hd : decode M.2.1 pc = .ok (.invokestatic idx, 3)) (hp : pc + 3 = pc') (hw : av_cwS M.1.cls idx y 2) (hm : (st.map av_cat).sum ≤ 8) (hE : av_Ev sc y d false 0 0 [a1, a2] h Ψ) (kk : ∀ r h', Ψ r h' → av_Rn sc M (d + 1) al n0 bc bs pc' lv (r.toList ++ st) h' Φ) : av_Rn sc M (d + 1) al n0 bc bs pc lv (a2 :: a1 :: st) h Φ :=
  rn_callS (as := [a1, a2]) pc' hd hp hw rfl rfl hm hE (Or.inl rfl) kk
theorem rn_callS2A (pc' : Nat) {idx c1 s1 : Nat} {y : av_M} {a1 a2 : av_V} {Ψ : Option av_V → av_H → Prop} (hd : decode M.2.1 pc = .ok (.invokestatic idx, 3)) (hp : pc + 3 = pc') (hw : av_cwS M.1.cls idx y 2) (hm : (st.map av_cat).sum ≤ 8) (hE : av_Ev sc y d true c1 s1 [a1, a2] h Ψ) (hal : al = true) (hok : av_ok lv st h = true) (kk : ∀ r h', Ψ r h' → av_Rn sc M (d + 1) al n0 bc bs pc' lv (r.toList ++ st) h' Φ) : av_Rn sc M (d + 1) al n0 (bc + c1) (bs + s1) pc lv (a2 :: a1 :: st) h Φ :=
  rn_callS (as := [a1, a2]) pc' hd hp hw rfl rfl hm hE (Or.inr ⟨hal, hok⟩) kk
theorem rn_callS3 (pc' : Nat) {idx : Nat} {y : av_M} {a1 a2 a3 : av_V} {Ψ : Option av_V → av_H → Prop} (hd : decode M.2.1 pc = .ok (.invokestatic idx, 3)) (hp : pc + 3 = pc') (hw : av_cwS M.1.cls idx y 3) (hm : (st.map av_cat).sum ≤ 8) (hE : av_Ev sc y d false 0 0 [a1, a2, a3] h Ψ) (kk : ∀ r h', Ψ r h' → av_Rn sc M (d + 1) al n0 bc bs pc' lv (r.toList ++ st) h' Φ) : av_Rn sc M (d + 1) al n0 bc bs pc lv (a3 :: a2 :: a1 :: st) h Φ :=
  rn_callS (as := [a1, a2, a3]) pc' hd hp hw rfl rfl hm hE (Or.inl rfl) kk
theorem rn_callS3A (pc' : Nat) {idx c1 s1 : Nat} {y : av_M} {a1 a2 a3 : av_V} {Ψ : Option av_V → av_H → Prop} (hd : decode M.2.1 pc = .ok (.invokestatic idx, 3)) (hp : pc + 3 = pc') (hw : av_cwS M.1.cls idx y 3) (hm : (st.map av_cat).sum ≤ 8) (hE : av_Ev sc y d true c1 s1 [a1, a2, a3] h Ψ) (hal : al = true) (hok : av_ok lv st h = true) (kk : ∀ r h', Ψ r h' → av_Rn sc M (d + 1) al n0 bc bs pc' lv (r.toList ++ st) h' Φ) : av_Rn sc M (d + 1) al n0 (bc + c1) (bs + s1) pc lv (a3 :: a2 :: a1 :: st) h Φ :=
  rn_callS (as := [a1, a2, a3]) pc' hd hp hw rfl rfl hm hE (Or.inr ⟨hal, hok⟩) kk
theorem rn_callS4 (pc' : Nat) {idx : Nat} {y : av_M} {a1 a2 a3 a4 : av_V} {Ψ : Option av_V → av_H → Prop} (hd : decode M.2.1 pc = .ok (.invokestatic idx, 3)) (hp : pc + 3 = pc') (hw : av_cwS M.1.cls idx y 4) (hm : (st.map av_cat).sum ≤ 8) (hE : av_Ev sc y d false 0 0 [a1, a2, a3, a4] h Ψ) (kk : ∀ r h', Ψ r h' → av_Rn sc M (d + 1) al n0 bc bs pc' lv (r.toList ++ st) h' Φ) : av_Rn sc M (d + 1) al n0 bc bs pc lv (a4 :: a3 :: a2 :: a1 :: st) h Φ :=
  rn_callS (as := [a1, a2, a3, a4]) pc' hd hp hw rfl rfl hm hE (Or.inl rfl) kk
theorem rn_callS4A (pc' : Nat) {idx c1 s1 : Nat} {y : av_M} {a1 a2 a3 a4 : av_V} {Ψ : Option av_V → av_H → Prop} (hd : decode M.2.1 pc = .ok (.invokestatic idx, 3)) (hp : pc + 3 = pc') (hw : av_cwS M.1.cls idx y 4) (hm : (st.map av_cat).sum ≤ 8) (hE : av_Ev sc y d true c1 s1 [a1, a2, a3, a4] h Ψ) (hal : al = true) (hok : av_ok lv st h = true) (kk : ∀ r h', Ψ r h' → av_Rn sc M (d + 1) al n0 bc bs pc' lv (r.toList ++ st) h' Φ) : av_Rn sc M (d + 1) al n0 (bc + c1) (bs + s1) pc lv (a4 :: a3 :: a2 :: a1 :: st) h Φ :=
  rn_callS (as := [a1, a2, a3, a4]) pc' hd hp hw rfl rfl hm hE (Or.inr ⟨hal, hok⟩) kk
theorem rn_callS5 (pc' : Nat) {idx : Nat} {y : av_M} {a1 a2 a3 a4 a5 : av_V} {Ψ : Option av_V → av_H → Prop} (hd : decode M.2.1 pc = .ok (.invokestatic idx, 3)) (hp : pc + 3 = pc') (hw : av_cwS M.1.cls idx y 5) (hm : (st.map av_cat).sum ≤ 8) (hE : av_Ev sc y d false 0 0 [a1, a2, a3, a4, a5] h Ψ) (kk : ∀ r h', Ψ r h' → av_Rn sc M (d + 1) al n0 bc bs pc' lv (r.toList ++ st) h' Φ) : av_Rn sc M (d + 1) al n0 bc bs pc lv (a5 :: a4 :: a3 :: a2 :: a1 :: st) h Φ :=
  rn_callS (as := [a1, a2, a3, a4, a5]) pc' hd hp hw rfl rfl hm hE (Or.inl rfl) kk
theorem rn_callS5A (pc' : Nat) {idx c1 s1 : Nat} {y : av_M} {a1 a2 a3 a4 a5 : av_V} {Ψ : Option av_V → av_H → Prop} (hd : decode M.2.1 pc = .ok (.invokestatic idx, 3)) (hp : pc + 3 = pc') (hw : av_cwS M.1.cls idx y 5) (hm : (st.map av_cat).sum ≤ 8) (hE : av_Ev sc y d true c1 s1 [a1, a2, a3, a4, a5] h Ψ) (hal : al = true) (hok : av_ok lv st h = true) (kk : ∀ r h', Ψ r h' → av_Rn sc M (d + 1) al n0 bc bs pc' lv (r.toList ++ st) h' Φ) : av_Rn sc M (d + 1) al n0 (bc + c1) (bs + s1) pc lv (a5 :: a4 :: a3 :: a2 :: a1 :: st) h Φ :=
  rn_callS (as := [a1, a2, a3, a4, a5]) pc' hd hp hw rfl rfl hm hE (Or.inr ⟨hal, hok⟩) kk
theorem rn_callI0 (pc' : Nat) {idx q : Nat} {y : av_M}  {Ψ : Option av_V → av_H → Prop} (hd : decode M.2.1 pc = .ok (.invokespecial idx, 3)) (hp : pc + 3 = pc') (hw : av_cwI M.1.cls idx y 0) (hm : (st.map av_cat).sum ≤ 8) (hE : av_Ev sc y d false 0 0 [vR q] h Ψ) (kk : ∀ r h', Ψ r h' → av_Rn sc M (d + 1) al n0 bc bs pc' lv (r.toList ++ st) h' Φ) : av_Rn sc M (d + 1) al n0 bc bs pc lv (vR q :: st) h Φ :=
  rn_callI (as := []) pc' hd hp hw rfl rfl hm hE (Or.inl rfl) kk
theorem rn_callI0A (pc' : Nat) {idx q c1 s1 : Nat} {y : av_M}  {Ψ : Option av_V → av_H → Prop} (hd : decode M.2.1 pc = .ok (.invokespecial idx, 3)) (hp : pc + 3 = pc') (hw : av_cwI M.1.cls idx y 0) (hm : (st.map av_cat).sum ≤ 8) (hE : av_Ev sc y d true c1 s1 [vR q] h Ψ) (hal : al = true) (hok : av_ok lv st h = true) (kk : ∀ r h', Ψ r h' → av_Rn sc M (d + 1) al n0 bc bs pc' lv (r.toList ++ st) h' Φ) : av_Rn sc M (d + 1) al n0 (bc + c1) (bs + s1) pc lv (vR q :: st) h Φ :=
  rn_callI (as := []) pc' hd hp hw rfl rfl hm hE (Or.inr ⟨hal, hok⟩) kk
theorem rn_callI1 (pc' : Nat) {idx q : Nat} {y : av_M} {a1 : av_V} {Ψ : Option av_V → av_H → Prop} (hd : decode M.2.1 pc = .ok (.invokespecial idx, 3)) (hp : pc + 3 = pc') (hw : av_cwI M.1.cls idx y 1) (hm : (st.map av_cat).sum ≤ 8) (hE : av_Ev sc y d false 0 0 [vR q, a1] h Ψ) (kk : ∀ r h', Ψ r h' → av_Rn sc M (d + 1) al n0 bc bs pc' lv (r.toList ++ st) h' Φ) : av_Rn sc M (d + 1) al n0 bc bs pc lv (a1 :: vR q :: st) h Φ :=
  rn_callI (as := [a1]) pc' hd hp hw rfl rfl hm hE (Or.inl rfl) kk
theorem rn_callI1A (pc' : Nat) {idx q c1 s1 : Nat} {y : av_M} {a1 : av_V} {Ψ : Option av_V → av_H → Prop} (hd : decode M.2.1 pc = .ok (.invokespecial idx, 3)) (hp : pc + 3 = pc') (hw : av_cwI M.1.cls idx y 1) (hm : (st.map av_cat).sum ≤ 8) (hE : av_Ev sc y d true c1 s1 [vR q, a1] h Ψ) (hal : al = true) (hok : av_ok lv st h = true) (kk : ∀ r h', Ψ r h' → av_Rn sc M (d + 1) al n0 bc bs pc' lv (r.toList ++ st) h' Φ) : av_Rn sc M (d + 1) al n0 (bc + c1) (bs + s1) pc lv (a1 :: vR q :: st) h Φ :=
  rn_callI (as := [a1]) pc' hd hp hw rfl rfl hm hE (Or.inr ⟨hal, hok⟩) kk
theorem rn_callI2 (pc' : Nat) {idx q : Nat} {y : av_M} {a1 a2 : av_V} {Ψ : Option av_V → av_H → Prop} (hd : decode M.2.1 pc = .ok (.invokespecial idx, 3)) (hp : pc + 3 = pc') (hw : av_cwI M.1.cls idx y 2) (hm : (st.map av_cat).sum ≤ 8) (hE : av_Ev sc y d false 0 0 [vR q, a1, a2] h Ψ) (kk : ∀ r h', Ψ r h' → av_Rn sc M (d + 1) al n0 bc bs pc' lv (r.toList ++ st) h' Φ) : av_Rn sc M (d + 1) al n0 bc bs pc lv (a2 :: a1 :: vR q :: st) h Φ :=
  rn_callI (as := [a1, a2]) pc' hd hp hw rfl rfl hm hE (Or.inl rfl) kk
theorem rn_callI2A (pc' : Nat) {idx q c1 s1 : Nat} {y : av_M} {a1 a2 : av_V} {Ψ : Option av_V → av_H → Prop} (hd : decode M.2.1 pc = .ok (.invokespecial idx, 3)) (hp : pc + 3 = pc') (hw : av_cwI M.1.cls idx y 2) (hm : (st.map av_cat).sum ≤ 8) (hE : av_Ev sc y d true c1 s1 [vR q, a1, a2] h Ψ) (hal : al = true) (hok : av_ok lv st h = true) (kk : ∀ r h', Ψ r h' → av_Rn sc M (d + 1) al n0 bc bs pc' lv (r.toList ++ st) h' Φ) : av_Rn sc M (d + 1) al n0 (bc + c1) (bs + s1) pc lv (a2 :: a1 :: vR q :: st) h Φ :=
  rn_callI (as := [a1, a2]) pc' hd hp hw rfl rfl hm hE (Or.inr ⟨hal, hok⟩) kk
theorem rn_callI3 (pc' : Nat) {idx q : Nat} {y : av_M} {a1 a2 a3 : av_V} {Ψ : Option av_V → av_H → Prop} (hd : decode M.2.1 pc = .ok (.invokespecial idx, 3)) (hp : pc + 3 = pc') (hw : av_cwI M.1.cls idx y 3) (hm : (st.map av_cat).sum ≤ 8) (hE : av_Ev sc y d false 0 0 [vR q, a1, a2, a3] h Ψ) (kk : ∀ r h', Ψ r h' → av_Rn sc M (d + 1) al n0 bc bs pc' lv (r.toList ++ st) h' Φ) : av_Rn sc M (d + 1) al n0 bc bs pc lv (a3 :: a2 :: a1 :: vR q :: st) h Φ :=
  rn_callI (as := [a1, a2, a3]) pc' hd hp hw rfl rfl hm hE (Or.inl rfl) kk
theorem rn_callI3A (pc' : Nat) {idx q c1 s1 : Nat} {y : av_M} {a1 a2 a3 : av_V} {Ψ : Option av_V → av_H → Prop} (hd : decode M.2.1 pc = .ok (.invokespecial idx, 3)) (hp : pc + 3 = pc') (hw : av_cwI M.1.cls idx y 3) (hm : (st.map av_cat).sum ≤ 8) (hE : av_Ev sc y d true c1 s1 [vR q, a1, a2, a3] h Ψ) (hal : al = true) (hok : av_ok lv st h = true) (kk : ∀ r h', Ψ r h' → av_Rn sc M (d + 1) al n0 bc bs pc' lv (r.toList ++ st) h' Φ) : av_Rn sc M (d + 1) al n0 (bc + c1) (bs + s1) pc lv (a3 :: a2 :: a1 :: vR q :: st) h Φ :=
  rn_callI (as := [a1, a2, a3]) pc' hd hp hw rfl rfl hm hE (Or.inr ⟨hal, hok⟩) kk
theorem rn_callI4 (pc' : Nat) {idx q : Nat} {y : av_M} {a1 a2 a3 a4 : av_V} {Ψ : Option av_V → av_H → Prop} (hd : decode M.2.1 pc = .ok (.invokespecial idx, 3)) (hp : pc + 3 = pc') (hw : av_cwI M.1.cls idx y 4) (hm : (st.map av_cat).sum ≤ 8) (hE : av_Ev sc y d false 0 0 [vR q, a1, a2, a3, a4] h Ψ) (kk : ∀ r h', Ψ r h' → av_Rn sc M (d + 1) al n0 bc bs pc' lv (r.toList ++ st) h' Φ) : av_Rn sc M (d + 1) al n0 bc bs pc lv (a4 :: a3 :: a2 :: a1 :: vR q :: st) h Φ :=
  rn_callI (as := [a1, a2, a3, a4]) pc' hd hp hw rfl rfl hm hE (Or.inl rfl) kk
theorem rn_callI4A (pc' : Nat) {idx q c1 s1 : Nat} {y : av_M} {a1 a2 a3 a4 : av_V} {Ψ : Option av_V → av_H → Prop} (hd : decode M.2.1 pc = .ok (.invokespecial idx, 3)) (hp : pc + 3 = pc') (hw : av_cwI M.1.cls idx y 4) (hm : (st.map av_cat).sum ≤ 8) (hE : av_Ev sc y d true c1 s1 [vR q, a1, a2, a3, a4] h Ψ) (hal : al = true) (hok : av_ok lv st h = true) (kk : ∀ r h', Ψ r h' → av_Rn sc M (d + 1) al n0 bc bs pc' lv (r.toList ++ st) h' Φ) : av_Rn sc M (d + 1) al n0 (bc + c1) (bs + s1) pc lv (a4 :: a3 :: a2 :: a1 :: vR q :: st) h Φ :=
  rn_callI (as := [a1, a2, a3, a4]) pc' hd hp hw rfl rfl hm hE (Or.inr ⟨hal, hok⟩) kk
theorem rn_callI5 (pc' : Nat) {idx q : Nat} {y : av_M} {a1 a2 a3 a4 a5 : av_V} {Ψ : Option av_V → av_H → Prop} (hd : decode M.2.1 pc = .ok (.invokespecial idx, 3)) (hp : pc + 3 = pc') (hw : av_cwI M.1.cls idx y 5) (hm : (st.map av_cat).sum ≤ 8) (hE : av_Ev sc y d false 0 0 [vR q, a1, a2, a3, a4, a5] h Ψ) (kk : ∀ r h', Ψ r h' → av_Rn sc M (d + 1) al n0 bc bs pc' lv (r.toList ++ st) h' Φ) : av_Rn sc M (d + 1) al n0 bc bs pc lv (a5 :: a4 :: a3 :: a2 :: a1 :: vR q :: st) h Φ :=
  rn_callI (as := [a1, a2, a3, a4, a5]) pc' hd hp hw rfl rfl hm hE (Or.inl rfl) kk
theorem rn_callI5A (pc' : Nat) {idx q c1 s1 : Nat} {y : av_M} {a1 a2 a3 a4 a5 : av_V} {Ψ : Option av_V → av_H → Prop} (hd : decode M.2.1 pc = .ok (.invokespecial idx, 3)) (hp : pc + 3 = pc') (hw : av_cwI M.1.cls idx y 5) (hm : (st.map av_cat).sum ≤ 8) (hE : av_Ev sc y d true c1 s1 [vR q, a1, a2, a3, a4, a5] h Ψ) (hal : al = true) (hok : av_ok lv st h = true) (kk : ∀ r h', Ψ r h' → av_Rn sc M (d + 1) al n0 bc bs pc' lv (r.toList ++ st) h' Φ) : av_Rn sc M (d + 1) al n0 (bc + c1) (bs + s1) pc lv (a5 :: a4 :: a3 :: a2 :: a1 :: vR q :: st) h Φ :=
  rn_callI (as := [a1, a2, a3, a4, a5]) pc' hd hp hw rfl rfl hm hE (Or.inr ⟨hal, hok⟩) kk
theorem rn_callN0 (pc' : Nat) {idx q : Nat} {y : av_M}  {Ψ : Option av_V → av_H → Prop} (hd : decode M.2.1 pc = .ok (.invokespecial idx, 3)) (hp : pc + 3 = pc') (hw : av_cwN M.1.cls idx y 0) (hm : (st.map av_cat).sum ≤ 8) (hE : av_Ev sc y d false 0 0 [vR q] h Ψ) (kk : ∀ r h', Ψ r h' → av_Rn sc M (d + 1) al n0 bc bs pc' lv (r.toList ++ st) h' Φ) : av_Rn sc M (d + 1) al n0 bc bs pc lv (vR q :: st) h Φ :=
  rn_callN (as := []) pc' hd hp hw rfl rfl hm hE (Or.inl rfl) kk
theorem rn_callN0A (pc' : Nat) {idx q c1 s1 : Nat} {y : av_M}  {Ψ : Option av_V → av_H → Prop} (hd : decode M.2.1 pc = .ok (.invokespecial idx, 3)) (hp : pc + 3 = pc') (hw : av_cwN M.1.cls idx y 0) (hm : (st.map av_cat).sum ≤ 8) (hE : av_Ev sc y d true c1 s1 [vR q] h Ψ) (hal : al = true) (hok : av_ok lv st h = true) (kk : ∀ r h', Ψ r h' → av_Rn sc M (d + 1) al n0 bc bs pc' lv (r.toList ++ st) h' Φ) : av_Rn sc M (d + 1) al n0 (bc + c1) (bs + s1) pc lv (vR q :: st) h Φ :=
  rn_callN (as := []) pc' hd hp hw rfl rfl hm hE (Or.inr ⟨hal, hok⟩) kk
theorem rn_callN1 (pc' : Nat) {idx q : Nat} {y : av_M} {a1 : av_V} {Ψ : Option av_V → av_H → Prop} (hd : decode M.2.1 pc = .ok (.invokespecial idx, 3)) (hp : pc + 3 = pc') (hw : av_cwN M.1.cls idx y 1) (hm : (st.map av_cat).sum ≤ 8) (hE : av_Ev sc y d false 0 0 [vR q, a1] h Ψ) (kk : ∀ r h', Ψ r h' → av_Rn sc M (d + 1) al n0 bc bs pc' lv (r.toList ++ st) h' Φ) : av_Rn sc M (d + 1) al n0 bc bs pc lv (a1 :: vR q :: st) h Φ :=
  rn_callN (as := [a1]) pc' hd hp hw rfl rfl hm hE (Or.inl rfl) kk
theorem rn_callN1A (pc' : Nat) {idx q c1 s1 : Nat} {y : av_M} {a1 : av_V} {Ψ : Option av_V → av_H → Prop} (hd : decode M.2.1 pc = .ok (.invokespecial idx, 3)) (hp : pc + 3 = pc') (hw : av_cwN M.1.cls idx y 1) (hm : (st.map av_cat).sum ≤ 8) (hE : av_Ev sc y d true c1 s1 [vR q, a1] h Ψ) (hal : al = true) (hok : av_ok lv st h = true) (kk : ∀ r h', Ψ r h' → av_Rn sc M (d + 1) al n0 bc bs pc' lv (r.toList ++ st) h' Φ) : av_Rn sc M (d + 1) al n0 (bc + c1) (bs + s1) pc lv (a1 :: vR q :: st) h Φ :=
  rn_callN (as := [a1]) pc' hd hp hw rfl rfl hm hE (Or.inr ⟨hal, hok⟩) kk
theorem rn_callN2 (pc' : Nat) {idx q : Nat} {y : av_M} {a1 a2 : av_V} {Ψ : Option av_V → av_H → Prop} (hd : decode M.2.1 pc = .ok (.invokespecial idx, 3)) (hp : pc + 3 = pc') (hw : av_cwN M.1.cls idx y 2) (hm : (st.map av_cat).sum ≤ 8) (hE : av_Ev sc y d false 0 0 [vR q, a1, a2] h Ψ) (kk : ∀ r h', Ψ r h' → av_Rn sc M (d + 1) al n0 bc bs pc' lv (r.toList ++ st) h' Φ) : av_Rn sc M (d + 1) al n0 bc bs pc lv (a2 :: a1 :: vR q :: st) h Φ :=
  rn_callN (as := [a1, a2]) pc' hd hp hw rfl rfl hm hE (Or.inl rfl) kk
theorem rn_callN2A (pc' : Nat) {idx q c1 s1 : Nat} {y : av_M} {a1 a2 : av_V} {Ψ : Option av_V → av_H → Prop} (hd : decode M.2.1 pc = .ok (.invokespecial idx, 3)) (hp : pc + 3 = pc') (hw : av_cwN M.1.cls idx y 2) (hm : (st.map av_cat).sum ≤ 8) (hE : av_Ev sc y d true c1 s1 [vR q, a1, a2] h Ψ) (hal : al = true) (hok : av_ok lv st h = true) (kk : ∀ r h', Ψ r h' → av_Rn sc M (d + 1) al n0 bc bs pc' lv (r.toList ++ st) h' Φ) : av_Rn sc M (d + 1) al n0 (bc + c1) (bs + s1) pc lv (a2 :: a1 :: vR q :: st) h Φ :=
  rn_callN (as := [a1, a2]) pc' hd hp hw rfl rfl hm hE (Or.inr ⟨hal, hok⟩) kk
theorem rn_callN3 (pc' : Nat) {idx q : Nat} {y : av_M} {a1 a2 a3 : av_V} {Ψ : Option av_V → av_H → Prop} (hd : decode M.2.1 pc = .ok (.invokespecial idx, 3)) (hp : pc + 3 = pc') (hw : av_cwN M.1.cls idx y 3) (hm : (st.map av_cat).sum ≤ 8) (hE : av_Ev sc y d false 0 0 [vR q, a1, a2, a3] h Ψ) (kk : ∀ r h', Ψ r h' → av_Rn sc M (d + 1) al n0 bc bs pc' lv (r.toList ++ st) h' Φ) : av_Rn sc M (d + 1) al n0 bc bs pc lv (a3 :: a2 :: a1 :: vR q :: st) h Φ :=
  rn_callN (as := [a1, a2, a3]) pc' hd hp hw rfl rfl hm hE (Or.inl rfl) kk
theorem rn_callN3A (pc' : Nat) {idx q c1 s1 : Nat} {y : av_M} {a1 a2 a3 : av_V} {Ψ : Option av_V → av_H → Prop} (hd : decode M.2.1 pc = .ok (.invokespecial idx, 3)) (hp : pc + 3 = pc') (hw : av_cwN M.1.cls idx y 3) (hm : (st.map av_cat).sum ≤ 8) (hE : av_Ev sc y d true c1 s1 [vR q, a1, a2, a3] h Ψ) (hal : al = true) (hok : av_ok lv st h = true) (kk : ∀ r h', Ψ r h' → av_Rn sc M (d + 1) al n0 bc bs pc' lv (r.toList ++ st) h' Φ) : av_Rn sc M (d + 1) al n0 (bc + c1) (bs + s1) pc lv (a3 :: a2 :: a1 :: vR q :: st) h Φ :=
  rn_callN (as := [a1, a2, a3]) pc' hd hp hw rfl rfl hm hE (Or.inr ⟨hal, hok⟩) kk
theorem rn_callN4 (pc' : Nat) {idx q : Nat} {y : av_M} {a1 a2 a3 a4 : av_V} {Ψ : Option av_V → av_H → Prop} (hd : decode M.2.1 pc = .ok (.invokespecial idx, 3)) (hp : pc + 3 = pc') (hw : av_cwN M.1.cls idx y 4) (hm : (st.map av_cat).sum ≤ 8) (hE : av_Ev sc y d false 0 0 [vR q, a1, a2, a3, a4] h Ψ) (kk : ∀ r h', Ψ r h' → av_Rn sc M (d + 1) al n0 bc bs pc' lv (r.toList ++ st) h' Φ) : av_Rn sc M (d + 1) al n0 bc bs pc lv (a4 :: a3 :: a2 :: a1 :: vR q :: st) h Φ :=
  rn_callN (as := [a1, a2, a3, a4]) pc' hd hp hw rfl rfl hm hE (Or.inl rfl) kk
theorem rn_callN4A (pc' : Nat) {idx q c1 s1 : Nat} {y : av_M} {a1 a2 a3 a4 : av_V} {Ψ : Option av_V → av_H → Prop} (hd : decode M.2.1 pc = .ok (.invokespecial idx, 3)) (hp : pc + 3 = pc') (hw : av_cwN M.1.cls idx y 4) (hm : (st.map av_cat).sum ≤ 8) (hE : av_Ev sc y d true c1 s1 [vR q, a1, a2, a3, a4] h Ψ) (hal : al = true) (hok : av_ok lv st h = true) (kk : ∀ r h', Ψ r h' → av_Rn sc M (d + 1) al n0 bc bs pc' lv (r.toList ++ st) h' Φ) : av_Rn sc M (d + 1) al n0 (bc + c1) (bs + s1) pc lv (a4 :: a3 :: a2 :: a1 :: vR q :: st) h Φ :=
  rn_callN (as := [a1, a2, a3, a4]) pc' hd hp hw rfl rfl hm hE (Or.inr ⟨hal, hok⟩) kk
theorem rn_callN5 (pc' : Nat) {idx q : Nat} {y : av_M} {a1 a2 a3 a4 a5 : av_V} {Ψ : Option av_V → av_H → Prop} (hd : decode M.2.1 pc = .ok (.invokespecial idx, 3)) (hp : pc + 3 = pc') (hw : av_cwN M.1.cls idx y 5) (hm : (st.map av_cat).sum ≤ 8) (hE : av_Ev sc y d false 0 0 [vR q, a1, a2, a3, a4, a5] h Ψ) (kk : ∀ r h', Ψ r h' → av_Rn sc M (d + 1) al n0 bc bs pc' lv (r.toList ++ st) h' Φ) : av_Rn sc M (d + 1) al n0 bc bs pc lv (a5 :: a4 :: a3 :: a2 :: a1 :: vR q :: st) h Φ :=
  rn_callN (as := [a1, a2, a3, a4, a5]) pc' hd hp hw rfl rfl hm hE (Or.inl rfl) kk
theorem rn_callN5A (pc' : Nat) {idx q c1 s1 : Nat} {y : av_M} {a1 a2 a3 a4 a5 : av_V} {Ψ : Option av_V → av_H → Prop} (hd : decode M.2.1 pc = .ok (.invokespecial idx, 3)) (hp : pc + 3 = pc') (hw : av_cwN M.1.cls idx y 5) (hm : (st.map av_cat).sum ≤ 8) (hE : av_Ev sc y d true c1 s1 [vR q, a1, a2, a3, a4, a5] h Ψ) (hal : al = true) (hok : av_ok lv st h = true) (kk : ∀ r h', Ψ r h' → av_Rn sc M (d + 1) al n0 bc bs pc' lv (r.toList ++ st) h' Φ) : av_Rn sc M (d + 1) al n0 (bc + c1) (bs + s1) pc lv (a5 :: a4 :: a3 :: a2 :: a1 :: vR q :: st) h Φ :=
  rn_callN (as := [a1, a2, a3, a4, a5]) pc' hd hp hw rfl rfl hm hE (Or.inr ⟨hal, hok⟩) kk
end
end
section
theorem av_mem {w : Cond} (h : w ∈ lw_tbl) (g : goodWord w = true) : w ∈ av_T := List.mem_filter.mpr ⟨h, g⟩
theorem av_t1 {w : Cond} (i : Nat) (h : tables_1_1[i]? = some w) (g : goodWord w = true) : w ∈ av_T := av_mem (List.mem_append_right _ (List.mem_append_left _ (List.mem_of_getElem? h))) g
theorem av_t2 {w : Cond} (i : Nat) (h : tables_1_2[i]? = some w) (g : goodWord w = true) : w ∈ av_T := av_mem (List.mem_append_right _ (List.mem_append_right _ (List.mem_append_left _ (List.mem_of_getElem? h)))) g
theorem av_t3 {w : Cond} (i : Nat) (h : tables_1_3[i]? = some w) (g : goodWord w = true) : w ∈ av_T := av_mem (List.mem_append_right _ (List.mem_append_right _ (List.mem_append_right _ (List.mem_of_getElem? h)))) g
theorem av_s1 {q : MethodName × Nat} (i : Nat) (h : lw_privs_1[i]? = some q) : Cond.selects q.1.cls q.1 q.1 ∈ av_T := av_mem (List.mem_append_left _ (List.mem_map.mpr ⟨q, List.mem_append_left _ (List.mem_of_getElem? h), rfl⟩)) rfl
theorem av_s2 {q : MethodName × Nat} (i : Nat) (h : lw_privs_2[i]? = some q) : Cond.selects q.1.cls q.1 q.1 ∈ av_T := av_mem (List.mem_append_left _ (List.mem_map.mpr ⟨q, List.mem_append_right _ (List.mem_append_left _ (List.mem_of_getElem? h)), rfl⟩)) rfl
theorem av_s3 {q : MethodName × Nat} (i : Nat) (h : lw_privs_3[i]? = some q) : Cond.selects q.1.cls q.1 q.1 ∈ av_T := av_mem (List.mem_append_left _ (List.mem_map.mpr ⟨q, List.mem_append_right _ (List.mem_append_right _ (List.mem_of_getElem? h)), rfl⟩)) rfl
theorem in0_L : ∀ w ∈ u_ws R_L T_L 7, w ∈ lw_tbl := by decide +kernel
theorem in1_L : ∀ w ∈ u_ws R_L T_L 7, goodWord w = true := by decide +kernel
theorem in_L : ∀ w ∈ u_ws R_L T_L 7, w ∈ av_T := fun w h => av_mem (in0_L w h) (in1_L w h)
theorem in0_G : ∀ w ∈ u_ws R_G T_G 6, w ∈ lw_tbl := by decide +kernel
theorem in1_G : ∀ w ∈ u_ws R_G T_G 6, goodWord w = true := by decide +kernel
theorem in_G : ∀ w ∈ u_ws R_G T_G 6, w ∈ av_T := fun w h => av_mem (in0_G w h) (in1_G w h)
theorem in0_N : ∀ w ∈ u_ws R_N T_N 2, w ∈ lw_tbl := by decide +kernel
theorem in1_N : ∀ w ∈ u_ws R_N T_N 2, goodWord w = true := by decide +kernel
theorem in_N : ∀ w ∈ u_ws R_N T_N 2, w ∈ av_T := fun w h => av_mem (in0_N w h) (in1_N w h)
theorem in0_T : ∀ w ∈ u_ws R_T T_T 3, w ∈ lw_tbl := by decide +kernel
theorem in1_T : ∀ w ∈ u_ws R_T T_T 3, goodWord w = true := by decide +kernel
theorem in_T : ∀ w ∈ u_ws R_T T_T 3, w ∈ av_T := fun w h => av_mem (in0_T w h) (in1_T w h)
theorem in0_P : ∀ w ∈ u_ws R_P T_P 9, w ∈ lw_tbl := by decide +kernel
theorem in1_P : ∀ w ∈ u_ws R_P T_P 9, goodWord w = true := by decide +kernel
theorem in_P : ∀ w ∈ u_ws R_P T_P 9, w ∈ av_T := fun w h => av_mem (in0_P w h) (in1_P w h)
theorem in0_C : ∀ w ∈ u_ws R_C T_C 7, w ∈ lw_tbl := by decide +kernel
theorem in1_C : ∀ w ∈ u_ws R_C T_C 7, goodWord w = true := by decide +kernel
theorem in_C : ∀ w ∈ u_ws R_C T_C 7, w ∈ av_T := fun w h => av_mem (in0_C w h) (in1_C w h)
theorem in0_M : ∀ w ∈ u_ws R_M T_M 22, w ∈ lw_tbl := by decide +kernel
theorem in1_M : ∀ w ∈ u_ws R_M T_M 22, goodWord w = true := by decide +kernel
theorem in_M : ∀ w ∈ u_ws R_M T_M 22, w ∈ av_T := fun w h => av_mem (in0_M w h) (in1_M w h)
theorem cw_L_3 : Cond.methodLink R_L 3 objectInit ∈ av_T ∧ Cond.instanceMethod objectInit ∈ av_T ∧ Cond.code objectInit ⟨#[0xb1]⟩ 1 none ∈ av_T := ⟨(av_t1 15 rfl rfl), (av_t1 16 rfl rfl), (av_t1 17 rfl rfl)⟩
theorem cw_L_9 : av_cwM R_L 9 Lib.Math.min.name Lib.Math.min.code 2 := ⟨(av_t1 18 rfl rfl), (av_t1 19 rfl rfl), (av_t1 2 rfl rfl), (av_t1 20 rfl rfl)⟩
theorem cw_L_15 : av_cwM R_L 15 Lib.Math.max.name Lib.Math.max.code 2 := ⟨(av_t1 21 rfl rfl), (av_t1 22 rfl rfl), (av_t1 2 rfl rfl), (av_t1 23 rfl rfl)⟩
theorem fp_L_18 : av_fp R_L 18 0 0 true .int := ⟨R_L, T_L, 7, ty_L, rfl, by decide, in_L, (av_t1 179 rfl rfl), tok_L, nm_L, rfl, by decide +kernel, rfl⟩
theorem nw_L_22 : av_nw R_L 22 1 [vN, vN, vN, vN, vN, vI 0] := ⟨R_G, T_G, ty_G, rfl, in_G, tok_G, (av_t1 24 rfl rfl), (av_t1 25 rfl rfl), (av_t1 3 rfl rfl), by decide +kernel, rfl⟩
theorem cw_L_24 : av_cwI R_L 24 m_G_init 0 := ⟨⟨(av_t1 28 rfl rfl), (av_t1 26 rfl rfl), (av_t1 3 rfl rfl), ⟨by decide +kernel, by decide +kernel⟩, by decide +kernel, by decide⟩, rfl, (av_t1 27 rfl rfl), rfl⟩
theorem fp_L_25 : av_fp R_L 25 0 1 true (.object "LayoutOptimizer$Graph") := ⟨R_L, T_L, 7, ty_L, rfl, by decide, in_L, (av_t1 180 rfl rfl), tok_L, nm_L, rfl, by decide +kernel, rfl⟩
theorem nw_L_29 : av_nw R_L 29 2 [vN, vN] := ⟨R_N, T_N, ty_N, rfl, in_N, tok_N, (av_t1 68 rfl rfl), (av_t1 69 rfl rfl), (av_t1 5 rfl rfl), by decide +kernel, rfl⟩
theorem cw_L_31 : av_cwN R_L 31 m_N_init 0 := ⟨(av_t1 72 rfl rfl), ⟨R_L, List.mem_of_getElem? (i := 0) rfl⟩, (av_t1 5 rfl rfl), ⟨by decide +kernel, by decide +kernel⟩, by decide +kernel, by decide, rfl, (av_t1 71 rfl rfl), rfl⟩
theorem fp_L_32 : av_fp R_L 32 0 2 true (.object "LayoutOptimizer$Counts") := ⟨R_L, T_L, 7, ty_L, rfl, by decide, in_L, (av_t1 181 rfl rfl), tok_L, nm_L, rfl, by decide +kernel, rfl⟩
theorem nw_L_36 : av_nw R_L 36 3 [vN, vN, vI 0] := ⟨R_T, T_T, ty_T, rfl, in_T, tok_T, (av_t1 85 rfl rfl), (av_t1 86 rfl rfl), (av_t1 6 rfl rfl), by decide +kernel, rfl⟩
theorem cw_L_38 : av_cwN R_L 38 m_T_init 0 := ⟨(av_t1 89 rfl rfl), ⟨R_L, List.mem_of_getElem? (i := 1) rfl⟩, (av_t1 6 rfl rfl), ⟨by decide +kernel, by decide +kernel⟩, by decide +kernel, by decide, rfl, (av_t1 88 rfl rfl), rfl⟩
theorem fp_L_39 : av_fp R_L 39 0 3 true (.object "LayoutOptimizer$Trail") := ⟨R_L, T_L, 7, ty_L, rfl, by decide, in_L, (av_t1 182 rfl rfl), tok_L, nm_L, rfl, by decide +kernel, rfl⟩
theorem nw_L_43 : av_nw R_L 43 4 [vN, vI 0, vI 0, vN, vN, vN, vN, vN, vN] := ⟨R_P, T_P, ty_P, rfl, in_P, tok_P, (av_t1 107 rfl rfl), (av_t1 108 rfl rfl), (av_t1 7 rfl rfl), by decide +kernel, rfl⟩
theorem cw_L_45 : av_cwN R_L 45 m_P_init 0 := ⟨(av_t1 111 rfl rfl), ⟨R_L, List.mem_of_getElem? (i := 2) rfl⟩, (av_t1 7 rfl rfl), ⟨by decide +kernel, by decide +kernel⟩, by decide +kernel, by decide, rfl, (av_t1 110 rfl rfl), rfl⟩
theorem fp_L_46 : av_fp R_L 46 0 4 true (.object "LayoutOptimizer$Placing") := ⟨R_L, T_L, 7, ty_L, rfl, by decide, in_L, (av_t1 183 rfl rfl), tok_L, nm_L, rfl, by decide +kernel, rfl⟩
theorem nw_L_50 : av_nw R_L 50 5 [vN, vN, vN, vN, vI 0, vI 0, vI 0] := ⟨R_C, T_C, ty_C, rfl, in_C, tok_C, (av_t1 144 rfl rfl), (av_t1 145 rfl rfl), (av_t1 8 rfl rfl), by decide +kernel, rfl⟩
theorem cw_L_52 : av_cwN R_L 52 m_C_init 0 := ⟨(av_t1 148 rfl rfl), ⟨R_L, List.mem_of_getElem? (i := 3) rfl⟩, (av_t1 8 rfl rfl), ⟨by decide +kernel, by decide +kernel⟩, by decide +kernel, by decide, rfl, (av_t1 147 rfl rfl), rfl⟩
theorem fp_L_53 : av_fp R_L 53 0 5 true (.object "LayoutOptimizer$Code") := ⟨R_L, T_L, 7, ty_L, rfl, by decide, in_L, (av_t1 184 rfl rfl), tok_L, nm_L, rfl, by decide +kernel, rfl⟩
theorem fp_L_57 : av_fp R_L 57 0 6 false .boolean := ⟨R_L, T_L, 7, ty_L, rfl, by decide, in_L, (av_t1 185 rfl rfl), tok_L, nm_L, rfl, by decide +kernel, rfl⟩
theorem cw_G_3 : Cond.methodLink R_G 3 objectInit ∈ av_T ∧ Cond.instanceMethod objectInit ∈ av_T ∧ Cond.code objectInit ⟨#[0xb1]⟩ 1 none ∈ av_T := ⟨(av_t1 29 rfl rfl), (av_t1 16 rfl rfl), (av_t1 17 rfl rfl)⟩
theorem fp_G_9 : av_fp R_G 9 1 0 true (.array .int) := ⟨R_G, T_G, 6, ty_G, rfl, by decide, in_G, (av_t1 33 rfl rfl), tok_G, nm_G, rfl, by decide +kernel, rfl⟩
theorem fp_G_15 : av_fp R_G 15 1 1 true (.array .int) := ⟨R_G, T_G, 6, ty_G, rfl, by decide, in_G, (av_t1 35 rfl rfl), tok_G, nm_G, rfl, by decide +kernel, rfl⟩
theorem fp_G_18 : av_fp R_G 18 1 2 true (.array .int) := ⟨R_G, T_G, 6, ty_G, rfl, by decide, in_G, (av_t1 38 rfl rfl), tok_G, nm_G, rfl, by decide +kernel, rfl⟩
theorem fp_G_21 : av_fp R_G 21 1 3 true (.array .int) := ⟨R_G, T_G, 6, ty_G, rfl, by decide, in_G, (av_t1 43 rfl rfl), tok_G, nm_G, rfl, by decide +kernel, rfl⟩
theorem fp_G_24 : av_fp R_G 24 1 4 true (.array .int) := ⟨R_G, T_G, 6, ty_G, rfl, by decide, in_G, (av_t1 48 rfl rfl), tok_G, nm_G, rfl, by decide +kernel, rfl⟩
theorem fp_G_27 : av_fp R_G 27 1 5 false .int := ⟨R_G, T_G, 6, ty_G, rfl, by decide, in_G, (av_t1 50 rfl rfl), tok_G, nm_G, rfl, by decide +kernel, rfl⟩
theorem fd_G_24 : av_fd R_G 24 1 4 := ⟨R_G, T_G, 6, rfl, by decide, in_G, (av_t1 48 rfl rfl)⟩
theorem cw_G_31 : av_cwS R_G 31 m_A_fill 2 := ⟨⟨(av_t1 32 rfl rfl), (av_t1 30 rfl rfl), (av_t1 4 rfl rfl), ⟨by decide +kernel, by decide +kernel⟩, by decide +kernel, by decide⟩, (av_t1 31 rfl rfl)⟩
theorem cw_N_3 : Cond.methodLink R_N 3 objectInit ∈ av_T ∧ Cond.instanceMethod objectInit ∈ av_T ∧ Cond.code objectInit ⟨#[0xb1]⟩ 1 none ∈ av_T := ⟨(av_t1 73 rfl rfl), (av_t1 16 rfl rfl), (av_t1 17 rfl rfl)⟩
theorem fp_N_9 : av_fp R_N 9 2 0 true (.array .int) := ⟨R_N, T_N, 2, ty_N, rfl, by decide, in_N, (av_t1 74 rfl rfl), tok_N, nm_N, rfl, by decide +kernel, rfl⟩
theorem fp_N_15 : av_fp R_N 15 2 1 true (.array .int) := ⟨R_N, T_N, 2, ty_N, rfl, by decide, in_N, (av_t1 77 rfl rfl), tok_N, nm_N, rfl, by decide +kernel, rfl⟩
theorem cw_T_3 : Cond.methodLink R_T 3 objectInit ∈ av_T ∧ Cond.instanceMethod objectInit ∈ av_T ∧ Cond.code objectInit ⟨#[0xb1]⟩ 1 none ∈ av_T := ⟨(av_t1 90 rfl rfl), (av_t1 16 rfl rfl), (av_t1 17 rfl rfl)⟩
theorem fp_T_9 : av_fp R_T 9 3 0 true (.array .int) := ⟨R_T, T_T, 3, ty_T, rfl, by decide, in_T, (av_t1 91 rfl rfl), tok_T, nm_T, rfl, by decide +kernel, rfl⟩
theorem fp_T_15 : av_fp R_T 15 3 1 true (.array .int) := ⟨R_T, T_T, 3, ty_T, rfl, by decide, in_T, (av_t1 94 rfl rfl), tok_T, nm_T, rfl, by decide +kernel, rfl⟩
theorem fp_T_18 : av_fp R_T 18 3 2 false .int := ⟨R_T, T_T, 3, ty_T, rfl, by decide, in_T, (av_t1 97 rfl rfl), tok_T, nm_T, rfl, by decide +kernel, rfl⟩
theorem cw_P_3 : Cond.methodLink R_P 3 objectInit ∈ av_T ∧ Cond.instanceMethod objectInit ∈ av_T ∧ Cond.code objectInit ⟨#[0xb1]⟩ 1 none ∈ av_T := ⟨(av_t1 112 rfl rfl), (av_t1 16 rfl rfl), (av_t1 17 rfl rfl)⟩
theorem fp_P_9 : av_fp R_P 9 4 0 true (.array .int) := ⟨R_P, T_P, 9, ty_P, rfl, by decide, in_P, (av_t1 113 rfl rfl), tok_P, nm_P, rfl, by decide +kernel, rfl⟩
theorem fp_P_15 : av_fp R_P 15 4 1 false .int := ⟨R_P, T_P, 9, ty_P, rfl, by decide, in_P, (av_t1 115 rfl rfl), tok_P, nm_P, rfl, by decide +kernel, rfl⟩
theorem fp_P_19 : av_fp R_P 19 4 2 false .int := ⟨R_P, T_P, 9, ty_P, rfl, by decide, in_P, (av_t1 117 rfl rfl), tok_P, nm_P, rfl, by decide +kernel, rfl⟩
theorem fp_P_22 : av_fp R_P 22 4 3 true (.array .int) := ⟨R_P, T_P, 9, ty_P, rfl, by decide, in_P, (av_t1 119 rfl rfl), tok_P, nm_P, rfl, by decide +kernel, rfl⟩
theorem fp_P_25 : av_fp R_P 25 4 4 true (.array .int) := ⟨R_P, T_P, 9, ty_P, rfl, by decide, in_P, (av_t1 120 rfl rfl), tok_P, nm_P, rfl, by decide +kernel, rfl⟩
theorem fp_P_28 : av_fp R_P 28 4 5 true (.array .int) := ⟨R_P, T_P, 9, ty_P, rfl, by decide, in_P, (av_t1 121 rfl rfl), tok_P, nm_P, rfl, by decide +kernel, rfl⟩
theorem fp_P_31 : av_fp R_P 31 4 6 true (.array .int) := ⟨R_P, T_P, 9, ty_P, rfl, by decide, in_P, (av_t1 122 rfl rfl), tok_P, nm_P, rfl, by decide +kernel, rfl⟩
theorem fp_P_34 : av_fp R_P 34 4 7 true (.array .int) := ⟨R_P, T_P, 9, ty_P, rfl, by decide, in_P, (av_t1 123 rfl rfl), tok_P, nm_P, rfl, by decide +kernel, rfl⟩
theorem fp_P_37 : av_fp R_P 37 4 8 true (.array .int) := ⟨R_P, T_P, 9, ty_P, rfl, by decide, in_P, (av_t1 124 rfl rfl), tok_P, nm_P, rfl, by decide +kernel, rfl⟩
theorem cw_C_3 : Cond.methodLink R_C 3 objectInit ∈ av_T ∧ Cond.instanceMethod objectInit ∈ av_T ∧ Cond.code objectInit ⟨#[0xb1]⟩ 1 none ∈ av_T := ⟨(av_t1 149 rfl rfl), (av_t1 16 rfl rfl), (av_t1 17 rfl rfl)⟩
theorem fp_C_9 : av_fp R_C 9 5 0 true (.array .int) := ⟨R_C, T_C, 7, ty_C, rfl, by decide, in_C, (av_t1 150 rfl rfl), tok_C, nm_C, rfl, by decide +kernel, rfl⟩
theorem fp_C_15 : av_fp R_C 15 5 1 true (.array .int) := ⟨R_C, T_C, 7, ty_C, rfl, by decide, in_C, (av_t1 152 rfl rfl), tok_C, nm_C, rfl, by decide +kernel, rfl⟩
theorem fp_C_18 : av_fp R_C 18 5 2 true (.array .int) := ⟨R_C, T_C, 7, ty_C, rfl, by decide, in_C, (av_t1 154 rfl rfl), tok_C, nm_C, rfl, by decide +kernel, rfl⟩
theorem fp_C_21 : av_fp R_C 21 5 3 true (.array .boolean) := ⟨R_C, T_C, 7, ty_C, rfl, by decide, in_C, (av_t1 156 rfl rfl), tok_C, nm_C, rfl, by decide +kernel, rfl⟩
theorem fp_C_25 : av_fp R_C 25 5 4 false .int := ⟨R_C, T_C, 7, ty_C, rfl, by decide, in_C, (av_t1 157 rfl rfl), tok_C, nm_C, rfl, by decide +kernel, rfl⟩
theorem fp_C_29 : av_fp R_C 29 5 5 false .int := ⟨R_C, T_C, 7, ty_C, rfl, by decide, in_C, (av_t1 159 rfl rfl), tok_C, nm_C, rfl, by decide +kernel, rfl⟩
theorem fp_C_32 : av_fp R_C 32 5 6 false .int := ⟨R_C, T_C, 7, ty_C, rfl, by decide, in_C, (av_t1 161 rfl rfl), tok_C, nm_C, rfl, by decide +kernel, rfl⟩
theorem fd_L_57 : av_fd R_L 57 0 6 := ⟨R_L, T_L, 7, rfl, by decide, in_L, (av_t1 185 rfl rfl)⟩
theorem fd_L_25 : av_fd R_L 25 0 1 := ⟨R_L, T_L, 7, rfl, by decide, in_L, (av_t1 180 rfl rfl)⟩
theorem fd_L_61 : av_fd R_L 61 1 5 := ⟨R_G, T_G, 6, rfl, by decide, in_G, (av_t1 53 rfl rfl)⟩
theorem cw_L_64 : av_cwV R_L 64 m_G_add 2 1 := ⟨⟨(av_t1 208 rfl rfl), (av_t1 205 rfl rfl), (av_t1 3 rfl rfl), ⟨by decide +kernel, by decide +kernel⟩, by decide +kernel, by decide⟩, (av_t1 206 rfl rfl), (av_t1 207 rfl rfl), T_G, 6, rfl⟩
theorem fd_G_27 : av_fd R_G 27 1 5 := ⟨R_G, T_G, 6, rfl, by decide, in_G, (av_t1 50 rfl rfl)⟩
theorem fd_G_9 : av_fd R_G 9 1 0 := ⟨R_G, T_G, 6, rfl, by decide, in_G, (av_t1 33 rfl rfl)⟩
theorem fd_G_15 : av_fd R_G 15 1 1 := ⟨R_G, T_G, 6, rfl, by decide, in_G, (av_t1 35 rfl rfl)⟩
theorem cw_G_37 : av_cwV R_G 37 m_G_setEnd 4 1 := ⟨⟨(av_t1 212 rfl rfl), (av_t1 209 rfl rfl), (av_t1 3 rfl rfl), ⟨by decide +kernel, by decide +kernel⟩, by decide +kernel, by decide⟩, (av_t1 210 rfl rfl), (av_t1 211 rfl rfl), T_G, 6, rfl⟩
theorem fd_G_18 : av_fd R_G 18 1 2 := ⟨R_G, T_G, 6, rfl, by decide, in_G, (av_t1 38 rfl rfl)⟩
theorem fd_G_21 : av_fd R_G 21 1 3 := ⟨R_G, T_G, 6, rfl, by decide, in_G, (av_t1 43 rfl rfl)⟩
theorem cw_L_67 : av_cwV R_L 67 m_G_canLead 2 1 := ⟨⟨(av_t1 220 rfl rfl), (av_t1 217 rfl rfl), (av_t1 3 rfl rfl), ⟨by decide +kernel, by decide +kernel⟩, by decide +kernel, by decide⟩, (av_t1 218 rfl rfl), (av_t1 219 rfl rfl), T_G, 6, rfl⟩
theorem cw_L_71 : av_cwV R_L 71 m_G_setEnd 4 1 := ⟨⟨(av_t1 212 rfl rfl), (av_t1 225 rfl rfl), (av_t1 3 rfl rfl), ⟨by decide +kernel, by decide +kernel⟩, by decide +kernel, by decide⟩, (av_t1 210 rfl rfl), (av_t1 211 rfl rfl), T_G, 6, rfl⟩
theorem fd_L_32 : av_fd R_L 32 0 2 := ⟨R_L, T_L, 7, rfl, by decide, in_L, (av_t1 181 rfl rfl)⟩
theorem cw_L_75 : av_cwV R_L 75 m_N_clearEdges 1 2 := ⟨⟨(av_t1 229 rfl rfl), (av_t1 226 rfl rfl), (av_t1 5 rfl rfl), ⟨by decide +kernel, by decide +kernel⟩, by decide +kernel, by decide⟩, (av_t1 227 rfl rfl), (av_t1 228 rfl rfl), T_N, 2, rfl⟩
theorem cw_G_41 : av_cwV R_G 41 m_G_has 1 1 := ⟨⟨(av_t1 224 rfl rfl), (av_t1 221 rfl rfl), (av_t1 3 rfl rfl), ⟨by decide +kernel, by decide +kernel⟩, by decide +kernel, by decide⟩, (av_t1 222 rfl rfl), (av_t1 223 rfl rfl), T_G, 6, rfl⟩
theorem fd_N_15 : av_fd R_N 15 2 1 := ⟨R_N, T_N, 2, rfl, by decide, in_N, (av_t1 77 rfl rfl)⟩
theorem cw_L_79 : av_cwV R_L 79 m_G_hasEntry 1 1 := ⟨⟨(av_t2 1 rfl rfl), (av_t1 238 rfl rfl), (av_t1 3 rfl rfl), ⟨by decide +kernel, by decide +kernel⟩, by decide +kernel, by decide⟩, (av_t1 239 rfl rfl), (av_t2 0 rfl rfl), T_G, 6, rfl⟩
theorem fd_L_39 : av_fd R_L 39 0 3 := ⟨R_L, T_L, 7, rfl, by decide, in_L, (av_t1 182 rfl rfl)⟩
theorem cw_L_83 : av_cwV R_L 83 m_T_follow 3 3 := ⟨⟨(av_t2 5 rfl rfl), (av_t2 2 rfl rfl), (av_t1 6 rfl rfl), ⟨by decide +kernel, by decide +kernel⟩, by decide +kernel, by decide⟩, (av_t2 3 rfl rfl), (av_t2 4 rfl rfl), T_T, 3, rfl⟩
theorem cw_L_87 : av_cwV R_L 87 m_N_addTrail 1 2 := ⟨⟨(av_t2 12 rfl rfl), (av_t2 9 rfl rfl), (av_t1 5 rfl rfl), ⟨by decide +kernel, by decide +kernel⟩, by decide +kernel, by decide⟩, (av_t2 10 rfl rfl), (av_t2 11 rfl rfl), T_N, 2, rfl⟩
theorem fd_L_91 : av_fd R_L 91 3 2 := ⟨R_T, T_T, 3, rfl, by decide, in_T, (av_t1 99 rfl rfl)⟩
theorem fd_T_22 : av_fd R_T 22 1 4 := ⟨R_G, T_G, 6, rfl, by decide, in_G, (av_t1 49 rfl rfl)⟩
theorem fd_T_18 : av_fd R_T 18 3 2 := ⟨R_T, T_T, 3, rfl, by decide, in_T, (av_t1 97 rfl rfl)⟩
theorem fd_T_27 : av_fd R_T 27 1 2 := ⟨R_G, T_G, 6, rfl, by decide, in_G, (av_t1 39 rfl rfl)⟩
theorem cw_T_30 : av_cwS R_T 30 m_T_holdsAt 2 := ⟨⟨(av_t2 8 rfl rfl), (av_t2 6 rfl rfl), (av_t1 6 rfl rfl), ⟨by decide +kernel, by decide +kernel⟩, by decide +kernel, by decide⟩, (av_t2 7 rfl rfl)⟩
theorem fd_T_9 : av_fd R_T 9 3 0 := ⟨R_T, T_T, 3, rfl, by decide, in_T, (av_t1 91 rfl rfl)⟩
theorem fd_T_15 : av_fd R_T 15 3 1 := ⟨R_T, T_T, 3, rfl, by decide, in_T, (av_t1 94 rfl rfl)⟩
theorem fd_T_34 : av_fd R_T 34 1 3 := ⟨R_G, T_G, 6, rfl, by decide, in_G, (av_t1 44 rfl rfl)⟩
theorem fd_N_25 : av_fd R_N 25 3 2 := ⟨R_T, T_T, 3, rfl, by decide, in_T, (av_t1 98 rfl rfl)⟩
theorem fd_N_31 : av_fd R_N 31 3 0 := ⟨R_T, T_T, 3, rfl, by decide, in_T, (av_t1 92 rfl rfl)⟩
theorem cw_N_34 : av_cwV R_N 34 m_N_addToBlock 2 2 := ⟨⟨(av_t2 16 rfl rfl), (av_t2 13 rfl rfl), (av_t1 5 rfl rfl), ⟨by decide +kernel, by decide +kernel⟩, by decide +kernel, by decide⟩, (av_t2 14 rfl rfl), (av_t2 15 rfl rfl), T_N, 2, rfl⟩
theorem fd_N_38 : av_fd R_N 38 3 1 := ⟨R_T, T_T, 3, rfl, by decide, in_T, (av_t1 95 rfl rfl)⟩
theorem cw_N_41 : av_cwV R_N 41 m_N_addToEdge 2 2 := ⟨⟨(av_t2 22 rfl rfl), (av_t2 19 rfl rfl), (av_t1 5 rfl rfl), ⟨by decide +kernel, by decide +kernel⟩, by decide +kernel, by decide⟩, (av_t2 20 rfl rfl), (av_t2 21 rfl rfl), T_N, 2, rfl⟩
theorem fd_N_9 : av_fd R_N 9 2 0 := ⟨R_N, T_N, 2, rfl, by decide, in_N, (av_t1 74 rfl rfl)⟩
theorem lc_N_18 : Cond.constant R_N 18 (1000000 : Int32) ∈ av_T := (av_t2 17 rfl rfl)
theorem cw_N_19 : av_cwM R_N 19 Lib.Math.min.name Lib.Math.min.code 2 := ⟨(av_t2 18 rfl rfl), (av_t1 19 rfl rfl), (av_t1 2 rfl rfl), (av_t1 20 rfl rfl)⟩
theorem lc_L_92 : Cond.constant R_L 92 (100000 : Int32) ∈ av_T := (av_t2 27 rfl rfl)
theorem cw_L_93 : av_cwV R_L 93 m_G_hasEdge 2 1 := ⟨⟨(av_t2 31 rfl rfl), (av_t2 28 rfl rfl), (av_t1 3 rfl rfl), ⟨by decide +kernel, by decide +kernel⟩, by decide +kernel, by decide⟩, (av_t2 29 rfl rfl), (av_t2 30 rfl rfl), T_G, 6, rfl⟩
theorem cw_L_96 : av_cwV R_L 96 m_N_addToEdge 2 2 := ⟨⟨(av_t2 22 rfl rfl), (av_t2 32 rfl rfl), (av_t1 5 rfl rfl), ⟨by decide +kernel, by decide +kernel⟩, by decide +kernel, by decide⟩, (av_t2 20 rfl rfl), (av_t2 21 rfl rfl), T_N, 2, rfl⟩
theorem fd_L_100 : av_fd R_L 100 1 3 := ⟨R_G, T_G, 6, rfl, by decide, in_G, (av_t1 47 rfl rfl)⟩
theorem cw_L_104 : av_cwV R_L 104 m_N_addToBlock 2 2 := ⟨⟨(av_t2 16 rfl rfl), (av_t2 33 rfl rfl), (av_t1 5 rfl rfl), ⟨by decide +kernel, by decide +kernel⟩, by decide +kernel, by decide⟩, (av_t2 14 rfl rfl), (av_t2 15 rfl rfl), T_N, 2, rfl⟩
theorem fd_L_107 : av_fd R_L 107 2 1 := ⟨R_N, T_N, 2, rfl, by decide, in_N, (av_t1 79 rfl rfl)⟩
theorem cw_L_110 : av_cwV R_L 110 m_N_clear 0 2 := ⟨⟨(av_t2 41 rfl rfl), (av_t2 38 rfl rfl), (av_t1 5 rfl rfl), ⟨by decide +kernel, by decide +kernel⟩, by decide +kernel, by decide⟩, (av_t2 39 rfl rfl), (av_t2 40 rfl rfl), T_N, 2, rfl⟩
theorem cw_N_44 : av_cwS R_N 44 m_A_fill 2 := ⟨⟨(av_t1 32 rfl rfl), (av_t2 42 rfl rfl), (av_t1 4 rfl rfl), ⟨by decide +kernel, by decide +kernel⟩, by decide +kernel, by decide⟩, (av_t1 31 rfl rfl)⟩
theorem fd_L_46 : av_fd R_L 46 0 4 := ⟨R_L, T_L, 7, rfl, by decide, in_L, (av_t1 183 rfl rfl)⟩
theorem cw_L_113 : av_cwV R_L 113 m_P_placeByNumber 1 4 := ⟨⟨(av_t2 50 rfl rfl), (av_t2 47 rfl rfl), (av_t1 7 rfl rfl), ⟨by decide +kernel, by decide +kernel⟩, by decide +kernel, by decide⟩, (av_t2 48 rfl rfl), (av_t2 49 rfl rfl), T_P, 9, rfl⟩
theorem cw_L_117 : av_cwV R_L 117 m_P_placeByChains 2 4 := ⟨⟨(av_t2 54 rfl rfl), (av_t2 51 rfl rfl), (av_t1 7 rfl rfl), ⟨by decide +kernel, by decide +kernel⟩, by decide +kernel, by decide⟩, (av_t2 52 rfl rfl), (av_t2 53 rfl rfl), T_P, 9, rfl⟩
theorem fd_L_53 : av_fd R_L 53 0 5 := ⟨R_L, T_L, 7, rfl, by decide, in_L, (av_t1 184 rfl rfl)⟩
theorem fd_L_121 : av_fd R_L 121 4 0 := ⟨R_P, T_P, 9, rfl, by decide, in_P, (av_t1 114 rfl rfl)⟩
theorem fd_L_18 : av_fd R_L 18 0 0 := ⟨R_L, T_L, 7, rfl, by decide, in_L, (av_t1 179 rfl rfl)⟩
theorem cw_L_124 : av_cwV R_L 124 m_C_lay 3 5 := ⟨⟨(av_t2 93 rfl rfl), (av_t2 90 rfl rfl), (av_t1 8 rfl rfl), ⟨by decide +kernel, by decide +kernel⟩, by decide +kernel, by decide⟩, (av_t2 91 rfl rfl), (av_t2 92 rfl rfl), T_C, 7, rfl⟩
theorem fd_L_128 : av_fd R_L 128 5 4 := ⟨R_C, T_C, 7, rfl, by decide, in_C, (av_t1 158 rfl rfl)⟩
theorem fd_P_40 : av_fd R_P 40 1 5 := ⟨R_G, T_G, 6, rfl, by decide, in_G, (av_t1 51 rfl rfl)⟩
theorem fd_P_9 : av_fd R_P 9 4 0 := ⟨R_P, T_P, 9, rfl, by decide, in_P, (av_t1 113 rfl rfl)⟩
theorem cw_P_45 : av_cwV R_P 45 m_P_startChains 2 4 := ⟨⟨(av_t2 58 rfl rfl), (av_t2 55 rfl rfl), (av_t1 7 rfl rfl), ⟨by decide +kernel, by decide +kernel⟩, by decide +kernel, by decide⟩, (av_t2 57 rfl rfl), (av_s1 0 rfl), T_P, 9, rfl⟩
theorem cw_P_49 : av_cwV R_P 49 m_P_sortEdges 2 4 := ⟨⟨(av_t2 62 rfl rfl), (av_t2 59 rfl rfl), (av_t1 7 rfl rfl), ⟨by decide +kernel, by decide +kernel⟩, by decide +kernel, by decide⟩, (av_t2 61 rfl rfl), (av_s1 1 rfl), T_P, 9, rfl⟩
theorem fd_P_22 : av_fd R_P 22 4 3 := ⟨R_P, T_P, 9, rfl, by decide, in_P, (av_t1 119 rfl rfl)⟩
theorem fd_P_53 : av_fd R_P 53 1 3 := ⟨R_G, T_G, 6, rfl, by decide, in_G, (av_t1 46 rfl rfl)⟩
theorem cw_P_56 : av_cwV R_P 56 m_P_joinAlong 3 4 := ⟨⟨(av_t2 69 rfl rfl), (av_t2 66 rfl rfl), (av_t1 7 rfl rfl), ⟨by decide +kernel, by decide +kernel⟩, by decide +kernel, by decide⟩, (av_t2 68 rfl rfl), (av_s1 2 rfl), T_P, 9, rfl⟩
theorem cw_P_60 : av_cwV R_P 60 m_P_sortHeads 1 4 := ⟨⟨(av_t2 77 rfl rfl), (av_t2 74 rfl rfl), (av_t1 7 rfl rfl), ⟨by decide +kernel, by decide +kernel⟩, by decide +kernel, by decide⟩, (av_t2 76 rfl rfl), (av_s1 3 rfl), T_P, 9, rfl⟩
theorem cw_P_64 : av_cwV R_P 64 m_P_writeOrder 1 4 := ⟨⟨(av_t2 89 rfl rfl), (av_t2 86 rfl rfl), (av_t1 7 rfl rfl), ⟨by decide +kernel, by decide +kernel⟩, by decide +kernel, by decide⟩, (av_t2 88 rfl rfl), (av_s1 6 rfl), T_P, 9, rfl⟩
theorem fd_P_28 : av_fd R_P 28 4 5 := ⟨R_P, T_P, 9, rfl, by decide, in_P, (av_t1 121 rfl rfl)⟩
theorem fd_P_31 : av_fd R_P 31 4 6 := ⟨R_P, T_P, 9, rfl, by decide, in_P, (av_t1 122 rfl rfl)⟩
theorem fd_P_34 : av_fd R_P 34 4 7 := ⟨R_P, T_P, 9, rfl, by decide, in_P, (av_t1 123 rfl rfl)⟩
theorem fd_P_67 : av_fd R_P 67 2 0 := ⟨R_N, T_N, 2, rfl, by decide, in_N, (av_t1 75 rfl rfl)⟩
theorem fd_P_37 : av_fd R_P 37 4 8 := ⟨R_P, T_P, 9, rfl, by decide, in_P, (av_t1 124 rfl rfl)⟩
theorem fd_P_72 : av_fd R_P 72 1 1 := ⟨R_G, T_G, 6, rfl, by decide, in_G, (av_t1 36 rfl rfl)⟩
theorem cw_P_75 : av_cwS R_P 75 m_P_mayJoin 3 := ⟨⟨(av_t2 65 rfl rfl), (av_t2 63 rfl rfl), (av_t1 7 rfl rfl), ⟨by decide +kernel, by decide +kernel⟩, by decide +kernel, by decide⟩, (av_t2 64 rfl rfl)⟩
theorem fd_P_79 : av_fd R_P 79 2 1 := ⟨R_N, T_N, 2, rfl, by decide, in_N, (av_t1 78 rfl rfl)⟩
theorem fd_P_82 : av_fd R_P 82 1 2 := ⟨R_G, T_G, 6, rfl, by decide, in_G, (av_t1 41 rfl rfl)⟩
theorem cw_P_85 : av_cwV R_P 85 m_G_isEntry 1 1 := ⟨⟨(av_t2 73 rfl rfl), (av_t2 70 rfl rfl), (av_t1 3 rfl rfl), ⟨by decide +kernel, by decide +kernel⟩, by decide +kernel, by decide⟩, (av_t2 71 rfl rfl), (av_t2 72 rfl rfl), T_G, 6, rfl⟩
theorem fd_P_15 : av_fd R_P 15 4 1 := ⟨R_P, T_P, 9, rfl, by decide, in_P, (av_t1 115 rfl rfl)⟩
theorem fd_P_25 : av_fd R_P 25 4 4 := ⟨R_P, T_P, 9, rfl, by decide, in_P, (av_t1 120 rfl rfl)⟩
theorem cw_P_89 : av_cwV R_P 89 m_P_comesBefore 3 4 := ⟨⟨(av_t2 81 rfl rfl), (av_t2 78 rfl rfl), (av_t1 7 rfl rfl), ⟨by decide +kernel, by decide +kernel⟩, by decide +kernel, by decide⟩, (av_t2 80 rfl rfl), (av_s1 4 rfl), T_P, 9, rfl⟩
theorem cw_P_93 : av_cwV R_P 93 m_P_isCold 2 4 := ⟨⟨(av_t2 85 rfl rfl), (av_t2 82 rfl rfl), (av_t1 7 rfl rfl), ⟨by decide +kernel, by decide +kernel⟩, by decide +kernel, by decide⟩, (av_t2 84 rfl rfl), (av_s1 5 rfl), T_P, 9, rfl⟩
theorem fd_P_97 : av_fd R_P 97 1 0 := ⟨R_G, T_G, 6, rfl, by decide, in_G, (av_t1 34 rfl rfl)⟩
theorem fd_P_19 : av_fd R_P 19 4 2 := ⟨R_P, T_P, 9, rfl, by decide, in_P, (av_t1 117 rfl rfl)⟩
theorem fd_C_35 : av_fd R_C 35 1 5 := ⟨R_G, T_G, 6, rfl, by decide, in_G, (av_t1 52 rfl rfl)⟩
theorem cw_C_40 : av_cwV R_C 40 m_C_chooseBranches 3 5 := ⟨⟨(av_t2 97 rfl rfl), (av_t2 94 rfl rfl), (av_t1 8 rfl rfl), ⟨by decide +kernel, by decide +kernel⟩, by decide +kernel, by decide⟩, (av_t2 96 rfl rfl), (av_s1 7 rfl), T_C, 7, rfl⟩
theorem cw_C_44 : av_cwV R_C 44 m_C_measure 2 5 := ⟨⟨(av_t2 109 rfl rfl), (av_t2 106 rfl rfl), (av_t1 8 rfl rfl), ⟨by decide +kernel, by decide +kernel⟩, by decide +kernel, by decide⟩, (av_t2 108 rfl rfl), (av_s1 10 rfl), T_C, 7, rfl⟩
theorem cw_C_48 : av_cwV R_C 48 m_C_lengthen 2 5 := ⟨⟨(av_t2 113 rfl rfl), (av_t2 110 rfl rfl), (av_t1 8 rfl rfl), ⟨by decide +kernel, by decide +kernel⟩, by decide +kernel, by decide⟩, (av_t2 112 rfl rfl), (av_s1 11 rfl), T_C, 7, rfl⟩
theorem fd_C_52 : av_fd R_C 52 1 3 := ⟨R_G, T_G, 6, rfl, by decide, in_G, (av_t1 45 rfl rfl)⟩
theorem cw_C_55 : av_cwV R_C 55 m_C_clearBranches 1 5 := ⟨⟨(av_t2 101 rfl rfl), (av_t2 98 rfl rfl), (av_t1 8 rfl rfl), ⟨by decide +kernel, by decide +kernel⟩, by decide +kernel, by decide⟩, (av_t2 100 rfl rfl), (av_s1 8 rfl), T_C, 7, rfl⟩
theorem fd_C_59 : av_fd R_C 59 1 2 := ⟨R_G, T_G, 6, rfl, by decide, in_G, (av_t1 40 rfl rfl)⟩
theorem cw_C_62 : av_cwV R_C 62 m_C_putBranch 2 5 := ⟨⟨(av_t2 105 rfl rfl), (av_t2 102 rfl rfl), (av_t1 8 rfl rfl), ⟨by decide +kernel, by decide +kernel⟩, by decide +kernel, by decide⟩, (av_t2 104 rfl rfl), (av_s1 9 rfl), T_C, 7, rfl⟩
theorem fd_C_21 : av_fd R_C 21 5 3 := ⟨R_C, T_C, 7, rfl, by decide, in_C, (av_t1 156 rfl rfl)⟩
theorem fd_C_15 : av_fd R_C 15 5 1 := ⟨R_C, T_C, 7, rfl, by decide, in_C, (av_t1 152 rfl rfl)⟩
theorem fd_C_18 : av_fd R_C 18 5 2 := ⟨R_C, T_C, 7, rfl, by decide, in_C, (av_t1 154 rfl rfl)⟩
theorem fd_C_29 : av_fd R_C 29 5 5 := ⟨R_C, T_C, 7, rfl, by decide, in_C, (av_t1 159 rfl rfl)⟩
theorem fd_C_9 : av_fd R_C 9 5 0 := ⟨R_C, T_C, 7, rfl, by decide, in_C, (av_t1 150 rfl rfl)⟩
theorem fd_C_25 : av_fd R_C 25 5 4 := ⟨R_C, T_C, 7, rfl, by decide, in_C, (av_t1 157 rfl rfl)⟩
theorem fd_C_66 : av_fd R_C 66 1 1 := ⟨R_G, T_G, 6, rfl, by decide, in_G, (av_t1 37 rfl rfl)⟩
theorem cw_C_69 : av_cwV R_C 69 m_C_lengthenOne 3 5 := ⟨⟨(av_t2 117 rfl rfl), (av_t2 114 rfl rfl), (av_t1 8 rfl rfl), ⟨by decide +kernel, by decide +kernel⟩, by decide +kernel, by decide⟩, (av_t2 116 rfl rfl), (av_s1 12 rfl), T_C, 7, rfl⟩
theorem cw_C_73 : av_cwM R_C 73 Lib.Math.abs.name Lib.Math.abs.code 1 := ⟨(av_t2 118 rfl rfl), (av_t2 119 rfl rfl), (av_t1 2 rfl rfl), (av_t2 120 rfl rfl)⟩
theorem fd_C_32 : av_fd R_C 32 5 6 := ⟨R_C, T_C, 7, rfl, by decide, in_C, (av_t1 161 rfl rfl)⟩
theorem cw_L_131 : av_cwV R_L 131 m_G_has 1 1 := ⟨⟨(av_t1 224 rfl rfl), (av_t2 125 rfl rfl), (av_t1 3 rfl rfl), ⟨by decide +kernel, by decide +kernel⟩, by decide +kernel, by decide⟩, (av_t1 222 rfl rfl), (av_t1 223 rfl rfl), T_G, 6, rfl⟩
theorem fd_L_134 : av_fd R_L 134 5 0 := ⟨R_C, T_C, 7, rfl, by decide, in_C, (av_t1 151 rfl rfl)⟩
theorem cw_L_137 : av_cwV R_L 137 m_L_hasBranch 2 0 := ⟨⟨(av_t2 137 rfl rfl), (av_t2 134 rfl rfl), (av_t1 1 rfl rfl), ⟨by decide +kernel, by decide +kernel⟩, by decide +kernel, by decide⟩, (av_t2 136 rfl rfl), (av_s1 13 rfl), T_L, 7, rfl⟩
theorem fd_L_140 : av_fd R_L 140 5 2 := ⟨R_C, T_C, 7, rfl, by decide, in_C, (av_t1 155 rfl rfl)⟩
theorem fd_L_143 : av_fd R_L 143 5 1 := ⟨R_C, T_C, 7, rfl, by decide, in_C, (av_t1 153 rfl rfl)⟩
theorem fd_L_146 : av_fd R_L 146 3 0 := ⟨R_T, T_T, 3, rfl, by decide, in_T, (av_t1 93 rfl rfl)⟩
theorem fd_L_149 : av_fd R_L 149 1 2 := ⟨R_G, T_G, 6, rfl, by decide, in_G, (av_t1 42 rfl rfl)⟩
theorem fd_L_152 : av_fd R_L 152 3 1 := ⟨R_T, T_T, 3, rfl, by decide, in_T, (av_t1 96 rfl rfl)⟩
theorem cw_L_155 : av_cwV R_L 155 m_C_costOfLeaving 3 5 := ⟨⟨(av_t2 149 rfl rfl), (av_t2 146 rfl rfl), (av_t1 8 rfl rfl), ⟨by decide +kernel, by decide +kernel⟩, by decide +kernel, by decide⟩, (av_t2 147 rfl rfl), (av_t2 148 rfl rfl), T_C, 7, rfl⟩
theorem cw_C_79 : av_cwV R_C 79 m_C_longExtra 1 5 := ⟨⟨(av_t2 153 rfl rfl), (av_t2 150 rfl rfl), (av_t1 8 rfl rfl), ⟨by decide +kernel, by decide +kernel⟩, by decide +kernel, by decide⟩, (av_t2 152 rfl rfl), (av_s1 14 rfl), T_C, 7, rfl⟩
theorem fd_L_159 : av_fd R_L 159 2 0 := ⟨R_N, T_N, 2, rfl, by decide, in_N, (av_t1 76 rfl rfl)⟩
theorem cw_L_162 : av_cwV R_L 162 m_L_countOfLayout 1 0 := ⟨⟨(av_t2 165 rfl rfl), (av_t2 162 rfl rfl), (av_t1 1 rfl rfl), ⟨by decide +kernel, by decide +kernel⟩, by decide +kernel, by decide⟩, (av_t2 164 rfl rfl), (av_s1 15 rfl), T_L, 7, rfl⟩
theorem fd_L_166 : av_fd R_L 166 5 5 := ⟨R_C, T_C, 7, rfl, by decide, in_C, (av_t1 160 rfl rfl)⟩
theorem fd_L_169 : av_fd R_L 169 5 6 := ⟨R_C, T_C, 7, rfl, by decide, in_C, (av_t1 162 rfl rfl)⟩
theorem fd_L_172 : av_fd R_L 172 4 2 := ⟨R_P, T_P, 9, rfl, by decide, in_P, (av_t1 118 rfl rfl)⟩
theorem fd_L_175 : av_fd R_L 175 4 1 := ⟨R_P, T_P, 9, rfl, by decide, in_P, (av_t1 116 rfl rfl)⟩
theorem cw_M_1 : Cond.methodLink R_M 1 objectInit ∈ av_T ∧ Cond.instanceMethod objectInit ∈ av_T ∧ Cond.code objectInit ⟨#[0xb1]⟩ 1 none ∈ av_T := ⟨(av_t2 174 rfl rfl), (av_t1 16 rfl rfl), (av_t1 17 rfl rfl)⟩
theorem fp_M_7 : av_fp R_M 7 6 1 false .int := ⟨R_M, T_M, 22, ty_M, rfl, by decide, in_M, (av_t2 176 rfl rfl), tok_M, nm_M, rfl, by decide +kernel, rfl⟩
theorem fp_M_13 : av_fp R_M 13 6 2 false .int := ⟨R_M, T_M, 22, ty_M, rfl, by decide, in_M, (av_t2 177 rfl rfl), tok_M, nm_M, rfl, by decide +kernel, rfl⟩
theorem fp_M_16 : av_fp R_M 16 6 3 false .int := ⟨R_M, T_M, 22, ty_M, rfl, by decide, in_M, (av_t2 178 rfl rfl), tok_M, nm_M, rfl, by decide +kernel, rfl⟩
theorem fp_M_19 : av_fp R_M 19 6 4 false .int := ⟨R_M, T_M, 22, ty_M, rfl, by decide, in_M, (av_t2 179 rfl rfl), tok_M, nm_M, rfl, by decide +kernel, rfl⟩
theorem fp_M_22 : av_fp R_M 22 6 5 false .boolean := ⟨R_M, T_M, 22, ty_M, rfl, by decide, in_M, (av_t2 180 rfl rfl), tok_M, nm_M, rfl, by decide +kernel, rfl⟩
theorem fp_M_26 : av_fp R_M 26 6 6 true (.array .int) := ⟨R_M, T_M, 22, ty_M, rfl, by decide, in_M, (av_t2 181 rfl rfl), tok_M, nm_M, rfl, by decide +kernel, rfl⟩
theorem fp_M_30 : av_fp R_M 30 6 7 true (.array .int) := ⟨R_M, T_M, 22, ty_M, rfl, by decide, in_M, (av_t2 182 rfl rfl), tok_M, nm_M, rfl, by decide +kernel, rfl⟩
theorem fp_M_33 : av_fp R_M 33 6 8 true (.array .int) := ⟨R_M, T_M, 22, ty_M, rfl, by decide, in_M, (av_t2 183 rfl rfl), tok_M, nm_M, rfl, by decide +kernel, rfl⟩
theorem fp_M_36 : av_fp R_M 36 6 9 true (.array .int) := ⟨R_M, T_M, 22, ty_M, rfl, by decide, in_M, (av_t2 184 rfl rfl), tok_M, nm_M, rfl, by decide +kernel, rfl⟩
theorem fp_M_39 : av_fp R_M 39 6 10 true (.array .int) := ⟨R_M, T_M, 22, ty_M, rfl, by decide, in_M, (av_t2 185 rfl rfl), tok_M, nm_M, rfl, by decide +kernel, rfl⟩
theorem fp_M_42 : av_fp R_M 42 6 11 true (.array .int) := ⟨R_M, T_M, 22, ty_M, rfl, by decide, in_M, (av_t2 186 rfl rfl), tok_M, nm_M, rfl, by decide +kernel, rfl⟩
theorem fp_M_45 : av_fp R_M 45 6 12 true (.array .int) := ⟨R_M, T_M, 22, ty_M, rfl, by decide, in_M, (av_t2 187 rfl rfl), tok_M, nm_M, rfl, by decide +kernel, rfl⟩
theorem fp_M_48 : av_fp R_M 48 6 13 true (.array .int) := ⟨R_M, T_M, 22, ty_M, rfl, by decide, in_M, (av_t2 188 rfl rfl), tok_M, nm_M, rfl, by decide +kernel, rfl⟩
theorem fp_M_51 : av_fp R_M 51 6 14 true (.array .boolean) := ⟨R_M, T_M, 22, ty_M, rfl, by decide, in_M, (av_t2 189 rfl rfl), tok_M, nm_M, rfl, by decide +kernel, rfl⟩
theorem fp_M_55 : av_fp R_M 55 6 15 true (.array .boolean) := ⟨R_M, T_M, 22, ty_M, rfl, by decide, in_M, (av_t2 190 rfl rfl), tok_M, nm_M, rfl, by decide +kernel, rfl⟩
theorem fp_M_58 : av_fp R_M 58 6 16 true (.array .int) := ⟨R_M, T_M, 22, ty_M, rfl, by decide, in_M, (av_t2 191 rfl rfl), tok_M, nm_M, rfl, by decide +kernel, rfl⟩
theorem fp_M_61 : av_fp R_M 61 6 17 true (.array .int) := ⟨R_M, T_M, 22, ty_M, rfl, by decide, in_M, (av_t2 192 rfl rfl), tok_M, nm_M, rfl, by decide +kernel, rfl⟩
theorem fp_M_64 : av_fp R_M 64 6 18 true (.array .int) := ⟨R_M, T_M, 22, ty_M, rfl, by decide, in_M, (av_t2 193 rfl rfl), tok_M, nm_M, rfl, by decide +kernel, rfl⟩
theorem fp_M_67 : av_fp R_M 67 6 19 true (.array .int) := ⟨R_M, T_M, 22, ty_M, rfl, by decide, in_M, (av_t2 194 rfl rfl), tok_M, nm_M, rfl, by decide +kernel, rfl⟩
theorem fp_M_70 : av_fp R_M 70 6 20 true (.array .boolean) := ⟨R_M, T_M, 22, ty_M, rfl, by decide, in_M, (av_t2 195 rfl rfl), tok_M, nm_M, rfl, by decide +kernel, rfl⟩
theorem fp_M_73 : av_fp R_M 73 6 21 true (.array .boolean) := ⟨R_M, T_M, 22, ty_M, rfl, by decide, in_M, (av_t2 196 rfl rfl), tok_M, nm_M, rfl, by decide +kernel, rfl⟩
theorem fp_M_76 : av_fp R_M 76 6 0 true .int := ⟨R_M, T_M, 22, ty_M, rfl, by decide, in_M, (av_t2 175 rfl rfl), tok_M, nm_M, rfl, by decide +kernel, rfl⟩
theorem fd_M_22 : av_fd R_M 22 6 5 := ⟨R_M, T_M, 22, rfl, by decide, in_M, (av_t2 180 rfl rfl)⟩
theorem fd_M_7 : av_fd R_M 7 6 1 := ⟨R_M, T_M, 22, rfl, by decide, in_M, (av_t2 176 rfl rfl)⟩
theorem fd_M_26 : av_fd R_M 26 6 6 := ⟨R_M, T_M, 22, rfl, by decide, in_M, (av_t2 181 rfl rfl)⟩
theorem fd_M_30 : av_fd R_M 30 6 7 := ⟨R_M, T_M, 22, rfl, by decide, in_M, (av_t2 182 rfl rfl)⟩
theorem cw_M_79 : av_cwV R_M 79 m_M_give 4 6 := ⟨⟨(av_t3 13 rfl rfl), (av_t3 10 rfl rfl), (av_t1 9 rfl rfl), ⟨by decide +kernel, by decide +kernel⟩, by decide +kernel, by decide⟩, (av_t3 12 rfl rfl), (av_s2 0 rfl), T_M, 22, rfl⟩
theorem cw_M_83 : av_cwV R_M 83 m_M_no 1 6 := ⟨⟨(av_t3 17 rfl rfl), (av_t3 14 rfl rfl), (av_t1 9 rfl rfl), ⟨by decide +kernel, by decide +kernel⟩, by decide +kernel, by decide⟩, (av_t3 16 rfl rfl), (av_s2 1 rfl), T_M, 22, rfl⟩
theorem fd_M_33 : av_fd R_M 33 6 8 := ⟨R_M, T_M, 22, rfl, by decide, in_M, (av_t2 183 rfl rfl)⟩
theorem fd_M_36 : av_fd R_M 36 6 9 := ⟨R_M, T_M, 22, rfl, by decide, in_M, (av_t2 184 rfl rfl)⟩
theorem fd_M_42 : av_fd R_M 42 6 11 := ⟨R_M, T_M, 22, rfl, by decide, in_M, (av_t2 186 rfl rfl)⟩
theorem cw_M_88 : av_cwV R_M 88 m_M_entry 1 6 := ⟨⟨(av_t3 29 rfl rfl), (av_t3 26 rfl rfl), (av_t1 9 rfl rfl), ⟨by decide +kernel, by decide +kernel⟩, by decide +kernel, by decide⟩, (av_t3 28 rfl rfl), (av_s2 2 rfl), T_M, 22, rfl⟩
theorem fd_M_39 : av_fd R_M 39 6 10 := ⟨R_M, T_M, 22, rfl, by decide, in_M, (av_t2 185 rfl rfl)⟩
theorem cw_M_92 : av_cwV R_M 92 m_M_warmer 2 6 := ⟨⟨(av_t3 33 rfl rfl), (av_t3 30 rfl rfl), (av_t1 9 rfl rfl), ⟨by decide +kernel, by decide +kernel⟩, by decide +kernel, by decide⟩, (av_t3 32 rfl rfl), (av_s2 3 rfl), T_M, 22, rfl⟩
theorem cw_M_96 : av_cwV R_M 96 m_M_edge 3 6 := ⟨⟨(av_t3 38 rfl rfl), (av_t3 35 rfl rfl), (av_t1 9 rfl rfl), ⟨by decide +kernel, by decide +kernel⟩, by decide +kernel, by decide⟩, (av_t3 37 rfl rfl), (av_s2 4 rfl), T_M, 22, rfl⟩
theorem lc_M_87 : Cond.constant R_M 87 (1000000 : Int32) ∈ av_T := (av_t3 34 rfl rfl)
theorem lc_M_100 : Cond.constant R_M 100 (100000 : Int32) ∈ av_T := (av_t3 43 rfl rfl)
theorem cw_M_128 : av_cwV R_M 128 m_M_makeChains 1 6 := ⟨⟨(av_t3 55 rfl rfl), (av_t3 52 rfl rfl), (av_t1 9 rfl rfl), ⟨by decide +kernel, by decide +kernel⟩, by decide +kernel, by decide⟩, (av_t3 54 rfl rfl), (av_s2 5 rfl), T_M, 22, rfl⟩
theorem cw_M_132 : av_cwV R_M 132 m_M_putOrder 1 6 := ⟨⟨(av_t3 67 rfl rfl), (av_t3 64 rfl rfl), (av_t1 9 rfl rfl), ⟨by decide +kernel, by decide +kernel⟩, by decide +kernel, by decide⟩, (av_t3 66 rfl rfl), (av_s2 8 rfl), T_M, 22, rfl⟩
theorem fd_M_58 : av_fd R_M 58 6 16 := ⟨R_M, T_M, 22, rfl, by decide, in_M, (av_t2 191 rfl rfl)⟩
theorem cw_M_135 : av_cwV R_M 135 m_M_branchesOf 2 6 := ⟨⟨(av_t3 87 rfl rfl), (av_t3 84 rfl rfl), (av_t1 9 rfl rfl), ⟨by decide +kernel, by decide +kernel⟩, by decide +kernel, by decide⟩, (av_t3 86 rfl rfl), (av_s2 13 rfl), T_M, 22, rfl⟩
theorem cw_M_139 : av_cwV R_M 139 m_M_lengthen 0 6 := ⟨⟨(av_t3 91 rfl rfl), (av_t3 88 rfl rfl), (av_t1 9 rfl rfl), ⟨by decide +kernel, by decide +kernel⟩, by decide +kernel, by decide⟩, (av_t3 90 rfl rfl), (av_s2 14 rfl), T_M, 22, rfl⟩
theorem fd_M_13 : av_fd R_M 13 6 2 := ⟨R_M, T_M, 22, rfl, by decide, in_M, (av_t2 177 rfl rfl)⟩
theorem cw_M_142 : av_cwV R_M 142 m_M_total 0 6 := ⟨⟨(av_t3 103 rfl rfl), (av_t3 100 rfl rfl), (av_t1 9 rfl rfl), ⟨by decide +kernel, by decide +kernel⟩, by decide +kernel, by decide⟩, (av_t3 102 rfl rfl), (av_s3 1 rfl), T_M, 22, rfl⟩
theorem fd_M_45 : av_fd R_M 45 6 12 := ⟨R_M, T_M, 22, rfl, by decide, in_M, (av_t2 187 rfl rfl)⟩
theorem fd_M_48 : av_fd R_M 48 6 13 := ⟨R_M, T_M, 22, rfl, by decide, in_M, (av_t2 188 rfl rfl)⟩
theorem fd_M_51 : av_fd R_M 51 6 14 := ⟨R_M, T_M, 22, rfl, by decide, in_M, (av_t2 189 rfl rfl)⟩
theorem cw_M_104 : av_cwV R_M 104 m_M_joinOne 0 6 := ⟨⟨(av_t3 59 rfl rfl), (av_t3 56 rfl rfl), (av_t1 9 rfl rfl), ⟨by decide +kernel, by decide +kernel⟩, by decide +kernel, by decide⟩, (av_t3 58 rfl rfl), (av_s2 6 rfl), T_M, 22, rfl⟩
theorem cw_M_101 : av_cwV R_M 101 m_M_size 1 6 := ⟨⟨(av_t3 63 rfl rfl), (av_t3 60 rfl rfl), (av_t1 9 rfl rfl), ⟨by decide +kernel, by decide +kernel⟩, by decide +kernel, by decide⟩, (av_t3 62 rfl rfl), (av_s2 7 rfl), T_M, 22, rfl⟩
theorem fd_M_55 : av_fd R_M 55 6 15 := ⟨R_M, T_M, 22, rfl, by decide, in_M, (av_t2 190 rfl rfl)⟩
theorem cw_M_118 : av_cwV R_M 118 m_M_before 2 6 := ⟨⟨(av_t3 71 rfl rfl), (av_t3 68 rfl rfl), (av_t1 9 rfl rfl), ⟨by decide +kernel, by decide +kernel⟩, by decide +kernel, by decide⟩, (av_t3 70 rfl rfl), (av_s2 9 rfl), T_M, 22, rfl⟩
theorem fd_M_19 : av_fd R_M 19 6 4 := ⟨R_M, T_M, 22, rfl, by decide, in_M, (av_t2 179 rfl rfl)⟩
theorem cw_M_111 : av_cwV R_M 111 m_M_isCold 1 6 := ⟨⟨(av_t3 79 rfl rfl), (av_t3 76 rfl rfl), (av_t1 9 rfl rfl), ⟨by decide +kernel, by decide +kernel⟩, by decide +kernel, by decide⟩, (av_t3 78 rfl rfl), (av_s2 11 rfl), T_M, 22, rfl⟩
theorem fd_M_16 : av_fd R_M 16 6 3 := ⟨R_M, T_M, 22, rfl, by decide, in_M, (av_t2 178 rfl rfl)⟩
theorem cw_M_108 : av_cwV R_M 108 m_M_head 1 6 := ⟨⟨(av_t3 75 rfl rfl), (av_t3 72 rfl rfl), (av_t1 9 rfl rfl), ⟨by decide +kernel, by decide +kernel⟩, by decide +kernel, by decide⟩, (av_t3 74 rfl rfl), (av_s2 10 rfl), T_M, 22, rfl⟩
theorem cw_M_114 : av_cwV R_M 114 m_M_sum 2 6 := ⟨⟨(av_t3 83 rfl rfl), (av_t3 80 rfl rfl), (av_t1 9 rfl rfl), ⟨by decide +kernel, by decide +kernel⟩, by decide +kernel, by decide⟩, (av_t3 82 rfl rfl), (av_s2 12 rfl), T_M, 22, rfl⟩
theorem fd_M_70 : av_fd R_M 70 6 20 := ⟨R_M, T_M, 22, rfl, by decide, in_M, (av_t2 195 rfl rfl)⟩
theorem fd_M_61 : av_fd R_M 61 6 17 := ⟨R_M, T_M, 22, rfl, by decide, in_M, (av_t2 192 rfl rfl)⟩
theorem fd_M_67 : av_fd R_M 67 6 19 := ⟨R_M, T_M, 22, rfl, by decide, in_M, (av_t2 194 rfl rfl)⟩
theorem fd_M_64 : av_fd R_M 64 6 18 := ⟨R_M, T_M, 22, rfl, by decide, in_M, (av_t2 193 rfl rfl)⟩
theorem fd_M_73 : av_fd R_M 73 6 21 := ⟨R_M, T_M, 22, rfl, by decide, in_M, (av_t2 196 rfl rfl)⟩
theorem cw_M_125 : av_cwV R_M 125 m_M_addressOf 1 6 := ⟨⟨(av_t3 95 rfl rfl), (av_t3 92 rfl rfl), (av_t1 9 rfl rfl), ⟨by decide +kernel, by decide +kernel⟩, by decide +kernel, by decide⟩, (av_t3 94 rfl rfl), (av_s2 15 rfl), T_M, 22, rfl⟩
theorem fd_M_76 : av_fd R_M 76 6 0 := ⟨R_M, T_M, 22, rfl, by decide, in_M, (av_t2 175 rfl rfl)⟩
theorem cw_M_122 : av_cwV R_M 122 m_M_units 1 6 := ⟨⟨(av_t3 99 rfl rfl), (av_t3 96 rfl rfl), (av_t1 9 rfl rfl), ⟨by decide +kernel, by decide +kernel⟩, by decide +kernel, by decide⟩, (av_t3 98 rfl rfl), (av_s3 0 rfl), T_M, 22, rfl⟩
theorem cw_M_146 : av_cwV R_M 146 m_M_noBranch 2 6 := ⟨⟨(av_t3 119 rfl rfl), (av_t3 116 rfl rfl), (av_t1 9 rfl rfl), ⟨by decide +kernel, by decide +kernel⟩, by decide +kernel, by decide⟩, (av_t3 118 rfl rfl), (av_s3 2 rfl), T_M, 22, rfl⟩
theorem cw_M_149 : av_cwV R_M 149 m_M_leaving 2 6 := ⟨⟨(av_t3 131 rfl rfl), (av_t3 128 rfl rfl), (av_t1 9 rfl rfl), ⟨by decide +kernel, by decide +kernel⟩, by decide +kernel, by decide⟩, (av_t3 130 rfl rfl), (av_s3 3 rfl), T_M, 22, rfl⟩
theorem nw_W_7 : av_nw R_W 7 0 [vI 0, vN, vN, vN, vN, vN, vI 0] := ⟨R_L, T_L, ty_L, rfl, in_L, tok_L, (av_t1 10 rfl rfl), (av_t1 11 rfl rfl), (av_t1 1 rfl rfl), by decide +kernel, rfl⟩
theorem cw_W_9 : av_cwS R_W 9 m_W_cell 2 := ⟨⟨(av_t2 168 rfl rfl), (av_t2 166 rfl rfl), (av_t1 0 rfl rfl), ⟨by decide +kernel, by decide +kernel⟩, by decide +kernel, by decide⟩, (av_t2 167 rfl rfl)⟩
theorem cw_W_15 : av_cwI R_W 15 m_L_init 1 := ⟨⟨(av_t1 14 rfl rfl), (av_t1 12 rfl rfl), (av_t1 1 rfl rfl), ⟨by decide +kernel, by decide +kernel⟩, by decide +kernel, by decide⟩, rfl, (av_t1 13 rfl rfl), rfl⟩
theorem nw_W_18 : av_nw R_W 18 6 [vI 0, vI 0, vI 0, vI 0, vI 0, vI 0, vN, vN, vN, vN, vN, vN, vN, vN, vN, vN, vN, vN, vN, vN, vN, vN] := ⟨R_M, T_M, ty_M, rfl, in_M, tok_M, (av_t2 169 rfl rfl), (av_t2 170 rfl rfl), (av_t1 9 rfl rfl), by decide +kernel, rfl⟩
theorem cw_W_20 : av_cwI R_W 20 m_M_init 1 := ⟨⟨(av_t2 173 rfl rfl), (av_t2 171 rfl rfl), (av_t1 9 rfl rfl), ⟨by decide +kernel, by decide +kernel⟩, by decide +kernel, by decide⟩, rfl, (av_t2 172 rfl rfl), rfl⟩
theorem cw_W_21 : av_cwV R_W 21 m_L_block 2 0 := ⟨⟨(av_t1 204 rfl rfl), (av_t1 201 rfl rfl), (av_t1 1 rfl rfl), ⟨by decide +kernel, by decide +kernel⟩, by decide +kernel, by decide⟩, (av_t1 202 rfl rfl), (av_t1 203 rfl rfl), T_L, 7, rfl⟩
theorem cw_W_25 : av_cwV R_W 25 m_M_block 2 6 := ⟨⟨(av_t3 5 rfl rfl), (av_t3 2 rfl rfl), (av_t1 9 rfl rfl), ⟨by decide +kernel, by decide +kernel⟩, by decide +kernel, by decide⟩, (av_t3 3 rfl rfl), (av_t3 4 rfl rfl), T_M, 22, rfl⟩
theorem cw_W_26 : av_cwV R_W 26 m_L_jump 2 0 := ⟨⟨(av_t1 216 rfl rfl), (av_t1 213 rfl rfl), (av_t1 1 rfl rfl), ⟨by decide +kernel, by decide +kernel⟩, by decide +kernel, by decide⟩, (av_t1 214 rfl rfl), (av_t1 215 rfl rfl), T_L, 7, rfl⟩
theorem cw_W_29 : av_cwV R_W 29 m_M_jump 2 6 := ⟨⟨(av_t3 9 rfl rfl), (av_t3 6 rfl rfl), (av_t1 9 rfl rfl), ⟨by decide +kernel, by decide +kernel⟩, by decide +kernel, by decide⟩, (av_t3 7 rfl rfl), (av_t3 8 rfl rfl), T_M, 22, rfl⟩
theorem cw_W_30 : av_cwV R_W 30 m_L_test 3 0 := ⟨⟨(av_t1 233 rfl rfl), (av_t1 230 rfl rfl), (av_t1 1 rfl rfl), ⟨by decide +kernel, by decide +kernel⟩, by decide +kernel, by decide⟩, (av_t1 231 rfl rfl), (av_t1 232 rfl rfl), T_L, 7, rfl⟩
theorem cw_W_34 : av_cwV R_W 34 m_M_test 3 6 := ⟨⟨(av_t3 21 rfl rfl), (av_t3 18 rfl rfl), (av_t1 9 rfl rfl), ⟨by decide +kernel, by decide +kernel⟩, by decide +kernel, by decide⟩, (av_t3 19 rfl rfl), (av_t3 20 rfl rfl), T_M, 22, rfl⟩
theorem cw_W_35 : av_cwV R_W 35 m_L_walk 2 0 := ⟨⟨(av_t1 237 rfl rfl), (av_t1 234 rfl rfl), (av_t1 1 rfl rfl), ⟨by decide +kernel, by decide +kernel⟩, by decide +kernel, by decide⟩, (av_t1 235 rfl rfl), (av_t1 236 rfl rfl), T_L, 7, rfl⟩
theorem cw_W_38 : av_cwV R_W 38 m_M_walk 2 6 := ⟨⟨(av_t3 25 rfl rfl), (av_t3 22 rfl rfl), (av_t1 9 rfl rfl), ⟨by decide +kernel, by decide +kernel⟩, by decide +kernel, by decide⟩, (av_t3 23 rfl rfl), (av_t3 24 rfl rfl), T_M, 22, rfl⟩
theorem cw_W_39 : av_cwV R_W 39 m_L_heat 3 0 := ⟨⟨(av_t2 26 rfl rfl), (av_t2 23 rfl rfl), (av_t1 1 rfl rfl), ⟨by decide +kernel, by decide +kernel⟩, by decide +kernel, by decide⟩, (av_t2 24 rfl rfl), (av_t2 25 rfl rfl), T_L, 7, rfl⟩
theorem cw_W_42 : av_cwV R_W 42 m_M_heat 3 6 := ⟨⟨(av_t3 42 rfl rfl), (av_t3 39 rfl rfl), (av_t1 9 rfl rfl), ⟨by decide +kernel, by decide +kernel⟩, by decide +kernel, by decide⟩, (av_t3 40 rfl rfl), (av_t3 41 rfl rfl), T_M, 22, rfl⟩
theorem cw_W_43 : av_cwV R_W 43 m_L_cool 0 0 := ⟨⟨(av_t2 37 rfl rfl), (av_t2 34 rfl rfl), (av_t1 1 rfl rfl), ⟨by decide +kernel, by decide +kernel⟩, by decide +kernel, by decide⟩, (av_t2 35 rfl rfl), (av_t2 36 rfl rfl), T_L, 7, rfl⟩
theorem cw_W_47 : av_cwV R_W 47 m_M_cool 0 6 := ⟨⟨(av_t3 47 rfl rfl), (av_t3 44 rfl rfl), (av_t1 9 rfl rfl), ⟨by decide +kernel, by decide +kernel⟩, by decide +kernel, by decide⟩, (av_t3 45 rfl rfl), (av_t3 46 rfl rfl), T_M, 22, rfl⟩
theorem cw_W_48 : av_cwV R_W 48 m_L_layout 1 0 := ⟨⟨(av_t2 46 rfl rfl), (av_t2 43 rfl rfl), (av_t1 1 rfl rfl), ⟨by decide +kernel, by decide +kernel⟩, by decide +kernel, by decide⟩, (av_t2 44 rfl rfl), (av_t2 45 rfl rfl), T_L, 7, rfl⟩
theorem cw_W_52 : av_cwV R_W 52 m_M_layout 1 6 := ⟨⟨(av_t3 51 rfl rfl), (av_t3 48 rfl rfl), (av_t1 9 rfl rfl), ⟨by decide +kernel, by decide +kernel⟩, by decide +kernel, by decide⟩, (av_t3 49 rfl rfl), (av_t3 50 rfl rfl), T_M, 22, rfl⟩
theorem cw_W_53 : av_cwV R_W 53 m_L_at 1 0 := ⟨⟨(av_t2 124 rfl rfl), (av_t2 121 rfl rfl), (av_t1 1 rfl rfl), ⟨by decide +kernel, by decide +kernel⟩, by decide +kernel, by decide⟩, (av_t2 122 rfl rfl), (av_t2 123 rfl rfl), T_L, 7, rfl⟩
theorem cw_W_56 : av_cwV R_W 56 m_M_at 1 6 := ⟨⟨(av_t3 107 rfl rfl), (av_t3 104 rfl rfl), (av_t1 9 rfl rfl), ⟨by decide +kernel, by decide +kernel⟩, by decide +kernel, by decide⟩, (av_t3 105 rfl rfl), (av_t3 106 rfl rfl), T_M, 22, rfl⟩
theorem cw_W_57 : av_cwV R_W 57 m_L_address 1 0 := ⟨⟨(av_t2 129 rfl rfl), (av_t2 126 rfl rfl), (av_t1 1 rfl rfl), ⟨by decide +kernel, by decide +kernel⟩, by decide +kernel, by decide⟩, (av_t2 127 rfl rfl), (av_t2 128 rfl rfl), T_L, 7, rfl⟩
theorem cw_W_60 : av_cwV R_W 60 m_M_address 1 6 := ⟨⟨(av_t3 111 rfl rfl), (av_t3 108 rfl rfl), (av_t1 9 rfl rfl), ⟨by decide +kernel, by decide +kernel⟩, by decide +kernel, by decide⟩, (av_t3 109 rfl rfl), (av_t3 110 rfl rfl), T_M, 22, rfl⟩
theorem cw_W_61 : av_cwV R_W 61 m_L_branch 2 0 := ⟨⟨(av_t2 133 rfl rfl), (av_t2 130 rfl rfl), (av_t1 1 rfl rfl), ⟨by decide +kernel, by decide +kernel⟩, by decide +kernel, by decide⟩, (av_t2 131 rfl rfl), (av_t2 132 rfl rfl), T_L, 7, rfl⟩
theorem cw_W_64 : av_cwV R_W 64 m_M_branch 2 6 := ⟨⟨(av_t3 115 rfl rfl), (av_t3 112 rfl rfl), (av_t1 9 rfl rfl), ⟨by decide +kernel, by decide +kernel⟩, by decide +kernel, by decide⟩, (av_t3 113 rfl rfl), (av_t3 114 rfl rfl), T_M, 22, rfl⟩
theorem cw_W_65 : av_cwV R_W 65 m_L_target 2 0 := ⟨⟨(av_t2 141 rfl rfl), (av_t2 138 rfl rfl), (av_t1 1 rfl rfl), ⟨by decide +kernel, by decide +kernel⟩, by decide +kernel, by decide⟩, (av_t2 139 rfl rfl), (av_t2 140 rfl rfl), T_L, 7, rfl⟩
theorem cw_W_68 : av_cwV R_W 68 m_M_target 2 6 := ⟨⟨(av_t3 123 rfl rfl), (av_t3 120 rfl rfl), (av_t1 9 rfl rfl), ⟨by decide +kernel, by decide +kernel⟩, by decide +kernel, by decide⟩, (av_t3 121 rfl rfl), (av_t3 122 rfl rfl), T_M, 22, rfl⟩
theorem cw_W_69 : av_cwV R_W 69 m_L_cost 2 0 := ⟨⟨(av_t2 145 rfl rfl), (av_t2 142 rfl rfl), (av_t1 1 rfl rfl), ⟨by decide +kernel, by decide +kernel⟩, by decide +kernel, by decide⟩, (av_t2 143 rfl rfl), (av_t2 144 rfl rfl), T_L, 7, rfl⟩
theorem cw_W_72 : av_cwV R_W 72 m_M_cost 2 6 := ⟨⟨(av_t3 127 rfl rfl), (av_t3 124 rfl rfl), (av_t1 9 rfl rfl), ⟨by decide +kernel, by decide +kernel⟩, by decide +kernel, by decide⟩, (av_t3 125 rfl rfl), (av_t3 126 rfl rfl), T_M, 22, rfl⟩
theorem cw_W_73 : av_cwV R_W 73 m_L_heatOf 2 0 := ⟨⟨(av_t2 157 rfl rfl), (av_t2 154 rfl rfl), (av_t1 1 rfl rfl), ⟨by decide +kernel, by decide +kernel⟩, by decide +kernel, by decide⟩, (av_t2 155 rfl rfl), (av_t2 156 rfl rfl), T_L, 7, rfl⟩
theorem cw_W_76 : av_cwV R_W 76 m_M_heatOf 2 6 := ⟨⟨(av_t3 135 rfl rfl), (av_t3 132 rfl rfl), (av_t1 9 rfl rfl), ⟨by decide +kernel, by decide +kernel⟩, by decide +kernel, by decide⟩, (av_t3 133 rfl rfl), (av_t3 134 rfl rfl), T_M, 22, rfl⟩
theorem cw_W_77 : av_cwV R_W 77 m_L_count 1 0 := ⟨⟨(av_t2 161 rfl rfl), (av_t2 158 rfl rfl), (av_t1 1 rfl rfl), ⟨by decide +kernel, by decide +kernel⟩, by decide +kernel, by decide⟩, (av_t2 159 rfl rfl), (av_t2 160 rfl rfl), T_L, 7, rfl⟩
theorem cw_W_80 : av_cwV R_W 80 m_M_count 1 6 := ⟨⟨(av_t3 139 rfl rfl), (av_t3 136 rfl rfl), (av_t1 9 rfl rfl), ⟨by decide +kernel, by decide +kernel⟩, by decide +kernel, by decide⟩, (av_t3 137 rfl rfl), (av_t3 138 rfl rfl), T_M, 22, rfl⟩
end
section
/-! THE CELLS: 0 .. 25 the class, 26 .. 42 the reference; σ k is what cell k holds: an array, or the numbers among an object's fields -/
abbrev av_S : Type := Nat → Int → Int
def up (σ : av_S) (k : Nat) (f : Int → Int) : av_S := fun j => if j = k then f else σ j
def hp (σ : av_S) : av_H := [.inr (0, [vI (σ 0 0), vR 1, vR 7, vR 10, vR 13, vR 21, vI (σ 0 6)]), .inr (1, [vR 2, vR 3, vR 4, vR 5, vR 6, vI (σ 1 5)]), .inl (0, 24, σ 2), .inl (0, 24, σ 3), .inl (0, 24, σ 4), .inl (0, 48, σ 5), .inl (0, 4, σ 6), .inr (2, [vR 8, vR 9]), .inl (0, 24, σ 8), .inl (0, 48, σ 9), .inr (3, [vR 11, vR 12, vI (σ 10 2)]), .inl (0, 60, σ 11), .inl (0, 60, σ 12), .inr (4, [vR 14, vI (σ 13 1), vI (σ 13 2), vR 15, vR 16, vR 17, vR 18, vR 19, vR 20]), .inl (0, 24, σ 14), .inl (0, 48, σ 15), .inl (0, 24, σ 16), .inl (0, 24, σ 17), .inl (0, 24, σ 18), .inl (0, 24, σ 19), .inl (0, 24, σ 20), .inr (5, [vR 22, vR 23, vR 24, vR 25, vI (σ 21 4), vI (σ 21 5), vI (σ 21 6)]), .inl (0, 24, σ 22), .inl (0, 48, σ 23), .inl (0, 48, σ 24), .inl (1, 24, σ 25), .inr (6, [vI (σ 26 0), vI (σ 26 1), vI (σ 26 2), vI (σ 26 3), vI (σ 26 4), vI (σ 26 5), vR 27, vR 28, vR 29, vR 30, vR 31, vR 32, vR 33, vR 34, vR 35, vR 36, vR 37, vR 38, vR 39, vR 40, vR 41, vR 42]), .inl (0, 24, σ 27), .inl (0, 24, σ 28), .inl (0, 24, σ 29), .inl (0, 48, σ 30), .inl (0, 24, σ 31), .inl (0, 48, σ 32), .inl (0, 24, σ 33), .inl (0, 24, σ 34), .inl (1, 48, σ 35), .inl (1, 24, σ 36), .inl (0, 24, σ 37), .inl (0, 24, σ 38), .inl (0, 48, σ 39), .inl (0, 48, σ 40), .inl (1, 24, σ 41), .inl (1, 48, σ 42)]
theorem hs_0_0 (σ : av_S) (z : Int) : (hp σ).set 0 (.inr (0, [vI z, vR 1, vR 7, vR 10, vR 13, vR 21, vI (σ 0 6)])) = hp (up σ 0 (uI (σ 0) 0 z)) := rfl
theorem hs_0_6 (σ : av_S) (z : Int) : (hp σ).set 0 (.inr (0, [vI (σ 0 0), vR 1, vR 7, vR 10, vR 13, vR 21, vI z])) = hp (up σ 0 (uI (σ 0) 6 z)) := rfl
theorem hs_1_5 (σ : av_S) (z : Int) : (hp σ).set 1 (.inr (1, [vR 2, vR 3, vR 4, vR 5, vR 6, vI z])) = hp (up σ 1 (uI (σ 1) 5 z)) := rfl
theorem hs_2 (σ : av_S) (f : Int → Int) : (hp σ).set 2 (.inl (0, 24, f)) = hp (up σ 2 f) := rfl
theorem hs_3 (σ : av_S) (f : Int → Int) : (hp σ).set 3 (.inl (0, 24, f)) = hp (up σ 3 f) := rfl
theorem hs_4 (σ : av_S) (f : Int → Int) : (hp σ).set 4 (.inl (0, 24, f)) = hp (up σ 4 f) := rfl
theorem hs_5 (σ : av_S) (f : Int → Int) : (hp σ).set 5 (.inl (0, 48, f)) = hp (up σ 5 f) := rfl
theorem hs_6 (σ : av_S) (f : Int → Int) : (hp σ).set 6 (.inl (0, 4, f)) = hp (up σ 6 f) := rfl
theorem hs_8 (σ : av_S) (f : Int → Int) : (hp σ).set 8 (.inl (0, 24, f)) = hp (up σ 8 f) := rfl
theorem hs_9 (σ : av_S) (f : Int → Int) : (hp σ).set 9 (.inl (0, 48, f)) = hp (up σ 9 f) := rfl
theorem hs_10_2 (σ : av_S) (z : Int) : (hp σ).set 10 (.inr (3, [vR 11, vR 12, vI z])) = hp (up σ 10 (uI (σ 10) 2 z)) := rfl
theorem hs_11 (σ : av_S) (f : Int → Int) : (hp σ).set 11 (.inl (0, 60, f)) = hp (up σ 11 f) := rfl
theorem hs_12 (σ : av_S) (f : Int → Int) : (hp σ).set 12 (.inl (0, 60, f)) = hp (up σ 12 f) := rfl
theorem hs_13_1 (σ : av_S) (z : Int) : (hp σ).set 13 (.inr (4, [vR 14, vI z, vI (σ 13 2), vR 15, vR 16, vR 17, vR 18, vR 19, vR 20])) = hp (up σ 13 (uI (σ 13) 1 z)) := rfl
theorem hs_13_2 (σ : av_S) (z : Int) : (hp σ).set 13 (.inr (4, [vR 14, vI (σ 13 1), vI z, vR 15, vR 16, vR 17, vR 18, vR 19, vR 20])) = hp (up σ 13 (uI (σ 13) 2 z)) := rfl
theorem hs_14 (σ : av_S) (f : Int → Int) : (hp σ).set 14 (.inl (0, 24, f)) = hp (up σ 14 f) := rfl
theorem hs_15 (σ : av_S) (f : Int → Int) : (hp σ).set 15 (.inl (0, 48, f)) = hp (up σ 15 f) := rfl
theorem hs_16 (σ : av_S) (f : Int → Int) : (hp σ).set 16 (.inl (0, 24, f)) = hp (up σ 16 f) := rfl
theorem hs_17 (σ : av_S) (f : Int → Int) : (hp σ).set 17 (.inl (0, 24, f)) = hp (up σ 17 f) := rfl
theorem hs_18 (σ : av_S) (f : Int → Int) : (hp σ).set 18 (.inl (0, 24, f)) = hp (up σ 18 f) := rfl
theorem hs_19 (σ : av_S) (f : Int → Int) : (hp σ).set 19 (.inl (0, 24, f)) = hp (up σ 19 f) := rfl
theorem hs_20 (σ : av_S) (f : Int → Int) : (hp σ).set 20 (.inl (0, 24, f)) = hp (up σ 20 f) := rfl
theorem hs_21_4 (σ : av_S) (z : Int) : (hp σ).set 21 (.inr (5, [vR 22, vR 23, vR 24, vR 25, vI z, vI (σ 21 5), vI (σ 21 6)])) = hp (up σ 21 (uI (σ 21) 4 z)) := rfl
theorem hs_21_5 (σ : av_S) (z : Int) : (hp σ).set 21 (.inr (5, [vR 22, vR 23, vR 24, vR 25, vI (σ 21 4), vI z, vI (σ 21 6)])) = hp (up σ 21 (uI (σ 21) 5 z)) := rfl
theorem hs_21_6 (σ : av_S) (z : Int) : (hp σ).set 21 (.inr (5, [vR 22, vR 23, vR 24, vR 25, vI (σ 21 4), vI (σ 21 5), vI z])) = hp (up σ 21 (uI (σ 21) 6 z)) := rfl
theorem hs_22 (σ : av_S) (f : Int → Int) : (hp σ).set 22 (.inl (0, 24, f)) = hp (up σ 22 f) := rfl
theorem hs_23 (σ : av_S) (f : Int → Int) : (hp σ).set 23 (.inl (0, 48, f)) = hp (up σ 23 f) := rfl
theorem hs_24 (σ : av_S) (f : Int → Int) : (hp σ).set 24 (.inl (0, 48, f)) = hp (up σ 24 f) := rfl
theorem hs_25 (σ : av_S) (f : Int → Int) : (hp σ).set 25 (.inl (1, 24, f)) = hp (up σ 25 f) := rfl
theorem hs_26_0 (σ : av_S) (z : Int) : (hp σ).set 26 (.inr (6, [vI z, vI (σ 26 1), vI (σ 26 2), vI (σ 26 3), vI (σ 26 4), vI (σ 26 5), vR 27, vR 28, vR 29, vR 30, vR 31, vR 32, vR 33, vR 34, vR 35, vR 36, vR 37, vR 38, vR 39, vR 40, vR 41, vR 42])) = hp (up σ 26 (uI (σ 26) 0 z)) := rfl
theorem hs_26_1 (σ : av_S) (z : Int) : (hp σ).set 26 (.inr (6, [vI (σ 26 0), vI z, vI (σ 26 2), vI (σ 26 3), vI (σ 26 4), vI (σ 26 5), vR 27, vR 28, vR 29, vR 30, vR 31, vR 32, vR 33, vR 34, vR 35, vR 36, vR 37, vR 38, vR 39, vR 40, vR 41, vR 42])) = hp (up σ 26 (uI (σ 26) 1 z)) := rfl
theorem hs_26_2 (σ : av_S) (z : Int) : (hp σ).set 26 (.inr (6, [vI (σ 26 0), vI (σ 26 1), vI z, vI (σ 26 3), vI (σ 26 4), vI (σ 26 5), vR 27, vR 28, vR 29, vR 30, vR 31, vR 32, vR 33, vR 34, vR 35, vR 36, vR 37, vR 38, vR 39, vR 40, vR 41, vR 42])) = hp (up σ 26 (uI (σ 26) 2 z)) := rfl
theorem hs_26_3 (σ : av_S) (z : Int) : (hp σ).set 26 (.inr (6, [vI (σ 26 0), vI (σ 26 1), vI (σ 26 2), vI z, vI (σ 26 4), vI (σ 26 5), vR 27, vR 28, vR 29, vR 30, vR 31, vR 32, vR 33, vR 34, vR 35, vR 36, vR 37, vR 38, vR 39, vR 40, vR 41, vR 42])) = hp (up σ 26 (uI (σ 26) 3 z)) := rfl
theorem hs_26_4 (σ : av_S) (z : Int) : (hp σ).set 26 (.inr (6, [vI (σ 26 0), vI (σ 26 1), vI (σ 26 2), vI (σ 26 3), vI z, vI (σ 26 5), vR 27, vR 28, vR 29, vR 30, vR 31, vR 32, vR 33, vR 34, vR 35, vR 36, vR 37, vR 38, vR 39, vR 40, vR 41, vR 42])) = hp (up σ 26 (uI (σ 26) 4 z)) := rfl
theorem hs_26_5 (σ : av_S) (z : Int) : (hp σ).set 26 (.inr (6, [vI (σ 26 0), vI (σ 26 1), vI (σ 26 2), vI (σ 26 3), vI (σ 26 4), vI z, vR 27, vR 28, vR 29, vR 30, vR 31, vR 32, vR 33, vR 34, vR 35, vR 36, vR 37, vR 38, vR 39, vR 40, vR 41, vR 42])) = hp (up σ 26 (uI (σ 26) 5 z)) := rfl
theorem hs_27 (σ : av_S) (f : Int → Int) : (hp σ).set 27 (.inl (0, 24, f)) = hp (up σ 27 f) := rfl
theorem hs_28 (σ : av_S) (f : Int → Int) : (hp σ).set 28 (.inl (0, 24, f)) = hp (up σ 28 f) := rfl
theorem hs_29 (σ : av_S) (f : Int → Int) : (hp σ).set 29 (.inl (0, 24, f)) = hp (up σ 29 f) := rfl
theorem hs_30 (σ : av_S) (f : Int → Int) : (hp σ).set 30 (.inl (0, 48, f)) = hp (up σ 30 f) := rfl
theorem hs_31 (σ : av_S) (f : Int → Int) : (hp σ).set 31 (.inl (0, 24, f)) = hp (up σ 31 f) := rfl
theorem hs_32 (σ : av_S) (f : Int → Int) : (hp σ).set 32 (.inl (0, 48, f)) = hp (up σ 32 f) := rfl
theorem hs_33 (σ : av_S) (f : Int → Int) : (hp σ).set 33 (.inl (0, 24, f)) = hp (up σ 33 f) := rfl
theorem hs_34 (σ : av_S) (f : Int → Int) : (hp σ).set 34 (.inl (0, 24, f)) = hp (up σ 34 f) := rfl
theorem hs_35 (σ : av_S) (f : Int → Int) : (hp σ).set 35 (.inl (1, 48, f)) = hp (up σ 35 f) := rfl
theorem hs_36 (σ : av_S) (f : Int → Int) : (hp σ).set 36 (.inl (1, 24, f)) = hp (up σ 36 f) := rfl
theorem hs_37 (σ : av_S) (f : Int → Int) : (hp σ).set 37 (.inl (0, 24, f)) = hp (up σ 37 f) := rfl
theorem hs_38 (σ : av_S) (f : Int → Int) : (hp σ).set 38 (.inl (0, 24, f)) = hp (up σ 38 f) := rfl
theorem hs_39 (σ : av_S) (f : Int → Int) : (hp σ).set 39 (.inl (0, 48, f)) = hp (up σ 39 f) := rfl
theorem hs_40 (σ : av_S) (f : Int → Int) : (hp σ).set 40 (.inl (0, 48, f)) = hp (up σ 40 f) := rfl
theorem hs_41 (σ : av_S) (f : Int → Int) : (hp σ).set 41 (.inl (1, 24, f)) = hp (up σ 41 f) := rfl
theorem hs_42 (σ : av_S) (f : Int → Int) : (hp σ).set 42 (.inl (1, 48, f)) = hp (up σ 42 f) := rfl
theorem up_s (σ : av_S) (k : Nat) (f : Int → Int) : up σ k f k = f := if_pos rfl
theorem up_n (σ : av_S) {k j : Nat} (f : Int → Int) (h : j ≠ k) : up σ k f j = σ j := if_neg h
theorem uI_s (f : Int → Int) (i z : Int) : uI f i z i = z := if_pos rfl
theorem uI_n (f : Int → Int) {i j : Int} (z : Int) (h : j ≠ i) : uI f i z j = f j := if_neg h
end
section
theorem fill_loop {sc : av_sc} {d n0 bc bs : Nat} {al : Bool} {h : av_H} {q n : Nat} {v : Int} {Φ : Option av_V → av_H → Prop} (hq : q < h.length) (hn : n ≤ 1000) (hΦ : Φ none (h.set q (.inl (0, n, fun _ => v)))) :
    ∀ (k : Nat) (i : Int) (g : Int → Int), 0 ≤ i → i + (k : Int) = (n : Int) → (∀ j : Int, 0 ≤ j → j < i → g j = v) → av_Rn sc m_A_fill d al n0 bc bs 5 [some (vR q), some (vI v), some (vI i), some (vI (n : Int))] [] (h.set q (.inl (0, n, g))) Φ := by
  intro k
  induction k with
  | zero =>
    intro i g hi hk hg
    refine rn_iload_n 6 d_A_fill_5 rfl rfl ?_
    refine rn_iload_n 7 d_A_fill_6 rfl rfl ?_
    refine rn_icmp_ge 20 10 d_A_fill_7 rfl rfl ⟨by omega, by omega⟩ ⟨by omega, by omega⟩ (fun c_7 => ?_) (fun c_7 => ?_)
    · refine rn_arr (q := q) (t := 0) (n := n) (f := g) (g := fun _ => v) (List.getElem?_set_self hq) (fun j h0 h1 => hg j h0 (by omega)) ?_
      rw [List.set_set]
      exact rn_return d_A_fill_20 rfl hΦ
    · omega
  | succ k ih =>
    intro i g hi hk hg
    refine rn_iload_n 6 d_A_fill_5 rfl rfl ?_
    refine rn_iload_n 7 d_A_fill_6 rfl rfl ?_
    refine rn_icmp_ge 20 10 d_A_fill_7 rfl rfl ⟨by omega, by omega⟩ ⟨by omega, by omega⟩ (fun c_7 => ?_) (fun c_7 => ?_)
    · omega
    · refine rn_aload_n 11 d_A_fill_10 rfl rfl ?_
      refine rn_iload_n 12 d_A_fill_11 rfl rfl ?_
      refine rn_iload_n 13 d_A_fill_12 rfl rfl ?_
      refine rn_iastore 14 d_A_fill_13 rfl (List.getElem?_set_self hq) (by omega) (by omega) (by omega) (List.set_set ..) ?_
      refine rn_iinc 17 d_A_fill_14 rfl rfl (by decide) rfl rfl ?_
      refine rn_goto 5 d_A_fill_17 rfl ?_
      refine ih (i + 1) (uI g i v) (by omega) (by omega) (fun j h0 h1 => ?_)
      by_cases hj : j = i
      · subst hj; exact uI_s g j v
      · rw [uI_n g v hj]; exact hg j h0 (by omega)
/-- Arrays.fill(int[], int) -/
theorem ev_A_fill {sc : av_sc} {d : Nat} {h : av_H} {q n : Nat} {f : Int → Int} {v : Int} (hk : h[q]? = some (.inl (0, n, f))) (hn : n ≤ 1000) : av_Ev sc m_A_fill d false 0 0 [vR q, vI v] h (fun r h' => r = none ∧ h' = h.set q (.inl (0, n, fun _ => v))) := by
  have hq : q < h.length := (List.getElem?_eq_some_iff.mp hk).1
  have hs : h = h.set q (.inl (0, n, f)) := by
    refine List.ext_getElem? fun i => ?_
    rw [List.getElem?_set]
    by_cases hi : q = i
    · subst hi; rw [if_pos rfl, if_pos hq]; exact hk
    · simp [hi]
  refine av_ev rfl rfl (Nat.le_of_ble_eq_true rfl) rfl ?_
  refine rn_iconst 1 d_A_fill_0 rfl ?_
  refine rn_istore_n 2 d_A_fill_1 rfl (by decide) rfl rfl ?_
  refine rn_aload_n 3 d_A_fill_2 rfl rfl ?_
  refine rn_alen 4 d_A_fill_3 rfl hk (by decide) ?_
  refine rn_istore_n 5 d_A_fill_4 rfl (by decide) rfl rfl ?_
  have hL := fill_loop (sc := sc) (d := d) (n0 := h.length) (bc := 0) (bs := 0) (al := false) (v := v) (Φ := fun r h' => r = none ∧ h' = h.set q (.inl (0, n, fun _ => v))) hq hn ⟨rfl, rfl⟩ n 0 f (by omega) (by omega) (fun j h0 h1 => by omega)
  rw [← hs] at hL
  exact hL
end
section
set_option maxRecDepth 100000 in
set_option maxHeartbeats 400000 in
theorem ev_G_has {sc : av_sc} {d : Nat} {σ : av_S} {b : Int} (hb : av_in b) (hn : 0 ≤ σ 1 5 ∧ σ 1 5 ≤ 24) : av_Ev sc m_G_has (d) false 0 0 [vR 1, vI b] (hp σ) (fun r h => r = some (vI (bz (0 ≤ b ∧ b < σ 1 5))) ∧ h = hp σ) := by
  obtain ⟨hb1, hb2⟩ := hb
  refine av_ev rfl rfl (Nat.le_of_ble_eq_true rfl) rfl ?_
  refine rn_iload_n 1 d_G_has_0 rfl rfl ?_
  refine rn_if_lt 16 4 d_G_has_1 rfl rfl ⟨by omega, by omega⟩ (fun c_1 => ?_) (fun c_1 => ?_)
  · refine rn_iconst 17 d_G_has_16 rfl ?_
    exact rn_ireturn d_G_has_17 (Or.inr ⟨rfl, Or.inl rfl⟩) ⟨by rw [bz_f (by omega)], rfl⟩
  · refine rn_iload_n 5 d_G_has_4 rfl rfl ?_
    refine rn_aload_n 6 d_G_has_5 rfl rfl ?_
    refine rn_getfield 9 d_G_has_6 rfl fd_G_27 rfl rfl ?_
    refine rn_icmp_ge 16 12 d_G_has_9 rfl rfl ⟨by omega, by omega⟩ ⟨by omega, by omega⟩ (fun c_9 => ?_) (fun c_9 => ?_)
    · refine rn_iconst 17 d_G_has_16 rfl ?_
      exact rn_ireturn d_G_has_17 (Or.inr ⟨rfl, Or.inl rfl⟩) ⟨by rw [bz_f (by omega)], rfl⟩
    · refine rn_iconst 13 d_G_has_12 rfl ?_
      refine rn_goto 17 d_G_has_13 rfl ?_
      exact rn_ireturn d_G_has_17 (Or.inr ⟨rfl, Or.inr rfl⟩) ⟨by rw [bz_t (by omega)], rfl⟩
set_option maxRecDepth 100000 in
set_option maxHeartbeats 400000 in
theorem ev_G_hasEdge {sc : av_sc} {d : Nat} {σ : av_S} {b e : Int} (hb : av_in b) (he : av_in e) (hn : 0 ≤ σ 1 5 ∧ σ 1 5 ≤ 24) (hE : ∀ b, 0 ≤ b → b < σ 1 5 → 0 ≤ σ 4 b ∧ σ 4 b ≤ 2) : av_Ev sc m_G_hasEdge (d + 1) false 0 0 [vR 1, vI b, vI e] (hp σ) (fun r h => r = some (vI (bz ((0 ≤ b ∧ b < σ 1 5) ∧ 0 ≤ e ∧ e < σ 4 b))) ∧ h = hp σ) := by
  obtain ⟨he1, he2⟩ := id he
  refine av_ev rfl rfl (Nat.le_of_ble_eq_true rfl) rfl ?_
  refine rn_aload_n 1 d_G_hasEdge_0 rfl rfl ?_
  refine rn_iload_n 2 d_G_hasEdge_1 rfl rfl ?_
  refine rn_callV1 5 d_G_hasEdge_2 rfl cw_G_41 rfl (Nat.le_of_ble_eq_true rfl) (ev_G_has hb hn) ?_
  rintro _ _ ⟨rfl, rfl⟩
  refine rn_ifB_eq 26 8 d_G_hasEdge_5 rfl rfl (fun c_5 => ?_) (fun c_5 => ?_)
  · refine rn_iconst 27 d_G_hasEdge_26 rfl ?_
    exact rn_ireturn d_G_hasEdge_27 (Or.inr ⟨rfl, Or.inl rfl⟩) ⟨by rw [bz_f (by omega)], rfl⟩
  · refine rn_iload_n 9 d_G_hasEdge_8 rfl rfl ?_
    have hE1 := hE b c_5.1 c_5.2
    refine rn_if_lt 26 12 d_G_hasEdge_9 rfl rfl ⟨by omega, by omega⟩ (fun c_9 => ?_) (fun c_9 => ?_)
    · refine rn_iconst 27 d_G_hasEdge_26 rfl ?_
      exact rn_ireturn d_G_hasEdge_27 (Or.inr ⟨rfl, Or.inl rfl⟩) ⟨by rw [bz_f (by omega)], rfl⟩
    · refine rn_iload_n 13 d_G_hasEdge_12 rfl rfl ?_
      refine rn_aload_n 14 d_G_hasEdge_13 rfl rfl ?_
      refine rn_getfield 17 d_G_hasEdge_14 rfl fd_G_18 rfl rfl ?_
      refine rn_iload_n 18 d_G_hasEdge_17 rfl rfl ?_
      refine rn_iaload 19 d_G_hasEdge_18 rfl rfl (by decide) (by omega) (by omega) ?_
      refine rn_icmp_ge 26 22 d_G_hasEdge_19 rfl rfl ⟨by omega, by omega⟩ ⟨by omega, by omega⟩ (fun c_19 => ?_) (fun c_19 => ?_)
      · refine rn_iconst 27 d_G_hasEdge_26 rfl ?_
        exact rn_ireturn d_G_hasEdge_27 (Or.inr ⟨rfl, Or.inl rfl⟩) ⟨by rw [bz_f (by omega)], rfl⟩
      · refine rn_iconst 23 d_G_hasEdge_22 rfl ?_
        refine rn_goto 27 d_G_hasEdge_23 rfl ?_
        exact rn_ireturn d_G_hasEdge_27 (Or.inr ⟨rfl, Or.inr rfl⟩) ⟨by rw [bz_t (by omega)], rfl⟩
set_option maxRecDepth 100000 in
set_option maxHeartbeats 400000 in
theorem ev_G_hasEntry {sc : av_sc} {d : Nat} {σ : av_S} {f : Int} (hf : av_in f) (hT : ∀ f, 0 ≤ f → f < 4 → -1 ≤ σ 6 f ∧ σ 6 f < 24) : av_Ev sc m_G_hasEntry (d) false 0 0 [vR 1, vI f] (hp σ) (fun r h => r = some (vI (bz ((0 ≤ f ∧ f < 4) ∧ σ 6 f ≠ -1))) ∧ h = hp σ) := by
  obtain ⟨hf1, hf2⟩ := id hf
  refine av_ev rfl rfl (Nat.le_of_ble_eq_true rfl) rfl ?_
  refine rn_iload_n 1 d_G_hasEntry_0 rfl rfl ?_
  refine rn_if_lt 23 4 d_G_hasEntry_1 rfl rfl ⟨by omega, by omega⟩ (fun c_1 => ?_) (fun c_1 => ?_)
  · refine rn_iconst 24 d_G_hasEntry_23 rfl ?_
    exact rn_ireturn d_G_hasEntry_24 (Or.inr ⟨rfl, Or.inl rfl⟩) ⟨by rw [bz_f (by omega)], rfl⟩
  · refine rn_iload_n 5 d_G_hasEntry_4 rfl rfl ?_
    refine rn_iconst 6 d_G_hasEntry_5 rfl ?_
    refine rn_icmp_ge 23 9 d_G_hasEntry_6 rfl rfl ⟨by omega, by omega⟩ ⟨by omega, by omega⟩ (fun c_6 => ?_) (fun c_6 => ?_)
    · refine rn_iconst 24 d_G_hasEntry_23 rfl ?_
      exact rn_ireturn d_G_hasEntry_24 (Or.inr ⟨rfl, Or.inl rfl⟩) ⟨by rw [bz_f (by omega)], rfl⟩
    · have hT1 := hT f c_1 c_6
      refine rn_aload_n 10 d_G_hasEntry_9 rfl rfl ?_
      refine rn_getfield 13 d_G_hasEntry_10 rfl fd_G_24 rfl rfl ?_
      refine rn_iload_n 14 d_G_hasEntry_13 rfl rfl ?_
      refine rn_iaload 15 d_G_hasEntry_14 rfl rfl (by decide) (by omega) (by omega) ?_
      refine rn_iconst 16 d_G_hasEntry_15 rfl ?_
      refine rn_icmp_eq 23 19 d_G_hasEntry_16 rfl rfl ⟨by omega, by omega⟩ ⟨by omega, by omega⟩ (fun c_16 => ?_) (fun c_16 => ?_)
      · refine rn_iconst 24 d_G_hasEntry_23 rfl ?_
        exact rn_ireturn d_G_hasEntry_24 (Or.inr ⟨rfl, Or.inl rfl⟩) ⟨by rw [bz_f (by omega)], rfl⟩
      · refine rn_iconst 20 d_G_hasEntry_19 rfl ?_
        refine rn_goto 24 d_G_hasEntry_20 rfl ?_
        exact rn_ireturn d_G_hasEntry_24 (Or.inr ⟨rfl, Or.inr rfl⟩) ⟨by rw [bz_t (by omega)], rfl⟩
set_option maxRecDepth 100000 in
set_option maxHeartbeats 400000 in
theorem ev_G_canLead {sc : av_sc} {d : Nat} {σ : av_S} {b y : Int} (hb : av_in b) (hy : av_in y) (hn : 0 ≤ σ 1 5 ∧ σ 1 5 ≤ 24) (hF : ∀ b, 0 ≤ b → b < σ 1 5 → 0 ≤ σ 2 b ∧ σ 2 b ≤ 3) : av_Ev sc m_G_canLead (d + 1) false 0 0 [vR 1, vI b, vI y] (hp σ) (fun r h => r = some (vI (bz ((0 ≤ b ∧ b < σ 1 5) ∧ (0 ≤ y ∧ y < σ 1 5) ∧ σ 2 b = σ 2 y))) ∧ h = hp σ) := by
  refine av_ev rfl rfl (Nat.le_of_ble_eq_true rfl) rfl ?_
  refine rn_aload_n 1 d_G_canLead_0 rfl rfl ?_
  refine rn_iload_n 2 d_G_canLead_1 rfl rfl ?_
  refine rn_callV1 5 d_G_canLead_2 rfl cw_G_41 rfl (Nat.le_of_ble_eq_true rfl) (ev_G_has hb hn) ?_
  rintro _ _ ⟨rfl, rfl⟩
  refine rn_ifB_eq 35 8 d_G_canLead_5 rfl rfl (fun c_5 => ?_) (fun c_5 => ?_)
  · refine rn_iconst 36 d_G_canLead_35 rfl ?_
    exact rn_ireturn d_G_canLead_36 (Or.inr ⟨rfl, Or.inl rfl⟩) ⟨by rw [bz_f (by omega)], rfl⟩
  · refine rn_aload_n 9 d_G_canLead_8 rfl rfl ?_
    refine rn_iload_n 10 d_G_canLead_9 rfl rfl ?_
    refine rn_callV1 13 d_G_canLead_10 rfl cw_G_41 rfl (Nat.le_of_ble_eq_true rfl) (ev_G_has hy hn) ?_
    rintro _ _ ⟨rfl, rfl⟩
    refine rn_ifB_eq 35 16 d_G_canLead_13 rfl rfl (fun c_13 => ?_) (fun c_13 => ?_)
    · refine rn_iconst 36 d_G_canLead_35 rfl ?_
      exact rn_ireturn d_G_canLead_36 (Or.inr ⟨rfl, Or.inl rfl⟩) ⟨by rw [bz_f (by omega)], rfl⟩
    · have hF1 := hF b c_5.1 c_5.2
      have hF2 := hF y c_13.1 c_13.2
      refine rn_aload_n 17 d_G_canLead_16 rfl rfl ?_
      refine rn_getfield 20 d_G_canLead_17 rfl fd_G_9 rfl rfl ?_
      refine rn_iload_n 21 d_G_canLead_20 rfl rfl ?_
      refine rn_iaload 22 d_G_canLead_21 rfl rfl (by decide) (by omega) (by omega) ?_
      refine rn_aload_n 23 d_G_canLead_22 rfl rfl ?_
      refine rn_getfield 26 d_G_canLead_23 rfl fd_G_9 rfl rfl ?_
      refine rn_iload_n 27 d_G_canLead_26 rfl rfl ?_
      refine rn_iaload 28 d_G_canLead_27 rfl rfl (by decide) (by omega) (by omega) ?_
      refine rn_icmp_ne 35 31 d_G_canLead_28 rfl rfl ⟨by omega, by omega⟩ ⟨by omega, by omega⟩ (fun c_28 => ?_) (fun c_28 => ?_)
      · refine rn_iconst 36 d_G_canLead_35 rfl ?_
        exact rn_ireturn d_G_canLead_36 (Or.inr ⟨rfl, Or.inl rfl⟩) ⟨by rw [bz_f (by omega)], rfl⟩
      · refine rn_iconst 32 d_G_canLead_31 rfl ?_
        refine rn_goto 36 d_G_canLead_32 rfl ?_
        exact rn_ireturn d_G_canLead_36 (Or.inr ⟨rfl, Or.inr rfl⟩) ⟨by rw [bz_t (by omega)], rfl⟩
set_option maxRecDepth 100000 in
set_option maxHeartbeats 400000 in
theorem ev_G_isEntry {sc : av_sc} {d : Nat} {σ : av_S} {b : Int} (hb : 0 ≤ b ∧ b < 24) (hF : 0 ≤ σ 2 b ∧ σ 2 b ≤ 3) (hT : -1 ≤ σ 6 (σ 2 b) ∧ σ 6 (σ 2 b) < 24) : av_Ev sc m_G_isEntry (d) false 0 0 [vR 1, vI b] (hp σ) (fun r h => r = some (vI (bz (σ 6 (σ 2 b) = b))) ∧ h = hp σ) := by
  refine av_ev rfl rfl (Nat.le_of_ble_eq_true rfl) rfl ?_
  refine rn_aload_n 1 d_G_isEntry_0 rfl rfl ?_
  refine rn_getfield 4 d_G_isEntry_1 rfl fd_G_24 rfl rfl ?_
  refine rn_aload_n 5 d_G_isEntry_4 rfl rfl ?_
  refine rn_getfield 8 d_G_isEntry_5 rfl fd_G_9 rfl rfl ?_
  refine rn_iload_n 9 d_G_isEntry_8 rfl rfl ?_
  refine rn_iaload 10 d_G_isEntry_9 rfl rfl (by decide) (by omega) (by omega) ?_
  refine rn_iaload 11 d_G_isEntry_10 rfl rfl (by decide) (by omega) (by omega) ?_
  refine rn_iload_n 12 d_G_isEntry_11 rfl rfl ?_
  refine rn_icmp_ne 19 15 d_G_isEntry_12 rfl rfl ⟨by omega, by omega⟩ ⟨by omega, by omega⟩ (fun c_12 => ?_) (fun c_12 => ?_)
  · refine rn_iconst 20 d_G_isEntry_19 rfl ?_
    exact rn_ireturn d_G_isEntry_20 (Or.inr ⟨rfl, Or.inl rfl⟩) ⟨by rw [bz_f (by omega)], rfl⟩
  · refine rn_iconst 16 d_G_isEntry_15 rfl ?_
    refine rn_goto 20 d_G_isEntry_16 rfl ?_
    exact rn_ireturn d_G_isEntry_20 (Or.inr ⟨rfl, Or.inr rfl⟩) ⟨by rw [bz_t (by omega)], rfl⟩
def sG_setEnd (σ : av_S) (b k x y : Int) : av_S := up (up (up σ 4 (uI (σ 4) b k)) 5 (uI (σ 5) (2 * b) x)) 5 (uI (uI (σ 5) (2 * b) x) (2 * b + 1) y)
set_option maxRecDepth 100000 in
set_option maxHeartbeats 400000 in
theorem ev_G_setEnd {sc : av_sc} {d : Nat} {σ : av_S} {b k x y : Int} (hb : 0 ≤ b ∧ b < 24) : av_Ev sc m_G_setEnd (d) false 0 0 [vR 1, vI b, vI k, vI x, vI y] (hp σ) (fun r h => r = none ∧ h = hp (sG_setEnd σ b k x y)) := by
  refine av_ev rfl rfl (Nat.le_of_ble_eq_true rfl) rfl ?_
  refine rn_aload_n 1 d_G_setEnd_0 rfl rfl ?_
  refine rn_getfield 4 d_G_setEnd_1 rfl fd_G_18 rfl rfl ?_
  refine rn_iload_n 5 d_G_setEnd_4 rfl rfl ?_
  refine rn_iload_n 6 d_G_setEnd_5 rfl rfl ?_
  refine rn_iastore 7 d_G_setEnd_6 rfl rfl (by decide) (by omega) (by omega) (hs_4 _ _) ?_
  refine rn_aload_n 8 d_G_setEnd_7 rfl rfl ?_
  refine rn_getfield 11 d_G_setEnd_8 rfl fd_G_21 rfl rfl ?_
  refine rn_iconst 12 d_G_setEnd_11 rfl ?_
  refine rn_iload_n 13 d_G_setEnd_12 rfl rfl ?_
  refine rn_imul 14 d_G_setEnd_13 rfl ?_
  refine rn_iload_n 15 d_G_setEnd_14 rfl rfl ?_
  refine rn_iastore 16 d_G_setEnd_15 rfl rfl (by decide) (by omega) (by omega) (hs_5 _ _) ?_
  refine rn_aload_n 17 d_G_setEnd_16 rfl rfl ?_
  refine rn_getfield 20 d_G_setEnd_17 rfl fd_G_21 rfl rfl ?_
  refine rn_iconst 21 d_G_setEnd_20 rfl ?_
  refine rn_iload_n 22 d_G_setEnd_21 rfl rfl ?_
  refine rn_imul 23 d_G_setEnd_22 rfl ?_
  refine rn_iconst 24 d_G_setEnd_23 rfl ?_
  refine rn_iadd 25 d_G_setEnd_24 rfl ?_
  refine rn_iload 27 d_G_setEnd_25 rfl rfl ?_
  refine rn_iastore 28 d_G_setEnd_27 rfl rfl (by decide) (by omega) (by omega) (hs_5 _ _) ?_
  exact rn_return d_G_setEnd_28 rfl ⟨rfl, rfl⟩
def sG_add0 (σ : av_S) (f u : Int) : av_S := sG_setEnd (up (up σ 2 (uI (σ 2) (σ 1 5) f)) 3 (uI (σ 3) (σ 1 5) u)) (σ 1 5) 0 (-1) (-1)
def sG_add1 (σ : av_S) (f n : Int) : av_S := if σ 6 f = -1 then up σ 6 (uI (σ 6) f n) else σ
def sG_add2 (σ : av_S) (n : Int) : av_S := up σ 1 (uI (σ 1) 5 (n + 1))
def sG_add (σ : av_S) (f u : Int) : av_S := sG_add2 (sG_add1 (sG_add0 σ f u) f (σ 1 5)) (σ 1 5)
set_option maxRecDepth 100000 in
set_option maxHeartbeats 400000 in
theorem ev_G_add {sc : av_sc} {d : Nat} {σ : av_S} {f u : Int} (hn : 0 ≤ σ 1 5 ∧ σ 1 5 < 24) (hf : 0 ≤ f ∧ f < 4) (hT : -1 ≤ σ 6 f ∧ σ 6 f < 24) : av_Ev sc m_G_add (d + 1) false 0 0 [vR 1, vI f, vI u] (hp σ) (fun r h => r = some (vI (σ 1 5)) ∧ h = hp (sG_add σ f u)) := by
  refine av_ev rfl rfl (Nat.le_of_ble_eq_true rfl) rfl ?_
  refine rn_aload_n 1 d_G_add_0 rfl rfl ?_
  refine rn_getfield 4 d_G_add_1 rfl fd_G_27 rfl rfl ?_
  refine rn_istore_n 5 d_G_add_4 rfl (by decide) rfl rfl ?_
  refine rn_aload_n 6 d_G_add_5 rfl rfl ?_
  refine rn_getfield 9 d_G_add_6 rfl fd_G_9 rfl rfl ?_
  refine rn_iload_n 10 d_G_add_9 rfl rfl ?_
  refine rn_iload_n 11 d_G_add_10 rfl rfl ?_
  refine rn_iastore 12 d_G_add_11 rfl rfl (by decide) (by omega) (by omega) (hs_2 _ _) ?_
  refine rn_aload_n 13 d_G_add_12 rfl rfl ?_
  refine rn_getfield 16 d_G_add_13 rfl fd_G_15 rfl rfl ?_
  refine rn_iload_n 17 d_G_add_16 rfl rfl ?_
  refine rn_iload_n 18 d_G_add_17 rfl rfl ?_
  refine rn_iastore 19 d_G_add_18 rfl rfl (by decide) (by omega) (by omega) (hs_3 _ _) ?_
  refine rn_aload_n 20 d_G_add_19 rfl rfl ?_
  refine rn_iload_n 21 d_G_add_20 rfl rfl ?_
  refine rn_iconst 22 d_G_add_21 rfl ?_
  refine rn_iconst 23 d_G_add_22 rfl ?_
  refine rn_iconst 24 d_G_add_23 rfl ?_
  refine rn_callV4 27 d_G_add_24 rfl cw_G_37 rfl (Nat.le_of_ble_eq_true rfl) (ev_G_setEnd ⟨by omega, by omega⟩) ?_
  rintro _ _ ⟨rfl, rfl⟩
  change av_Rn _ _ _ _ _ _ _ _ _ _ (hp (sG_add0 σ f u)) _
  have hT0 : (sG_add0 σ f u) 6 f = σ 6 f := rfl
  refine rn_aload_n 28 d_G_add_27 rfl rfl ?_
  refine rn_getfield 31 d_G_add_28 rfl fd_G_24 rfl rfl ?_
  refine rn_iload_n 32 d_G_add_31 rfl rfl ?_
  refine rn_iaload 33 d_G_add_32 rfl rfl (by decide) (by omega) (by omega) ?_
  refine rn_iconst 34 d_G_add_33 rfl ?_
  refine rn_icmp_ne 44 37 d_G_add_34 rfl rfl ⟨by omega, by omega⟩ ⟨by omega, by omega⟩ (fun c_34 => ?_) (fun c_34 => ?_)
  · refine rn_aload_n 45 d_G_add_44 rfl rfl ?_
    refine rn_dup 46 d_G_add_45 rfl rfl ?_
    refine rn_getfield 49 d_G_add_46 rfl fd_G_27 rfl rfl ?_
    refine rn_iconst 50 d_G_add_49 rfl ?_
    refine rn_iadd 51 d_G_add_50 rfl ?_
    refine rn_putfield 54 d_G_add_51 rfl fp_G_27 rfl (Nat.le_of_ble_eq_true rfl) av_fitI (hs_1_5 _ _) ?_
    refine rn_iload_n 55 d_G_add_54 rfl rfl ?_
    refine rn_ireturn d_G_add_55 (Or.inl rfl) ⟨rfl, ?_⟩
    unfold sG_add sG_add1
    first | rw [if_pos (by omega)] | rw [if_neg (by omega)]
    rfl
  · refine rn_aload_n 38 d_G_add_37 rfl rfl ?_
    refine rn_getfield 41 d_G_add_38 rfl fd_G_24 rfl rfl ?_
    refine rn_iload_n 42 d_G_add_41 rfl rfl ?_
    refine rn_iload_n 43 d_G_add_42 rfl rfl ?_
    refine rn_iastore 44 d_G_add_43 rfl rfl (by decide) (by omega) (by omega) (hs_6 _ _) ?_
    refine rn_aload_n 45 d_G_add_44 rfl rfl ?_
    refine rn_dup 46 d_G_add_45 rfl rfl ?_
    refine rn_getfield 49 d_G_add_46 rfl fd_G_27 rfl rfl ?_
    refine rn_iconst 50 d_G_add_49 rfl ?_
    refine rn_iadd 51 d_G_add_50 rfl ?_
    refine rn_putfield 54 d_G_add_51 rfl fp_G_27 rfl (Nat.le_of_ble_eq_true rfl) av_fitI (hs_1_5 _ _) ?_
    refine rn_iload_n 55 d_G_add_54 rfl rfl ?_
    refine rn_ireturn d_G_add_55 (Or.inl rfl) ⟨rfl, ?_⟩
    unfold sG_add sG_add1
    first | rw [if_pos (by omega)] | rw [if_neg (by omega)]
    rfl
def mn (x y : Int) : Int := if y < x then y else x
def sN_addToBlock (σ : av_S) (b n : Int) : av_S := up σ 8 (uI (σ 8) b (mn 1000000 (σ 8 b + n)))
set_option maxRecDepth 100000 in
set_option maxHeartbeats 400000 in
theorem ev_N_addToBlock {sc : av_sc} {d : Nat} {σ : av_S} {b n : Int} (hb : 0 ≤ b ∧ b < 24) (hn : 0 ≤ n ∧ n ≤ 1000000) (hc : 0 ≤ σ 8 b ∧ σ 8 b ≤ 1000000) : av_Ev sc m_N_addToBlock (d + 1) false 0 0 [vR 7, vI b, vI n] (hp σ) (fun r h => r = none ∧ h = hp (sN_addToBlock σ b n)) := by
  refine av_ev rfl rfl (Nat.le_of_ble_eq_true rfl) rfl ?_
  refine rn_aload_n 1 d_N_addToBlock_0 rfl rfl ?_
  refine rn_getfield 4 d_N_addToBlock_1 rfl fd_N_9 rfl rfl ?_
  refine rn_iload_n 5 d_N_addToBlock_4 rfl rfl ?_
  refine rn_ldc 7 d_N_addToBlock_5 rfl 1000000 lc_N_18 rfl ?_
  refine rn_aload_n 8 d_N_addToBlock_7 rfl rfl ?_
  refine rn_getfield 11 d_N_addToBlock_8 rfl fd_N_9 rfl rfl ?_
  refine rn_iload_n 12 d_N_addToBlock_11 rfl rfl ?_
  refine rn_iaload 13 d_N_addToBlock_12 rfl rfl (by decide) (by omega) (by omega) ?_
  refine rn_iload_n 14 d_N_addToBlock_13 rfl rfl ?_
  refine rn_iadd 15 d_N_addToBlock_14 rfl ?_
  refine rn_min 18 d_N_addToBlock_15 rfl cw_N_19 (Nat.le_of_ble_eq_true rfl) ⟨by omega, by omega⟩ ⟨by omega, by omega⟩ ?_
  refine rn_iastore 19 d_N_addToBlock_18 rfl rfl (by decide) (by omega) (by omega) (hs_8 _ _) ?_
  exact rn_return d_N_addToBlock_19 rfl ⟨rfl, rfl⟩
def sN_addToEdge (σ : av_S) (b n : Int) : av_S := up σ 9 (uI (σ 9) b (mn 1000000 (σ 9 b + n)))
set_option maxRecDepth 100000 in
set_option maxHeartbeats 400000 in
theorem ev_N_addToEdge {sc : av_sc} {d : Nat} {σ : av_S} {b n : Int} (hb : 0 ≤ b ∧ b < 48) (hn : 0 ≤ n ∧ n ≤ 1000000) (hc : 0 ≤ σ 9 b ∧ σ 9 b ≤ 1000000) : av_Ev sc m_N_addToEdge (d + 1) false 0 0 [vR 7, vI b, vI n] (hp σ) (fun r h => r = none ∧ h = hp (sN_addToEdge σ b n)) := by
  refine av_ev rfl rfl (Nat.le_of_ble_eq_true rfl) rfl ?_
  refine rn_aload_n 1 d_N_addToEdge_0 rfl rfl ?_
  refine rn_getfield 4 d_N_addToEdge_1 rfl fd_N_15 rfl rfl ?_
  refine rn_iload_n 5 d_N_addToEdge_4 rfl rfl ?_
  refine rn_ldc 7 d_N_addToEdge_5 rfl 1000000 lc_N_18 rfl ?_
  refine rn_aload_n 8 d_N_addToEdge_7 rfl rfl ?_
  refine rn_getfield 11 d_N_addToEdge_8 rfl fd_N_15 rfl rfl ?_
  refine rn_iload_n 12 d_N_addToEdge_11 rfl rfl ?_
  refine rn_iaload 13 d_N_addToEdge_12 rfl rfl (by decide) (by omega) (by omega) ?_
  refine rn_iload_n 14 d_N_addToEdge_13 rfl rfl ?_
  refine rn_iadd 15 d_N_addToEdge_14 rfl ?_
  refine rn_min 18 d_N_addToEdge_15 rfl cw_N_19 (Nat.le_of_ble_eq_true rfl) ⟨by omega, by omega⟩ ⟨by omega, by omega⟩ ?_
  refine rn_iastore 19 d_N_addToEdge_18 rfl rfl (by decide) (by omega) (by omega) (hs_9 _ _) ?_
  exact rn_return d_N_addToEdge_19 rfl ⟨rfl, rfl⟩
def sN_clearEdges (σ : av_S) (b : Int) : av_S := up (up σ 9 (uI (σ 9) (2 * b) 0)) 9 (uI (uI (σ 9) (2 * b) 0) (2 * b + 1) 0)
set_option maxRecDepth 100000 in
set_option maxHeartbeats 400000 in
theorem ev_N_clearEdges {sc : av_sc} {d : Nat} {σ : av_S} {b : Int} (hb : 0 ≤ b ∧ b < 24) : av_Ev sc m_N_clearEdges (d) false 0 0 [vR 7, vI b] (hp σ) (fun r h => r = none ∧ h = hp (sN_clearEdges σ b)) := by
  refine av_ev rfl rfl (Nat.le_of_ble_eq_true rfl) rfl ?_
  refine rn_aload_n 1 d_N_clearEdges_0 rfl rfl ?_
  refine rn_getfield 4 d_N_clearEdges_1 rfl fd_N_15 rfl rfl ?_
  refine rn_iconst 5 d_N_clearEdges_4 rfl ?_
  refine rn_iload_n 6 d_N_clearEdges_5 rfl rfl ?_
  refine rn_imul 7 d_N_clearEdges_6 rfl ?_
  refine rn_iconst 8 d_N_clearEdges_7 rfl ?_
  refine rn_iastore 9 d_N_clearEdges_8 rfl rfl (by decide) (by omega) (by omega) (hs_9 _ _) ?_
  refine rn_aload_n 10 d_N_clearEdges_9 rfl rfl ?_
  refine rn_getfield 13 d_N_clearEdges_10 rfl fd_N_15 rfl rfl ?_
  refine rn_iconst 14 d_N_clearEdges_13 rfl ?_
  refine rn_iload_n 15 d_N_clearEdges_14 rfl rfl ?_
  refine rn_imul 16 d_N_clearEdges_15 rfl ?_
  refine rn_iconst 17 d_N_clearEdges_16 rfl ?_
  refine rn_iadd 18 d_N_clearEdges_17 rfl ?_
  refine rn_iconst 19 d_N_clearEdges_18 rfl ?_
  refine rn_iastore 20 d_N_clearEdges_19 rfl rfl (by decide) (by omega) (by omega) (hs_9 _ _) ?_
  exact rn_return d_N_clearEdges_20 rfl ⟨rfl, rfl⟩
def sN_clear (σ : av_S) : av_S := up (up σ 8 (fun _ => 0)) 9 (fun _ => 0)
set_option maxRecDepth 100000 in
set_option maxHeartbeats 400000 in
theorem ev_N_clear {sc : av_sc} {d : Nat} {σ : av_S} : av_Ev sc m_N_clear (d + 1) false 0 0 [vR 7] (hp σ) (fun r h => r = none ∧ h = hp (sN_clear σ)) := by
  refine av_ev rfl rfl (Nat.le_of_ble_eq_true rfl) rfl ?_
  refine rn_aload_n 1 d_N_clear_0 rfl rfl ?_
  refine rn_getfield 4 d_N_clear_1 rfl fd_N_9 rfl rfl ?_
  refine rn_iconst 5 d_N_clear_4 rfl ?_
  refine rn_callS2 8 d_N_clear_5 rfl cw_N_44 (Nat.le_of_ble_eq_true rfl) (ev_A_fill (f := σ 8) rfl (by decide)) ?_
  rintro _ _ ⟨rfl, rfl⟩
  refine rn_aload_n 9 d_N_clear_8 rfl rfl ?_
  refine rn_getfield 12 d_N_clear_9 rfl fd_N_15 rfl rfl ?_
  refine rn_iconst 13 d_N_clear_12 rfl ?_
  refine rn_callS2 16 d_N_clear_13 rfl cw_N_44 (Nat.le_of_ble_eq_true rfl) (ev_A_fill (f := σ 9) rfl (by decide)) ?_
  rintro _ _ ⟨rfl, rfl⟩
  exact rn_return d_N_clear_16 rfl ⟨rfl, rfl⟩
end
section
section
variable {sc : av_sc} {M : av_M} {d n0 bc bs pc : Nat} {al : Bool} {lv : av_L} {st : List av_V} {h : av_H} {Φ : Option av_V → av_H → Prop}
theorem rn_ishr (pc' : Nat) {x y : Int} (hd : decode M.2.1 pc = .ok (.ishr, 1)) (hp : pc + 1 = pc') (z : Int) (hz : Int32.ofInt x >>> (Int32.ofInt y &&& 31) = Int32.ofInt z) (k : av_Rn sc M d al n0 bc bs pc' lv (vI z :: st) h Φ) : av_Rn sc M d al n0 bc bs pc lv (vI y :: vI x :: st) h Φ := by
  subst hp
  intro p l e R s m args below meth c D ty A b ad0 mc ms Q X HR ad H locs ls cells slots G L hc hs
  have k := k p l e R s m args below meth c D ty A b ad0 mc ms Q X HR ad H locs ls cells slots G L hc hs
  exact lv_ishr X.1.1 X.1.2.1 hd (by rw [hz]; exact k)
theorem rn_kill (j : Nat) {lv' : av_L} (hl : lv.set j none = lv') (k : av_Rn sc M d al n0 bc bs pc lv' st h Φ) : av_Rn sc M d al n0 bc bs pc lv st h Φ := by
  subst hl
  refine rn_drop (lv.set j none) (fun i v hv => ?_) k
  rw [List.getElem?_set] at hv
  by_cases hi : j = i
  · subst hi
    simp only [if_true] at hv
    split at hv <;> simp at hv
  · simpa [hi] using hv
end
/-- the bit that the class looks at, and the reference's -/
def btC (x i : Int) : Int := (Int32.ofInt (((Int32.ofInt x).toUInt32 >>> ((Int32.ofInt i).toUInt32 &&& Int32.toUInt32 31)).toInt32.toInt) &&& Int32.ofInt 1).toInt
def btM (x i : Int) : Int := (Int32.ofInt ((Int32.ofInt x >>> (Int32.ofInt i &&& 31)).toInt) &&& Int32.ofInt 1).toInt
theorem btC_in (x i : Int) : av_in (btC x i) := ⟨Int32.le_toInt _, Int32.toInt_lt _⟩
theorem btM_in (x i : Int) : av_in (btM x i) := ⟨Int32.le_toInt _, Int32.toInt_lt _⟩
/-- an array holds a list from s on -/
def hl (f : Int → Int) (s : Int) : List Int → Prop
  | [] => True
  | x :: r => f s = x ∧ hl f (s + 1) r
theorem hl_at {f : Int → Int} : ∀ {l : List Int} {s : Int}, hl f s l → ∀ (i : Nat) (x : Int), l[i]? = some x → f (s + (i : Int)) = x := by
  intro l
  induction l with
  | nil => intro s _ i x h; simp at h
  | cons a l ih =>
    intro s h i x hx
    cases i with
    | zero => simp at hx; subst hx; simpa using h.1
    | succ i =>
      simp only [List.getElem?_cons_succ] at hx
      have := ih h.2 i x hx
      rw [show s + ((i + 1 : Nat) : Int) = s + 1 + (i : Int) by omega]
      exact this
/-- which edge is taken, and a walk: the blocks with the edges by which they are left -/
def wE (en : Int → Int) (hd t b : Int) : Int := if en b = 2 then (if t < 32 ∧ btC hd t = 1 then 0 else 1) else 0
def wT (en : Int → Int) (t b : Int) : Int := if en b = 2 then t + 1 else t
def wk (en to : Int → Int) (hd : Int) : Nat → Int → Int → List (Int × Int)
  | 0, _, _ => []
  | k + 1, t, b => if b = -1 then [] else (b, wE en hd t b) :: wk en to hd k (wT en t b) (to (2 * b + wE en hd t b))
def tS (σ : av_S) (f g : Int → Int) (s : Int) : av_S := up (up (up σ 11 f) 12 g) 10 (uI (σ 10) 2 s)
end
section
set_option maxRecDepth 100000 in
set_option maxHeartbeats 400000 in
theorem ev_T_holdsAt {sc : av_sc} {d : Nat} {σ : av_S} {i x : Int} (hi : av_in i) : av_Ev sc m_T_holdsAt (d) false 0 0 [vI i, vI x] (hp σ) (fun r h => r = some (vI (bz (i < 32 ∧ btC x i = 1))) ∧ h = hp σ) := by
  obtain ⟨hi1, hi2⟩ := hi
  refine av_ev rfl rfl (Nat.le_of_ble_eq_true rfl) rfl ?_
  refine rn_iload_n 1 d_T_holdsAt_0 rfl rfl ?_
  refine rn_bipush 3 d_T_holdsAt_1 rfl rfl ?_
  refine rn_icmp_ge 19 6 d_T_holdsAt_3 rfl rfl ⟨by omega, by omega⟩ ⟨by omega, by omega⟩ (fun c_3 => ?_) (fun c_3 => ?_)
  · refine rn_iconst 20 d_T_holdsAt_19 rfl ?_
    exact rn_ireturn d_T_holdsAt_20 (Or.inr ⟨rfl, Or.inl rfl⟩) ⟨by rw [bz_f (by omega)], rfl⟩
  · refine rn_iload_n 7 d_T_holdsAt_6 rfl rfl ?_
    refine rn_iload_n 8 d_T_holdsAt_7 rfl rfl ?_
    refine rn_iushr 9 d_T_holdsAt_8 rfl _ (Int32.ofInt_toInt _).symm ?_
    refine rn_iconst 10 d_T_holdsAt_9 rfl ?_
    refine rn_iand 11 d_T_holdsAt_10 rfl (btC x i) (Int32.ofInt_toInt _).symm ?_
    refine rn_iconst 12 d_T_holdsAt_11 rfl ?_
    refine rn_icmp_ne 19 15 d_T_holdsAt_12 rfl rfl (btC_in x i) ⟨by omega, by omega⟩ (fun c_12 => ?_) (fun c_12 => ?_)
    · refine rn_iconst 20 d_T_holdsAt_19 rfl ?_
      exact rn_ireturn d_T_holdsAt_20 (Or.inr ⟨rfl, Or.inl rfl⟩) ⟨by rw [bz_f (by omega)], rfl⟩
    · refine rn_iconst 16 d_T_holdsAt_15 rfl ?_
      refine rn_goto 20 d_T_holdsAt_16 rfl ?_
      exact rn_ireturn d_T_holdsAt_20 (Or.inr ⟨rfl, Or.inr rfl⟩) ⟨by rw [bz_t (by omega)], rfl⟩
set_option maxRecDepth 100000 in
set_option maxHeartbeats 400000 in
theorem follow_loop {sc : av_sc} {d n0 bc bs : Nat} {al : Bool} {σ : av_S} {n fv hd : Int} {Φ : Option av_V → av_H → Prop} (hG : ∀ b, 0 ≤ b → b < n → (0 ≤ σ 4 b ∧ σ 4 b ≤ 2) ∧ (∀ e, 0 ≤ e → e ≤ 1 → -1 ≤ σ 5 (2 * b + e) ∧ σ 5 (2 * b + e) < n)) (hn : n ≤ 24) (hhd : av_in hd) :
    ∀ (k : Nat) (s t b : Int) (f g : Int → Int), s + (k : Int) = 60 → 0 ≤ s → 0 ≤ t → t ≤ s → -1 ≤ b → b < n → (∀ f' g' : Int → Int, (∀ j, 0 ≤ j → j < s → f' j = f j ∧ g' j = g j) → hl f' s ((wk (σ 4) (σ 5) hd k t b).map Prod.fst) → hl g' s ((wk (σ 4) (σ 5) hd k t b).map Prod.snd) → Φ none (hp (tS σ f' g' (s + ((wk (σ 4) (σ 5) hd k t b).length : Int))))) →
      av_Rn sc m_T_follow (d + 1) al n0 bc bs 16 [some (vR 10), some (vR 1), some (vI fv), some (vI hd), some (vI t), some (vI b), none] [] (hp (tS σ f g s)) Φ := by
  intro k
  induction k with
  | zero =>
    intro s t b f g hs h0 ht0 ht hb0 hb hΦ
    refine rn_aload_n 17 d_T_follow_16 rfl rfl ?_
    refine rn_getfield 20 d_T_follow_17 rfl fd_T_18 rfl rfl ?_
    refine rn_bipush 22 d_T_follow_20 rfl rfl ?_
    rw [show (tS σ f g s) 10 2 = s from rfl]
    refine rn_icmp_ge 113 25 d_T_follow_22 rfl rfl ⟨by omega, by omega⟩ ⟨by omega, by omega⟩ (fun c_22 => ?_) (fun c_22 => ?_)
    · have hf := hΦ f g (fun j _ _ => ⟨rfl, rfl⟩) trivial trivial
      rw [show (s + ((wk (σ 4) (σ 5) hd 0 t b).length : Int)) = s from Int.add_zero s] at hf
      exact rn_return d_T_follow_113 rfl hf
    · have hq : s < 60 := c_22
      omega
  | succ k ih =>
    intro s t b f g hs h0 ht0 ht hb0 hb hΦ
    refine rn_aload_n 17 d_T_follow_16 rfl rfl ?_
    refine rn_getfield 20 d_T_follow_17 rfl fd_T_18 rfl rfl ?_
    refine rn_bipush 22 d_T_follow_20 rfl rfl ?_
    rw [show (tS σ f g s) 10 2 = s from rfl]
    refine rn_icmp_ge 113 25 d_T_follow_22 rfl rfl ⟨by omega, by omega⟩ ⟨by omega, by omega⟩ (fun c_22 => ?_) (fun c_22 => ?_)
    · omega
    · refine rn_iload 27 d_T_follow_25 rfl rfl ?_
      refine rn_iconst 28 d_T_follow_27 rfl ?_
      refine rn_icmp_eq 113 31 d_T_follow_28 rfl rfl ⟨by omega, by omega⟩ ⟨by omega, by omega⟩ (fun c_28 => ?_) (fun c_28 => ?_)
      · subst c_28
        have hf := hΦ f g (fun j _ _ => ⟨rfl, rfl⟩) trivial trivial
        rw [show (s + ((wk (σ 4) (σ 5) hd (k + 1) t (-1)).length : Int)) = s from Int.add_zero s] at hf
        exact rn_return d_T_follow_113 rfl hf
      · have hw : wk (σ 4) (σ 5) hd (k + 1) t b = (b, wE (σ 4) hd t b) :: wk (σ 4) (σ 5) hd k (wT (σ 4) t b) (σ 5 (2 * b + wE (σ 4) hd t b)) := if_neg c_28
        obtain ⟨hG1, hG2⟩ := hG b (by omega) (by omega)
        have he01 : 0 ≤ wE (σ 4) hd t b ∧ wE (σ 4) hd t b ≤ 1 := by unfold wE; split <;> (try split) <;> omega
        have ht01 : 0 ≤ wT (σ 4) t b ∧ wT (σ 4) t b ≤ s + 1 := by unfold wT; split <;> omega
        have J : ∀ e t', e = wE (σ 4) hd t b → t' = wT (σ 4) t b → av_Rn sc m_T_follow (d + 1) al n0 bc bs 64 [some (vR 10), some (vR 1), some (vI fv), some (vI hd), some (vI t'), some (vI b), some (vI e)] [] (hp (tS σ f g s)) Φ := by
          intro e t' he ht'
          subst he; subst ht'
          refine rn_aload_n 65 d_T_follow_64 rfl rfl ?_
          refine rn_getfield 68 d_T_follow_65 rfl fd_T_9 rfl rfl ?_
          refine rn_aload_n 69 d_T_follow_68 rfl rfl ?_
          refine rn_getfield 72 d_T_follow_69 rfl fd_T_18 rfl rfl ?_
          rw [show (tS σ f g s) 10 2 = s from rfl]
          refine rn_iload 74 d_T_follow_72 rfl rfl ?_
          refine rn_iastore 75 d_T_follow_74 rfl rfl (by decide) (by omega) (by omega) (hs_11 _ _) ?_
          change av_Rn _ _ _ _ _ _ _ _ _ _ (hp (tS σ (uI f s b) g s)) _
          refine rn_aload_n 76 d_T_follow_75 rfl rfl ?_
          refine rn_getfield 79 d_T_follow_76 rfl fd_T_15 rfl rfl ?_
          refine rn_aload_n 80 d_T_follow_79 rfl rfl ?_
          refine rn_getfield 83 d_T_follow_80 rfl fd_T_18 rfl rfl ?_
          rw [show (tS σ (uI f s b) g s) 10 2 = s from rfl]
          refine rn_iload 85 d_T_follow_83 rfl rfl ?_
          refine rn_iastore 86 d_T_follow_85 rfl rfl (by decide) (by omega) (by omega) (hs_12 _ _) ?_
          change av_Rn _ _ _ _ _ _ _ _ _ _ (hp (tS σ (uI f s b) (uI g s (wE (σ 4) hd t b)) s)) _
          refine rn_aload_n 87 d_T_follow_86 rfl rfl ?_
          refine rn_dup 88 d_T_follow_87 rfl rfl ?_
          refine rn_getfield 91 d_T_follow_88 rfl fd_T_18 rfl rfl ?_
          rw [show (tS σ (uI f s b) (uI g s (wE (σ 4) hd t b)) s) 10 2 = s from rfl]
          refine rn_iconst 92 d_T_follow_91 rfl ?_
          refine rn_iadd 93 d_T_follow_92 rfl ?_
          refine rn_putfield 96 d_T_follow_93 rfl fp_T_18 rfl (Nat.le_of_ble_eq_true rfl) av_fitI (hs_10_2 _ _) ?_
          change av_Rn _ _ _ _ _ _ _ _ _ _ (hp (tS σ (uI f s b) (uI g s (wE (σ 4) hd t b)) (s + 1))) _
          refine rn_aload_n 97 d_T_follow_96 rfl rfl ?_
          refine rn_getfield 100 d_T_follow_97 rfl fd_T_34 rfl rfl ?_
          refine rn_iconst 101 d_T_follow_100 rfl ?_
          refine rn_iload 103 d_T_follow_101 rfl rfl ?_
          refine rn_imul 104 d_T_follow_103 rfl ?_
          refine rn_iload 106 d_T_follow_104 rfl rfl ?_
          refine rn_iadd 107 d_T_follow_106 rfl ?_
          have hto := hG2 (wE (σ 4) hd t b) he01.1 he01.2
          refine rn_iaload 108 d_T_follow_107 rfl rfl (by decide) (by omega) (by omega) ?_
          rw [show (tS σ (uI f s b) (uI g s (wE (σ 4) hd t b)) (s + 1)) 5 (2 * b + wE (σ 4) hd t b) = σ 5 (2 * b + wE (σ 4) hd t b) from rfl]
          refine rn_istore 110 d_T_follow_108 rfl (by decide) rfl rfl ?_
          refine rn_goto 16 d_T_follow_110 rfl ?_
          refine rn_kill 6 rfl ?_
          refine ih (s + 1) _ _ _ _ (by omega) (by omega) (by omega) (by omega) (by omega) (by omega) (fun f' g' h1 h2 h3 => ?_)
          have hf := hΦ f' g' (fun j q1 q2 => ?_) ?_ ?_
          · rw [hw] at hf
            rw [show (s + ((((b, wE (σ 4) hd t b) :: wk (σ 4) (σ 5) hd k (wT (σ 4) t b) (σ 5 (2 * b + wE (σ 4) hd t b))).length : Nat) : Int)) = s + 1 + ((wk (σ 4) (σ 5) hd k (wT (σ 4) t b) (σ 5 (2 * b + wE (σ 4) hd t b))).length : Int) by simp only [List.length_cons]; omega] at hf
            exact hf
          · have := h1 j q1 (by omega)
            rw [uI_n f b (by omega), uI_n g _ (by omega)] at this
            exact this
          · rw [hw]
            have := (h1 s h0 (by omega)).1
            rw [uI_s] at this
            exact ⟨this, h2⟩
          · rw [hw]
            have := (h1 s h0 (by omega)).2
            rw [uI_s] at this
            exact ⟨this, h3⟩
        refine rn_iconst 32 d_T_follow_31 rfl ?_
        refine rn_istore 34 d_T_follow_32 rfl (by decide) rfl rfl ?_
        refine rn_aload_n 35 d_T_follow_34 rfl rfl ?_
        refine rn_getfield 38 d_T_follow_35 rfl fd_T_27 rfl rfl ?_
        refine rn_iload 40 d_T_follow_38 rfl rfl ?_
        refine rn_iaload 41 d_T_follow_40 rfl rfl (by decide) (by omega) (by omega) ?_
        rw [show (tS σ f g s) 4 b = σ 4 b from rfl]
        refine rn_iconst 42 d_T_follow_41 rfl ?_
        refine rn_icmp_ne 64 45 d_T_follow_42 rfl rfl ⟨by omega, by omega⟩ ⟨by omega, by omega⟩ (fun c_42 => ?_) (fun c_42 => ?_)
        · exact J _ _ (by unfold wE; first | rw [if_neg c_42] | rw [if_pos c_42, if_neg c_51] | rw [if_pos c_42, if_pos c_51]) (by unfold wT; first | rw [if_neg c_42] | rw [if_pos c_42])
        · refine rn_iload 47 d_T_follow_45 rfl rfl ?_
          refine rn_iload_n 48 d_T_follow_47 rfl rfl ?_
          refine rn_callS2 51 d_T_follow_48 rfl cw_T_30 (Nat.le_of_ble_eq_true rfl) (ev_T_holdsAt ⟨by omega, by omega⟩) ?_
          rintro _ _ ⟨rfl, rfl⟩
          refine rn_ifB_eq 58 54 d_T_follow_51 rfl rfl (fun c_51 => ?_) (fun c_51 => ?_)
          · refine rn_iconst 59 d_T_follow_58 rfl ?_
            refine rn_istore 61 d_T_follow_59 rfl (by decide) rfl rfl ?_
            refine rn_iinc 64 d_T_follow_61 rfl rfl (by decide) rfl rfl ?_
            exact J _ _ (by unfold wE; first | rw [if_neg c_42] | rw [if_pos c_42, if_neg c_51] | rw [if_pos c_42, if_pos c_51]) (by unfold wT; first | rw [if_neg c_42] | rw [if_pos c_42])
          · refine rn_iconst 55 d_T_follow_54 rfl ?_
            refine rn_goto 59 d_T_follow_55 rfl ?_
            refine rn_istore 61 d_T_follow_59 rfl (by decide) rfl rfl ?_
            refine rn_iinc 64 d_T_follow_61 rfl rfl (by decide) rfl rfl ?_
            exact J _ _ (by unfold wE; first | rw [if_neg c_42] | rw [if_pos c_42, if_neg c_51] | rw [if_pos c_42, if_pos c_51]) (by unfold wT; first | rw [if_neg c_42] | rw [if_pos c_42])
set_option maxRecDepth 100000 in
set_option maxHeartbeats 400000 in
theorem ev_T_follow {sc : av_sc} {d : Nat} {σ : av_S} {n f x : Int} (hG : ∀ b, 0 ≤ b → b < n → (0 ≤ σ 4 b ∧ σ 4 b ≤ 2) ∧ (∀ e, 0 ≤ e → e ≤ 1 → -1 ≤ σ 5 (2 * b + e) ∧ σ 5 (2 * b + e) < n)) (hn : n ≤ 24) (hf : 0 ≤ f ∧ f < 4) (hx : av_in x) (hT : -1 ≤ σ 6 f ∧ σ 6 f < n) : av_Ev sc m_T_follow (d + 1) false 0 0 [vR 10, vR 1, vI f, vI x] (hp σ) (fun r h => r = none ∧ ∃ f' g' : Int → Int, hl f' 0 ((wk (σ 4) (σ 5) x 60 0 (σ 6 f)).map Prod.fst) ∧ hl g' 0 ((wk (σ 4) (σ 5) x 60 0 (σ 6 f)).map Prod.snd) ∧ h = hp (tS σ f' g' ((wk (σ 4) (σ 5) x 60 0 (σ 6 f)).length : Int))) := by
  refine av_ev rfl rfl (Nat.le_of_ble_eq_true rfl) rfl ?_
  refine rn_iconst 1 d_T_follow_0 rfl ?_
  refine rn_istore 3 d_T_follow_1 rfl (by decide) rfl rfl ?_
  refine rn_aload_n 4 d_T_follow_3 rfl rfl ?_
  refine rn_getfield 7 d_T_follow_4 rfl fd_T_22 rfl rfl ?_
  refine rn_iload_n 8 d_T_follow_7 rfl rfl ?_
  refine rn_iaload 9 d_T_follow_8 rfl rfl (by decide) (by omega) (by omega) ?_
  refine rn_istore 11 d_T_follow_9 rfl (by decide) rfl rfl ?_
  refine rn_aload_n 12 d_T_follow_11 rfl rfl ?_
  refine rn_iconst 13 d_T_follow_12 rfl ?_
  refine rn_putfield 16 d_T_follow_13 rfl fp_T_18 rfl (Nat.le_of_ble_eq_true rfl) av_fitI (hs_10_2 _ _) ?_
  change av_Rn _ _ _ _ _ _ _ _ _ _ (hp (tS σ (σ 11) (σ 12) 0)) _
  refine follow_loop hG hn hx 60 0 0 (σ 6 f) (σ 11) (σ 12) (by decide) (by omega) (by omega) (by omega) hT.1 hT.2 (fun f' g' _ h2 h3 => ⟨rfl, f', g', h2, h3, ?_⟩)
  rw [Int.zero_add]
end
section
/-- one more, at most 1000000 -/
def inc (f : Int → Int) (b : Int) : Int → Int := uI f b (mn 1000000 (f b + 1))
def cb : List (Int × Int) → (Int → Int) → Int → Int
  | [], f => f
  | p :: r, f => cb r (inc f p.1)
def ce : List (Int × Int) → (Int → Int) → Int → Int
  | [], f => f
  | [_], f => f
  | p :: q :: r, f => ce (q :: r) (inc f (2 * p.1 + p.2))
def nS (σ : av_S) (F G : Int → Int) : av_S := up (up σ 8 F) 9 G
def bd (F : Int → Int) (n : Int) : Prop := ∀ b, 0 ≤ b → b < n → 0 ≤ F b ∧ F b ≤ 1000000
theorem bd_inc {F : Int → Int} {n b : Int} (h : bd F n) (hb : 0 ≤ b ∧ b < n) : bd (inc F b) n := by
  intro j h0 h1
  unfold inc
  by_cases hj : j = b
  · subst hj
    rw [uI_s]
    have := h j h0 h1
    unfold mn
    split <;> omega
  · rw [uI_n F _ hj]
    exact h j h0 h1
theorem bd_cb {n : Int} : ∀ (l : List (Int × Int)) (F : Int → Int), (∀ p ∈ l, 0 ≤ p.1 ∧ p.1 < n) → bd F n → bd (cb l F) n := by
  intro l
  induction l with
  | nil => intro F _ h; exact h
  | cons p r ih => intro F hl h; exact ih _ (fun q hq => hl q (List.mem_cons_of_mem _ hq)) (bd_inc h (hl p List.mem_cons_self))
theorem bd_ce {n : Int} : ∀ (l : List (Int × Int)) (F : Int → Int), (∀ p ∈ l, 0 ≤ 2 * p.1 + p.2 ∧ 2 * p.1 + p.2 < n) → bd F n → bd (ce l F) n := by
  intro l
  induction l with
  | nil => intro F _ h; exact h
  | cons p r ih =>
    intro F hl h
    cases r with
    | nil => exact h
    | cons q r => exact ih _ (fun q hq => hl q (List.mem_cons_of_mem _ hq)) (bd_inc h (hl p List.mem_cons_self))
set_option maxRecDepth 100000 in
set_option maxHeartbeats 400000 in
theorem addTrail_loop {sc : av_sc} {d n0 bc bs : Nat} {al : Bool} {σ : av_S} {m : Int} {Φ : Option av_V → av_H → Prop} (hm : σ 10 2 = m) (hm6 : m ≤ 60) :
    ∀ (r : List (Int × Int)) (i : Int) (F G : Int → Int), 0 ≤ i → i + (r.length : Int) = m → hl (σ 11) i (r.map Prod.fst) → hl (σ 12) i (r.map Prod.snd) → (∀ p ∈ r, (0 ≤ p.1 ∧ p.1 < 24) ∧ 0 ≤ p.2 ∧ p.2 ≤ 1) → bd F 24 → bd G 48 → Φ none (hp (nS σ (cb r F) (ce r G))) →
      av_Rn sc m_N_addTrail (d + 2) al n0 bc bs 2 [some (vR 7), some (vR 10), some (vI i)] [] (hp (nS σ F G)) Φ := by
  intro r
  induction r with
  | nil =>
    intro i F G h0 hi h1 h2 h3 hF hG hΦ
    simp only [List.length_nil] at hi
    refine rn_iload_n 3 d_N_addTrail_2 rfl rfl ?_
    refine rn_aload_n 4 d_N_addTrail_3 rfl rfl ?_
    refine rn_getfield 7 d_N_addTrail_4 rfl fd_N_25 rfl rfl ?_
    rw [show (nS σ F G) 10 2 = σ 10 2 from rfl]
    refine rn_icmp_ge 57 10 d_N_addTrail_7 rfl rfl ⟨by omega, by omega⟩ ⟨by omega, by omega⟩ (fun c_7 => ?_) (fun c_7 => ?_)
    · exact rn_return d_N_addTrail_57 rfl hΦ
    · omega
  | cons p r ih =>
    intro i F G h0 hi h1 h2 h3 hF hG hΦ
    have hp3 := h3 p List.mem_cons_self
    simp only [List.length_cons] at hi
    have e1 : σ 11 i = p.1 := h1.1
    have e2 : σ 12 i = p.2 := h2.1
    refine rn_iload_n 3 d_N_addTrail_2 rfl rfl ?_
    refine rn_aload_n 4 d_N_addTrail_3 rfl rfl ?_
    refine rn_getfield 7 d_N_addTrail_4 rfl fd_N_25 rfl rfl ?_
    rw [show (nS σ F G) 10 2 = σ 10 2 from rfl]
    refine rn_icmp_ge 57 10 d_N_addTrail_7 rfl rfl ⟨by omega, by omega⟩ ⟨by omega, by omega⟩ (fun c_7 => ?_) (fun c_7 => ?_)
    · omega
    · refine rn_aload_n 11 d_N_addTrail_10 rfl rfl ?_
      refine rn_aload_n 12 d_N_addTrail_11 rfl rfl ?_
      refine rn_getfield 15 d_N_addTrail_12 rfl fd_N_31 rfl rfl ?_
      refine rn_iload_n 16 d_N_addTrail_15 rfl rfl ?_
      refine rn_iaload 17 d_N_addTrail_16 rfl rfl (by decide) (by omega) (by omega) ?_
      rw [show (nS σ F G) 11 i = σ 11 i from rfl]
      rw [e1]
      refine rn_iconst 18 d_N_addTrail_17 rfl ?_
      refine rn_callV2 21 d_N_addTrail_18 rfl cw_N_34 rfl (Nat.le_of_ble_eq_true rfl) (ev_N_addToBlock hp3.1 ⟨by omega, by omega⟩ (hF p.1 hp3.1.1 hp3.1.2)) ?_
      rintro _ _ ⟨rfl, rfl⟩
      change av_Rn _ _ _ _ _ _ _ _ _ _ (hp (nS σ (inc F p.1) G)) _
      refine rn_iload_n 22 d_N_addTrail_21 rfl rfl ?_
      refine rn_iconst 23 d_N_addTrail_22 rfl ?_
      refine rn_iadd 24 d_N_addTrail_23 rfl ?_
      refine rn_aload_n 25 d_N_addTrail_24 rfl rfl ?_
      refine rn_getfield 28 d_N_addTrail_25 rfl fd_N_25 rfl rfl ?_
      rw [show (nS σ (inc F p.1) G) 10 2 = σ 10 2 from rfl]
      refine rn_icmp_ge 51 31 d_N_addTrail_28 rfl rfl ⟨by omega, by omega⟩ ⟨by omega, by omega⟩ (fun c_28 => ?_) (fun c_28 => ?_)
      · have L1 : ∀ G1 : Int → Int, bd G1 48 → Φ none (hp (nS σ (cb r (inc F p.1)) (ce r G1))) → av_Rn sc m_N_addTrail (d + 2) al n0 bc bs 51 [some (vR 7), some (vR 10), some (vI i)] [] (hp (nS σ (inc F p.1) G1)) Φ := by
          intro G1 hG1 hΦ1
          refine rn_iinc 54 d_N_addTrail_51 rfl rfl (by decide) rfl rfl ?_
          refine rn_goto 2 d_N_addTrail_54 rfl ?_
          exact ih (i + 1) _ _ (by omega) (by omega) h1.2 h2.2 (fun q hq => h3 q (List.mem_cons_of_mem _ hq)) (bd_inc hF hp3.1) hG1 hΦ1
        cases r with
        | nil =>
          simp only [List.length_nil] at hi
          first | (exfalso; omega) | exact L1 G hG hΦ
        | cons q r =>
          simp only [List.length_cons] at hi
          first | (exfalso; omega) | exact L1 (inc G (2 * p.1 + p.2)) (bd_inc hG ⟨by omega, by omega⟩) hΦ
      · refine rn_aload_n 32 d_N_addTrail_31 rfl rfl ?_
        refine rn_iconst 33 d_N_addTrail_32 rfl ?_
        refine rn_aload_n 34 d_N_addTrail_33 rfl rfl ?_
        refine rn_getfield 37 d_N_addTrail_34 rfl fd_N_31 rfl rfl ?_
        refine rn_iload_n 38 d_N_addTrail_37 rfl rfl ?_
        refine rn_iaload 39 d_N_addTrail_38 rfl rfl (by decide) (by omega) (by omega) ?_
        rw [show (nS σ (inc F p.1) G) 11 i = σ 11 i from rfl]
        rw [e1]
        refine rn_imul 40 d_N_addTrail_39 rfl ?_
        refine rn_aload_n 41 d_N_addTrail_40 rfl rfl ?_
        refine rn_getfield 44 d_N_addTrail_41 rfl fd_N_38 rfl rfl ?_
        refine rn_iload_n 45 d_N_addTrail_44 rfl rfl ?_
        refine rn_iaload 46 d_N_addTrail_45 rfl rfl (by decide) (by omega) (by omega) ?_
        rw [show (nS σ (inc F p.1) G) 12 i = σ 12 i from rfl]
        rw [e2]
        refine rn_iadd 47 d_N_addTrail_46 rfl ?_
        refine rn_iconst 48 d_N_addTrail_47 rfl ?_
        refine rn_callV2 51 d_N_addTrail_48 rfl cw_N_41 rfl (Nat.le_of_ble_eq_true rfl) (ev_N_addToEdge ⟨by omega, by omega⟩ ⟨by omega, by omega⟩ (hG (2 * p.1 + p.2) (by omega) (by omega))) ?_
        rintro _ _ ⟨rfl, rfl⟩
        change av_Rn _ _ _ _ _ _ _ _ _ _ (hp (nS σ (inc F p.1) (inc G (2 * p.1 + p.2)))) _
        have L1 : ∀ G1 : Int → Int, bd G1 48 → Φ none (hp (nS σ (cb r (inc F p.1)) (ce r G1))) → av_Rn sc m_N_addTrail (d + 2) al n0 bc bs 51 [some (vR 7), some (vR 10), some (vI i)] [] (hp (nS σ (inc F p.1) G1)) Φ := by
          intro G1 hG1 hΦ1
          refine rn_iinc 54 d_N_addTrail_51 rfl rfl (by decide) rfl rfl ?_
          refine rn_goto 2 d_N_addTrail_54 rfl ?_
          exact ih (i + 1) _ _ (by omega) (by omega) h1.2 h2.2 (fun q hq => h3 q (List.mem_cons_of_mem _ hq)) (bd_inc hF hp3.1) hG1 hΦ1
        cases r with
        | nil =>
          simp only [List.length_nil] at hi
          first | (exfalso; omega) | exact L1 G hG hΦ
        | cons q r =>
          simp only [List.length_cons] at hi
          first | (exfalso; omega) | exact L1 (inc G (2 * p.1 + p.2)) (bd_inc hG ⟨by omega, by omega⟩) hΦ
set_option maxRecDepth 100000 in
set_option maxHeartbeats 400000 in
theorem ev_N_addTrail {sc : av_sc} {d : Nat} {σ : av_S} {l : List (Int × Int)} (hm : σ 10 2 = (l.length : Int)) (hm6 : (l.length : Int) ≤ 60) (h1 : hl (σ 11) 0 (l.map Prod.fst)) (h2 : hl (σ 12) 0 (l.map Prod.snd)) (h3 : ∀ p ∈ l, (0 ≤ p.1 ∧ p.1 < 24) ∧ 0 ≤ p.2 ∧ p.2 ≤ 1) (hF : bd (σ 8) 24) (hG : bd (σ 9) 48) : av_Ev sc m_N_addTrail (d + 2) false 0 0 [vR 7, vR 10] (hp σ) (fun r h => r = none ∧ h = hp (nS σ (cb l (σ 8)) (ce l (σ 9)))) := by
  refine av_ev rfl rfl (Nat.le_of_ble_eq_true rfl) rfl ?_
  refine rn_iconst 1 d_N_addTrail_0 rfl ?_
  refine rn_istore_n 2 d_N_addTrail_1 rfl (by decide) rfl rfl ?_
  change av_Rn _ _ _ _ _ _ _ _ _ _ (hp (nS σ (σ 8) (σ 9))) _
  exact addTrail_loop hm hm6 l 0 (σ 8) (σ 9) (by omega) (by omega) h1 h2 h3 hF hG ⟨rfl, rfl⟩
end
section
/-- the class's own invariant: the graph, the counts -/
def iE (σ : av_S) (f : Int) : Prop := (σ 6 f = -1 ∧ ∀ b, 0 ≤ b → b < σ 1 5 → σ 2 b ≠ f) ∨ ((0 ≤ σ 6 f ∧ σ 6 f < σ 1 5) ∧ σ 2 (σ 6 f) = f ∧ ∀ b, 0 ≤ b → b < σ 6 f → σ 2 b ≠ f)
def iB (σ : av_S) (b : Int) : Prop := (0 ≤ σ 2 b ∧ σ 2 b ≤ 3) ∧ (1 ≤ σ 3 b ∧ σ 3 b ≤ 40) ∧ (0 ≤ σ 4 b ∧ σ 4 b ≤ 2) ∧ (∀ e, 0 ≤ e → e < σ 4 b → (0 ≤ σ 5 (2 * b + e) ∧ σ 5 (2 * b + e) < σ 1 5) ∧ σ 2 (σ 5 (2 * b + e)) = σ 2 b) ∧ (∀ e, σ 4 b ≤ e → 0 ≤ e → e ≤ 1 → σ 5 (2 * b + e) = -1)
def iL (σ : av_S) : Prop := (0 ≤ σ 1 5 ∧ σ 1 5 ≤ 24) ∧ (∀ b, 0 ≤ b → b < σ 1 5 → iB σ b) ∧ (∀ f, 0 ≤ f → f < 4 → iE σ f) ∧ bd (σ 8) 24 ∧ bd (σ 9) 48 ∧ (σ 0 6 = 0 ∨ σ 0 6 = 1) ∧ (4 ≤ σ 0 0 ∧ σ 0 0 ≤ 400)
theorem iL_F {σ : av_S} (h : iL σ) : ∀ b, 0 ≤ b → b < σ 1 5 → 0 ≤ σ 2 b ∧ σ 2 b ≤ 3 := fun b h0 h1 => (h.2.1 b h0 h1).1
theorem iL_E {σ : av_S} (h : iL σ) : ∀ b, 0 ≤ b → b < σ 1 5 → 0 ≤ σ 4 b ∧ σ 4 b ≤ 2 := fun b h0 h1 => (h.2.1 b h0 h1).2.2.1
theorem iL_T {σ : av_S} (h : iL σ) : ∀ f, 0 ≤ f → f < 4 → -1 ≤ σ 6 f ∧ σ 6 f < σ 1 5 := by
  intro f h0 h1
  have hn := h.1
  rcases h.2.2.1 f h0 h1 with ⟨q, -⟩ | ⟨q, -⟩ <;> omega
theorem iL_T24 {σ : av_S} (h : iL σ) : ∀ f, 0 ≤ f → f < 4 → -1 ≤ σ 6 f ∧ σ 6 f < 24 := by
  intro f h0 h1
  have hn := h.1
  have := iL_T h f h0 h1
  omega
theorem iL_G {σ : av_S} (h : iL σ) : ∀ b, 0 ≤ b → b < σ 1 5 → (0 ≤ σ 4 b ∧ σ 4 b ≤ 2) ∧ (∀ e, 0 ≤ e → e ≤ 1 → -1 ≤ σ 5 (2 * b + e) ∧ σ 5 (2 * b + e) < σ 1 5) := by
  intro b h0 h1
  obtain ⟨-, -, h3, h4, h5⟩ := h.2.1 b h0 h1
  refine ⟨h3, fun e q0 q1 => ?_⟩
  have hn := h.1
  by_cases he : e < σ 4 b
  · have := (h4 e q0 he).1; omega
  · have := h5 e (by omega) q0 q1; omega
/-- the blocks of a walk are blocks -/
theorem wk_ok {en to : Int → Int} {hd n : Int} (hG : ∀ b, 0 ≤ b → b < n → (0 ≤ en b ∧ en b ≤ 2) ∧ (∀ e, 0 ≤ e → e ≤ 1 → -1 ≤ to (2 * b + e) ∧ to (2 * b + e) < n)) : ∀ (k : Nat) (t b : Int), -1 ≤ b → b < n → ∀ p ∈ wk en to hd k t b, (0 ≤ p.1 ∧ p.1 < n) ∧ 0 ≤ p.2 ∧ p.2 ≤ 1 := by
  intro k
  induction k with
  | zero => intro t b _ _ p hp; cases hp
  | succ k ih =>
    intro t b h0 h1 p hp
    unfold wk at hp
    by_cases hb : b = -1
    · rw [if_pos hb] at hp; cases hp
    · rw [if_neg hb] at hp
      have he : 0 ≤ wE en hd t b ∧ wE en hd t b ≤ 1 := by unfold wE; split <;> (try split) <;> omega
      rcases List.mem_cons.mp hp with rfl | hp
      · exact ⟨⟨by show 0 ≤ b; omega, h1⟩, he⟩
      · have := (hG b (by omega) h1).2 (wE en hd t b) he.1 he.2
        exact ih _ _ this.1 this.2 p hp
theorem wk_len {en to : Int → Int} {hd : Int} : ∀ (k : Nat) (t b : Int), (wk en to hd k t b).length ≤ k := by
  intro k
  induction k with
  | zero => intro t b; exact Nat.le_refl 0
  | succ k ih =>
    intro t b
    unfold wk
    split
    · simp
    · simp only [List.length_cons]; have := ih (wT en t b) (to (2 * b + wE en hd t b)); omega
def aBlock (σ : av_S) (f u : Int) : Int := if f < 0 ∨ 4 ≤ f ∨ u < 1 ∨ 40 < u ∨ σ 0 6 = 1 then -1 else if 24 ≤ σ 1 5 then -2 else σ 1 5
def sBlock (σ : av_S) (f u : Int) : av_S := if f < 0 ∨ 4 ≤ f ∨ u < 1 ∨ 40 < u ∨ σ 0 6 = 1 ∨ 24 ≤ σ 1 5 then σ else sG_add σ f u
set_option maxRecDepth 100000 in
set_option maxHeartbeats 400000 in
theorem ev_L_block {sc : av_sc} {d : Nat} {σ : av_S} {f u : Int} (hf : av_in f) (hu : av_in u) (hI : iL σ) : av_Ev sc m_L_block (d + 2) false 0 0 [vR 0, vI f, vI u] (hp σ) (fun r h => r = some (vI (aBlock σ f u)) ∧ h = hp (sBlock σ f u)) := by
  obtain ⟨hn, hB, hT, hc8, hc9, hlo, hrg⟩ := id hI
  obtain ⟨hf1, hf2⟩ := hf
  obtain ⟨hu1, hu2⟩ := hu
  refine av_ev rfl rfl (Nat.le_of_ble_eq_true rfl) rfl ?_
  refine rn_iload_n 1 d_L_block_0 rfl rfl ?_
  refine rn_if_lt 27 4 d_L_block_1 rfl rfl ⟨by omega, by omega⟩ (fun c_1 => ?_) (fun c_1 => ?_)
  · refine rn_iconst 28 d_L_block_27 rfl ?_
    exact rn_ireturn d_L_block_28 (Or.inl rfl) ⟨by unfold aBlock; (first | rw [if_pos (by omega)] | rw [if_neg (by omega)]); try (first | rw [if_pos (by omega)] | rw [if_neg (by omega)]), by unfold sBlock; (first | rw [if_pos (by omega)] | rw [if_neg (by omega)])⟩
  · refine rn_iload_n 5 d_L_block_4 rfl rfl ?_
    refine rn_iconst 6 d_L_block_5 rfl ?_
    refine rn_icmp_ge 27 9 d_L_block_6 rfl rfl ⟨by omega, by omega⟩ ⟨by omega, by omega⟩ (fun c_6 => ?_) (fun c_6 => ?_)
    · refine rn_iconst 28 d_L_block_27 rfl ?_
      exact rn_ireturn d_L_block_28 (Or.inl rfl) ⟨by unfold aBlock; (first | rw [if_pos (by omega)] | rw [if_neg (by omega)]); try (first | rw [if_pos (by omega)] | rw [if_neg (by omega)]), by unfold sBlock; (first | rw [if_pos (by omega)] | rw [if_neg (by omega)])⟩
    · refine rn_iload_n 10 d_L_block_9 rfl rfl ?_
      refine rn_iconst 11 d_L_block_10 rfl ?_
      refine rn_icmp_lt 27 14 d_L_block_11 rfl rfl ⟨by omega, by omega⟩ ⟨by omega, by omega⟩ (fun c_11 => ?_) (fun c_11 => ?_)
      · refine rn_iconst 28 d_L_block_27 rfl ?_
        exact rn_ireturn d_L_block_28 (Or.inl rfl) ⟨by unfold aBlock; (first | rw [if_pos (by omega)] | rw [if_neg (by omega)]); try (first | rw [if_pos (by omega)] | rw [if_neg (by omega)]), by unfold sBlock; (first | rw [if_pos (by omega)] | rw [if_neg (by omega)])⟩
      · refine rn_iload_n 15 d_L_block_14 rfl rfl ?_
        refine rn_bipush 17 d_L_block_15 rfl rfl ?_
        refine rn_icmp_gt 27 20 d_L_block_17 rfl rfl ⟨by omega, by omega⟩ ⟨by omega, by omega⟩ (fun c_17 => ?_) (fun c_17 => ?_)
        · refine rn_iconst 28 d_L_block_27 rfl ?_
          exact rn_ireturn d_L_block_28 (Or.inl rfl) ⟨by unfold aBlock; (first | rw [if_pos (by omega)] | rw [if_neg (by omega)]); try (first | rw [if_pos (by omega)] | rw [if_neg (by omega)]), by unfold sBlock; (first | rw [if_pos (by omega)] | rw [if_neg (by omega)])⟩
        · refine rn_aload_n 21 d_L_block_20 rfl rfl ?_
          refine rn_getfield 24 d_L_block_21 rfl fd_L_57 rfl rfl ?_
          refine rn_if_eq 29 27 d_L_block_24 rfl rfl ⟨by omega, by omega⟩ (fun c_24 => ?_) (fun c_24 => ?_)
          · refine rn_aload_n 30 d_L_block_29 rfl rfl ?_
            refine rn_getfield 33 d_L_block_30 rfl fd_L_25 rfl rfl ?_
            refine rn_getfield 36 d_L_block_33 rfl fd_L_61 rfl rfl ?_
            refine rn_bipush 38 d_L_block_36 rfl rfl ?_
            refine rn_icmp_lt 44 41 d_L_block_38 rfl rfl ⟨by omega, by omega⟩ ⟨by omega, by omega⟩ (fun c_38 => ?_) (fun c_38 => ?_)
            · refine rn_aload_n 45 d_L_block_44 rfl rfl ?_
              refine rn_getfield 48 d_L_block_45 rfl fd_L_25 rfl rfl ?_
              refine rn_iload_n 49 d_L_block_48 rfl rfl ?_
              refine rn_iload_n 50 d_L_block_49 rfl rfl ?_
              refine rn_callV2 53 d_L_block_50 rfl cw_L_64 rfl (Nat.le_of_ble_eq_true rfl) (ev_G_add ⟨by omega, by omega⟩ ⟨by omega, by omega⟩ (iL_T24 hI f (by omega) (by omega))) ?_
              rintro _ _ ⟨rfl, rfl⟩
              exact rn_ireturn d_L_block_53 (Or.inl rfl) ⟨by unfold aBlock; (first | rw [if_pos (by omega)] | rw [if_neg (by omega)]); try (first | rw [if_pos (by omega)] | rw [if_neg (by omega)]), by unfold sBlock; (first | rw [if_pos (by omega)] | rw [if_neg (by omega)])⟩
            · refine rn_bipush 43 d_L_block_41 rfl rfl ?_
              exact rn_ireturn d_L_block_43 (Or.inl rfl) ⟨by unfold aBlock; (first | rw [if_pos (by omega)] | rw [if_neg (by omega)]); try (first | rw [if_pos (by omega)] | rw [if_neg (by omega)]), by unfold sBlock; (first | rw [if_pos (by omega)] | rw [if_neg (by omega)])⟩
          · refine rn_iconst 28 d_L_block_27 rfl ?_
            exact rn_ireturn d_L_block_28 (Or.inl rfl) ⟨by unfold aBlock; (first | rw [if_pos (by omega)] | rw [if_neg (by omega)]); try (first | rw [if_pos (by omega)] | rw [if_neg (by omega)]), by unfold sBlock; (first | rw [if_pos (by omega)] | rw [if_neg (by omega)])⟩
def aJump (σ : av_S) (b y : Int) : Int := if σ 0 6 = 0 ∧ (0 ≤ b ∧ b < σ 1 5) ∧ (0 ≤ y ∧ y < σ 1 5) ∧ σ 2 b = σ 2 y then 0 else -1
def sJump (σ : av_S) (b y : Int) : av_S := if σ 0 6 = 0 ∧ (0 ≤ b ∧ b < σ 1 5) ∧ (0 ≤ y ∧ y < σ 1 5) ∧ σ 2 b = σ 2 y then sN_clearEdges (sG_setEnd σ b 1 y (-1)) b else σ
set_option maxRecDepth 100000 in
set_option maxHeartbeats 400000 in
theorem ev_L_jump {sc : av_sc} {d : Nat} {σ : av_S} {b y : Int} (hb : av_in b) (hy : av_in y) (hI : iL σ) : av_Ev sc m_L_jump (d + 2) false 0 0 [vR 0, vI b, vI y] (hp σ) (fun r h => r = some (vI (aJump σ b y)) ∧ h = hp (sJump σ b y)) := by
  obtain ⟨hn, hB, hT, hc8, hc9, hlo, hrg⟩ := id hI
  refine av_ev rfl rfl (Nat.le_of_ble_eq_true rfl) rfl ?_
  refine rn_aload_n 1 d_L_jump_0 rfl rfl ?_
  refine rn_getfield 4 d_L_jump_1 rfl fd_L_57 rfl rfl ?_
  refine rn_if_ne 19 7 d_L_jump_4 rfl rfl ⟨by omega, by omega⟩ (fun c_4 => ?_) (fun c_4 => ?_)
  · refine rn_iconst 20 d_L_jump_19 rfl ?_
    exact rn_ireturn d_L_jump_20 (Or.inl rfl) ⟨by unfold aJump; (first | rw [if_pos (by omega)] | rw [if_neg (by omega)]); try (first | rw [if_pos (by omega)] | rw [if_neg (by omega)]), by unfold sJump; (first | rw [if_pos (by omega)] | rw [if_neg (by omega)])⟩
  · refine rn_aload_n 8 d_L_jump_7 rfl rfl ?_
    refine rn_getfield 11 d_L_jump_8 rfl fd_L_25 rfl rfl ?_
    refine rn_iload_n 12 d_L_jump_11 rfl rfl ?_
    refine rn_iload_n 13 d_L_jump_12 rfl rfl ?_
    refine rn_callV2 16 d_L_jump_13 rfl cw_L_67 rfl (Nat.le_of_ble_eq_true rfl) (ev_G_canLead hb hy hn (iL_F hI)) ?_
    rintro _ _ ⟨rfl, rfl⟩
    refine rn_ifB_ne 21 19 d_L_jump_16 rfl rfl (fun c_16 => ?_) (fun c_16 => ?_)
    · refine rn_aload_n 22 d_L_jump_21 rfl rfl ?_
      refine rn_getfield 25 d_L_jump_22 rfl fd_L_25 rfl rfl ?_
      refine rn_iload_n 26 d_L_jump_25 rfl rfl ?_
      refine rn_iconst 27 d_L_jump_26 rfl ?_
      refine rn_iload_n 28 d_L_jump_27 rfl rfl ?_
      refine rn_iconst 29 d_L_jump_28 rfl ?_
      refine rn_callV4 32 d_L_jump_29 rfl cw_L_71 rfl (Nat.le_of_ble_eq_true rfl) (ev_G_setEnd ⟨by omega, by omega⟩) ?_
      rintro _ _ ⟨rfl, rfl⟩
      refine rn_aload_n 33 d_L_jump_32 rfl rfl ?_
      refine rn_getfield 36 d_L_jump_33 rfl fd_L_32 rfl rfl ?_
      refine rn_iload_n 37 d_L_jump_36 rfl rfl ?_
      refine rn_callV1 40 d_L_jump_37 rfl cw_L_75 rfl (Nat.le_of_ble_eq_true rfl) (ev_N_clearEdges ⟨by omega, by omega⟩) ?_
      rintro _ _ ⟨rfl, rfl⟩
      refine rn_iconst 41 d_L_jump_40 rfl ?_
      exact rn_ireturn d_L_jump_41 (Or.inl rfl) ⟨by unfold aJump; (first | rw [if_pos (by omega)] | rw [if_neg (by omega)]); try (first | rw [if_pos (by omega)] | rw [if_neg (by omega)]), by unfold sJump; (first | rw [if_pos (by omega)] | rw [if_neg (by omega)])⟩
    · refine rn_iconst 20 d_L_jump_19 rfl ?_
      exact rn_ireturn d_L_jump_20 (Or.inl rfl) ⟨by unfold aJump; (first | rw [if_pos (by omega)] | rw [if_neg (by omega)]); try (first | rw [if_pos (by omega)] | rw [if_neg (by omega)]), by unfold sJump; (first | rw [if_pos (by omega)] | rw [if_neg (by omega)])⟩
def aTest (σ : av_S) (b x y : Int) : Int := if σ 0 6 = 0 ∧ ((0 ≤ b ∧ b < σ 1 5) ∧ (0 ≤ x ∧ x < σ 1 5) ∧ σ 2 b = σ 2 x) ∧ ((0 ≤ b ∧ b < σ 1 5) ∧ (0 ≤ y ∧ y < σ 1 5) ∧ σ 2 b = σ 2 y) then 0 else -1
def sTest (σ : av_S) (b x y : Int) : av_S := if σ 0 6 = 0 ∧ ((0 ≤ b ∧ b < σ 1 5) ∧ (0 ≤ x ∧ x < σ 1 5) ∧ σ 2 b = σ 2 x) ∧ ((0 ≤ b ∧ b < σ 1 5) ∧ (0 ≤ y ∧ y < σ 1 5) ∧ σ 2 b = σ 2 y) then sN_clearEdges (sG_setEnd σ b 2 x y) b else σ
set_option maxRecDepth 100000 in
set_option maxHeartbeats 400000 in
theorem ev_L_test {sc : av_sc} {d : Nat} {σ : av_S} {b x y : Int} (hb : av_in b) (hx : av_in x) (hy : av_in y) (hI : iL σ) : av_Ev sc m_L_test (d + 2) false 0 0 [vR 0, vI b, vI x, vI y] (hp σ) (fun r h => r = some (vI (aTest σ b x y)) ∧ h = hp (sTest σ b x y)) := by
  obtain ⟨hn, hB, hT, hc8, hc9, hlo, hrg⟩ := id hI
  refine av_ev rfl rfl (Nat.le_of_ble_eq_true rfl) rfl ?_
  refine rn_aload_n 1 d_L_test_0 rfl rfl ?_
  refine rn_getfield 4 d_L_test_1 rfl fd_L_57 rfl rfl ?_
  refine rn_if_ne 31 7 d_L_test_4 rfl rfl ⟨by omega, by omega⟩ (fun c_4 => ?_) (fun c_4 => ?_)
  · refine rn_iconst 32 d_L_test_31 rfl ?_
    exact rn_ireturn d_L_test_32 (Or.inl rfl) ⟨by unfold aTest; (first | rw [if_pos (by omega)] | rw [if_neg (by omega)]); try (first | rw [if_pos (by omega)] | rw [if_neg (by omega)]), by unfold sTest; (first | rw [if_pos (by omega)] | rw [if_neg (by omega)])⟩
  · refine rn_aload_n 8 d_L_test_7 rfl rfl ?_
    refine rn_getfield 11 d_L_test_8 rfl fd_L_25 rfl rfl ?_
    refine rn_iload_n 12 d_L_test_11 rfl rfl ?_
    refine rn_iload_n 13 d_L_test_12 rfl rfl ?_
    refine rn_callV2 16 d_L_test_13 rfl cw_L_67 rfl (Nat.le_of_ble_eq_true rfl) (ev_G_canLead hb hx hn (iL_F hI)) ?_
    rintro _ _ ⟨rfl, rfl⟩
    refine rn_ifB_eq 31 19 d_L_test_16 rfl rfl (fun c_16 => ?_) (fun c_16 => ?_)
    · refine rn_iconst 32 d_L_test_31 rfl ?_
      exact rn_ireturn d_L_test_32 (Or.inl rfl) ⟨by unfold aTest; (first | rw [if_pos (by omega)] | rw [if_neg (by omega)]); try (first | rw [if_pos (by omega)] | rw [if_neg (by omega)]), by unfold sTest; (first | rw [if_pos (by omega)] | rw [if_neg (by omega)])⟩
    · refine rn_aload_n 20 d_L_test_19 rfl rfl ?_
      refine rn_getfield 23 d_L_test_20 rfl fd_L_25 rfl rfl ?_
      refine rn_iload_n 24 d_L_test_23 rfl rfl ?_
      refine rn_iload_n 25 d_L_test_24 rfl rfl ?_
      refine rn_callV2 28 d_L_test_25 rfl cw_L_67 rfl (Nat.le_of_ble_eq_true rfl) (ev_G_canLead hb hy hn (iL_F hI)) ?_
      rintro _ _ ⟨rfl, rfl⟩
      refine rn_ifB_ne 33 31 d_L_test_28 rfl rfl (fun c_28 => ?_) (fun c_28 => ?_)
      · refine rn_aload_n 34 d_L_test_33 rfl rfl ?_
        refine rn_getfield 37 d_L_test_34 rfl fd_L_25 rfl rfl ?_
        refine rn_iload_n 38 d_L_test_37 rfl rfl ?_
        refine rn_iconst 39 d_L_test_38 rfl ?_
        refine rn_iload_n 40 d_L_test_39 rfl rfl ?_
        refine rn_iload_n 41 d_L_test_40 rfl rfl ?_
        refine rn_callV4 44 d_L_test_41 rfl cw_L_71 rfl (Nat.le_of_ble_eq_true rfl) (ev_G_setEnd ⟨by omega, by omega⟩) ?_
        rintro _ _ ⟨rfl, rfl⟩
        refine rn_aload_n 45 d_L_test_44 rfl rfl ?_
        refine rn_getfield 48 d_L_test_45 rfl fd_L_32 rfl rfl ?_
        refine rn_iload_n 49 d_L_test_48 rfl rfl ?_
        refine rn_callV1 52 d_L_test_49 rfl cw_L_75 rfl (Nat.le_of_ble_eq_true rfl) (ev_N_clearEdges ⟨by omega, by omega⟩) ?_
        rintro _ _ ⟨rfl, rfl⟩
        refine rn_iconst 53 d_L_test_52 rfl ?_
        exact rn_ireturn d_L_test_53 (Or.inl rfl) ⟨by unfold aTest; (first | rw [if_pos (by omega)] | rw [if_neg (by omega)]); try (first | rw [if_pos (by omega)] | rw [if_neg (by omega)]), by unfold sTest; (first | rw [if_pos (by omega)] | rw [if_neg (by omega)])⟩
      · refine rn_iconst 32 d_L_test_31 rfl ?_
        exact rn_ireturn d_L_test_32 (Or.inl rfl) ⟨by unfold aTest; (first | rw [if_pos (by omega)] | rw [if_neg (by omega)]); try (first | rw [if_pos (by omega)] | rw [if_neg (by omega)]), by unfold sTest; (first | rw [if_pos (by omega)] | rw [if_neg (by omega)])⟩
abbrev wl (σ : av_S) (f x : Int) : List (Int × Int) := wk (σ 4) (σ 5) x 60 0 (σ 6 f)
set_option maxRecDepth 100000 in
set_option maxHeartbeats 400000 in
theorem ev_L_walk {sc : av_sc} {d : Nat} {σ : av_S} {f x : Int} (hf : av_in f) (hx : av_in x) (hI : iL σ) : av_Ev sc m_L_walk (d + 3) false 0 0 [vR 0, vI f, vI x] (hp σ) (fun r h => (¬ ((0 ≤ f ∧ f < 4) ∧ σ 6 f ≠ -1) ∧ r = some (vI (-1)) ∧ h = hp σ) ∨ (((0 ≤ f ∧ f < 4) ∧ σ 6 f ≠ -1) ∧ ∃ f' g' : Int → Int, r = some (vI ((wl σ f x).length : Int)) ∧ h = hp (nS (tS σ f' g' ((wl σ f x).length : Int)) (cb (wl σ f x) (σ 8)) (ce (wl σ f x) (σ 9))))) := by
  obtain ⟨hn, hB, hT, hc8, hc9, hlo, hrg⟩ := id hI
  refine av_ev rfl rfl (Nat.le_of_ble_eq_true rfl) rfl ?_
  refine rn_aload_n 1 d_L_walk_0 rfl rfl ?_
  refine rn_getfield 4 d_L_walk_1 rfl fd_L_25 rfl rfl ?_
  refine rn_iload_n 5 d_L_walk_4 rfl rfl ?_
  refine rn_callV1 8 d_L_walk_5 rfl cw_L_79 rfl (Nat.le_of_ble_eq_true rfl) (ev_G_hasEntry hf (iL_T24 hI)) ?_
  rintro _ _ ⟨rfl, rfl⟩
  refine rn_ifB_ne 13 11 d_L_walk_8 rfl rfl (fun c_8 => ?_) (fun c_8 => ?_)
  · refine rn_aload_n 14 d_L_walk_13 rfl rfl ?_
    refine rn_getfield 17 d_L_walk_14 rfl fd_L_39 rfl rfl ?_
    refine rn_aload_n 18 d_L_walk_17 rfl rfl ?_
    refine rn_getfield 21 d_L_walk_18 rfl fd_L_25 rfl rfl ?_
    refine rn_iload_n 22 d_L_walk_21 rfl rfl ?_
    refine rn_iload_n 23 d_L_walk_22 rfl rfl ?_
    refine rn_callV3 26 d_L_walk_23 rfl cw_L_83 rfl (Nat.le_of_ble_eq_true rfl) (ev_T_follow (iL_G hI) hn.2 c_8.1 hx (iL_T hI f c_8.1.1 c_8.1.2)) ?_
    rintro _ _ ⟨rfl, f', g', hl1, hl2, rfl⟩
    have hlen : ((wl σ f x).length : Int) ≤ 60 := Int.ofNat_le.mpr (wk_len (en := σ 4) (to := σ 5) (hd := x) 60 0 (σ 6 f))
    have hok := wk_ok (hd := x) (iL_G hI) 60 0 (σ 6 f) (iL_T hI f c_8.1.1 c_8.1.2).1 (iL_T hI f c_8.1.1 c_8.1.2).2
    refine rn_aload_n 27 d_L_walk_26 rfl rfl ?_
    refine rn_getfield 30 d_L_walk_27 rfl fd_L_32 rfl rfl ?_
    refine rn_aload_n 31 d_L_walk_30 rfl rfl ?_
    refine rn_getfield 34 d_L_walk_31 rfl fd_L_39 rfl rfl ?_
    refine rn_callV1 37 d_L_walk_34 rfl cw_L_87 rfl (Nat.le_of_ble_eq_true rfl) (ev_N_addTrail (σ := tS σ f' g' ((wl σ f x).length : Int)) (l := wl σ f x) rfl hlen hl1 hl2 (fun p hp => ⟨⟨(hok p hp).1.1, by have := (hok p hp).1.2; omega⟩, (hok p hp).2⟩) hc8 hc9) ?_
    rintro _ _ ⟨rfl, rfl⟩
    refine rn_aload_n 38 d_L_walk_37 rfl rfl ?_
    refine rn_getfield 41 d_L_walk_38 rfl fd_L_39 rfl rfl ?_
    refine rn_getfield 44 d_L_walk_41 rfl fd_L_91 rfl rfl ?_
    exact rn_ireturn d_L_walk_44 (Or.inl rfl) (Or.inr ⟨c_8, f', g', rfl, rfl⟩)
  · refine rn_iconst 12 d_L_walk_11 rfl ?_
    exact rn_ireturn d_L_walk_12 (Or.inl rfl) (Or.inl ⟨c_8, rfl, rfl⟩)
def cHeat (σ : av_S) (b e n : Int) : Prop := (1 ≤ n ∧ n ≤ 100000) ∧ (0 ≤ b ∧ b < σ 1 5) ∧ 0 ≤ e ∧ e < σ 4 b
def sHeat (σ : av_S) (b e n : Int) : av_S := sN_addToBlock (sN_addToEdge σ (2 * b + e) n) (σ 5 (2 * b + e)) n
set_option maxRecDepth 100000 in
set_option maxHeartbeats 400000 in
theorem ev_L_heat {sc : av_sc} {d : Nat} {σ : av_S} {b e n : Int} (hb : av_in b) (he : av_in e) (hn0 : av_in n) (hI : iL σ) : av_Ev sc m_L_heat (d + 2) false 0 0 [vR 0, vI b, vI e, vI n] (hp σ) (fun r h => (¬ cHeat σ b e n ∧ r = some (vI (-1)) ∧ h = hp σ) ∨ (cHeat σ b e n ∧ r = some (vI ((sHeat σ b e n) 9 (2 * b + e))) ∧ h = hp (sHeat σ b e n))) := by
  obtain ⟨hn, hB, hT, hc8, hc9, hlo, hrg⟩ := id hI
  obtain ⟨hn01, hn02⟩ := hn0
  refine av_ev rfl rfl (Nat.le_of_ble_eq_true rfl) rfl ?_
  refine rn_iload_n 1 d_L_heat_0 rfl rfl ?_
  refine rn_iconst 2 d_L_heat_1 rfl ?_
  refine rn_icmp_lt 23 5 d_L_heat_2 rfl rfl ⟨by omega, by omega⟩ ⟨by omega, by omega⟩ (fun c_2 => ?_) (fun c_2 => ?_)
  · refine rn_iconst 24 d_L_heat_23 rfl ?_
    exact rn_ireturn d_L_heat_24 (Or.inl rfl) (Or.inl ⟨(by unfold cHeat; omega), rfl, rfl⟩)
  · refine rn_iload_n 6 d_L_heat_5 rfl rfl ?_
    refine rn_ldc 8 d_L_heat_6 rfl 100000 lc_L_92 rfl ?_
    refine rn_icmp_gt 23 11 d_L_heat_8 rfl rfl ⟨by omega, by omega⟩ ⟨by omega, by omega⟩ (fun c_8 => ?_) (fun c_8 => ?_)
    · refine rn_iconst 24 d_L_heat_23 rfl ?_
      exact rn_ireturn d_L_heat_24 (Or.inl rfl) (Or.inl ⟨(by unfold cHeat; omega), rfl, rfl⟩)
    · refine rn_aload_n 12 d_L_heat_11 rfl rfl ?_
      refine rn_getfield 15 d_L_heat_12 rfl fd_L_25 rfl rfl ?_
      refine rn_iload_n 16 d_L_heat_15 rfl rfl ?_
      refine rn_iload_n 17 d_L_heat_16 rfl rfl ?_
      refine rn_callV2 20 d_L_heat_17 rfl cw_L_93 rfl (Nat.le_of_ble_eq_true rfl) (ev_G_hasEdge hb he hn (iL_E hI)) ?_
      rintro _ _ ⟨rfl, rfl⟩
      refine rn_ifB_ne 25 23 d_L_heat_20 rfl rfl (fun c_20 => ?_) (fun c_20 => ?_)
      · have hBb := hB b c_20.1.1 c_20.1.2
        have hEb := hBb.2.2.1
        have hTo := (hBb.2.2.2.1 e c_20.2.1 c_20.2.2).1
        have h9 := hc9 (2 * b + e) (by omega) (by omega)
        have h8 := hc8 (σ 5 (2 * b + e)) (by omega) (by omega)
        refine rn_iconst 26 d_L_heat_25 rfl ?_
        refine rn_iload_n 27 d_L_heat_26 rfl rfl ?_
        refine rn_imul 28 d_L_heat_27 rfl ?_
        refine rn_iload_n 29 d_L_heat_28 rfl rfl ?_
        refine rn_iadd 30 d_L_heat_29 rfl ?_
        refine rn_istore 32 d_L_heat_30 rfl (by decide) rfl rfl ?_
        refine rn_aload_n 33 d_L_heat_32 rfl rfl ?_
        refine rn_getfield 36 d_L_heat_33 rfl fd_L_32 rfl rfl ?_
        refine rn_iload 38 d_L_heat_36 rfl rfl ?_
        refine rn_iload_n 39 d_L_heat_38 rfl rfl ?_
        refine rn_callV2 42 d_L_heat_39 rfl cw_L_96 rfl (Nat.le_of_ble_eq_true rfl) (ev_N_addToEdge ⟨by omega, by omega⟩ ⟨by omega, by omega⟩ h9) ?_
        rintro _ _ ⟨rfl, rfl⟩
        refine rn_aload_n 43 d_L_heat_42 rfl rfl ?_
        refine rn_getfield 46 d_L_heat_43 rfl fd_L_32 rfl rfl ?_
        refine rn_aload_n 47 d_L_heat_46 rfl rfl ?_
        refine rn_getfield 50 d_L_heat_47 rfl fd_L_25 rfl rfl ?_
        refine rn_getfield 53 d_L_heat_50 rfl fd_L_100 rfl rfl ?_
        refine rn_iload 55 d_L_heat_53 rfl rfl ?_
        refine rn_iaload 56 d_L_heat_55 rfl rfl (by decide) (by omega) (by omega) ?_
        rw [show (sN_addToEdge σ (2 * b + e) n) 5 (2 * b + e) = σ 5 (2 * b + e) from rfl]
        refine rn_iload_n 57 d_L_heat_56 rfl rfl ?_
        refine rn_callV2 60 d_L_heat_57 rfl cw_L_104 rfl (Nat.le_of_ble_eq_true rfl) (ev_N_addToBlock (σ := sN_addToEdge σ (2 * b + e) n) ⟨by omega, by omega⟩ ⟨by omega, by omega⟩ h8) ?_
        rintro _ _ ⟨rfl, rfl⟩
        refine rn_aload_n 61 d_L_heat_60 rfl rfl ?_
        refine rn_getfield 64 d_L_heat_61 rfl fd_L_32 rfl rfl ?_
        refine rn_getfield 67 d_L_heat_64 rfl fd_L_107 rfl rfl ?_
        refine rn_iload 69 d_L_heat_67 rfl rfl ?_
        refine rn_iaload 70 d_L_heat_69 rfl rfl (by decide) (by omega) (by omega) ?_
        exact rn_ireturn d_L_heat_70 (Or.inl rfl) (Or.inr ⟨⟨⟨by omega, by omega⟩, c_20⟩, rfl, rfl⟩)
      · refine rn_iconst 24 d_L_heat_23 rfl ?_
        exact rn_ireturn d_L_heat_24 (Or.inl rfl) (Or.inl ⟨(by unfold cHeat; omega), rfl, rfl⟩)
set_option maxRecDepth 100000 in
set_option maxHeartbeats 400000 in
theorem ev_L_cool {sc : av_sc} {d : Nat} {σ : av_S} : av_Ev sc m_L_cool (d + 2) false 0 0 [vR 0] (hp σ) (fun r h => r = some (vI 0) ∧ h = hp (sN_clear σ)) := by
  refine av_ev rfl rfl (Nat.le_of_ble_eq_true rfl) rfl ?_
  refine rn_aload_n 1 d_L_cool_0 rfl rfl ?_
  refine rn_getfield 4 d_L_cool_1 rfl fd_L_32 rfl rfl ?_
  refine rn_callV0 7 d_L_cool_4 rfl cw_L_110 rfl (Nat.le_of_ble_eq_true rfl) ev_N_clear ?_
  rintro _ _ ⟨rfl, rfl⟩
  refine rn_iconst 8 d_L_cool_7 rfl ?_
  exact rn_ireturn d_L_cool_8 (Or.inl rfl) ⟨rfl, rfl⟩
def aAt (σ : av_S) (k : Int) : Int := if σ 0 6 = 1 ∧ 0 ≤ k ∧ k < σ 1 5 then σ 14 k else -3
set_option maxRecDepth 100000 in
set_option maxHeartbeats 400000 in
theorem ev_L_at {sc : av_sc} {d : Nat} {σ : av_S} {k : Int} (hk : av_in k) (hI : iL σ) : av_Ev sc m_L_at (d + 1) false 0 0 [vR 0, vI k] (hp σ) (fun r h => r = some (vI (aAt σ k)) ∧ h = hp σ) := by
  obtain ⟨hn, hB, hT, hc8, hc9, hlo, hrg⟩ := id hI
  refine av_ev rfl rfl (Nat.le_of_ble_eq_true rfl) rfl ?_
  refine rn_aload_n 1 d_L_at_0 rfl rfl ?_
  refine rn_getfield 4 d_L_at_1 rfl fd_L_57 rfl rfl ?_
  refine rn_if_eq 30 7 d_L_at_4 rfl rfl ⟨by omega, by omega⟩ (fun c_4 => ?_) (fun c_4 => ?_)
  · refine rn_bipush 32 d_L_at_30 rfl rfl ?_
    exact rn_ireturn d_L_at_32 (Or.inl rfl) ⟨by unfold aAt; (first | rw [if_pos (by omega)] | rw [if_neg (by omega)]); try (first | rw [if_pos (by omega)] | rw [if_neg (by omega)]), rfl⟩
  · refine rn_aload_n 8 d_L_at_7 rfl rfl ?_
    refine rn_getfield 11 d_L_at_8 rfl fd_L_25 rfl rfl ?_
    refine rn_iload_n 12 d_L_at_11 rfl rfl ?_
    refine rn_callV1 15 d_L_at_12 rfl cw_L_131 rfl (Nat.le_of_ble_eq_true rfl) (ev_G_has hk hn) ?_
    rintro _ _ ⟨rfl, rfl⟩
    refine rn_ifB_eq 30 18 d_L_at_15 rfl rfl (fun c_15 => ?_) (fun c_15 => ?_)
    · refine rn_bipush 32 d_L_at_30 rfl rfl ?_
      exact rn_ireturn d_L_at_32 (Or.inl rfl) ⟨by unfold aAt; (first | rw [if_pos (by omega)] | rw [if_neg (by omega)]); try (first | rw [if_pos (by omega)] | rw [if_neg (by omega)]), rfl⟩
    · refine rn_aload_n 19 d_L_at_18 rfl rfl ?_
      refine rn_getfield 22 d_L_at_19 rfl fd_L_46 rfl rfl ?_
      refine rn_getfield 25 d_L_at_22 rfl fd_L_121 rfl rfl ?_
      refine rn_iload_n 26 d_L_at_25 rfl rfl ?_
      refine rn_iaload 27 d_L_at_26 rfl rfl (by decide) (by omega) (by omega) ?_
      refine rn_goto 32 d_L_at_27 rfl ?_
      exact rn_ireturn d_L_at_32 (Or.inl rfl) ⟨by unfold aAt; (first | rw [if_pos (by omega)] | rw [if_neg (by omega)]); try (first | rw [if_pos (by omega)] | rw [if_neg (by omega)]), rfl⟩
def aAddress (σ : av_S) (k : Int) : Int := if σ 0 6 = 1 ∧ 0 ≤ k ∧ k < σ 1 5 then σ 22 k else -3
set_option maxRecDepth 100000 in
set_option maxHeartbeats 400000 in
theorem ev_L_address {sc : av_sc} {d : Nat} {σ : av_S} {k : Int} (hk : av_in k) (hI : iL σ) : av_Ev sc m_L_address (d + 1) false 0 0 [vR 0, vI k] (hp σ) (fun r h => r = some (vI (aAddress σ k)) ∧ h = hp σ) := by
  obtain ⟨hn, hB, hT, hc8, hc9, hlo, hrg⟩ := id hI
  refine av_ev rfl rfl (Nat.le_of_ble_eq_true rfl) rfl ?_
  refine rn_aload_n 1 d_L_address_0 rfl rfl ?_
  refine rn_getfield 4 d_L_address_1 rfl fd_L_57 rfl rfl ?_
  refine rn_if_eq 30 7 d_L_address_4 rfl rfl ⟨by omega, by omega⟩ (fun c_4 => ?_) (fun c_4 => ?_)
  · refine rn_bipush 32 d_L_address_30 rfl rfl ?_
    exact rn_ireturn d_L_address_32 (Or.inl rfl) ⟨by unfold aAddress; (first | rw [if_pos (by omega)] | rw [if_neg (by omega)]); try (first | rw [if_pos (by omega)] | rw [if_neg (by omega)]), rfl⟩
  · refine rn_aload_n 8 d_L_address_7 rfl rfl ?_
    refine rn_getfield 11 d_L_address_8 rfl fd_L_25 rfl rfl ?_
    refine rn_iload_n 12 d_L_address_11 rfl rfl ?_
    refine rn_callV1 15 d_L_address_12 rfl cw_L_131 rfl (Nat.le_of_ble_eq_true rfl) (ev_G_has hk hn) ?_
    rintro _ _ ⟨rfl, rfl⟩
    refine rn_ifB_eq 30 18 d_L_address_15 rfl rfl (fun c_15 => ?_) (fun c_15 => ?_)
    · refine rn_bipush 32 d_L_address_30 rfl rfl ?_
      exact rn_ireturn d_L_address_32 (Or.inl rfl) ⟨by unfold aAddress; (first | rw [if_pos (by omega)] | rw [if_neg (by omega)]); try (first | rw [if_pos (by omega)] | rw [if_neg (by omega)]), rfl⟩
    · refine rn_aload_n 19 d_L_address_18 rfl rfl ?_
      refine rn_getfield 22 d_L_address_19 rfl fd_L_53 rfl rfl ?_
      refine rn_getfield 25 d_L_address_22 rfl fd_L_134 rfl rfl ?_
      refine rn_iload_n 26 d_L_address_25 rfl rfl ?_
      refine rn_iaload 27 d_L_address_26 rfl rfl (by decide) (by omega) (by omega) ?_
      refine rn_goto 32 d_L_address_27 rfl ?_
      exact rn_ireturn d_L_address_32 (Or.inl rfl) ⟨by unfold aAddress; (first | rw [if_pos (by omega)] | rw [if_neg (by omega)]); try (first | rw [if_pos (by omega)] | rw [if_neg (by omega)]), rfl⟩
def cBr (σ : av_S) (b i : Int) : Prop := σ 0 6 = 1 ∧ (0 ≤ b ∧ b < σ 1 5) ∧ (i = 0 ∨ i = 1) ∧ σ 24 (2 * b + i) ≠ 0
theorem cBr_iff (σ : av_S) (b i : Int) : cBr σ b i ↔ (σ 0 6 = 1 ∧ (0 ≤ b ∧ b < σ 1 5) ∧ (i = 0 ∨ i = 1) ∧ σ 24 (2 * b + i) ≠ 0) := Iff.rfl
set_option maxRecDepth 100000 in
set_option maxHeartbeats 400000 in
theorem ev_L_hasBranch {sc : av_sc} {d : Nat} {σ : av_S} {b i : Int} (hb : av_in b) (hi : av_in i) (hI : iL σ) (hU : ∀ k, 0 ≤ k → k < 48 → 0 ≤ σ 24 k ∧ σ 24 k ≤ 2) : av_Ev sc m_L_hasBranch (d + 1) false 0 0 [vR 0, vI b, vI i] (hp σ) (fun r h => r = some (vI (bz (σ 0 6 = 1 ∧ (0 ≤ b ∧ b < σ 1 5) ∧ (i = 0 ∨ i = 1) ∧ σ 24 (2 * b + i) ≠ 0))) ∧ h = hp σ) := by
  obtain ⟨hn, hB, hT, hc8, hc9, hlo, hrg⟩ := id hI
  obtain ⟨hi1, hi2⟩ := hi
  refine av_ev rfl rfl (Nat.le_of_ble_eq_true rfl) rfl ?_
  refine rn_aload_n 1 d_L_hasBranch_0 rfl rfl ?_
  refine rn_getfield 4 d_L_hasBranch_1 rfl fd_L_57 rfl rfl ?_
  refine rn_if_eq 47 7 d_L_hasBranch_4 rfl rfl ⟨by omega, by omega⟩ (fun c_4 => ?_) (fun c_4 => ?_)
  · refine rn_iconst 48 d_L_hasBranch_47 rfl ?_
    exact rn_ireturn d_L_hasBranch_48 (Or.inr ⟨rfl, Or.inl rfl⟩) ⟨by rw [bz_f (by omega)], rfl⟩
  · refine rn_aload_n 8 d_L_hasBranch_7 rfl rfl ?_
    refine rn_getfield 11 d_L_hasBranch_8 rfl fd_L_25 rfl rfl ?_
    refine rn_iload_n 12 d_L_hasBranch_11 rfl rfl ?_
    refine rn_callV1 15 d_L_hasBranch_12 rfl cw_L_131 rfl (Nat.le_of_ble_eq_true rfl) (ev_G_has hb hn) ?_
    rintro _ _ ⟨rfl, rfl⟩
    refine rn_ifB_eq 47 18 d_L_hasBranch_15 rfl rfl (fun c_15 => ?_) (fun c_15 => ?_)
    · refine rn_iconst 48 d_L_hasBranch_47 rfl ?_
      exact rn_ireturn d_L_hasBranch_48 (Or.inr ⟨rfl, Or.inl rfl⟩) ⟨by rw [bz_f (by omega)], rfl⟩
    · refine rn_iload_n 19 d_L_hasBranch_18 rfl rfl ?_
      refine rn_if_eq 27 22 d_L_hasBranch_19 rfl rfl ⟨by omega, by omega⟩ (fun c_19 => ?_) (fun c_19 => ?_)
      · refine rn_aload_n 28 d_L_hasBranch_27 rfl rfl ?_
        refine rn_getfield 31 d_L_hasBranch_28 rfl fd_L_53 rfl rfl ?_
        refine rn_getfield 34 d_L_hasBranch_31 rfl fd_L_140 rfl rfl ?_
        refine rn_iconst 35 d_L_hasBranch_34 rfl ?_
        refine rn_iload_n 36 d_L_hasBranch_35 rfl rfl ?_
        refine rn_imul 37 d_L_hasBranch_36 rfl ?_
        refine rn_iload_n 38 d_L_hasBranch_37 rfl rfl ?_
        refine rn_iadd 39 d_L_hasBranch_38 rfl ?_
        refine rn_iaload 40 d_L_hasBranch_39 rfl rfl (by decide) (by omega) (by omega) ?_
        have hU1 := hU (2 * b + i) (by omega) (by omega)
        refine rn_if_eq 47 43 d_L_hasBranch_40 rfl rfl ⟨by omega, by omega⟩ (fun c_40 => ?_) (fun c_40 => ?_)
        · refine rn_iconst 48 d_L_hasBranch_47 rfl ?_
          exact rn_ireturn d_L_hasBranch_48 (Or.inr ⟨rfl, Or.inl rfl⟩) ⟨by rw [bz_f (by omega)], rfl⟩
        · refine rn_iconst 44 d_L_hasBranch_43 rfl ?_
          refine rn_goto 48 d_L_hasBranch_44 rfl ?_
          exact rn_ireturn d_L_hasBranch_48 (Or.inr ⟨rfl, Or.inr rfl⟩) ⟨by rw [bz_t (by omega)], rfl⟩
      · refine rn_iload_n 23 d_L_hasBranch_22 rfl rfl ?_
        refine rn_iconst 24 d_L_hasBranch_23 rfl ?_
        refine rn_icmp_ne 47 27 d_L_hasBranch_24 rfl rfl ⟨by omega, by omega⟩ ⟨by omega, by omega⟩ (fun c_24 => ?_) (fun c_24 => ?_)
        · refine rn_iconst 48 d_L_hasBranch_47 rfl ?_
          exact rn_ireturn d_L_hasBranch_48 (Or.inr ⟨rfl, Or.inl rfl⟩) ⟨by rw [bz_f (by omega)], rfl⟩
        · refine rn_aload_n 28 d_L_hasBranch_27 rfl rfl ?_
          refine rn_getfield 31 d_L_hasBranch_28 rfl fd_L_53 rfl rfl ?_
          refine rn_getfield 34 d_L_hasBranch_31 rfl fd_L_140 rfl rfl ?_
          refine rn_iconst 35 d_L_hasBranch_34 rfl ?_
          refine rn_iload_n 36 d_L_hasBranch_35 rfl rfl ?_
          refine rn_imul 37 d_L_hasBranch_36 rfl ?_
          refine rn_iload_n 38 d_L_hasBranch_37 rfl rfl ?_
          refine rn_iadd 39 d_L_hasBranch_38 rfl ?_
          refine rn_iaload 40 d_L_hasBranch_39 rfl rfl (by decide) (by omega) (by omega) ?_
          have hU1 := hU (2 * b + i) (by omega) (by omega)
          refine rn_if_eq 47 43 d_L_hasBranch_40 rfl rfl ⟨by omega, by omega⟩ (fun c_40 => ?_) (fun c_40 => ?_)
          · refine rn_iconst 48 d_L_hasBranch_47 rfl ?_
            exact rn_ireturn d_L_hasBranch_48 (Or.inr ⟨rfl, Or.inl rfl⟩) ⟨by rw [bz_f (by omega)], rfl⟩
          · refine rn_iconst 44 d_L_hasBranch_43 rfl ?_
            refine rn_goto 48 d_L_hasBranch_44 rfl ?_
            exact rn_ireturn d_L_hasBranch_48 (Or.inr ⟨rfl, Or.inr rfl⟩) ⟨by rw [bz_t (by omega)], rfl⟩
def aBranch (σ : av_S) (b i : Int) : Int := if (σ 0 6 = 1 ∧ (0 ≤ b ∧ b < σ 1 5) ∧ (i = 0 ∨ i = 1) ∧ σ 24 (2 * b + i) ≠ 0) then σ 24 (2 * b + i) else -3
set_option maxRecDepth 100000 in
set_option maxHeartbeats 400000 in
theorem ev_L_branch {sc : av_sc} {d : Nat} {σ : av_S} {b i : Int} (hb : av_in b) (hi : av_in i) (hI : iL σ) (hU : ∀ k, 0 ≤ k → k < 48 → 0 ≤ σ 24 k ∧ σ 24 k ≤ 2) : av_Ev sc m_L_branch (d + 2) false 0 0 [vR 0, vI b, vI i] (hp σ) (fun r h => r = some (vI (aBranch σ b i)) ∧ h = hp σ) := by
  obtain ⟨hn, hB, hT, hc8, hc9, hlo, hrg⟩ := id hI
  refine av_ev rfl rfl (Nat.le_of_ble_eq_true rfl) rfl ?_
  refine rn_aload_n 1 d_L_branch_0 rfl rfl ?_
  refine rn_iload_n 2 d_L_branch_1 rfl rfl ?_
  refine rn_iload_n 3 d_L_branch_2 rfl rfl ?_
  refine rn_callV2 6 d_L_branch_3 rfl cw_L_137 rfl (Nat.le_of_ble_eq_true rfl) (ev_L_hasBranch hb hi hI hU) ?_
  rintro _ _ ⟨rfl, rfl⟩
  refine rn_ifB_eq 25 9 d_L_branch_6 rfl rfl (fun c_6 => ?_) (fun c_6 => ?_)
  · refine rn_bipush 27 d_L_branch_25 rfl rfl ?_
    exact rn_ireturn d_L_branch_27 (Or.inl rfl) ⟨by unfold aBranch; (first | rw [if_pos (by omega)] | rw [if_neg (by omega)]); try (first | rw [if_pos (by omega)] | rw [if_neg (by omega)]), rfl⟩
  · refine rn_aload_n 10 d_L_branch_9 rfl rfl ?_
    refine rn_getfield 13 d_L_branch_10 rfl fd_L_53 rfl rfl ?_
    refine rn_getfield 16 d_L_branch_13 rfl fd_L_140 rfl rfl ?_
    refine rn_iconst 17 d_L_branch_16 rfl ?_
    refine rn_iload_n 18 d_L_branch_17 rfl rfl ?_
    refine rn_imul 19 d_L_branch_18 rfl ?_
    refine rn_iload_n 20 d_L_branch_19 rfl rfl ?_
    refine rn_iadd 21 d_L_branch_20 rfl ?_
    refine rn_iaload 22 d_L_branch_21 rfl rfl (by decide) (by omega) (by omega) ?_
    refine rn_goto 27 d_L_branch_22 rfl ?_
    exact rn_ireturn d_L_branch_27 (Or.inl rfl) ⟨by unfold aBranch; (first | rw [if_pos (by omega)] | rw [if_neg (by omega)]); try (first | rw [if_pos (by omega)] | rw [if_neg (by omega)]), rfl⟩
def aTarget (σ : av_S) (b i : Int) : Int := if (σ 0 6 = 1 ∧ (0 ≤ b ∧ b < σ 1 5) ∧ (i = 0 ∨ i = 1) ∧ σ 24 (2 * b + i) ≠ 0) then σ 23 (2 * b + i) else -3
set_option maxRecDepth 100000 in
set_option maxHeartbeats 400000 in
theorem ev_L_target {sc : av_sc} {d : Nat} {σ : av_S} {b i : Int} (hb : av_in b) (hi : av_in i) (hI : iL σ) (hU : ∀ k, 0 ≤ k → k < 48 → 0 ≤ σ 24 k ∧ σ 24 k ≤ 2) : av_Ev sc m_L_target (d + 2) false 0 0 [vR 0, vI b, vI i] (hp σ) (fun r h => r = some (vI (aTarget σ b i)) ∧ h = hp σ) := by
  obtain ⟨hn, hB, hT, hc8, hc9, hlo, hrg⟩ := id hI
  refine av_ev rfl rfl (Nat.le_of_ble_eq_true rfl) rfl ?_
  refine rn_aload_n 1 d_L_target_0 rfl rfl ?_
  refine rn_iload_n 2 d_L_target_1 rfl rfl ?_
  refine rn_iload_n 3 d_L_target_2 rfl rfl ?_
  refine rn_callV2 6 d_L_target_3 rfl cw_L_137 rfl (Nat.le_of_ble_eq_true rfl) (ev_L_hasBranch hb hi hI hU) ?_
  rintro _ _ ⟨rfl, rfl⟩
  refine rn_ifB_eq 25 9 d_L_target_6 rfl rfl (fun c_6 => ?_) (fun c_6 => ?_)
  · refine rn_bipush 27 d_L_target_25 rfl rfl ?_
    exact rn_ireturn d_L_target_27 (Or.inl rfl) ⟨by unfold aTarget; (first | rw [if_pos (by omega)] | rw [if_neg (by omega)]); try (first | rw [if_pos (by omega)] | rw [if_neg (by omega)]), rfl⟩
  · refine rn_aload_n 10 d_L_target_9 rfl rfl ?_
    refine rn_getfield 13 d_L_target_10 rfl fd_L_53 rfl rfl ?_
    refine rn_getfield 16 d_L_target_13 rfl fd_L_143 rfl rfl ?_
    refine rn_iconst 17 d_L_target_16 rfl ?_
    refine rn_iload_n 18 d_L_target_17 rfl rfl ?_
    refine rn_imul 19 d_L_target_18 rfl ?_
    refine rn_iload_n 20 d_L_target_19 rfl rfl ?_
    refine rn_iadd 21 d_L_target_20 rfl ?_
    refine rn_iaload 22 d_L_target_21 rfl rfl (by decide) (by omega) (by omega) ?_
    refine rn_goto 27 d_L_target_22 rfl ?_
    exact rn_ireturn d_L_target_27 (Or.inl rfl) ⟨by unfold aTarget; (first | rw [if_pos (by omega)] | rw [if_neg (by omega)]); try (first | rw [if_pos (by omega)] | rw [if_neg (by omega)]), rfl⟩
def aHeatOf (σ : av_S) (b e : Int) : Int := if e = -1 ∧ 0 ≤ b ∧ b < σ 1 5 then σ 8 b else if (0 ≤ b ∧ b < σ 1 5) ∧ 0 ≤ e ∧ e < σ 4 b then σ 9 (2 * b + e) else -3
set_option maxRecDepth 100000 in
set_option maxHeartbeats 400000 in
theorem ev_L_heatOf {sc : av_sc} {d : Nat} {σ : av_S} {b e : Int} (hb : av_in b) (he : av_in e) (hI : iL σ) : av_Ev sc m_L_heatOf (d + 2) false 0 0 [vR 0, vI b, vI e] (hp σ) (fun r h => r = some (vI (aHeatOf σ b e)) ∧ h = hp σ) := by
  obtain ⟨hn, hB, hT, hc8, hc9, hlo, hrg⟩ := id hI
  obtain ⟨he1, he2⟩ := id he
  refine av_ev rfl rfl (Nat.le_of_ble_eq_true rfl) rfl ?_
  refine rn_iload_n 1 d_L_heatOf_0 rfl rfl ?_
  refine rn_iconst 2 d_L_heatOf_1 rfl ?_
  refine rn_icmp_ne 26 5 d_L_heatOf_2 rfl rfl ⟨by omega, by omega⟩ ⟨by omega, by omega⟩ (fun c_2 => ?_) (fun c_2 => ?_)
  · refine rn_aload_n 27 d_L_heatOf_26 rfl rfl ?_
    refine rn_getfield 30 d_L_heatOf_27 rfl fd_L_25 rfl rfl ?_
    refine rn_iload_n 31 d_L_heatOf_30 rfl rfl ?_
    refine rn_iload_n 32 d_L_heatOf_31 rfl rfl ?_
    refine rn_callV2 35 d_L_heatOf_32 rfl cw_L_93 rfl (Nat.le_of_ble_eq_true rfl) (ev_G_hasEdge hb he hn (iL_E hI)) ?_
    rintro _ _ ⟨rfl, rfl⟩
    refine rn_ifB_eq 54 38 d_L_heatOf_35 rfl rfl (fun c_35 => ?_) (fun c_35 => ?_)
    · refine rn_bipush 56 d_L_heatOf_54 rfl rfl ?_
      first | (exfalso; omega) | exact rn_ireturn d_L_heatOf_56 (Or.inl rfl) ⟨by unfold aHeatOf; (first | rw [if_pos (by omega)] | rw [if_neg (by omega)]); try (first | rw [if_pos (by omega)] | rw [if_neg (by omega)]), rfl⟩
    · have hEb := iL_E hI b c_35.1.1 c_35.1.2
      refine rn_aload_n 39 d_L_heatOf_38 rfl rfl ?_
      refine rn_getfield 42 d_L_heatOf_39 rfl fd_L_32 rfl rfl ?_
      refine rn_getfield 45 d_L_heatOf_42 rfl fd_L_107 rfl rfl ?_
      refine rn_iconst 46 d_L_heatOf_45 rfl ?_
      refine rn_iload_n 47 d_L_heatOf_46 rfl rfl ?_
      refine rn_imul 48 d_L_heatOf_47 rfl ?_
      refine rn_iload_n 49 d_L_heatOf_48 rfl rfl ?_
      refine rn_iadd 50 d_L_heatOf_49 rfl ?_
      refine rn_iaload 51 d_L_heatOf_50 rfl rfl (by decide) (by omega) (by omega) ?_
      refine rn_goto 56 d_L_heatOf_51 rfl ?_
      first | (exfalso; omega) | exact rn_ireturn d_L_heatOf_56 (Or.inl rfl) ⟨by unfold aHeatOf; (first | rw [if_pos (by omega)] | rw [if_neg (by omega)]); try (first | rw [if_pos (by omega)] | rw [if_neg (by omega)]), rfl⟩
  · refine rn_aload_n 6 d_L_heatOf_5 rfl rfl ?_
    refine rn_getfield 9 d_L_heatOf_6 rfl fd_L_25 rfl rfl ?_
    refine rn_iload_n 10 d_L_heatOf_9 rfl rfl ?_
    refine rn_callV1 13 d_L_heatOf_10 rfl cw_L_131 rfl (Nat.le_of_ble_eq_true rfl) (ev_G_has hb hn) ?_
    rintro _ _ ⟨rfl, rfl⟩
    refine rn_ifB_eq 26 16 d_L_heatOf_13 rfl rfl (fun c_13 => ?_) (fun c_13 => ?_)
    · refine rn_aload_n 27 d_L_heatOf_26 rfl rfl ?_
      refine rn_getfield 30 d_L_heatOf_27 rfl fd_L_25 rfl rfl ?_
      refine rn_iload_n 31 d_L_heatOf_30 rfl rfl ?_
      refine rn_iload_n 32 d_L_heatOf_31 rfl rfl ?_
      refine rn_callV2 35 d_L_heatOf_32 rfl cw_L_93 rfl (Nat.le_of_ble_eq_true rfl) (ev_G_hasEdge hb he hn (iL_E hI)) ?_
      rintro _ _ ⟨rfl, rfl⟩
      refine rn_ifB_eq 54 38 d_L_heatOf_35 rfl rfl (fun c_35 => ?_) (fun c_35 => ?_)
      · refine rn_bipush 56 d_L_heatOf_54 rfl rfl ?_
        first | (exfalso; omega) | exact rn_ireturn d_L_heatOf_56 (Or.inl rfl) ⟨by unfold aHeatOf; (first | rw [if_pos (by omega)] | rw [if_neg (by omega)]); try (first | rw [if_pos (by omega)] | rw [if_neg (by omega)]), rfl⟩
      · have hEb := iL_E hI b c_35.1.1 c_35.1.2
        refine rn_aload_n 39 d_L_heatOf_38 rfl rfl ?_
        refine rn_getfield 42 d_L_heatOf_39 rfl fd_L_32 rfl rfl ?_
        refine rn_getfield 45 d_L_heatOf_42 rfl fd_L_107 rfl rfl ?_
        refine rn_iconst 46 d_L_heatOf_45 rfl ?_
        refine rn_iload_n 47 d_L_heatOf_46 rfl rfl ?_
        refine rn_imul 48 d_L_heatOf_47 rfl ?_
        refine rn_iload_n 49 d_L_heatOf_48 rfl rfl ?_
        refine rn_iadd 50 d_L_heatOf_49 rfl ?_
        refine rn_iaload 51 d_L_heatOf_50 rfl rfl (by decide) (by omega) (by omega) ?_
        refine rn_goto 56 d_L_heatOf_51 rfl ?_
        first | (exfalso; omega) | exact rn_ireturn d_L_heatOf_56 (Or.inl rfl) ⟨by unfold aHeatOf; (first | rw [if_pos (by omega)] | rw [if_neg (by omega)]); try (first | rw [if_pos (by omega)] | rw [if_neg (by omega)]), rfl⟩
    · refine rn_aload_n 17 d_L_heatOf_16 rfl rfl ?_
      refine rn_getfield 20 d_L_heatOf_17 rfl fd_L_32 rfl rfl ?_
      refine rn_getfield 23 d_L_heatOf_20 rfl fd_L_159 rfl rfl ?_
      refine rn_iload_n 24 d_L_heatOf_23 rfl rfl ?_
      refine rn_iaload 25 d_L_heatOf_24 rfl rfl (by decide) (by omega) (by omega) ?_
      exact rn_ireturn d_L_heatOf_25 (Or.inl rfl) ⟨by unfold aHeatOf; (first | rw [if_pos (by omega)] | rw [if_neg (by omega)]); try (first | rw [if_pos (by omega)] | rw [if_neg (by omega)]), rfl⟩
def aCL (σ : av_S) (w : Int) : Int := if w = 1 then σ 21 4 else if w = 2 then σ 21 5 else if w = 3 then σ 21 6 else if w = 4 then σ 13 2 else σ 13 1
set_option maxRecDepth 100000 in
set_option maxHeartbeats 400000 in
theorem ev_L_countOfLayout {sc : av_sc} {d : Nat} {σ : av_S} {w : Int} (hw : 1 ≤ w ∧ w ≤ 5) : av_Ev sc m_L_countOfLayout (d) false 0 0 [vR 0, vI w] (hp σ) (fun r h => r = some (vI (aCL σ w)) ∧ h = hp σ) := by
  refine av_ev rfl rfl (Nat.le_of_ble_eq_true rfl) rfl ?_
  refine rn_iload_n 1 d_L_countOfLayout_0 rfl rfl ?_
  rcases (show w = 1 ∨ w = 2 ∨ w = 3 ∨ w = 4 ∨ w = 5 by omega) with rfl | rfl | rfl | rfl | rfl
  · refine rn_tabIn 32 d_L_countOfLayout_1 ⟨by decide, by decide⟩ (by decide) (by decide) rfl rfl ?_
    refine rn_aload_n 33 d_L_countOfLayout_32 rfl rfl ?_
    refine rn_getfield 36 d_L_countOfLayout_33 rfl fd_L_53 rfl rfl ?_
    refine rn_getfield 39 d_L_countOfLayout_36 rfl fd_L_128 rfl rfl ?_
    exact rn_ireturn d_L_countOfLayout_39 (Or.inl rfl) ⟨rfl, rfl⟩
  · refine rn_tabIn 40 d_L_countOfLayout_1 ⟨by decide, by decide⟩ (by decide) (by decide) rfl rfl ?_
    refine rn_aload_n 41 d_L_countOfLayout_40 rfl rfl ?_
    refine rn_getfield 44 d_L_countOfLayout_41 rfl fd_L_53 rfl rfl ?_
    refine rn_getfield 47 d_L_countOfLayout_44 rfl fd_L_166 rfl rfl ?_
    exact rn_ireturn d_L_countOfLayout_47 (Or.inl rfl) ⟨rfl, rfl⟩
  · refine rn_tabIn 48 d_L_countOfLayout_1 ⟨by decide, by decide⟩ (by decide) (by decide) rfl rfl ?_
    refine rn_aload_n 49 d_L_countOfLayout_48 rfl rfl ?_
    refine rn_getfield 52 d_L_countOfLayout_49 rfl fd_L_53 rfl rfl ?_
    refine rn_getfield 55 d_L_countOfLayout_52 rfl fd_L_169 rfl rfl ?_
    exact rn_ireturn d_L_countOfLayout_55 (Or.inl rfl) ⟨rfl, rfl⟩
  · refine rn_tabIn 56 d_L_countOfLayout_1 ⟨by decide, by decide⟩ (by decide) (by decide) rfl rfl ?_
    refine rn_aload_n 57 d_L_countOfLayout_56 rfl rfl ?_
    refine rn_getfield 60 d_L_countOfLayout_57 rfl fd_L_46 rfl rfl ?_
    refine rn_getfield 63 d_L_countOfLayout_60 rfl fd_L_172 rfl rfl ?_
    exact rn_ireturn d_L_countOfLayout_63 (Or.inl rfl) ⟨rfl, rfl⟩
  · refine rn_tabOut 64 d_L_countOfLayout_1 ⟨by decide, by decide⟩ (by decide) rfl ?_
    refine rn_aload_n 65 d_L_countOfLayout_64 rfl rfl ?_
    refine rn_getfield 68 d_L_countOfLayout_65 rfl fd_L_46 rfl rfl ?_
    refine rn_getfield 71 d_L_countOfLayout_68 rfl fd_L_175 rfl rfl ?_
    exact rn_ireturn d_L_countOfLayout_71 (Or.inl rfl) ⟨rfl, rfl⟩
def aCount (σ : av_S) (w : Int) : Int := if w < 0 ∨ 5 < w then -1 else if w = 0 then σ 1 5 else if σ 0 6 = 1 then aCL σ w else 0
set_option maxRecDepth 100000 in
set_option maxHeartbeats 400000 in
theorem ev_L_count {sc : av_sc} {d : Nat} {σ : av_S} {w : Int} (hw : av_in w) (hI : iL σ) : av_Ev sc m_L_count (d + 1) false 0 0 [vR 0, vI w] (hp σ) (fun r h => r = some (vI (aCount σ w)) ∧ h = hp σ) := by
  obtain ⟨hn, hB, hT, hc8, hc9, hlo, hrg⟩ := id hI
  obtain ⟨hw1, hw2⟩ := hw
  refine av_ev rfl rfl (Nat.le_of_ble_eq_true rfl) rfl ?_
  refine rn_iload_n 1 d_L_count_0 rfl rfl ?_
  refine rn_if_lt 9 4 d_L_count_1 rfl rfl ⟨by omega, by omega⟩ (fun c_1 => ?_) (fun c_1 => ?_)
  · refine rn_iconst 10 d_L_count_9 rfl ?_
    exact rn_ireturn d_L_count_10 (Or.inl rfl) ⟨by unfold aCount; (first | rw [if_pos (by omega)] | rw [if_neg (by omega)]); try (first | rw [if_pos (by omega)] | rw [if_neg (by omega)]); try (first | rw [if_pos (by omega)] | rw [if_neg (by omega)]), rfl⟩
  · refine rn_iload_n 5 d_L_count_4 rfl rfl ?_
    refine rn_iconst 6 d_L_count_5 rfl ?_
    refine rn_icmp_le 11 9 d_L_count_6 rfl rfl ⟨by omega, by omega⟩ ⟨by omega, by omega⟩ (fun c_6 => ?_) (fun c_6 => ?_)
    · refine rn_iload_n 12 d_L_count_11 rfl rfl ?_
      refine rn_if_ne 23 15 d_L_count_12 rfl rfl ⟨by omega, by omega⟩ (fun c_12 => ?_) (fun c_12 => ?_)
      · refine rn_aload_n 24 d_L_count_23 rfl rfl ?_
        refine rn_getfield 27 d_L_count_24 rfl fd_L_57 rfl rfl ?_
        refine rn_if_eq 38 30 d_L_count_27 rfl rfl ⟨by omega, by omega⟩ (fun c_27 => ?_) (fun c_27 => ?_)
        · refine rn_iconst 39 d_L_count_38 rfl ?_
          exact rn_ireturn d_L_count_39 (Or.inl rfl) ⟨by unfold aCount; (first | rw [if_pos (by omega)] | rw [if_neg (by omega)]); try (first | rw [if_pos (by omega)] | rw [if_neg (by omega)]); try (first | rw [if_pos (by omega)] | rw [if_neg (by omega)]), rfl⟩
        · refine rn_aload_n 31 d_L_count_30 rfl rfl ?_
          refine rn_iload_n 32 d_L_count_31 rfl rfl ?_
          refine rn_callV1 35 d_L_count_32 rfl cw_L_162 rfl (Nat.le_of_ble_eq_true rfl) (ev_L_countOfLayout ⟨by omega, by omega⟩) ?_
          rintro _ _ ⟨rfl, rfl⟩
          refine rn_goto 39 d_L_count_35 rfl ?_
          exact rn_ireturn d_L_count_39 (Or.inl rfl) ⟨by unfold aCount; (first | rw [if_pos (by omega)] | rw [if_neg (by omega)]); try (first | rw [if_pos (by omega)] | rw [if_neg (by omega)]); try (first | rw [if_pos (by omega)] | rw [if_neg (by omega)]), rfl⟩
      · refine rn_aload_n 16 d_L_count_15 rfl rfl ?_
        refine rn_getfield 19 d_L_count_16 rfl fd_L_25 rfl rfl ?_
        refine rn_getfield 22 d_L_count_19 rfl fd_L_61 rfl rfl ?_
        exact rn_ireturn d_L_count_22 (Or.inl rfl) ⟨by unfold aCount; (first | rw [if_pos (by omega)] | rw [if_neg (by omega)]); try (first | rw [if_pos (by omega)] | rw [if_neg (by omega)]); try (first | rw [if_pos (by omega)] | rw [if_neg (by omega)]), rfl⟩
    · refine rn_iconst 10 d_L_count_9 rfl ?_
      exact rn_ireturn d_L_count_10 (Or.inl rfl) ⟨by unfold aCount; (first | rw [if_pos (by omega)] | rw [if_neg (by omega)]); try (first | rw [if_pos (by omega)] | rw [if_neg (by omega)]); try (first | rw [if_pos (by omega)] | rw [if_neg (by omega)]), rfl⟩
end
section
def le (un : Int → Int) (k : Int) : Int := if un k = 2 then 1 else 0
def cL (un tu : Int → Int) (b en hh : Int) : Int := if en = 0 then 1 else if en = 1 then (if un (2 * b) = 0 then 0 else 2 + le un (2 * b)) else if hh = tu b then (if un (2 * b + 1) = 0 then 1 else 3 + le un (2 * b + 1)) else 2 + le un (2 * b)
set_option maxRecDepth 100000 in
set_option maxHeartbeats 400000 in
theorem ev_C_longExtra {sc : av_sc} {d : Nat} {σ : av_S} {k : Int} (hk : 0 ≤ k ∧ k < 48) (hU : ∀ k, 0 ≤ k → k < 48 → 0 ≤ σ 24 k ∧ σ 24 k ≤ 2) : av_Ev sc m_C_longExtra (d) false 0 0 [vR 21, vI k] (hp σ) (fun r h => r = some (vI (le (σ 24) k)) ∧ h = hp σ) := by
  have hUk := hU k hk.1 hk.2
  refine av_ev rfl rfl (Nat.le_of_ble_eq_true rfl) rfl ?_
  refine rn_aload_n 1 d_C_longExtra_0 rfl rfl ?_
  refine rn_getfield 4 d_C_longExtra_1 rfl fd_C_18 rfl rfl ?_
  refine rn_iload_n 5 d_C_longExtra_4 rfl rfl ?_
  refine rn_iaload 6 d_C_longExtra_5 rfl rfl (by decide) (by omega) (by omega) ?_
  refine rn_iconst 7 d_C_longExtra_6 rfl ?_
  refine rn_icmp_ne 14 10 d_C_longExtra_7 rfl rfl ⟨by omega, by omega⟩ ⟨by omega, by omega⟩ (fun c_7 => ?_) (fun c_7 => ?_)
  · refine rn_iconst 15 d_C_longExtra_14 rfl ?_
    exact rn_ireturn d_C_longExtra_15 (Or.inl rfl) ⟨by unfold le; (first | rw [if_pos (by omega)] | rw [if_neg (by omega)]), rfl⟩
  · refine rn_iconst 11 d_C_longExtra_10 rfl ?_
    refine rn_goto 15 d_C_longExtra_11 rfl ?_
    exact rn_ireturn d_C_longExtra_15 (Or.inl rfl) ⟨by unfold le; (first | rw [if_pos (by omega)] | rw [if_neg (by omega)]), rfl⟩
set_option maxRecDepth 100000 in
set_option maxHeartbeats 400000 in
theorem ev_C_costOfLeaving {sc : av_sc} {d : Nat} {σ : av_S} {b en hh : Int} (hb : 0 ≤ b ∧ b < 24) (hen : 0 ≤ en ∧ en ≤ 2) (hh01 : hh = 0 ∨ hh = 1) (hT : σ 25 b = 0 ∨ σ 25 b = 1) (hU : ∀ k, 0 ≤ k → k < 48 → 0 ≤ σ 24 k ∧ σ 24 k ≤ 2) : av_Ev sc m_C_costOfLeaving (d + 1) false 0 0 [vR 21, vI b, vI en, vI hh] (hp σ) (fun r h => r = some (vI (cL (σ 24) (σ 25) b en hh)) ∧ h = hp σ) := by
  have hU0 := hU (2 * b) (by omega) (by omega)
  have hU1 := hU (2 * b + 1) (by omega) (by omega)
  refine av_ev rfl rfl (Nat.le_of_ble_eq_true rfl) rfl ?_
  refine rn_iconst 1 d_C_costOfLeaving_0 rfl ?_
  refine rn_iload_n 2 d_C_costOfLeaving_1 rfl rfl ?_
  refine rn_imul 3 d_C_costOfLeaving_2 rfl ?_
  refine rn_istore 5 d_C_costOfLeaving_3 rfl (by decide) rfl rfl ?_
  refine rn_iload 7 d_C_costOfLeaving_5 rfl rfl ?_
  refine rn_iconst 8 d_C_costOfLeaving_7 rfl ?_
  refine rn_iadd 9 d_C_costOfLeaving_8 rfl ?_
  refine rn_istore 11 d_C_costOfLeaving_9 rfl (by decide) rfl rfl ?_
  refine rn_iload_n 12 d_C_costOfLeaving_11 rfl rfl ?_
  refine rn_if_ne 17 15 d_C_costOfLeaving_12 rfl rfl ⟨by omega, by omega⟩ (fun c_12 => ?_) (fun c_12 => ?_)
  · refine rn_iload_n 18 d_C_costOfLeaving_17 rfl rfl ?_
    refine rn_iconst 19 d_C_costOfLeaving_18 rfl ?_
    refine rn_icmp_ne 45 22 d_C_costOfLeaving_19 rfl rfl ⟨by omega, by omega⟩ ⟨by omega, by omega⟩ (fun c_19 => ?_) (fun c_19 => ?_)
    · refine rn_iload_n 46 d_C_costOfLeaving_45 rfl rfl ?_
      refine rn_aload_n 47 d_C_costOfLeaving_46 rfl rfl ?_
      refine rn_getfield 50 d_C_costOfLeaving_47 rfl fd_C_21 rfl rfl ?_
      refine rn_iload_n 51 d_C_costOfLeaving_50 rfl rfl ?_
      refine rn_baload 52 d_C_costOfLeaving_51 rfl rfl (by decide) (by omega) (by omega) ?_
      refine rn_icmp_eq 64 55 d_C_costOfLeaving_52 rfl rfl ⟨by omega, by omega⟩ ⟨by omega, by omega⟩ (fun c_52 => ?_) (fun c_52 => ?_)
      · refine rn_aload_n 65 d_C_costOfLeaving_64 rfl rfl ?_
        refine rn_getfield 68 d_C_costOfLeaving_65 rfl fd_C_18 rfl rfl ?_
        refine rn_iload 70 d_C_costOfLeaving_68 rfl rfl ?_
        refine rn_iaload 71 d_C_costOfLeaving_70 rfl rfl (by decide) (by omega) (by omega) ?_
        refine rn_if_ne 78 74 d_C_costOfLeaving_71 rfl rfl ⟨by omega, by omega⟩ (fun c_71 => ?_) (fun c_71 => ?_)
        · refine rn_iconst 79 d_C_costOfLeaving_78 rfl ?_
          refine rn_aload_n 80 d_C_costOfLeaving_79 rfl rfl ?_
          refine rn_iload 82 d_C_costOfLeaving_80 rfl rfl ?_
          refine rn_callV1 85 d_C_costOfLeaving_82 rfl cw_C_79 rfl (Nat.le_of_ble_eq_true rfl) (ev_C_longExtra ⟨by omega, by omega⟩ hU) ?_
          rintro _ _ ⟨rfl, rfl⟩
          refine rn_iadd 86 d_C_costOfLeaving_85 rfl ?_
          exact rn_ireturn d_C_costOfLeaving_86 (Or.inl rfl) ⟨by unfold cL; (first | rw [if_pos (by omega)] | rw [if_neg (by omega)]); try (first | rw [if_pos (by omega)] | rw [if_neg (by omega)]); try (first | rw [if_pos (by omega)] | rw [if_neg (by omega)]); try (first | rw [if_pos (by omega)] | rw [if_neg (by omega)]), rfl⟩
        · refine rn_iconst 75 d_C_costOfLeaving_74 rfl ?_
          refine rn_goto 86 d_C_costOfLeaving_75 rfl ?_
          exact rn_ireturn d_C_costOfLeaving_86 (Or.inl rfl) ⟨by unfold cL; (first | rw [if_pos (by omega)] | rw [if_neg (by omega)]); try (first | rw [if_pos (by omega)] | rw [if_neg (by omega)]); try (first | rw [if_pos (by omega)] | rw [if_neg (by omega)]); try (first | rw [if_pos (by omega)] | rw [if_neg (by omega)]), rfl⟩
      · refine rn_iconst 56 d_C_costOfLeaving_55 rfl ?_
        refine rn_aload_n 57 d_C_costOfLeaving_56 rfl rfl ?_
        refine rn_iload 59 d_C_costOfLeaving_57 rfl rfl ?_
        refine rn_callV1 62 d_C_costOfLeaving_59 rfl cw_C_79 rfl (Nat.le_of_ble_eq_true rfl) (ev_C_longExtra ⟨by omega, by omega⟩ hU) ?_
        rintro _ _ ⟨rfl, rfl⟩
        refine rn_iadd 63 d_C_costOfLeaving_62 rfl ?_
        exact rn_ireturn d_C_costOfLeaving_63 (Or.inl rfl) ⟨by unfold cL; (first | rw [if_pos (by omega)] | rw [if_neg (by omega)]); try (first | rw [if_pos (by omega)] | rw [if_neg (by omega)]); try (first | rw [if_pos (by omega)] | rw [if_neg (by omega)]); try (first | rw [if_pos (by omega)] | rw [if_neg (by omega)]), rfl⟩
    · refine rn_aload_n 23 d_C_costOfLeaving_22 rfl rfl ?_
      refine rn_getfield 26 d_C_costOfLeaving_23 rfl fd_C_18 rfl rfl ?_
      refine rn_iload 28 d_C_costOfLeaving_26 rfl rfl ?_
      refine rn_iaload 29 d_C_costOfLeaving_28 rfl rfl (by decide) (by omega) (by omega) ?_
      refine rn_if_ne 36 32 d_C_costOfLeaving_29 rfl rfl ⟨by omega, by omega⟩ (fun c_29 => ?_) (fun c_29 => ?_)
      · refine rn_iconst 37 d_C_costOfLeaving_36 rfl ?_
        refine rn_aload_n 38 d_C_costOfLeaving_37 rfl rfl ?_
        refine rn_iload 40 d_C_costOfLeaving_38 rfl rfl ?_
        refine rn_callV1 43 d_C_costOfLeaving_40 rfl cw_C_79 rfl (Nat.le_of_ble_eq_true rfl) (ev_C_longExtra ⟨by omega, by omega⟩ hU) ?_
        rintro _ _ ⟨rfl, rfl⟩
        refine rn_iadd 44 d_C_costOfLeaving_43 rfl ?_
        exact rn_ireturn d_C_costOfLeaving_44 (Or.inl rfl) ⟨by unfold cL; (first | rw [if_pos (by omega)] | rw [if_neg (by omega)]); try (first | rw [if_pos (by omega)] | rw [if_neg (by omega)]); try (first | rw [if_pos (by omega)] | rw [if_neg (by omega)]); try (first | rw [if_pos (by omega)] | rw [if_neg (by omega)]), rfl⟩
      · refine rn_iconst 33 d_C_costOfLeaving_32 rfl ?_
        refine rn_goto 44 d_C_costOfLeaving_33 rfl ?_
        exact rn_ireturn d_C_costOfLeaving_44 (Or.inl rfl) ⟨by unfold cL; (first | rw [if_pos (by omega)] | rw [if_neg (by omega)]); try (first | rw [if_pos (by omega)] | rw [if_neg (by omega)]); try (first | rw [if_pos (by omega)] | rw [if_neg (by omega)]); try (first | rw [if_pos (by omega)] | rw [if_neg (by omega)]), rfl⟩
  · refine rn_iconst 16 d_C_costOfLeaving_15 rfl ?_
    exact rn_ireturn d_C_costOfLeaving_16 (Or.inl rfl) ⟨by unfold cL; (first | rw [if_pos (by omega)] | rw [if_neg (by omega)]); try (first | rw [if_pos (by omega)] | rw [if_neg (by omega)]); try (first | rw [if_pos (by omega)] | rw [if_neg (by omega)]); try (first | rw [if_pos (by omega)] | rw [if_neg (by omega)]), rfl⟩
def cS (en un tu : Int → Int) : List (Int × Int) → Int
  | [] => 0
  | p :: r => cL un tu p.1 (en p.1) (if p.2 = 0 then 1 else 0) + cS en un tu r
theorem cL_in {un tu : Int → Int} {b en hh : Int} : 0 ≤ cL un tu b en hh ∧ cL un tu b en hh ≤ 4 := by
  have h1 : ∀ k, 0 ≤ le un k ∧ le un k ≤ 1 := fun k => by unfold le; split <;> omega
  have h2 := h1 (2 * b)
  have h3 := h1 (2 * b + 1)
  unfold cL
  split
  · omega
  · split
    · split <;> omega
    · split
      · split <;> omega
      · omega
set_option maxRecDepth 100000 in
set_option maxHeartbeats 400000 in
theorem cost_loop {sc : av_sc} {d n0 bc bs : Nat} {al : Bool} {σ : av_S} {m fv xv : Int} {Φ : Option av_V → av_H → Prop} (hm : σ 10 2 = m) (hm6 : m ≤ 60) (hE : ∀ b, 0 ≤ b → b < 24 → (σ 25 b = 0 ∨ σ 25 b = 1)) (hU : ∀ k, 0 ≤ k → k < 48 → 0 ≤ σ 24 k ∧ σ 24 k ≤ 2) :
    ∀ (r : List (Int × Int)) (i sm : Int) (lf : Option av_V), 0 ≤ i → i + (r.length : Int) = m → 0 ≤ sm → sm ≤ 4 * i → hl (σ 11) i (r.map Prod.fst) → hl (σ 12) i (r.map Prod.snd) → (∀ p ∈ r, ((0 ≤ p.1 ∧ p.1 < 24) ∧ 0 ≤ σ 4 p.1 ∧ σ 4 p.1 ≤ 2) ∧ 0 ≤ p.2 ∧ p.2 ≤ 1) → Φ (some (vI (sm + cS (σ 4) (σ 24) (σ 25) r))) (hp σ) →
      av_Rn sc m_L_cost (d + 3) al n0 bc bs 38 [some (vR 0), some (vI fv), some (vI xv), some (vI sm), some (vI i), none] [] (hp σ) Φ := by
  intro r
  induction r with
  | nil =>
    intro i sm lf h0 hi hs0 hs1 h1 h2 h3 hΦ
    simp only [List.length_nil] at hi
    have e0 : sm + cS (σ 4) (σ 24) (σ 25) [] = sm := Int.add_zero sm
    rw [e0] at hΦ
    refine rn_iload 40 d_L_cost_38 rfl rfl ?_
    refine rn_aload_n 41 d_L_cost_40 rfl rfl ?_
    refine rn_getfield 44 d_L_cost_41 rfl fd_L_39 rfl rfl ?_
    refine rn_getfield 47 d_L_cost_44 rfl fd_L_91 rfl rfl ?_
    refine rn_icmp_ge 108 50 d_L_cost_47 rfl rfl ⟨by omega, by omega⟩ ⟨by omega, by omega⟩ (fun c_47 => ?_) (fun c_47 => ?_)
    · refine rn_iload_n 109 d_L_cost_108 rfl rfl ?_
      exact rn_ireturn d_L_cost_109 (Or.inl rfl) hΦ
    · omega
  | cons p r ih =>
    intro i sm lf h0 hi hs0 hs1 h1 h2 h3 hΦ
    have hp3 := h3 p List.mem_cons_self
    simp only [List.length_cons] at hi
    have e1 : σ 11 i = p.1 := h1.1
    have e2 : σ 12 i = p.2 := h2.1
    have hTp := hE p.1 hp3.1.1.1 hp3.1.1.2
    have hci := cL_in (un := σ 24) (tu := σ 25) (b := p.1) (en := σ 4 p.1) (hh := if p.2 = 0 then 1 else 0)
    have J : ∀ hh : Int, hh = (if p.2 = 0 then 1 else 0) → av_Rn sc m_L_cost (d + 3) al n0 bc bs 97 [some (vR 0), some (vI fv), some (vI xv), some (vI sm), some (vI i), some (vI p.1)] [vI hh, vI (σ 4 p.1), vI p.1, vR 21, vI sm] (hp σ) Φ := by
      intro hh ehh
      have h01 : hh = 0 ∨ hh = 1 := by rw [ehh]; split <;> omega
      subst ehh
      refine rn_callV3 100 d_L_cost_97 rfl cw_L_155 rfl (Nat.le_of_ble_eq_true rfl) (ev_C_costOfLeaving hp3.1.1 hp3.1.2 h01 hTp hU) ?_
      rintro _ _ ⟨rfl, rfl⟩
      refine rn_iadd 101 d_L_cost_100 rfl ?_
      refine rn_istore_n 102 d_L_cost_101 rfl (by decide) rfl rfl ?_
      refine rn_iinc 105 d_L_cost_102 rfl rfl (by decide) rfl rfl ?_
      refine rn_goto 38 d_L_cost_105 rfl ?_
      refine rn_kill 5 rfl ?_
      refine ih (i + 1) _ none (by omega) (by omega) (by omega) (by omega) h1.2 h2.2 (fun q hq => h3 q (List.mem_cons_of_mem _ hq)) ?_
      rw [Int.add_assoc]
      exact hΦ
    refine rn_iload 40 d_L_cost_38 rfl rfl ?_
    refine rn_aload_n 41 d_L_cost_40 rfl rfl ?_
    refine rn_getfield 44 d_L_cost_41 rfl fd_L_39 rfl rfl ?_
    refine rn_getfield 47 d_L_cost_44 rfl fd_L_91 rfl rfl ?_
    refine rn_icmp_ge 108 50 d_L_cost_47 rfl rfl ⟨by omega, by omega⟩ ⟨by omega, by omega⟩ (fun c_47 => ?_) (fun c_47 => ?_)
    · omega
    · refine rn_aload_n 51 d_L_cost_50 rfl rfl ?_
      refine rn_getfield 54 d_L_cost_51 rfl fd_L_39 rfl rfl ?_
      refine rn_getfield 57 d_L_cost_54 rfl fd_L_146 rfl rfl ?_
      refine rn_iload 59 d_L_cost_57 rfl rfl ?_
      refine rn_iaload 60 d_L_cost_59 rfl rfl (by decide) (by omega) (by omega) ?_
      rw [e1]
      refine rn_istore 62 d_L_cost_60 rfl (by decide) rfl rfl ?_
      refine rn_iload_n 63 d_L_cost_62 rfl rfl ?_
      refine rn_aload_n 64 d_L_cost_63 rfl rfl ?_
      refine rn_getfield 67 d_L_cost_64 rfl fd_L_53 rfl rfl ?_
      refine rn_iload 69 d_L_cost_67 rfl rfl ?_
      refine rn_aload_n 70 d_L_cost_69 rfl rfl ?_
      refine rn_getfield 73 d_L_cost_70 rfl fd_L_25 rfl rfl ?_
      refine rn_getfield 76 d_L_cost_73 rfl fd_L_149 rfl rfl ?_
      refine rn_iload 78 d_L_cost_76 rfl rfl ?_
      refine rn_iaload 79 d_L_cost_78 rfl rfl (by decide) (by omega) (by omega) ?_
      refine rn_aload_n 80 d_L_cost_79 rfl rfl ?_
      refine rn_getfield 83 d_L_cost_80 rfl fd_L_39 rfl rfl ?_
      refine rn_getfield 86 d_L_cost_83 rfl fd_L_152 rfl rfl ?_
      refine rn_iload 88 d_L_cost_86 rfl rfl ?_
      refine rn_iaload 89 d_L_cost_88 rfl rfl (by decide) (by omega) (by omega) ?_
      rw [e2]
      refine rn_if_ne 96 92 d_L_cost_89 rfl rfl ⟨by omega, by omega⟩ (fun c_89 => ?_) (fun c_89 => ?_)
      · refine rn_iconst 97 d_L_cost_96 rfl ?_
        exact J _ (by first | rw [if_pos (by omega)] | rw [if_neg (by omega)])
      · refine rn_iconst 93 d_L_cost_92 rfl ?_
        refine rn_goto 97 d_L_cost_93 rfl ?_
        exact J _ (by first | rw [if_pos (by omega)] | rw [if_neg (by omega)])
set_option maxRecDepth 100000 in
set_option maxHeartbeats 400000 in
theorem ev_L_cost {sc : av_sc} {d : Nat} {σ : av_S} {f x : Int} (hf : av_in f) (hx : av_in x) (hI : iL σ) (hU : ∀ k, 0 ≤ k → k < 48 → 0 ≤ σ 24 k ∧ σ 24 k ≤ 2) (hE : ∀ b, 0 ≤ b → b < 24 → (σ 25 b = 0 ∨ σ 25 b = 1)) : av_Ev sc m_L_cost (d + 3) false 0 0 [vR 0, vI f, vI x] (hp σ) (fun r h => (¬ (σ 0 6 = 1 ∧ (0 ≤ f ∧ f < 4) ∧ σ 6 f ≠ -1) ∧ r = some (vI (-1)) ∧ h = hp σ) ∨ ((σ 0 6 = 1 ∧ (0 ≤ f ∧ f < 4) ∧ σ 6 f ≠ -1) ∧ ∃ f' g' : Int → Int, r = some (vI (cS (σ 4) (σ 24) (σ 25) (wl σ f x))) ∧ h = hp (tS σ f' g' ((wl σ f x).length : Int)))) := by
  obtain ⟨hn, hB, hT, hc8, hc9, hlo, hrg⟩ := id hI
  refine av_ev rfl rfl (Nat.le_of_ble_eq_true rfl) rfl ?_
  refine rn_aload_n 1 d_L_cost_0 rfl rfl ?_
  refine rn_getfield 4 d_L_cost_1 rfl fd_L_57 rfl rfl ?_
  refine rn_if_eq 18 7 d_L_cost_4 rfl rfl ⟨by omega, by omega⟩ (fun c_4 => ?_) (fun c_4 => ?_)
  · refine rn_iconst 19 d_L_cost_18 rfl ?_
    exact rn_ireturn d_L_cost_19 (Or.inl rfl) (Or.inl ⟨(by omega), rfl, rfl⟩)
  · refine rn_aload_n 8 d_L_cost_7 rfl rfl ?_
    refine rn_getfield 11 d_L_cost_8 rfl fd_L_25 rfl rfl ?_
    refine rn_iload_n 12 d_L_cost_11 rfl rfl ?_
    refine rn_callV1 15 d_L_cost_12 rfl cw_L_79 rfl (Nat.le_of_ble_eq_true rfl) (ev_G_hasEntry hf (iL_T24 hI)) ?_
    rintro _ _ ⟨rfl, rfl⟩
    refine rn_ifB_ne 20 18 d_L_cost_15 rfl rfl (fun c_15 => ?_) (fun c_15 => ?_)
    · refine rn_aload_n 21 d_L_cost_20 rfl rfl ?_
      refine rn_getfield 24 d_L_cost_21 rfl fd_L_39 rfl rfl ?_
      refine rn_aload_n 25 d_L_cost_24 rfl rfl ?_
      refine rn_getfield 28 d_L_cost_25 rfl fd_L_25 rfl rfl ?_
      refine rn_iload_n 29 d_L_cost_28 rfl rfl ?_
      refine rn_iload_n 30 d_L_cost_29 rfl rfl ?_
      refine rn_callV3 33 d_L_cost_30 rfl cw_L_83 rfl (Nat.le_of_ble_eq_true rfl) (ev_T_follow (iL_G hI) hn.2 c_15.1 hx (iL_T hI f c_15.1.1 c_15.1.2)) ?_
      rintro _ _ ⟨rfl, f', g', hl1, hl2, rfl⟩
      have hlen : ((wl σ f x).length : Int) ≤ 60 := Int.ofNat_le.mpr (wk_len (en := σ 4) (to := σ 5) (hd := x) 60 0 (σ 6 f))
      have hok := wk_ok (hd := x) (iL_G hI) 60 0 (σ 6 f) (iL_T hI f c_15.1.1 c_15.1.2).1 (iL_T hI f c_15.1.1 c_15.1.2).2
      refine rn_iconst 34 d_L_cost_33 rfl ?_
      refine rn_istore_n 35 d_L_cost_34 rfl (by decide) rfl rfl ?_
      refine rn_iconst 36 d_L_cost_35 rfl ?_
      refine rn_istore 38 d_L_cost_36 rfl (by decide) rfl rfl ?_
      refine cost_loop (σ := tS σ f' g' ((wl σ f x).length : Int)) (m := ((wl σ f x).length : Int)) rfl hlen hE hU (wl σ f x) 0 0 none (by omega) (by omega) (by omega) (by omega) hl1 hl2 (fun p hp => ⟨⟨⟨(hok p hp).1.1, by have := (hok p hp).1.2; omega⟩, iL_E hI p.1 (hok p hp).1.1 (hok p hp).1.2⟩, (hok p hp).2⟩) (Or.inr ⟨⟨by omega, c_15⟩, f', g', ?_, rfl⟩)
      rw [Int.zero_add]
      rfl
    · refine rn_iconst 19 d_L_cost_18 rfl ?_
      exact rn_ireturn d_L_cost_19 (Or.inl rfl) (Or.inl ⟨(by omega), rfl, rfl⟩)
end
section
/-- the reference's own invariant -/
def iMB (σ : av_S) (b : Int) : Prop := (0 ≤ σ 27 b ∧ σ 27 b ≤ 3) ∧ (1 ≤ σ 28 b ∧ σ 28 b ≤ 40) ∧ (0 ≤ σ 29 b ∧ σ 29 b ≤ 2) ∧ (∀ e, 0 ≤ e → e < σ 29 b → 0 ≤ σ 30 (2 * b + e) ∧ σ 30 (2 * b + e) < σ 26 1)
def iM (σ : av_S) : Prop := (0 ≤ σ 26 1 ∧ σ 26 1 ≤ 24) ∧ (∀ b, 0 ≤ b → b < σ 26 1 → iMB σ b) ∧ bd (σ 31) 24 ∧ bd (σ 32) 48 ∧ (σ 26 5 = 0 ∨ σ 26 5 = 1) ∧ (4 ≤ σ 26 0 ∧ σ 26 0 ≤ 400)
def iEM (σ : av_S) (f e : Int) : Prop := (e = -1 ∧ ∀ b, 0 ≤ b → b < σ 26 1 → σ 27 b ≠ f) ∨ ((0 ≤ e ∧ e < σ 26 1) ∧ σ 27 e = f ∧ ∀ b, 0 ≤ b → b < e → σ 27 b ≠ f)
set_option maxRecDepth 100000 in
set_option maxHeartbeats 400000 in
theorem ev_M_no {sc : av_sc} {d : Nat} {σ : av_S} {b : Int} (hb : av_in b) (hn : 0 ≤ σ 26 1 ∧ σ 26 1 ≤ 24) : av_Ev sc m_M_no (d) false 0 0 [vR 26, vI b] (hp σ) (fun r h => r = some (vI (bz (b < 0 ∨ σ 26 1 ≤ b))) ∧ h = hp σ) := by
  obtain ⟨hb1, hb2⟩ := hb
  refine av_ev rfl rfl (Nat.le_of_ble_eq_true rfl) rfl ?_
  refine rn_iload_n 1 d_M_no_0 rfl rfl ?_
  refine rn_if_lt 12 4 d_M_no_1 rfl rfl ⟨by omega, by omega⟩ (fun c_1 => ?_) (fun c_1 => ?_)
  · refine rn_iconst 13 d_M_no_12 rfl ?_
    refine rn_goto 17 d_M_no_13 rfl ?_
    exact rn_ireturn d_M_no_17 (Or.inr ⟨rfl, Or.inr rfl⟩) ⟨by rw [bz_t (by omega)], rfl⟩
  · refine rn_iload_n 5 d_M_no_4 rfl rfl ?_
    refine rn_aload_n 6 d_M_no_5 rfl rfl ?_
    refine rn_getfield 9 d_M_no_6 rfl fd_M_7 rfl rfl ?_
    refine rn_icmp_lt 16 12 d_M_no_9 rfl rfl ⟨by omega, by omega⟩ ⟨by omega, by omega⟩ (fun c_9 => ?_) (fun c_9 => ?_)
    · refine rn_iconst 17 d_M_no_16 rfl ?_
      exact rn_ireturn d_M_no_17 (Or.inr ⟨rfl, Or.inl rfl⟩) ⟨by rw [bz_f (by omega)], rfl⟩
    · refine rn_iconst 13 d_M_no_12 rfl ?_
      refine rn_goto 17 d_M_no_13 rfl ?_
      exact rn_ireturn d_M_no_17 (Or.inr ⟨rfl, Or.inr rfl⟩) ⟨by rw [bz_t (by omega)], rfl⟩
set_option maxRecDepth 100000 in
set_option maxHeartbeats 400000 in
theorem entry_loop {sc : av_sc} {d n0 bc bs : Nat} {al : Bool} {σ : av_S} {f e : Int} {Φ : Option av_V → av_H → Prop} (hn : 0 ≤ σ 26 1 ∧ σ 26 1 ≤ 24) (hF : ∀ b, 0 ≤ b → b < σ 26 1 → 0 ≤ σ 27 b ∧ σ 27 b ≤ 3) (hf : 0 ≤ f ∧ f ≤ 3) (hE : iEM σ f e) (hΦ : Φ (some (vI e)) (hp σ)) :
    ∀ (k : Nat) (i : Int), 0 ≤ i → i + (k : Int) = σ 26 1 → (∀ j, 0 ≤ j → j < i → σ 27 j ≠ f) → av_Rn sc m_M_entry d al n0 bc bs 2 [some (vR 26), some (vI f), some (vI i)] [] (hp σ) Φ := by
  intro k
  induction k with
  | zero =>
    intro i h0 hi hj
    have he : e = -1 := by
      rcases hE with ⟨q, -⟩ | ⟨q1, q2, -⟩
      · exact q
      · exact absurd q2 (hj e q1.1 (by omega))
    subst he
    refine rn_iload_n 3 d_M_entry_2 rfl rfl ?_
    refine rn_aload_n 4 d_M_entry_3 rfl rfl ?_
    refine rn_getfield 7 d_M_entry_4 rfl fd_M_7 rfl rfl ?_
    refine rn_icmp_ge 28 10 d_M_entry_7 rfl rfl ⟨by omega, by omega⟩ ⟨by omega, by omega⟩ (fun c_7 => ?_) (fun c_7 => ?_)
    · refine rn_iconst 29 d_M_entry_28 rfl ?_
      exact rn_ireturn d_M_entry_29 (Or.inl rfl) hΦ
    · omega
  | succ k ih =>
    intro i h0 hi hj
    have hFi := hF i h0 (by omega)
    refine rn_iload_n 3 d_M_entry_2 rfl rfl ?_
    refine rn_aload_n 4 d_M_entry_3 rfl rfl ?_
    refine rn_getfield 7 d_M_entry_4 rfl fd_M_7 rfl rfl ?_
    refine rn_icmp_ge 28 10 d_M_entry_7 rfl rfl ⟨by omega, by omega⟩ ⟨by omega, by omega⟩ (fun c_7 => ?_) (fun c_7 => ?_)
    · omega
    · refine rn_aload_n 11 d_M_entry_10 rfl rfl ?_
      refine rn_getfield 14 d_M_entry_11 rfl fd_M_26 rfl rfl ?_
      refine rn_iload_n 15 d_M_entry_14 rfl rfl ?_
      refine rn_iaload 16 d_M_entry_15 rfl rfl (by decide) (by omega) (by omega) ?_
      refine rn_iload_n 17 d_M_entry_16 rfl rfl ?_
      refine rn_icmp_ne 22 20 d_M_entry_17 rfl rfl ⟨by omega, by omega⟩ ⟨by omega, by omega⟩ (fun c_17 => ?_) (fun c_17 => ?_)
      · refine rn_iinc 25 d_M_entry_22 rfl rfl (by decide) rfl rfl ?_
        refine rn_goto 2 d_M_entry_25 rfl ?_
        exact ih (i + 1) (by omega) (by omega) (fun j q1 q2 => by
          by_cases hq : j = i
          · rw [hq]; exact c_17
          · exact hj j q1 (by omega))
      · refine rn_iload_n 21 d_M_entry_20 rfl rfl ?_
        have he : e = i := by
          rcases hE with ⟨-, q⟩ | ⟨q1, q2, q3⟩
          · exact absurd c_17 (q i h0 (by omega))
          · rcases Int.lt_trichotomy e i with z | z | z
            · exact absurd q2 (hj e q1.1 z)
            · exact z
            · exact absurd c_17 (q3 i h0 z)
        subst he
        exact rn_ireturn d_M_entry_21 (Or.inl rfl) hΦ
set_option maxRecDepth 100000 in
set_option maxHeartbeats 400000 in
theorem ev_M_entry {sc : av_sc} {d : Nat} {σ : av_S} {f e : Int} (hn : 0 ≤ σ 26 1 ∧ σ 26 1 ≤ 24) (hF : ∀ b, 0 ≤ b → b < σ 26 1 → 0 ≤ σ 27 b ∧ σ 27 b ≤ 3) (hf : 0 ≤ f ∧ f ≤ 3) (hE : iEM σ f e) : av_Ev sc m_M_entry (d) false 0 0 [vR 26, vI f] (hp σ) (fun r h => r = some (vI e) ∧ h = hp σ) := by
  refine av_ev rfl rfl (Nat.le_of_ble_eq_true rfl) rfl ?_
  refine rn_iconst 1 d_M_entry_0 rfl ?_
  refine rn_istore_n 2 d_M_entry_1 rfl (by decide) rfl rfl ?_
  exact entry_loop hn hF hf hE ⟨rfl, rfl⟩ (σ 26 1).toNat 0 (by omega) (by omega) (fun j q1 q2 => by omega)
set_option maxRecDepth 100000 in
set_option maxHeartbeats 400000 in
theorem ev_M_warmer {sc : av_sc} {d : Nat} {σ : av_S} {c n : Int} (hc : 0 ≤ c ∧ c ≤ 1000000) (hn : 0 ≤ n ∧ n ≤ 1000000) : av_Ev sc m_M_warmer (d) false 0 0 [vR 26, vI c, vI n] (hp σ) (fun r h => r = some (vI (mn 1000000 (c + n))) ∧ h = hp σ) := by
  refine av_ev rfl rfl (Nat.le_of_ble_eq_true rfl) rfl ?_
  refine rn_iload_n 1 d_M_warmer_0 rfl rfl ?_
  refine rn_iload_n 2 d_M_warmer_1 rfl rfl ?_
  refine rn_iadd 3 d_M_warmer_2 rfl ?_
  refine rn_ldc 5 d_M_warmer_3 rfl 1000000 lc_M_87 rfl ?_
  refine rn_icmp_le 13 8 d_M_warmer_5 rfl rfl ⟨by omega, by omega⟩ ⟨by omega, by omega⟩ (fun c_5 => ?_) (fun c_5 => ?_)
  · refine rn_iload_n 14 d_M_warmer_13 rfl rfl ?_
    refine rn_iload_n 15 d_M_warmer_14 rfl rfl ?_
    refine rn_iadd 16 d_M_warmer_15 rfl ?_
    exact rn_ireturn d_M_warmer_16 (Or.inl rfl) ⟨congrArg (fun z => some (vI z)) (by unfold mn; split <;> omega), rfl⟩
  · refine rn_ldc 10 d_M_warmer_8 rfl 1000000 lc_M_87 rfl ?_
    refine rn_goto 16 d_M_warmer_10 rfl ?_
    exact rn_ireturn d_M_warmer_16 (Or.inl rfl) ⟨congrArg (fun z => some (vI z)) (by unfold mn; split <;> omega), rfl⟩
def eM (en : Int → Int) (b i x : Int) : Int := if en b < 2 then en b - 1 else if i < 32 ∧ btM x i = 1 then 0 else 1
set_option maxRecDepth 100000 in
set_option maxHeartbeats 400000 in
theorem ev_M_edge {sc : av_sc} {d : Nat} {σ : av_S} {b i x : Int} (hb : 0 ≤ b ∧ b < 24) (hi : av_in i) (hE : 0 ≤ σ 29 b ∧ σ 29 b ≤ 2) : av_Ev sc m_M_edge (d) false 0 0 [vR 26, vI b, vI i, vI x] (hp σ) (fun r h => r = some (vI (eM (σ 29) b i x)) ∧ h = hp σ) := by
  obtain ⟨hi1, hi2⟩ := hi
  refine av_ev rfl rfl (Nat.le_of_ble_eq_true rfl) rfl ?_
  refine rn_aload_n 1 d_M_edge_0 rfl rfl ?_
  refine rn_getfield 4 d_M_edge_1 rfl fd_M_33 rfl rfl ?_
  refine rn_iload_n 5 d_M_edge_4 rfl rfl ?_
  refine rn_iaload 6 d_M_edge_5 rfl rfl (by decide) (by omega) (by omega) ?_
  refine rn_iconst 7 d_M_edge_6 rfl ?_
  refine rn_icmp_ge 19 10 d_M_edge_7 rfl rfl ⟨by omega, by omega⟩ ⟨by omega, by omega⟩ (fun c_7 => ?_) (fun c_7 => ?_)
  · refine rn_iload_n 20 d_M_edge_19 rfl rfl ?_
    refine rn_bipush 22 d_M_edge_20 rfl rfl ?_
    refine rn_icmp_ge 38 25 d_M_edge_22 rfl rfl ⟨by omega, by omega⟩ ⟨by omega, by omega⟩ (fun c_22 => ?_) (fun c_22 => ?_)
    · refine rn_iconst 39 d_M_edge_38 rfl ?_
      exact rn_ireturn d_M_edge_39 (Or.inl rfl) ⟨by unfold eM; (first | rw [if_pos (by omega)] | rw [if_neg (by omega)]); try (first | rw [if_pos (by omega)] | rw [if_neg (by omega)]), rfl⟩
    · refine rn_iload_n 26 d_M_edge_25 rfl rfl ?_
      refine rn_iload_n 27 d_M_edge_26 rfl rfl ?_
      refine rn_ishr 28 d_M_edge_27 rfl _ (Int32.ofInt_toInt _).symm ?_
      refine rn_iconst 29 d_M_edge_28 rfl ?_
      refine rn_iand 30 d_M_edge_29 rfl (btM x i) (Int32.ofInt_toInt _).symm ?_
      refine rn_iconst 31 d_M_edge_30 rfl ?_
      refine rn_icmp_ne 38 34 d_M_edge_31 rfl rfl (btM_in x i) ⟨by omega, by omega⟩ (fun c_31 => ?_) (fun c_31 => ?_)
      · refine rn_iconst 39 d_M_edge_38 rfl ?_
        exact rn_ireturn d_M_edge_39 (Or.inl rfl) ⟨by unfold eM; (first | rw [if_pos (by omega)] | rw [if_neg (by omega)]); try (first | rw [if_pos (by omega)] | rw [if_neg (by omega)]), rfl⟩
      · refine rn_iconst 35 d_M_edge_34 rfl ?_
        refine rn_goto 39 d_M_edge_35 rfl ?_
        exact rn_ireturn d_M_edge_39 (Or.inl rfl) ⟨by unfold eM; (first | rw [if_pos (by omega)] | rw [if_neg (by omega)]); try (first | rw [if_pos (by omega)] | rw [if_neg (by omega)]), rfl⟩
  · refine rn_aload_n 11 d_M_edge_10 rfl rfl ?_
    refine rn_getfield 14 d_M_edge_11 rfl fd_M_33 rfl rfl ?_
    refine rn_iload_n 15 d_M_edge_14 rfl rfl ?_
    refine rn_iaload 16 d_M_edge_15 rfl rfl (by decide) (by omega) (by omega) ?_
    refine rn_iconst 17 d_M_edge_16 rfl ?_
    refine rn_isub 18 d_M_edge_17 rfl ?_
    exact rn_ireturn d_M_edge_18 (Or.inl rfl) ⟨by unfold eM; (first | rw [if_pos (by omega)] | rw [if_neg (by omega)]); try (first | rw [if_pos (by omega)] | rw [if_neg (by omega)]), rfl⟩
def aBlockM (σ : av_S) (f u : Int) : Int := if f < 0 ∨ 3 < f ∨ u < 1 ∨ 40 < u ∨ σ 26 5 = 1 then -1 else if σ 26 1 = 24 then -2 else σ 26 1 + 1 - 1
def sBlockM (σ : av_S) (f u : Int) : av_S := if f < 0 ∨ 3 < f ∨ u < 1 ∨ 40 < u ∨ σ 26 5 = 1 ∨ σ 26 1 = 24 then σ else up (up (up σ 27 (uI (σ 27) (σ 26 1) f)) 28 (uI (σ 28) (σ 26 1) u)) 26 (uI (σ 26) 1 (σ 26 1 + 1))
set_option maxRecDepth 100000 in
set_option maxHeartbeats 400000 in
theorem ev_M_block {sc : av_sc} {d : Nat} {σ : av_S} {f u : Int} (hf : av_in f) (hu : av_in u) (hI : iM σ) : av_Ev sc m_M_block (d) false 0 0 [vR 26, vI f, vI u] (hp σ) (fun r h => r = some (vI (aBlockM σ f u)) ∧ h = hp (sBlockM σ f u)) := by
  obtain ⟨hn, hB, hc31, hc32, hlo, hrg⟩ := id hI
  obtain ⟨hf1, hf2⟩ := hf
  obtain ⟨hu1, hu2⟩ := hu
  refine av_ev rfl rfl (Nat.le_of_ble_eq_true rfl) rfl ?_
  refine rn_iload_n 1 d_M_block_0 rfl rfl ?_
  refine rn_if_lt 27 4 d_M_block_1 rfl rfl ⟨by omega, by omega⟩ (fun c_1 => ?_) (fun c_1 => ?_)
  · refine rn_iconst 28 d_M_block_27 rfl ?_
    exact rn_ireturn d_M_block_28 (Or.inl rfl) ⟨by unfold aBlockM; (first | rw [if_pos (by omega)] | rw [if_neg (by omega)]); try (first | rw [if_pos (by omega)] | rw [if_neg (by omega)]), by unfold sBlockM; (first | rw [if_pos (by omega)] | rw [if_neg (by omega)])⟩
  · refine rn_iload_n 5 d_M_block_4 rfl rfl ?_
    refine rn_iconst 6 d_M_block_5 rfl ?_
    refine rn_icmp_gt 27 9 d_M_block_6 rfl rfl ⟨by omega, by omega⟩ ⟨by omega, by omega⟩ (fun c_6 => ?_) (fun c_6 => ?_)
    · refine rn_iconst 28 d_M_block_27 rfl ?_
      exact rn_ireturn d_M_block_28 (Or.inl rfl) ⟨by unfold aBlockM; (first | rw [if_pos (by omega)] | rw [if_neg (by omega)]); try (first | rw [if_pos (by omega)] | rw [if_neg (by omega)]), by unfold sBlockM; (first | rw [if_pos (by omega)] | rw [if_neg (by omega)])⟩
    · refine rn_iload_n 10 d_M_block_9 rfl rfl ?_
      refine rn_iconst 11 d_M_block_10 rfl ?_
      refine rn_icmp_lt 27 14 d_M_block_11 rfl rfl ⟨by omega, by omega⟩ ⟨by omega, by omega⟩ (fun c_11 => ?_) (fun c_11 => ?_)
      · refine rn_iconst 28 d_M_block_27 rfl ?_
        exact rn_ireturn d_M_block_28 (Or.inl rfl) ⟨by unfold aBlockM; (first | rw [if_pos (by omega)] | rw [if_neg (by omega)]); try (first | rw [if_pos (by omega)] | rw [if_neg (by omega)]), by unfold sBlockM; (first | rw [if_pos (by omega)] | rw [if_neg (by omega)])⟩
      · refine rn_iload_n 15 d_M_block_14 rfl rfl ?_
        refine rn_bipush 17 d_M_block_15 rfl rfl ?_
        refine rn_icmp_gt 27 20 d_M_block_17 rfl rfl ⟨by omega, by omega⟩ ⟨by omega, by omega⟩ (fun c_17 => ?_) (fun c_17 => ?_)
        · refine rn_iconst 28 d_M_block_27 rfl ?_
          exact rn_ireturn d_M_block_28 (Or.inl rfl) ⟨by unfold aBlockM; (first | rw [if_pos (by omega)] | rw [if_neg (by omega)]); try (first | rw [if_pos (by omega)] | rw [if_neg (by omega)]), by unfold sBlockM; (first | rw [if_pos (by omega)] | rw [if_neg (by omega)])⟩
        · refine rn_aload_n 21 d_M_block_20 rfl rfl ?_
          refine rn_getfield 24 d_M_block_21 rfl fd_M_22 rfl rfl ?_
          refine rn_if_eq 29 27 d_M_block_24 rfl rfl ⟨by omega, by omega⟩ (fun c_24 => ?_) (fun c_24 => ?_)
          · refine rn_aload_n 30 d_M_block_29 rfl rfl ?_
            refine rn_getfield 33 d_M_block_30 rfl fd_M_7 rfl rfl ?_
            refine rn_bipush 35 d_M_block_33 rfl rfl ?_
            refine rn_icmp_ne 41 38 d_M_block_35 rfl rfl ⟨by omega, by omega⟩ ⟨by omega, by omega⟩ (fun c_35 => ?_) (fun c_35 => ?_)
            · refine rn_aload_n 42 d_M_block_41 rfl rfl ?_
              refine rn_getfield 45 d_M_block_42 rfl fd_M_26 rfl rfl ?_
              refine rn_aload_n 46 d_M_block_45 rfl rfl ?_
              refine rn_getfield 49 d_M_block_46 rfl fd_M_7 rfl rfl ?_
              refine rn_iload_n 50 d_M_block_49 rfl rfl ?_
              refine rn_iastore 51 d_M_block_50 rfl rfl (by decide) (by omega) (by omega) (hs_27 _ _) ?_
              change av_Rn _ _ _ _ _ _ _ _ _ _ (hp (up σ 27 (uI (σ 27) (σ 26 1) f))) _
              refine rn_aload_n 52 d_M_block_51 rfl rfl ?_
              refine rn_getfield 55 d_M_block_52 rfl fd_M_30 rfl rfl ?_
              refine rn_aload_n 56 d_M_block_55 rfl rfl ?_
              refine rn_getfield 59 d_M_block_56 rfl fd_M_7 rfl rfl ?_
              rw [show (up σ 27 (uI (σ 27) (σ 26 1) f)) 26 1 = σ 26 1 from rfl]
              refine rn_iload_n 60 d_M_block_59 rfl rfl ?_
              refine rn_iastore 61 d_M_block_60 rfl rfl (by decide) (by omega) (by omega) (hs_28 _ _) ?_
              change av_Rn _ _ _ _ _ _ _ _ _ _ (hp (up (up σ 27 (uI (σ 27) (σ 26 1) f)) 28 (uI (σ 28) (σ 26 1) u))) _
              refine rn_aload_n 62 d_M_block_61 rfl rfl ?_
              refine rn_dup 63 d_M_block_62 rfl rfl ?_
              refine rn_getfield 66 d_M_block_63 rfl fd_M_7 rfl rfl ?_
              refine rn_iconst 67 d_M_block_66 rfl ?_
              refine rn_iadd 68 d_M_block_67 rfl ?_
              refine rn_putfield 71 d_M_block_68 rfl fp_M_7 rfl (Nat.le_of_ble_eq_true rfl) av_fitI (hs_26_1 _ _) ?_
              refine rn_aload_n 72 d_M_block_71 rfl rfl ?_
              refine rn_getfield 75 d_M_block_72 rfl fd_M_7 rfl rfl ?_
              refine rn_iconst 76 d_M_block_75 rfl ?_
              refine rn_isub 77 d_M_block_76 rfl ?_
              refine rn_ireturn d_M_block_77 (Or.inl rfl) ⟨?_, ?_⟩
              · unfold aBlockM; (first | rw [if_pos (by omega)] | rw [if_neg (by omega)]); (first | rw [if_pos (by omega)] | rw [if_neg (by omega)]); rfl
              · unfold sBlockM; (first | rw [if_pos (by omega)] | rw [if_neg (by omega)]); rfl
            · refine rn_bipush 40 d_M_block_38 rfl rfl ?_
              exact rn_ireturn d_M_block_40 (Or.inl rfl) ⟨by unfold aBlockM; (first | rw [if_pos (by omega)] | rw [if_neg (by omega)]); try (first | rw [if_pos (by omega)] | rw [if_neg (by omega)]), by unfold sBlockM; (first | rw [if_pos (by omega)] | rw [if_neg (by omega)])⟩
          · refine rn_iconst 28 d_M_block_27 rfl ?_
            exact rn_ireturn d_M_block_28 (Or.inl rfl) ⟨by unfold aBlockM; (first | rw [if_pos (by omega)] | rw [if_neg (by omega)]); try (first | rw [if_pos (by omega)] | rw [if_neg (by omega)]), by unfold sBlockM; (first | rw [if_pos (by omega)] | rw [if_neg (by omega)])⟩
def aGive (σ : av_S) (b x y : Int) : Int := if (σ 26 5 = 0 ∧ (0 ≤ b ∧ b < σ 26 1) ∧ (0 ≤ x ∧ x < σ 26 1) ∧ (0 ≤ y ∧ y < σ 26 1) ∧ σ 27 x = σ 27 b ∧ σ 27 y = σ 27 b) then 0 else -1
def sGive0 (σ : av_S) (b w x y : Int) : av_S := up (up (up σ 29 (uI (σ 29) b w)) 30 (uI (uI (σ 30) (2 * b) x) (2 * b + 1) y)) 32 (uI (uI (σ 32) (2 * b) 0) (2 * b + 1) 0)
def sGive (σ : av_S) (b w x y : Int) : av_S := if (σ 26 5 = 0 ∧ (0 ≤ b ∧ b < σ 26 1) ∧ (0 ≤ x ∧ x < σ 26 1) ∧ (0 ≤ y ∧ y < σ 26 1) ∧ σ 27 x = σ 27 b ∧ σ 27 y = σ 27 b) then sGive0 σ b w x y else σ
set_option maxRecDepth 100000 in
set_option maxHeartbeats 400000 in
theorem ev_M_give {sc : av_sc} {d : Nat} {σ : av_S} {b w x y : Int} (hb : av_in b) (hx : av_in x) (hy : av_in y) (hI : iM σ) : av_Ev sc m_M_give (d + 1) false 0 0 [vR 26, vI b, vI w, vI x, vI y] (hp σ) (fun r h => r = some (vI (aGive σ b x y)) ∧ h = hp (sGive σ b w x y)) := by
  obtain ⟨hn, hB, hc31, hc32, hlo, hrg⟩ := id hI
  refine av_ev rfl rfl (Nat.le_of_ble_eq_true rfl) rfl ?_
  refine rn_aload_n 1 d_M_give_0 rfl rfl ?_
  refine rn_getfield 4 d_M_give_1 rfl fd_M_22 rfl rfl ?_
  refine rn_if_ne 63 7 d_M_give_4 rfl rfl ⟨by omega, by omega⟩ (fun c_4 => ?_) (fun c_4 => ?_)
  · refine rn_iconst 64 d_M_give_63 rfl ?_
    refine rn_ireturn d_M_give_64 (Or.inl rfl) ⟨?_, ?_⟩
    · unfold aGive; rw [if_neg (by omega)]
    · unfold sGive; rw [if_neg (by omega)]
  · refine rn_aload_n 8 d_M_give_7 rfl rfl ?_
    refine rn_iload_n 9 d_M_give_8 rfl rfl ?_
    refine rn_callV1 12 d_M_give_9 rfl cw_M_83 rfl (Nat.le_of_ble_eq_true rfl) (ev_M_no hb hn) ?_
    rintro _ _ ⟨rfl, rfl⟩
    refine rn_ifB_ne 63 15 d_M_give_12 rfl rfl (fun c_12 => ?_) (fun c_12 => ?_)
    · refine rn_iconst 64 d_M_give_63 rfl ?_
      refine rn_ireturn d_M_give_64 (Or.inl rfl) ⟨?_, ?_⟩
      · unfold aGive; rw [if_neg (by omega)]
      · unfold sGive; rw [if_neg (by omega)]
    · refine rn_aload_n 16 d_M_give_15 rfl rfl ?_
      refine rn_iload_n 17 d_M_give_16 rfl rfl ?_
      refine rn_callV1 20 d_M_give_17 rfl cw_M_83 rfl (Nat.le_of_ble_eq_true rfl) (ev_M_no hx hn) ?_
      rintro _ _ ⟨rfl, rfl⟩
      refine rn_ifB_ne 63 23 d_M_give_20 rfl rfl (fun c_20 => ?_) (fun c_20 => ?_)
      · refine rn_iconst 64 d_M_give_63 rfl ?_
        refine rn_ireturn d_M_give_64 (Or.inl rfl) ⟨?_, ?_⟩
        · unfold aGive; rw [if_neg (by omega)]
        · unfold sGive; rw [if_neg (by omega)]
      · refine rn_aload_n 24 d_M_give_23 rfl rfl ?_
        refine rn_iload 26 d_M_give_24 rfl rfl ?_
        refine rn_callV1 29 d_M_give_26 rfl cw_M_83 rfl (Nat.le_of_ble_eq_true rfl) (ev_M_no hy hn) ?_
        rintro _ _ ⟨rfl, rfl⟩
        refine rn_ifB_ne 63 32 d_M_give_29 rfl rfl (fun c_29 => ?_) (fun c_29 => ?_)
        · refine rn_iconst 64 d_M_give_63 rfl ?_
          refine rn_ireturn d_M_give_64 (Or.inl rfl) ⟨?_, ?_⟩
          · unfold aGive; rw [if_neg (by omega)]
          · unfold sGive; rw [if_neg (by omega)]
        · have hF_b := (hB b (by omega) (by omega)).1
          have hF_x := (hB x (by omega) (by omega)).1
          have hF_y := (hB y (by omega) (by omega)).1
          refine rn_aload_n 33 d_M_give_32 rfl rfl ?_
          refine rn_getfield 36 d_M_give_33 rfl fd_M_26 rfl rfl ?_
          refine rn_iload_n 37 d_M_give_36 rfl rfl ?_
          refine rn_iaload 38 d_M_give_37 rfl rfl (by decide) (by omega) (by omega) ?_
          refine rn_aload_n 39 d_M_give_38 rfl rfl ?_
          refine rn_getfield 42 d_M_give_39 rfl fd_M_26 rfl rfl ?_
          refine rn_iload_n 43 d_M_give_42 rfl rfl ?_
          refine rn_iaload 44 d_M_give_43 rfl rfl (by decide) (by omega) (by omega) ?_
          refine rn_icmp_ne 63 47 d_M_give_44 rfl rfl ⟨by omega, by omega⟩ ⟨by omega, by omega⟩ (fun c_44 => ?_) (fun c_44 => ?_)
          · refine rn_iconst 64 d_M_give_63 rfl ?_
            refine rn_ireturn d_M_give_64 (Or.inl rfl) ⟨?_, ?_⟩
            · unfold aGive; rw [if_neg (by omega)]
            · unfold sGive; rw [if_neg (by omega)]
          · refine rn_aload_n 48 d_M_give_47 rfl rfl ?_
            refine rn_getfield 51 d_M_give_48 rfl fd_M_26 rfl rfl ?_
            refine rn_iload 53 d_M_give_51 rfl rfl ?_
            refine rn_iaload 54 d_M_give_53 rfl rfl (by decide) (by omega) (by omega) ?_
            refine rn_aload_n 55 d_M_give_54 rfl rfl ?_
            refine rn_getfield 58 d_M_give_55 rfl fd_M_26 rfl rfl ?_
            refine rn_iload_n 59 d_M_give_58 rfl rfl ?_
            refine rn_iaload 60 d_M_give_59 rfl rfl (by decide) (by omega) (by omega) ?_
            refine rn_icmp_eq 65 63 d_M_give_60 rfl rfl ⟨by omega, by omega⟩ ⟨by omega, by omega⟩ (fun c_60 => ?_) (fun c_60 => ?_)
            · refine rn_aload_n 66 d_M_give_65 rfl rfl ?_
              refine rn_getfield 69 d_M_give_66 rfl fd_M_33 rfl rfl ?_
              refine rn_iload_n 70 d_M_give_69 rfl rfl ?_
              refine rn_iload_n 71 d_M_give_70 rfl rfl ?_
              refine rn_iastore 72 d_M_give_71 rfl rfl (by decide) (by omega) (by omega) (hs_29 _ _) ?_
              refine rn_aload_n 73 d_M_give_72 rfl rfl ?_
              refine rn_getfield 76 d_M_give_73 rfl fd_M_36 rfl rfl ?_
              refine rn_iload_n 77 d_M_give_76 rfl rfl ?_
              refine rn_iconst 78 d_M_give_77 rfl ?_
              refine rn_imul 79 d_M_give_78 rfl ?_
              rw [Int.mul_comm b 2]
              refine rn_iload_n 80 d_M_give_79 rfl rfl ?_
              refine rn_iastore 81 d_M_give_80 rfl rfl (by decide) (by omega) (by omega) (hs_30 _ _) ?_
              refine rn_aload_n 82 d_M_give_81 rfl rfl ?_
              refine rn_getfield 85 d_M_give_82 rfl fd_M_36 rfl rfl ?_
              refine rn_iload_n 86 d_M_give_85 rfl rfl ?_
              refine rn_iconst 87 d_M_give_86 rfl ?_
              refine rn_imul 88 d_M_give_87 rfl ?_
              rw [Int.mul_comm b 2]
              refine rn_iconst 89 d_M_give_88 rfl ?_
              refine rn_iadd 90 d_M_give_89 rfl ?_
              refine rn_iload 92 d_M_give_90 rfl rfl ?_
              refine rn_iastore 93 d_M_give_92 rfl rfl (by decide) (by omega) (by omega) (hs_30 _ _) ?_
              refine rn_aload_n 94 d_M_give_93 rfl rfl ?_
              refine rn_getfield 97 d_M_give_94 rfl fd_M_42 rfl rfl ?_
              refine rn_iload_n 98 d_M_give_97 rfl rfl ?_
              refine rn_iconst 99 d_M_give_98 rfl ?_
              refine rn_imul 100 d_M_give_99 rfl ?_
              rw [Int.mul_comm b 2]
              refine rn_iconst 101 d_M_give_100 rfl ?_
              refine rn_iastore 102 d_M_give_101 rfl rfl (by decide) (by omega) (by omega) (hs_32 _ _) ?_
              refine rn_aload_n 103 d_M_give_102 rfl rfl ?_
              refine rn_getfield 106 d_M_give_103 rfl fd_M_42 rfl rfl ?_
              refine rn_iload_n 107 d_M_give_106 rfl rfl ?_
              refine rn_iconst 108 d_M_give_107 rfl ?_
              refine rn_imul 109 d_M_give_108 rfl ?_
              rw [Int.mul_comm b 2]
              refine rn_iconst 110 d_M_give_109 rfl ?_
              refine rn_iadd 111 d_M_give_110 rfl ?_
              refine rn_iconst 112 d_M_give_111 rfl ?_
              refine rn_iastore 113 d_M_give_112 rfl rfl (by decide) (by omega) (by omega) (hs_32 _ _) ?_
              refine rn_iconst 114 d_M_give_113 rfl ?_
              refine rn_ireturn d_M_give_114 (Or.inl rfl) ⟨?_, ?_⟩
              · unfold aGive; rw [if_pos (by omega)]
              · unfold sGive; rw [if_pos (by omega)]; rfl
            · refine rn_iconst 64 d_M_give_63 rfl ?_
              refine rn_ireturn d_M_give_64 (Or.inl rfl) ⟨?_, ?_⟩
              · unfold aGive; rw [if_neg (by omega)]
              · unfold sGive; rw [if_neg (by omega)]
set_option maxRecDepth 100000 in
set_option maxHeartbeats 400000 in
theorem ev_M_jump {sc : av_sc} {d : Nat} {σ : av_S} {b y : Int} (hb : av_in b) (hy : av_in y) (hI : iM σ) : av_Ev sc m_M_jump (d + 2) false 0 0 [vR 26, vI b, vI y] (hp σ) (fun r h => r = some (vI (aGive σ b y y)) ∧ h = hp (sGive σ b 1 y y)) := by
  refine av_ev rfl rfl (Nat.le_of_ble_eq_true rfl) rfl ?_
  refine rn_aload_n 1 d_M_jump_0 rfl rfl ?_
  refine rn_iload_n 2 d_M_jump_1 rfl rfl ?_
  refine rn_iconst 3 d_M_jump_2 rfl ?_
  refine rn_iload_n 4 d_M_jump_3 rfl rfl ?_
  refine rn_iload_n 5 d_M_jump_4 rfl rfl ?_
  refine rn_callV4 8 d_M_jump_5 rfl cw_M_79 rfl (Nat.le_of_ble_eq_true rfl) (ev_M_give hb hy hy hI) ?_
  rintro _ _ ⟨rfl, rfl⟩
  exact rn_ireturn d_M_jump_8 (Or.inl rfl) ⟨rfl, rfl⟩
set_option maxRecDepth 100000 in
set_option maxHeartbeats 400000 in
theorem ev_M_test {sc : av_sc} {d : Nat} {σ : av_S} {b x y : Int} (hb : av_in b) (hx : av_in x) (hy : av_in y) (hI : iM σ) : av_Ev sc m_M_test (d + 2) false 0 0 [vR 26, vI b, vI x, vI y] (hp σ) (fun r h => r = some (vI (aGive σ b x y)) ∧ h = hp (sGive σ b 2 x y)) := by
  refine av_ev rfl rfl (Nat.le_of_ble_eq_true rfl) rfl ?_
  refine rn_aload_n 1 d_M_test_0 rfl rfl ?_
  refine rn_iload_n 2 d_M_test_1 rfl rfl ?_
  refine rn_iconst 3 d_M_test_2 rfl ?_
  refine rn_iload_n 4 d_M_test_3 rfl rfl ?_
  refine rn_iload_n 5 d_M_test_4 rfl rfl ?_
  refine rn_callV4 8 d_M_test_5 rfl cw_M_79 rfl (Nat.le_of_ble_eq_true rfl) (ev_M_give hb hx hy hI) ?_
  rintro _ _ ⟨rfl, rfl⟩
  exact rn_ireturn d_M_test_8 (Or.inl rfl) ⟨rfl, rfl⟩
def cHeatM (σ : av_S) (b e n : Int) : Prop := (1 ≤ n ∧ n ≤ 100000) ∧ (0 ≤ b ∧ b < σ 26 1) ∧ 0 ≤ e ∧ e < σ 29 b
def sHeatM (σ : av_S) (b e n : Int) : av_S := up (up σ 32 (uI (σ 32) (2 * b + e) (mn 1000000 (σ 32 (2 * b + e) + n)))) 31 (uI (σ 31) (σ 30 (2 * b + e)) (mn 1000000 (σ 31 (σ 30 (2 * b + e)) + n)))
set_option maxRecDepth 100000 in
set_option maxHeartbeats 400000 in
theorem ev_M_heat {sc : av_sc} {d : Nat} {σ : av_S} {b e n : Int} (hb : av_in b) (he : av_in e) (hn0 : av_in n) (hI : iM σ) : av_Ev sc m_M_heat (d + 1) false 0 0 [vR 26, vI b, vI e, vI n] (hp σ) (fun r h => (¬ cHeatM σ b e n ∧ r = some (vI (-1)) ∧ h = hp σ) ∨ (cHeatM σ b e n ∧ r = some (vI ((sHeatM σ b e n) 32 (2 * b + e))) ∧ h = hp (sHeatM σ b e n))) := by
  obtain ⟨hn, hB, hc31, hc32, hlo, hrg⟩ := id hI
  obtain ⟨hn01, hn02⟩ := hn0
  obtain ⟨he1, he2⟩ := id he
  refine av_ev rfl rfl (Nat.le_of_ble_eq_true rfl) rfl ?_
  refine rn_aload_n 1 d_M_heat_0 rfl rfl ?_
  refine rn_iload_n 2 d_M_heat_1 rfl rfl ?_
  refine rn_callV1 5 d_M_heat_2 rfl cw_M_83 rfl (Nat.le_of_ble_eq_true rfl) (ev_M_no hb hn) ?_
  rintro _ _ ⟨rfl, rfl⟩
  refine rn_ifB_ne 33 8 d_M_heat_5 rfl rfl (fun c_5 => ?_) (fun c_5 => ?_)
  · refine rn_iconst 34 d_M_heat_33 rfl ?_
    exact rn_ireturn d_M_heat_34 (Or.inl rfl) (Or.inl ⟨(by unfold cHeatM; omega), rfl, rfl⟩)
  · have hEb := (hB b (by omega) (by omega)).2.2.1
    refine rn_iload_n 9 d_M_heat_8 rfl rfl ?_
    refine rn_if_lt 33 12 d_M_heat_9 rfl rfl ⟨by omega, by omega⟩ (fun c_9 => ?_) (fun c_9 => ?_)
    · refine rn_iconst 34 d_M_heat_33 rfl ?_
      exact rn_ireturn d_M_heat_34 (Or.inl rfl) (Or.inl ⟨(by unfold cHeatM; omega), rfl, rfl⟩)
    · refine rn_iload_n 13 d_M_heat_12 rfl rfl ?_
      refine rn_aload_n 14 d_M_heat_13 rfl rfl ?_
      refine rn_getfield 17 d_M_heat_14 rfl fd_M_33 rfl rfl ?_
      refine rn_iload_n 18 d_M_heat_17 rfl rfl ?_
      refine rn_iaload 19 d_M_heat_18 rfl rfl (by decide) (by omega) (by omega) ?_
      refine rn_icmp_ge 33 22 d_M_heat_19 rfl rfl ⟨by omega, by omega⟩ ⟨by omega, by omega⟩ (fun c_19 => ?_) (fun c_19 => ?_)
      · refine rn_iconst 34 d_M_heat_33 rfl ?_
        exact rn_ireturn d_M_heat_34 (Or.inl rfl) (Or.inl ⟨(by unfold cHeatM; omega), rfl, rfl⟩)
      · refine rn_iload_n 23 d_M_heat_22 rfl rfl ?_
        refine rn_iconst 24 d_M_heat_23 rfl ?_
        refine rn_icmp_lt 33 27 d_M_heat_24 rfl rfl ⟨by omega, by omega⟩ ⟨by omega, by omega⟩ (fun c_24 => ?_) (fun c_24 => ?_)
        · refine rn_iconst 34 d_M_heat_33 rfl ?_
          exact rn_ireturn d_M_heat_34 (Or.inl rfl) (Or.inl ⟨(by unfold cHeatM; omega), rfl, rfl⟩)
        · refine rn_iload_n 28 d_M_heat_27 rfl rfl ?_
          refine rn_ldc 30 d_M_heat_28 rfl 100000 lc_M_100 rfl ?_
          refine rn_icmp_le 35 33 d_M_heat_30 rfl rfl ⟨by omega, by omega⟩ ⟨by omega, by omega⟩ (fun c_30 => ?_) (fun c_30 => ?_)
          · have hTo := (hB b (by omega) (by omega)).2.2.2 e (by omega) (by omega)
            have h32 := hc32 (2 * b + e) (by omega) (by omega)
            have h31 := hc31 (σ 30 (2 * b + e)) (by omega) (by omega)
            refine rn_iload_n 36 d_M_heat_35 rfl rfl ?_
            refine rn_iconst 37 d_M_heat_36 rfl ?_
            refine rn_imul 38 d_M_heat_37 rfl ?_
            rw [Int.mul_comm b 2]
            refine rn_iload_n 39 d_M_heat_38 rfl rfl ?_
            refine rn_iadd 40 d_M_heat_39 rfl ?_
            refine rn_istore 42 d_M_heat_40 rfl (by decide) rfl rfl ?_
            refine rn_aload_n 43 d_M_heat_42 rfl rfl ?_
            refine rn_getfield 46 d_M_heat_43 rfl fd_M_42 rfl rfl ?_
            refine rn_iload 48 d_M_heat_46 rfl rfl ?_
            refine rn_aload_n 49 d_M_heat_48 rfl rfl ?_
            refine rn_aload_n 50 d_M_heat_49 rfl rfl ?_
            refine rn_getfield 53 d_M_heat_50 rfl fd_M_42 rfl rfl ?_
            refine rn_iload 55 d_M_heat_53 rfl rfl ?_
            refine rn_iaload 56 d_M_heat_55 rfl rfl (by decide) (by omega) (by omega) ?_
            refine rn_iload_n 57 d_M_heat_56 rfl rfl ?_
            refine rn_callV2 60 d_M_heat_57 rfl cw_M_92 rfl (Nat.le_of_ble_eq_true rfl) (ev_M_warmer h32 ⟨by omega, by omega⟩) ?_
            rintro _ _ ⟨rfl, rfl⟩
            refine rn_iastore 61 d_M_heat_60 rfl rfl (by decide) (by omega) (by omega) (hs_32 _ _) ?_
            change av_Rn _ _ _ _ _ _ _ _ _ _ (hp (up σ 32 (uI (σ 32) (2 * b + e) (mn 1000000 (σ 32 (2 * b + e) + n))))) _
            refine rn_aload_n 62 d_M_heat_61 rfl rfl ?_
            refine rn_getfield 65 d_M_heat_62 rfl fd_M_39 rfl rfl ?_
            refine rn_aload_n 66 d_M_heat_65 rfl rfl ?_
            refine rn_getfield 69 d_M_heat_66 rfl fd_M_36 rfl rfl ?_
            refine rn_iload 71 d_M_heat_69 rfl rfl ?_
            refine rn_iaload 72 d_M_heat_71 rfl rfl (by decide) (by omega) (by omega) ?_
            rw [show (up σ 32 (uI (σ 32) (2 * b + e) (mn 1000000 (σ 32 (2 * b + e) + n)))) 30 (2 * b + e) = σ 30 (2 * b + e) from rfl]
            refine rn_aload_n 73 d_M_heat_72 rfl rfl ?_
            refine rn_aload_n 74 d_M_heat_73 rfl rfl ?_
            refine rn_getfield 77 d_M_heat_74 rfl fd_M_39 rfl rfl ?_
            refine rn_aload_n 78 d_M_heat_77 rfl rfl ?_
            refine rn_getfield 81 d_M_heat_78 rfl fd_M_36 rfl rfl ?_
            refine rn_iload 83 d_M_heat_81 rfl rfl ?_
            refine rn_iaload 84 d_M_heat_83 rfl rfl (by decide) (by omega) (by omega) ?_
            rw [show (up σ 32 (uI (σ 32) (2 * b + e) (mn 1000000 (σ 32 (2 * b + e) + n)))) 30 (2 * b + e) = σ 30 (2 * b + e) from rfl]
            refine rn_iaload 85 d_M_heat_84 rfl rfl (by decide) (by omega) (by omega) ?_
            refine rn_iload_n 86 d_M_heat_85 rfl rfl ?_
            refine rn_callV2 89 d_M_heat_86 rfl cw_M_92 rfl (Nat.le_of_ble_eq_true rfl) (ev_M_warmer (σ := up σ 32 (uI (σ 32) (2 * b + e) (mn 1000000 (σ 32 (2 * b + e) + n)))) h31 ⟨by omega, by omega⟩) ?_
            rintro _ _ ⟨rfl, rfl⟩
            refine rn_iastore 90 d_M_heat_89 rfl rfl (by decide) (by omega) (by omega) (hs_31 _ _) ?_
            refine rn_aload_n 91 d_M_heat_90 rfl rfl ?_
            refine rn_getfield 94 d_M_heat_91 rfl fd_M_42 rfl rfl ?_
            refine rn_iload 96 d_M_heat_94 rfl rfl ?_
            refine rn_iaload 97 d_M_heat_96 rfl rfl (by decide) (by omega) (by omega) ?_
            exact rn_ireturn d_M_heat_97 (Or.inl rfl) (Or.inr ⟨(by unfold cHeatM; omega), rfl, rfl⟩)
          · refine rn_iconst 34 d_M_heat_33 rfl ?_
            exact rn_ireturn d_M_heat_34 (Or.inl rfl) (Or.inl ⟨(by unfold cHeatM; omega), rfl, rfl⟩)
end
section
theorem bt_core (x i : Int) (k : Nat) (hs1 : (((Int32.ofInt i).toUInt32 &&& Int32.toUInt32 31).toBitVec % 32).toNat = k) (hs2 : ((Int32.ofInt i &&& 31).toBitVec.smod 32).toNat = k) (hp : ∀ N : Int, ((N - 4294967296) / (2 ^ k : Int)) % 2 = (N / (2 ^ k : Int)) % 2) : btC x i = btM x i := by
  unfold btC btM
  rw [Int32.ofInt_toInt, Int32.ofInt_toInt]
  have e1 := pk_ushr (Int32.ofInt x) (Int32.ofInt i) k hs1
  have e2 := pk_shr (Int32.ofInt x) (Int32.ofInt i &&& 31) k hs2
  generalize (Int32.ofInt x).toUInt32 >>> ((Int32.ofInt i).toUInt32 &&& Int32.toUInt32 31) = V at e1 ⊢
  generalize Int32.ofInt x >>> (Int32.ofInt i &&& 31) = V' at e2 ⊢
  generalize Int32.ofInt x = X at e1 e2
  have a1 := pk_and V.toInt32 (m := Int32.ofInt 1) 1 rfl
  have a2 := pk_and V' (m := Int32.ofInt 1) 1 rfl
  rw [a1, a2]
  congr 2
  have c1 := BitVec.toInt_eq_toNat_cond V'.toBitVec
  have c2 := BitVec.toInt_eq_toNat_cond X.toBitVec
  have c3 : V'.toBitVec.toInt = X.toBitVec.toInt >>> k := e2
  rw [Int.shiftRight_eq_div_pow] at c3
  have hp1 := hp (X.toBitVec.toNat : Int)
  have d1 : (V'.toBitVec.toInt) % 2 = ((X.toBitVec.toNat : Int) / (2 ^ k : Int)) % 2 := by
    rw [c3]
    split at c2
    · rw [c2]; norm_cast
    · rw [c2]
      have : ((2 ^ 32 : Nat) : Int) = 4294967296 := by decide
      rw [this]
      push_cast
      exact hp1
  have d2 : ((V'.toBitVec.toNat : Int)) % 2 = (V'.toBitVec.toInt) % 2 := by
    split at c1
    · rw [c1]
    · rw [c1]; omega
  have d3 : (V.toInt32.toBitVec.toNat : Int) = (X.toBitVec.toNat : Int) / (2 ^ k : Int) := by
    rw [e1]; push_cast; rfl
  omega
theorem bt_0 (x : Int) : btC x 0 = btM x 0 := bt_core x 0 0 (by decide) (by decide) (fun N => by omega)
theorem bt_1 (x : Int) : btC x 1 = btM x 1 := bt_core x 1 1 (by decide) (by decide) (fun N => by omega)
theorem bt_2 (x : Int) : btC x 2 = btM x 2 := bt_core x 2 2 (by decide) (by decide) (fun N => by omega)
theorem bt_3 (x : Int) : btC x 3 = btM x 3 := bt_core x 3 3 (by decide) (by decide) (fun N => by omega)
theorem bt_4 (x : Int) : btC x 4 = btM x 4 := bt_core x 4 4 (by decide) (by decide) (fun N => by omega)
theorem bt_5 (x : Int) : btC x 5 = btM x 5 := bt_core x 5 5 (by decide) (by decide) (fun N => by omega)
theorem bt_6 (x : Int) : btC x 6 = btM x 6 := bt_core x 6 6 (by decide) (by decide) (fun N => by omega)
theorem bt_7 (x : Int) : btC x 7 = btM x 7 := bt_core x 7 7 (by decide) (by decide) (fun N => by omega)
theorem bt_8 (x : Int) : btC x 8 = btM x 8 := bt_core x 8 8 (by decide) (by decide) (fun N => by omega)
theorem bt_9 (x : Int) : btC x 9 = btM x 9 := bt_core x 9 9 (by decide) (by decide) (fun N => by omega)
theorem bt_10 (x : Int) : btC x 10 = btM x 10 := bt_core x 10 10 (by decide) (by decide) (fun N => by omega)
theorem bt_11 (x : Int) : btC x 11 = btM x 11 := bt_core x 11 11 (by decide) (by decide) (fun N => by omega)
theorem bt_12 (x : Int) : btC x 12 = btM x 12 := bt_core x 12 12 (by decide) (by decide) (fun N => by omega)
theorem bt_13 (x : Int) : btC x 13 = btM x 13 := bt_core x 13 13 (by decide) (by decide) (fun N => by omega)
theorem bt_14 (x : Int) : btC x 14 = btM x 14 := bt_core x 14 14 (by decide) (by decide) (fun N => by omega)
theorem bt_15 (x : Int) : btC x 15 = btM x 15 := bt_core x 15 15 (by decide) (by decide) (fun N => by omega)
theorem bt_16 (x : Int) : btC x 16 = btM x 16 := bt_core x 16 16 (by decide) (by decide) (fun N => by omega)
theorem bt_17 (x : Int) : btC x 17 = btM x 17 := bt_core x 17 17 (by decide) (by decide) (fun N => by omega)
theorem bt_18 (x : Int) : btC x 18 = btM x 18 := bt_core x 18 18 (by decide) (by decide) (fun N => by omega)
theorem bt_19 (x : Int) : btC x 19 = btM x 19 := bt_core x 19 19 (by decide) (by decide) (fun N => by omega)
theorem bt_20 (x : Int) : btC x 20 = btM x 20 := bt_core x 20 20 (by decide) (by decide) (fun N => by omega)
theorem bt_21 (x : Int) : btC x 21 = btM x 21 := bt_core x 21 21 (by decide) (by decide) (fun N => by omega)
theorem bt_22 (x : Int) : btC x 22 = btM x 22 := bt_core x 22 22 (by decide) (by decide) (fun N => by omega)
theorem bt_23 (x : Int) : btC x 23 = btM x 23 := bt_core x 23 23 (by decide) (by decide) (fun N => by omega)
theorem bt_24 (x : Int) : btC x 24 = btM x 24 := bt_core x 24 24 (by decide) (by decide) (fun N => by omega)
theorem bt_25 (x : Int) : btC x 25 = btM x 25 := bt_core x 25 25 (by decide) (by decide) (fun N => by omega)
theorem bt_26 (x : Int) : btC x 26 = btM x 26 := bt_core x 26 26 (by decide) (by decide) (fun N => by omega)
theorem bt_27 (x : Int) : btC x 27 = btM x 27 := bt_core x 27 27 (by decide) (by decide) (fun N => by omega)
theorem bt_28 (x : Int) : btC x 28 = btM x 28 := bt_core x 28 28 (by decide) (by decide) (fun N => by omega)
theorem bt_29 (x : Int) : btC x 29 = btM x 29 := bt_core x 29 29 (by decide) (by decide) (fun N => by omega)
theorem bt_30 (x : Int) : btC x 30 = btM x 30 := bt_core x 30 30 (by decide) (by decide) (fun N => by omega)
theorem bt_31 (x : Int) : btC x 31 = btM x 31 := bt_core x 31 31 (by decide) (by decide) (fun N => by omega)
theorem bt_eq (x i : Int) (h0 : 0 ≤ i) (h1 : i < 32) : btC x i = btM x i := by
  rcases (show i = 0 ∨ i = 1 ∨ i = 2 ∨ i = 3 ∨ i = 4 ∨ i = 5 ∨ i = 6 ∨ i = 7 ∨ i = 8 ∨ i = 9 ∨ i = 10 ∨ i = 11 ∨ i = 12 ∨ i = 13 ∨ i = 14 ∨ i = 15 ∨ i = 16 ∨ i = 17 ∨ i = 18 ∨ i = 19 ∨ i = 20 ∨ i = 21 ∨ i = 22 ∨ i = 23 ∨ i = 24 ∨ i = 25 ∨ i = 26 ∨ i = 27 ∨ i = 28 ∨ i = 29 ∨ i = 30 ∨ i = 31 by omega) with rfl | rfl | rfl | rfl | rfl | rfl | rfl | rfl | rfl | rfl | rfl | rfl | rfl | rfl | rfl | rfl | rfl | rfl | rfl | rfl | rfl | rfl | rfl | rfl | rfl | rfl | rfl | rfl | rfl | rfl | rfl | rfl
  · exact bt_0 x
  · exact bt_1 x
  · exact bt_2 x
  · exact bt_3 x
  · exact bt_4 x
  · exact bt_5 x
  · exact bt_6 x
  · exact bt_7 x
  · exact bt_8 x
  · exact bt_9 x
  · exact bt_10 x
  · exact bt_11 x
  · exact bt_12 x
  · exact bt_13 x
  · exact bt_14 x
  · exact bt_15 x
  · exact bt_16 x
  · exact bt_17 x
  · exact bt_18 x
  · exact bt_19 x
  · exact bt_20 x
  · exact bt_21 x
  · exact bt_22 x
  · exact bt_23 x
  · exact bt_24 x
  · exact bt_25 x
  · exact bt_26 x
  · exact bt_27 x
  · exact bt_28 x
  · exact bt_29 x
  · exact bt_30 x
  · exact bt_31 x
end
section
set_option maxRecDepth 100000 in
set_option maxHeartbeats 400000 in
theorem coolB {sc : av_sc} {d n0 bc bs : Nat} {al : Bool} {σ : av_S} {Φ : Option av_V → av_H → Prop} (hΦ : Φ (some (vI 0)) (hp (up σ 32 (fun _ => 0)))) :
    ∀ (k : Nat) (i : Int) (g : Int → Int), 0 ≤ i → i + (k : Int) = 48 → (∀ j, 0 ≤ j → j < i → g j = 0) → av_Rn sc m_M_cool d al n0 bc bs 23 [some (vR 26), some (vI i)] [] (hp (up σ 32 g)) Φ := by
  intro k
  induction k with
  | zero =>
    intro i g h0 hi hg
    refine rn_iload_n 24 d_M_cool_23 rfl rfl ?_
    refine rn_bipush 26 d_M_cool_24 rfl rfl ?_
    refine rn_icmp_ge 42 29 d_M_cool_26 rfl rfl ⟨by omega, by omega⟩ ⟨by omega, by omega⟩ (fun c_26 => ?_) (fun c_26 => ?_)
    · refine rn_arr (q := 32) (t := 0) (n := 48) (f := g) (g := fun _ => 0) rfl (fun j q1 q2 => hg j q1 (by omega)) ?_
      change av_Rn _ _ _ _ _ _ _ _ _ _ (hp (up σ 32 (fun _ => 0))) _
      refine rn_iconst 43 d_M_cool_42 rfl ?_
      exact rn_ireturn d_M_cool_43 (Or.inl rfl) hΦ
    · omega
  | succ k ih =>
    intro i g h0 hi hg
    refine rn_iload_n 24 d_M_cool_23 rfl rfl ?_
    refine rn_bipush 26 d_M_cool_24 rfl rfl ?_
    refine rn_icmp_ge 42 29 d_M_cool_26 rfl rfl ⟨by omega, by omega⟩ ⟨by omega, by omega⟩ (fun c_26 => ?_) (fun c_26 => ?_)
    · omega
    · refine rn_aload_n 30 d_M_cool_29 rfl rfl ?_
      refine rn_getfield 33 d_M_cool_30 rfl fd_M_42 rfl rfl ?_
      refine rn_iload_n 34 d_M_cool_33 rfl rfl ?_
      refine rn_iconst 35 d_M_cool_34 rfl ?_
      refine rn_iastore 36 d_M_cool_35 rfl rfl (by decide) (by omega) (by omega) (hs_32 _ _) ?_
      refine rn_iinc 39 d_M_cool_36 rfl rfl (by decide) rfl rfl ?_
      refine rn_goto 23 d_M_cool_39 rfl ?_
      change av_Rn _ _ _ _ _ _ _ _ _ _ (hp (up σ 32 (uI g i 0))) _
      exact ih (i + 1) (uI g i 0) (by omega) (by omega) (fun j q1 q2 => by
        by_cases hj : j = i
        · subst hj; exact uI_s g j 0
        · rw [uI_n g 0 hj]; exact hg j q1 (by omega))
set_option maxRecDepth 100000 in
set_option maxHeartbeats 400000 in
theorem coolA {sc : av_sc} {d n0 bc bs : Nat} {al : Bool} {σ : av_S} {Φ : Option av_V → av_H → Prop} (hΦ : Φ (some (vI 0)) (hp (up (up σ 31 (fun _ => 0)) 32 (fun _ => 0)))) :
    ∀ (k : Nat) (i : Int) (g : Int → Int), 0 ≤ i → i + (k : Int) = 24 → (∀ j, 0 ≤ j → j < i → g j = 0) → av_Rn sc m_M_cool d al n0 bc bs 2 [some (vR 26), some (vI i)] [] (hp (up σ 31 g)) Φ := by
  intro k
  induction k with
  | zero =>
    intro i g h0 hi hg
    refine rn_iload_n 3 d_M_cool_2 rfl rfl ?_
    refine rn_bipush 5 d_M_cool_3 rfl rfl ?_
    refine rn_icmp_ge 21 8 d_M_cool_5 rfl rfl ⟨by omega, by omega⟩ ⟨by omega, by omega⟩ (fun c_5 => ?_) (fun c_5 => ?_)
    · refine rn_arr (q := 31) (t := 0) (n := 24) (f := g) (g := fun _ => 0) rfl (fun j q1 q2 => hg j q1 (by omega)) ?_
      change av_Rn _ _ _ _ _ _ _ _ _ _ (hp (up σ 31 (fun _ => 0))) _
      refine rn_iconst 22 d_M_cool_21 rfl ?_
      refine rn_istore_n 23 d_M_cool_22 rfl (by decide) rfl rfl ?_
      change av_Rn _ _ _ _ _ _ _ _ _ _ (hp (up (up σ 31 (fun _ => 0)) 32 (σ 32))) _
      exact coolB hΦ 48 0 (σ 32) (by omega) (by omega) (fun j q1 q2 => by omega)
    · omega
  | succ k ih =>
    intro i g h0 hi hg
    refine rn_iload_n 3 d_M_cool_2 rfl rfl ?_
    refine rn_bipush 5 d_M_cool_3 rfl rfl ?_
    refine rn_icmp_ge 21 8 d_M_cool_5 rfl rfl ⟨by omega, by omega⟩ ⟨by omega, by omega⟩ (fun c_5 => ?_) (fun c_5 => ?_)
    · omega
    · refine rn_aload_n 9 d_M_cool_8 rfl rfl ?_
      refine rn_getfield 12 d_M_cool_9 rfl fd_M_39 rfl rfl ?_
      refine rn_iload_n 13 d_M_cool_12 rfl rfl ?_
      refine rn_iconst 14 d_M_cool_13 rfl ?_
      refine rn_iastore 15 d_M_cool_14 rfl rfl (by decide) (by omega) (by omega) (hs_31 _ _) ?_
      refine rn_iinc 18 d_M_cool_15 rfl rfl (by decide) rfl rfl ?_
      refine rn_goto 2 d_M_cool_18 rfl ?_
      change av_Rn _ _ _ _ _ _ _ _ _ _ (hp (up σ 31 (uI g i 0))) _
      exact ih (i + 1) (uI g i 0) (by omega) (by omega) (fun j q1 q2 => by
        by_cases hj : j = i
        · subst hj; exact uI_s g j 0
        · rw [uI_n g 0 hj]; exact hg j q1 (by omega))
set_option maxRecDepth 100000 in
set_option maxHeartbeats 400000 in
theorem ev_M_cool {sc : av_sc} {d : Nat} {σ : av_S} : av_Ev sc m_M_cool (d) false 0 0 [vR 26] (hp σ) (fun r h => r = some (vI 0) ∧ h = hp (up (up σ 31 (fun _ => 0)) 32 (fun _ => 0))) := by
  refine av_ev rfl rfl (Nat.le_of_ble_eq_true rfl) rfl ?_
  refine rn_iconst 1 d_M_cool_0 rfl ?_
  refine rn_istore_n 2 d_M_cool_1 rfl (by decide) rfl rfl ?_
  change av_Rn _ _ _ _ _ _ _ _ _ _ (hp (up σ 31 (σ 31))) _
  exact coolA ⟨rfl, rfl⟩ 24 0 (σ 31) (by omega) (by omega) (fun j q1 q2 => by omega)
/-- a graph as the class has it, read off the reference's -/
def hW (σ : av_S) (EN TO : Int → Int) : Prop := ∀ b, 0 ≤ b → b < σ 26 1 → EN b = σ 29 b ∧ ∀ e, 0 ≤ e → e ≤ 1 → TO (2 * b + e) = if e < σ 29 b then σ 30 (2 * b + e) else -1
def mS (σ : av_S) (F G : Int → Int) : av_S := up (up σ 31 F) 32 G
theorem eM_neg {en : Int → Int} {b i x : Int} (h : 0 ≤ en b ∧ en b ≤ 2) : eM en b i x < 0 ↔ en b = 0 := by
  unfold eM
  split
  · omega
  · split <;> omega
theorem eM_wE {en EN : Int → Int} {b i x : Int} (he : EN b = en b) (h : 0 ≤ en b ∧ en b ≤ 2) (h0 : en b ≠ 0) (hi : 0 ≤ i) : eM en b i x = wE EN x i b := by
  unfold eM wE
  rw [he]
  by_cases h2 : en b = 2
  · rw [if_neg (by omega), if_pos h2]
    by_cases hl : i < 32
    · rw [bt_eq x i hi hl]
    · rw [if_neg (fun q => hl q.1), if_neg (fun q => hl q.1)]
  · rw [if_pos (by omega), if_neg h2]; omega
theorem eM_in {en : Int → Int} {b i x : Int} (h : 0 ≤ en b ∧ en b ≤ 2) : -1 ≤ eM en b i x ∧ eM en b i x ≤ 1 := by
  unfold eM
  split
  · omega
  · split <;> omega
set_option maxRecDepth 100000 in
set_option maxHeartbeats 400000 in
theorem walkM_loop {sc : av_sc} {d n0 bc bs : Nat} {al : Bool} {σ : av_S} {EN TO : Int → Int} {fv x : Int} {Φ : Option av_V → av_H → Prop} (hn : 0 ≤ σ 26 1 ∧ σ 26 1 ≤ 24) (hB : ∀ b, 0 ≤ b → b < σ 26 1 → iMB σ b) (hw : hW σ EN TO) (hx : av_in x) :
    ∀ (k : Nat) (n t b : Int) (F G : Int → Int), n + ((k + 1 : Nat) : Int) = 60 → 0 ≤ n → 0 ≤ t → t ≤ n → 0 ≤ b → b < σ 26 1 → bd F 24 → bd G 48 → Φ (some (vI (n + ((wk EN TO x (k + 1) t b).length : Int)))) (hp (mS σ (cb (wk EN TO x (k + 1) t b) F) (ce (wk EN TO x (k + 1) t b) G))) →
      av_Rn sc m_M_walk (d + 1) al n0 bc bs 31 [some (vR 26), some (vI fv), some (vI x), some (vI b), some (vI n), some (vI t), none] [] (hp (mS σ F G)) Φ := by
  intro k
  induction k with
  | zero =>
    intro n t b F G hk h0 ht0 ht hb0 hb hF hG hΦ
    have hBb := hB b hb0 hb
    have hEb := hBb.2.2.1
    have e1 : wk EN TO x 1 t b = [(b, wE EN x t b)] := if_neg (by omega)
    rw [e1] at hΦ
    have hei := eM_in (en := σ 29) (b := b) (i := t) (x := x) hEb
    refine rn_aload_n 32 d_M_walk_31 rfl rfl ?_
    refine rn_getfield 35 d_M_walk_32 rfl fd_M_39 rfl rfl ?_
    refine rn_iload_n 36 d_M_walk_35 rfl rfl ?_
    refine rn_aload_n 37 d_M_walk_36 rfl rfl ?_
    refine rn_aload_n 38 d_M_walk_37 rfl rfl ?_
    refine rn_getfield 41 d_M_walk_38 rfl fd_M_39 rfl rfl ?_
    refine rn_iload_n 42 d_M_walk_41 rfl rfl ?_
    refine rn_iaload 43 d_M_walk_42 rfl rfl (by decide) (by omega) (by omega) ?_
    refine rn_iconst 44 d_M_walk_43 rfl ?_
    refine rn_callV2 47 d_M_walk_44 rfl cw_M_92 rfl (Nat.le_of_ble_eq_true rfl) (ev_M_warmer (hF b hb0 (by omega)) ⟨by omega, by omega⟩) ?_
    rintro _ _ ⟨rfl, rfl⟩
    refine rn_iastore 48 d_M_walk_47 rfl rfl (by decide) (by omega) (by omega) (hs_31 _ _) ?_
    change av_Rn _ _ _ _ _ _ _ _ _ _ (hp (mS σ (inc F b) G)) _
    refine rn_iinc 51 d_M_walk_48 rfl rfl (by decide) rfl rfl ?_
    refine rn_aload_n 52 d_M_walk_51 rfl rfl ?_
    refine rn_iload_n 53 d_M_walk_52 rfl rfl ?_
    refine rn_iload 55 d_M_walk_53 rfl rfl ?_
    refine rn_iload_n 56 d_M_walk_55 rfl rfl ?_
    refine rn_callV3 59 d_M_walk_56 rfl cw_M_96 rfl (Nat.le_of_ble_eq_true rfl) (ev_M_edge (σ := mS σ (inc F b) G) ⟨by omega, by omega⟩ ⟨by omega, by omega⟩ hEb) ?_
    rintro _ _ ⟨rfl, rfl⟩
    rw [show eM ((mS σ (inc F b) G) 29) b t x = eM (σ 29) b t x from rfl]
    refine rn_istore 61 d_M_walk_59 rfl (by decide) rfl rfl ?_
    refine rn_iload 63 d_M_walk_61 rfl rfl ?_
    refine rn_bipush 65 d_M_walk_63 rfl rfl ?_
    refine rn_icmp_eq 73 68 d_M_walk_65 rfl rfl ⟨by omega, by omega⟩ ⟨by omega, by omega⟩ (fun c_65 => ?_) (fun c_65 => ?_)
    · refine rn_iload 75 d_M_walk_73 rfl rfl ?_
      exact rn_ireturn d_M_walk_75 (Or.inl rfl) hΦ
    · omega
  | succ k ih =>
    intro n t b F G hk h0 ht0 ht hb0 hb hF hG hΦ
    have hBb := hB b hb0 hb
    have hEb := hBb.2.2.1
    have hwb := hw b hb0 hb
    have e1 : wk EN TO x (k + 1 + 1) t b = (b, wE EN x t b) :: wk EN TO x (k + 1) (wT EN t b) (TO (2 * b + wE EN x t b)) := if_neg (by omega)
    rw [e1] at hΦ
    have hei := eM_in (en := σ 29) (b := b) (i := t) (x := x) hEb
    have hng := eM_neg (en := σ 29) (b := b) (i := t) (x := x) hEb
    refine rn_aload_n 32 d_M_walk_31 rfl rfl ?_
    refine rn_getfield 35 d_M_walk_32 rfl fd_M_39 rfl rfl ?_
    refine rn_iload_n 36 d_M_walk_35 rfl rfl ?_
    refine rn_aload_n 37 d_M_walk_36 rfl rfl ?_
    refine rn_aload_n 38 d_M_walk_37 rfl rfl ?_
    refine rn_getfield 41 d_M_walk_38 rfl fd_M_39 rfl rfl ?_
    refine rn_iload_n 42 d_M_walk_41 rfl rfl ?_
    refine rn_iaload 43 d_M_walk_42 rfl rfl (by decide) (by omega) (by omega) ?_
    refine rn_iconst 44 d_M_walk_43 rfl ?_
    refine rn_callV2 47 d_M_walk_44 rfl cw_M_92 rfl (Nat.le_of_ble_eq_true rfl) (ev_M_warmer (hF b hb0 (by omega)) ⟨by omega, by omega⟩) ?_
    rintro _ _ ⟨rfl, rfl⟩
    refine rn_iastore 48 d_M_walk_47 rfl rfl (by decide) (by omega) (by omega) (hs_31 _ _) ?_
    change av_Rn _ _ _ _ _ _ _ _ _ _ (hp (mS σ (inc F b) G)) _
    refine rn_iinc 51 d_M_walk_48 rfl rfl (by decide) rfl rfl ?_
    refine rn_aload_n 52 d_M_walk_51 rfl rfl ?_
    refine rn_iload_n 53 d_M_walk_52 rfl rfl ?_
    refine rn_iload 55 d_M_walk_53 rfl rfl ?_
    refine rn_iload_n 56 d_M_walk_55 rfl rfl ?_
    refine rn_callV3 59 d_M_walk_56 rfl cw_M_96 rfl (Nat.le_of_ble_eq_true rfl) (ev_M_edge (σ := mS σ (inc F b) G) ⟨by omega, by omega⟩ ⟨by omega, by omega⟩ hEb) ?_
    rintro _ _ ⟨rfl, rfl⟩
    rw [show eM ((mS σ (inc F b) G) 29) b t x = eM (σ 29) b t x from rfl]
    refine rn_istore 61 d_M_walk_59 rfl (by decide) rfl rfl ?_
    refine rn_iload 63 d_M_walk_61 rfl rfl ?_
    refine rn_bipush 65 d_M_walk_63 rfl rfl ?_
    refine rn_icmp_eq 73 68 d_M_walk_65 rfl rfl ⟨by omega, by omega⟩ ⟨by omega, by omega⟩ (fun c_65 => ?_) (fun c_65 => ?_)
    · omega
    · refine rn_iload 70 d_M_walk_68 rfl rfl ?_
      refine rn_if_ge 76 73 d_M_walk_70 rfl rfl ⟨by omega, by omega⟩ (fun c_70 => ?_) (fun c_70 => ?_)
      · have q0 : σ 29 b ≠ 0 := fun q => by have := hng.mpr q; omega
        have q1 : eM (σ 29) b t x = wE EN x t b := eM_wE hwb.1 hEb q0 ht0
        rw [q1]
        have q2 : 0 ≤ wE EN x t b ∧ wE EN x t b < σ 29 b := by unfold wE; rw [hwb.1]; split <;> (try split) <;> omega
        have hTO : TO (2 * b + wE EN x t b) = σ 30 (2 * b + wE EN x t b) := by rw [hwb.2 _ q2.1 (by omega), if_pos q2.2]
        have hto := hBb.2.2.2 _ q2.1 q2.2
        have J : ∀ t' : Int, t' = wT EN t b → av_Rn sc m_M_walk (d + 1) al n0 bc bs 89 [some (vR 26), some (vI fv), some (vI x), some (vI b), some (vI (n + 1)), some (vI t'), some (vI (wE EN x t b))] [] (hp (mS σ (inc F b) G)) Φ := by
          intro t' ht'
          have hT1 : 0 ≤ t' ∧ t' ≤ n + 1 := by rw [ht']; unfold wT; split <;> omega
          refine rn_aload_n 90 d_M_walk_89 rfl rfl ?_
          refine rn_getfield 93 d_M_walk_90 rfl fd_M_42 rfl rfl ?_
          refine rn_iload_n 94 d_M_walk_93 rfl rfl ?_
          refine rn_iconst 95 d_M_walk_94 rfl ?_
          refine rn_imul 96 d_M_walk_95 rfl ?_
          rw [Int.mul_comm b 2]
          refine rn_iload 98 d_M_walk_96 rfl rfl ?_
          refine rn_iadd 99 d_M_walk_98 rfl ?_
          refine rn_aload_n 100 d_M_walk_99 rfl rfl ?_
          refine rn_aload_n 101 d_M_walk_100 rfl rfl ?_
          refine rn_getfield 104 d_M_walk_101 rfl fd_M_42 rfl rfl ?_
          refine rn_iload_n 105 d_M_walk_104 rfl rfl ?_
          refine rn_iconst 106 d_M_walk_105 rfl ?_
          refine rn_imul 107 d_M_walk_106 rfl ?_
          rw [Int.mul_comm b 2]
          refine rn_iload 109 d_M_walk_107 rfl rfl ?_
          refine rn_iadd 110 d_M_walk_109 rfl ?_
          refine rn_iaload 111 d_M_walk_110 rfl rfl (by decide) (by omega) (by omega) ?_
          refine rn_iconst 112 d_M_walk_111 rfl ?_
          refine rn_callV2 115 d_M_walk_112 rfl cw_M_92 rfl (Nat.le_of_ble_eq_true rfl) (ev_M_warmer (σ := mS σ (inc F b) G) (hG (2 * b + wE EN x t b) (by omega) (by omega)) ⟨by omega, by omega⟩) ?_
          rintro _ _ ⟨rfl, rfl⟩
          refine rn_iastore 116 d_M_walk_115 rfl rfl (by decide) (by omega) (by omega) (hs_32 _ _) ?_
          change av_Rn _ _ _ _ _ _ _ _ _ _ (hp (mS σ (inc F b) (inc G (2 * b + wE EN x t b)))) _
          refine rn_aload_n 117 d_M_walk_116 rfl rfl ?_
          refine rn_getfield 120 d_M_walk_117 rfl fd_M_36 rfl rfl ?_
          refine rn_iload_n 121 d_M_walk_120 rfl rfl ?_
          refine rn_iconst 122 d_M_walk_121 rfl ?_
          refine rn_imul 123 d_M_walk_122 rfl ?_
          rw [Int.mul_comm b 2]
          refine rn_iload 125 d_M_walk_123 rfl rfl ?_
          refine rn_iadd 126 d_M_walk_125 rfl ?_
          refine rn_iaload 127 d_M_walk_126 rfl rfl (by decide) (by omega) (by omega) ?_
          rw [show (mS σ (inc F b) (inc G (2 * b + wE EN x t b))) 30 (2 * b + wE EN x t b) = σ 30 (2 * b + wE EN x t b) from rfl]
          refine rn_istore_n 128 d_M_walk_127 rfl (by decide) rfl rfl ?_
          refine rn_goto 31 d_M_walk_128 rfl ?_
          refine rn_kill 6 rfl ?_
          refine ih (n + 1) _ _ _ _ (by omega) (by omega) (by omega) (by omega) (by omega) (by omega) (bd_inc hF ⟨by omega, by omega⟩) (bd_inc hG ⟨by omega, by omega⟩) ?_
          rw [ht']
          rw [hTO] at hΦ
          have e2 : wk EN TO x (k + 1) (wT EN t b) (σ 30 (2 * b + wE EN x t b)) = (σ 30 (2 * b + wE EN x t b), wE EN x (wT EN t b) (σ 30 (2 * b + wE EN x t b))) :: wk EN TO x k (wT EN (wT EN t b) (σ 30 (2 * b + wE EN x t b))) (TO (2 * (σ 30 (2 * b + wE EN x t b)) + wE EN x (wT EN t b) (σ 30 (2 * b + wE EN x t b)))) := if_neg (by omega)
          rw [e2] at hΦ ⊢
          rw [show ((n + 1) + ((((σ 30 (2 * b + wE EN x t b), wE EN x (wT EN t b) (σ 30 (2 * b + wE EN x t b))) :: wk EN TO x k (wT EN (wT EN t b) (σ 30 (2 * b + wE EN x t b))) (TO (2 * (σ 30 (2 * b + wE EN x t b)) + wE EN x (wT EN t b) (σ 30 (2 * b + wE EN x t b))))).length : Nat) : Int)) = n + (((((b, wE EN x t b) :: (σ 30 (2 * b + wE EN x t b), wE EN x (wT EN t b) (σ 30 (2 * b + wE EN x t b))) :: wk EN TO x k (wT EN (wT EN t b) (σ 30 (2 * b + wE EN x t b))) (TO (2 * (σ 30 (2 * b + wE EN x t b)) + wE EN x (wT EN t b) (σ 30 (2 * b + wE EN x t b))))).length : Nat) : Int)) by simp only [List.length_cons]; omega]
          exact hΦ
        refine rn_aload_n 77 d_M_walk_76 rfl rfl ?_
        refine rn_getfield 80 d_M_walk_77 rfl fd_M_33 rfl rfl ?_
        refine rn_iload_n 81 d_M_walk_80 rfl rfl ?_
        refine rn_iaload 82 d_M_walk_81 rfl rfl (by decide) (by omega) (by omega) ?_
        rw [show (mS σ (inc F b) G) 29 b = σ 29 b from rfl]
        refine rn_iconst 83 d_M_walk_82 rfl ?_
        refine rn_icmp_ne 89 86 d_M_walk_83 rfl rfl ⟨by omega, by omega⟩ ⟨by omega, by omega⟩ (fun c_83 => ?_) (fun c_83 => ?_)
        · exact J _ (by unfold wT; rw [hwb.1]; first | rw [if_neg c_83] | rw [if_pos c_83])
        · refine rn_iinc 89 d_M_walk_86 rfl rfl (by decide) rfl rfl ?_
          exact J _ (by unfold wT; rw [hwb.1]; first | rw [if_neg c_83] | rw [if_pos c_83])
      · refine rn_iload 75 d_M_walk_73 rfl rfl ?_
        have q0 := hng.mp (by omega)
        have q1 : wE EN x t b = 0 := by unfold wE; rw [hwb.1, if_neg (by omega)]
        have q2 : TO (2 * b + wE EN x t b) = -1 := by rw [q1, hwb.2 0 (by omega) (by omega), if_neg (by omega)]
        have q3 : wk EN TO x (k + 1) (wT EN t b) (TO (2 * b + wE EN x t b)) = [] := by rw [q2]; exact if_pos rfl
        rw [q3] at hΦ
        exact rn_ireturn d_M_walk_75 (Or.inl rfl) hΦ
set_option maxRecDepth 100000 in
set_option maxHeartbeats 400000 in
theorem ev_M_walk {sc : av_sc} {d : Nat} {σ : av_S} {f x e : Int} {EN TO : Int → Int} (hf : av_in f) (hx : av_in x) (hI : iM σ) (hw : hW σ EN TO) (hE : 0 ≤ f → f ≤ 3 → iEM σ f e) : av_Ev sc m_M_walk (d + 1) false 0 0 [vR 26, vI f, vI x] (hp σ) (fun r h => (¬ ((0 ≤ f ∧ f ≤ 3) ∧ e ≠ -1) ∧ r = some (vI (-1)) ∧ h = hp σ) ∨ (((0 ≤ f ∧ f ≤ 3) ∧ e ≠ -1) ∧ r = some (vI ((wk EN TO x 60 0 e).length : Int)) ∧ h = hp (mS σ (cb (wk EN TO x 60 0 e) (σ 31)) (ce (wk EN TO x 60 0 e) (σ 32))))) := by
  obtain ⟨hn, hB, hc31, hc32, hlo, hrg⟩ := id hI
  obtain ⟨hf1, hf2⟩ := hf
  refine av_ev rfl rfl (Nat.le_of_ble_eq_true rfl) rfl ?_
  refine rn_iload_n 1 d_M_walk_0 rfl rfl ?_
  refine rn_if_lt 9 4 d_M_walk_1 rfl rfl ⟨by omega, by omega⟩ (fun c_1 => ?_) (fun c_1 => ?_)
  · refine rn_iconst 10 d_M_walk_9 rfl ?_
    refine rn_goto 18 d_M_walk_10 rfl ?_
    refine rn_istore_n 19 d_M_walk_18 rfl (by decide) rfl rfl ?_
    refine rn_iconst 20 d_M_walk_19 rfl ?_
    refine rn_istore 22 d_M_walk_20 rfl (by decide) rfl rfl ?_
    refine rn_iconst 23 d_M_walk_22 rfl ?_
    refine rn_istore 25 d_M_walk_23 rfl (by decide) rfl rfl ?_
    refine rn_iload_n 26 d_M_walk_25 rfl rfl ?_
    refine rn_if_ge 31 29 d_M_walk_26 rfl rfl ⟨by omega, by omega⟩ (fun c_26 => ?_) (fun c_26 => ?_)
    · first | (exfalso; omega) | (change av_Rn _ _ _ _ _ _ _ _ _ _ (hp (mS σ (σ 31) (σ 32))) _; refine walkM_loop hn hB hw hx 59 0 0 e (σ 31) (σ 32) (by omega) (by omega) (by omega) (by omega) (by omega) (by rcases hEf with ⟨q, -⟩ | ⟨q, -⟩ <;> omega) hc31 hc32 (Or.inr ⟨⟨⟨by omega, by omega⟩, by omega⟩, ?_, rfl⟩); rw [Int.zero_add])
    · refine rn_iconst 30 d_M_walk_29 rfl ?_
      first | exact rn_ireturn d_M_walk_30 (Or.inl rfl) (Or.inl ⟨(by omega), rfl, rfl⟩)
  · refine rn_iload_n 5 d_M_walk_4 rfl rfl ?_
    refine rn_iconst 6 d_M_walk_5 rfl ?_
    refine rn_icmp_le 13 9 d_M_walk_6 rfl rfl ⟨by omega, by omega⟩ ⟨by omega, by omega⟩ (fun c_6 => ?_) (fun c_6 => ?_)
    · have hEf := hE (by omega) (by omega)
      have hei : -1 ≤ e ∧ e < 24 := by rcases hEf with ⟨q, -⟩ | ⟨q, -⟩ <;> omega
      refine rn_aload_n 14 d_M_walk_13 rfl rfl ?_
      refine rn_iload_n 15 d_M_walk_14 rfl rfl ?_
      refine rn_callV1 18 d_M_walk_15 rfl cw_M_88 rfl (Nat.le_of_ble_eq_true rfl) (ev_M_entry hn (fun b q0 q1 => (hB b q0 q1).1) ⟨by omega, by omega⟩ hEf) ?_
      rintro _ _ ⟨rfl, rfl⟩
      refine rn_istore_n 19 d_M_walk_18 rfl (by decide) rfl rfl ?_
      refine rn_iconst 20 d_M_walk_19 rfl ?_
      refine rn_istore 22 d_M_walk_20 rfl (by decide) rfl rfl ?_
      refine rn_iconst 23 d_M_walk_22 rfl ?_
      refine rn_istore 25 d_M_walk_23 rfl (by decide) rfl rfl ?_
      refine rn_iload_n 26 d_M_walk_25 rfl rfl ?_
      refine rn_if_ge 31 29 d_M_walk_26 rfl rfl ⟨by omega, by omega⟩ (fun c_26 => ?_) (fun c_26 => ?_)
      · first | (exfalso; omega) | (change av_Rn _ _ _ _ _ _ _ _ _ _ (hp (mS σ (σ 31) (σ 32))) _; refine walkM_loop hn hB hw hx 59 0 0 e (σ 31) (σ 32) (by omega) (by omega) (by omega) (by omega) (by omega) (by rcases hEf with ⟨q, -⟩ | ⟨q, -⟩ <;> omega) hc31 hc32 (Or.inr ⟨⟨⟨by omega, by omega⟩, by omega⟩, ?_, rfl⟩); rw [Int.zero_add])
      · refine rn_iconst 30 d_M_walk_29 rfl ?_
        first | exact rn_ireturn d_M_walk_30 (Or.inl rfl) (Or.inl ⟨(by omega), rfl, rfl⟩)
    · refine rn_iconst 10 d_M_walk_9 rfl ?_
      refine rn_goto 18 d_M_walk_10 rfl ?_
      refine rn_istore_n 19 d_M_walk_18 rfl (by decide) rfl rfl ?_
      refine rn_iconst 20 d_M_walk_19 rfl ?_
      refine rn_istore 22 d_M_walk_20 rfl (by decide) rfl rfl ?_
      refine rn_iconst 23 d_M_walk_22 rfl ?_
      refine rn_istore 25 d_M_walk_23 rfl (by decide) rfl rfl ?_
      refine rn_iload_n 26 d_M_walk_25 rfl rfl ?_
      refine rn_if_ge 31 29 d_M_walk_26 rfl rfl ⟨by omega, by omega⟩ (fun c_26 => ?_) (fun c_26 => ?_)
      · first | (exfalso; omega) | (change av_Rn _ _ _ _ _ _ _ _ _ _ (hp (mS σ (σ 31) (σ 32))) _; refine walkM_loop hn hB hw hx 59 0 0 e (σ 31) (σ 32) (by omega) (by omega) (by omega) (by omega) (by omega) (by rcases hEf with ⟨q, -⟩ | ⟨q, -⟩ <;> omega) hc31 hc32 (Or.inr ⟨⟨⟨by omega, by omega⟩, by omega⟩, ?_, rfl⟩); rw [Int.zero_add])
      · refine rn_iconst 30 d_M_walk_29 rfl ?_
        first | exact rn_ireturn d_M_walk_30 (Or.inl rfl) (Or.inl ⟨(by omega), rfl, rfl⟩)
end
section
/-- a layout's arrays in the reference -/
def iLB (σ : av_S) (b : Int) : Prop := (0 ≤ σ 38 b ∧ σ 38 b ≤ 2) ∧ (1 ≤ σ 40 (2 * b) ∧ σ 40 (2 * b) ≤ 2) ∧ (1 ≤ σ 40 (2 * b + 1) ∧ σ 40 (2 * b + 1) ≤ 2) ∧ (σ 41 b = 0 ∨ σ 41 b = 1)
def iLM (σ : av_S) : Prop := ∀ b, 0 ≤ b → b < σ 26 1 → iLB σ b
def aAtM (σ : av_S) (k : Int) : Int := if σ 26 5 = 1 ∧ 0 ≤ k ∧ k < σ 26 1 then σ 37 k else -3
set_option maxRecDepth 100000 in
set_option maxHeartbeats 400000 in
theorem ev_M_at {sc : av_sc} {d : Nat} {σ : av_S} {k : Int} (hk : av_in k) (hI : iM σ) : av_Ev sc m_M_at (d + 1) false 0 0 [vR 26, vI k] (hp σ) (fun r h => r = some (vI (aAtM σ k)) ∧ h = hp σ) := by
  obtain ⟨hn, hB, hc31, hc32, hlo, hrg⟩ := id hI
  refine av_ev rfl rfl (Nat.le_of_ble_eq_true rfl) rfl ?_
  refine rn_aload_n 1 d_M_at_0 rfl rfl ?_
  refine rn_getfield 4 d_M_at_1 rfl fd_M_22 rfl rfl ?_
  refine rn_if_eq 15 7 d_M_at_4 rfl rfl ⟨by omega, by omega⟩ (fun c_4 => ?_) (fun c_4 => ?_)
  · refine rn_bipush 17 d_M_at_15 rfl rfl ?_
    refine rn_goto 26 d_M_at_17 rfl ?_
    first | (exfalso; omega) | exact rn_ireturn d_M_at_26 (Or.inl rfl) ⟨by unfold aAtM; (first | rw [if_pos (by omega)] | rw [if_neg (by omega)]); try (first | rw [if_pos (by omega)] | rw [if_neg (by omega)]), rfl⟩
  · refine rn_aload_n 8 d_M_at_7 rfl rfl ?_
    refine rn_iload_n 9 d_M_at_8 rfl rfl ?_
    refine rn_callV1 12 d_M_at_9 rfl cw_M_83 rfl (Nat.le_of_ble_eq_true rfl) (ev_M_no hk hn) ?_
    rintro _ _ ⟨rfl, rfl⟩
    refine rn_ifB_eq 20 15 d_M_at_12 rfl rfl (fun c_12 => ?_) (fun c_12 => ?_)
    · refine rn_aload_n 21 d_M_at_20 rfl rfl ?_
      refine rn_getfield 24 d_M_at_21 rfl fd_M_58 rfl rfl ?_
      refine rn_iload_n 25 d_M_at_24 rfl rfl ?_
      refine rn_iaload 26 d_M_at_25 rfl rfl (by decide) (by omega) (by omega) ?_
      first | (exfalso; omega) | exact rn_ireturn d_M_at_26 (Or.inl rfl) ⟨by unfold aAtM; (first | rw [if_pos (by omega)] | rw [if_neg (by omega)]); try (first | rw [if_pos (by omega)] | rw [if_neg (by omega)]), rfl⟩
    · refine rn_bipush 17 d_M_at_15 rfl rfl ?_
      refine rn_goto 26 d_M_at_17 rfl ?_
      first | (exfalso; omega) | exact rn_ireturn d_M_at_26 (Or.inl rfl) ⟨by unfold aAtM; (first | rw [if_pos (by omega)] | rw [if_neg (by omega)]); try (first | rw [if_pos (by omega)] | rw [if_neg (by omega)]), rfl⟩
set_option maxRecDepth 100000 in
set_option maxHeartbeats 400000 in
theorem ev_M_noBranch {sc : av_sc} {d : Nat} {σ : av_S} {b i : Int} (hb : av_in b) (hi : av_in i) (hI : iM σ) (hL : σ 26 5 = 1 → iLM σ) : av_Ev sc m_M_noBranch (d + 1) false 0 0 [vR 26, vI b, vI i] (hp σ) (fun r h => r = some (vI (bz (σ 26 5 = 0 ∨ (b < 0 ∨ σ 26 1 ≤ b) ∨ i < 0 ∨ σ 38 b ≤ i))) ∧ h = hp σ) := by
  obtain ⟨hn, hB, hc31, hc32, hlo, hrg⟩ := id hI
  obtain ⟨hi1, hi2⟩ := hi
  refine av_ev rfl rfl (Nat.le_of_ble_eq_true rfl) rfl ?_
  refine rn_aload_n 1 d_M_noBranch_0 rfl rfl ?_
  refine rn_getfield 4 d_M_noBranch_1 rfl fd_M_22 rfl rfl ?_
  refine rn_if_eq 29 7 d_M_noBranch_4 rfl rfl ⟨by omega, by omega⟩ (fun c_4 => ?_) (fun c_4 => ?_)
  · refine rn_iconst 30 d_M_noBranch_29 rfl ?_
    refine rn_goto 34 d_M_noBranch_30 rfl ?_
    exact rn_ireturn d_M_noBranch_34 (Or.inr ⟨rfl, Or.inr rfl⟩) ⟨by rw [bz_t (by omega)], rfl⟩
  · refine rn_aload_n 8 d_M_noBranch_7 rfl rfl ?_
    refine rn_iload_n 9 d_M_noBranch_8 rfl rfl ?_
    refine rn_callV1 12 d_M_noBranch_9 rfl cw_M_83 rfl (Nat.le_of_ble_eq_true rfl) (ev_M_no hb hn) ?_
    rintro _ _ ⟨rfl, rfl⟩
    refine rn_ifB_ne 29 15 d_M_noBranch_12 rfl rfl (fun c_12 => ?_) (fun c_12 => ?_)
    · refine rn_iconst 30 d_M_noBranch_29 rfl ?_
      refine rn_goto 34 d_M_noBranch_30 rfl ?_
      exact rn_ireturn d_M_noBranch_34 (Or.inr ⟨rfl, Or.inr rfl⟩) ⟨by rw [bz_t (by omega)], rfl⟩
    · have hLb := (hL (by omega) b (by omega) (by omega)).1
      refine rn_iload_n 16 d_M_noBranch_15 rfl rfl ?_
      refine rn_if_lt 29 19 d_M_noBranch_16 rfl rfl ⟨by omega, by omega⟩ (fun c_16 => ?_) (fun c_16 => ?_)
      · refine rn_iconst 30 d_M_noBranch_29 rfl ?_
        refine rn_goto 34 d_M_noBranch_30 rfl ?_
        exact rn_ireturn d_M_noBranch_34 (Or.inr ⟨rfl, Or.inr rfl⟩) ⟨by rw [bz_t (by omega)], rfl⟩
      · refine rn_iload_n 20 d_M_noBranch_19 rfl rfl ?_
        refine rn_aload_n 21 d_M_noBranch_20 rfl rfl ?_
        refine rn_getfield 24 d_M_noBranch_21 rfl fd_M_61 rfl rfl ?_
        refine rn_iload_n 25 d_M_noBranch_24 rfl rfl ?_
        refine rn_iaload 26 d_M_noBranch_25 rfl rfl (by decide) (by omega) (by omega) ?_
        refine rn_icmp_lt 33 29 d_M_noBranch_26 rfl rfl ⟨by omega, by omega⟩ ⟨by omega, by omega⟩ (fun c_26 => ?_) (fun c_26 => ?_)
        · refine rn_iconst 34 d_M_noBranch_33 rfl ?_
          exact rn_ireturn d_M_noBranch_34 (Or.inr ⟨rfl, Or.inl rfl⟩) ⟨by rw [bz_f (by omega)], rfl⟩
        · refine rn_iconst 30 d_M_noBranch_29 rfl ?_
          refine rn_goto 34 d_M_noBranch_30 rfl ?_
          exact rn_ireturn d_M_noBranch_34 (Or.inr ⟨rfl, Or.inr rfl⟩) ⟨by rw [bz_t (by omega)], rfl⟩
def aBranchM (σ : av_S) (b i : Int) : Int := if (σ 26 5 = 0 ∨ (b < 0 ∨ σ 26 1 ≤ b) ∨ i < 0 ∨ σ 38 b ≤ i) then -3 else σ 40 (2 * b + i)
set_option maxRecDepth 100000 in
set_option maxHeartbeats 400000 in
theorem ev_M_branch {sc : av_sc} {d : Nat} {σ : av_S} {b i : Int} (hb : av_in b) (hi : av_in i) (hI : iM σ) (hL : σ 26 5 = 1 → iLM σ) : av_Ev sc m_M_branch (d + 2) false 0 0 [vR 26, vI b, vI i] (hp σ) (fun r h => r = some (vI (aBranchM σ b i)) ∧ h = hp σ) := by
  obtain ⟨hn, hB, hc31, hc32, hlo, hrg⟩ := id hI
  refine av_ev rfl rfl (Nat.le_of_ble_eq_true rfl) rfl ?_
  refine rn_aload_n 1 d_M_branch_0 rfl rfl ?_
  refine rn_iload_n 2 d_M_branch_1 rfl rfl ?_
  refine rn_iload_n 3 d_M_branch_2 rfl rfl ?_
  refine rn_callV2 6 d_M_branch_3 rfl cw_M_146 rfl (Nat.le_of_ble_eq_true rfl) (ev_M_noBranch hb hi hI hL) ?_
  rintro _ _ ⟨rfl, rfl⟩
  refine rn_ifB_eq 14 9 d_M_branch_6 rfl rfl (fun c_6 => ?_) (fun c_6 => ?_)
  · have hLb := (hL (by omega) b (by omega) (by omega)).1
    refine rn_aload_n 15 d_M_branch_14 rfl rfl ?_
    refine rn_getfield 18 d_M_branch_15 rfl fd_M_67 rfl rfl ?_
    refine rn_iload_n 19 d_M_branch_18 rfl rfl ?_
    refine rn_iconst 20 d_M_branch_19 rfl ?_
    refine rn_imul 21 d_M_branch_20 rfl ?_
    rw [Int.mul_comm b 2]
    refine rn_iload_n 22 d_M_branch_21 rfl rfl ?_
    refine rn_iadd 23 d_M_branch_22 rfl ?_
    refine rn_iaload 24 d_M_branch_23 rfl rfl (by decide) (by omega) (by omega) ?_
    first | (exfalso; omega) | exact rn_ireturn d_M_branch_24 (Or.inl rfl) ⟨by unfold aBranchM; (first | rw [if_pos (by omega)] | rw [if_neg (by omega)]); try (first | rw [if_pos (by omega)] | rw [if_neg (by omega)]), rfl⟩
  · refine rn_bipush 11 d_M_branch_9 rfl rfl ?_
    refine rn_goto 24 d_M_branch_11 rfl ?_
    first | (exfalso; omega) | exact rn_ireturn d_M_branch_24 (Or.inl rfl) ⟨by unfold aBranchM; (first | rw [if_pos (by omega)] | rw [if_neg (by omega)]); try (first | rw [if_pos (by omega)] | rw [if_neg (by omega)]), rfl⟩
def aTargetM (σ : av_S) (b i : Int) : Int := if (σ 26 5 = 0 ∨ (b < 0 ∨ σ 26 1 ≤ b) ∨ i < 0 ∨ σ 38 b ≤ i) then -3 else σ 39 (2 * b + i)
set_option maxRecDepth 100000 in
set_option maxHeartbeats 400000 in
theorem ev_M_target {sc : av_sc} {d : Nat} {σ : av_S} {b i : Int} (hb : av_in b) (hi : av_in i) (hI : iM σ) (hL : σ 26 5 = 1 → iLM σ) : av_Ev sc m_M_target (d + 2) false 0 0 [vR 26, vI b, vI i] (hp σ) (fun r h => r = some (vI (aTargetM σ b i)) ∧ h = hp σ) := by
  obtain ⟨hn, hB, hc31, hc32, hlo, hrg⟩ := id hI
  refine av_ev rfl rfl (Nat.le_of_ble_eq_true rfl) rfl ?_
  refine rn_aload_n 1 d_M_target_0 rfl rfl ?_
  refine rn_iload_n 2 d_M_target_1 rfl rfl ?_
  refine rn_iload_n 3 d_M_target_2 rfl rfl ?_
  refine rn_callV2 6 d_M_target_3 rfl cw_M_146 rfl (Nat.le_of_ble_eq_true rfl) (ev_M_noBranch hb hi hI hL) ?_
  rintro _ _ ⟨rfl, rfl⟩
  refine rn_ifB_eq 14 9 d_M_target_6 rfl rfl (fun c_6 => ?_) (fun c_6 => ?_)
  · have hLb := (hL (by omega) b (by omega) (by omega)).1
    refine rn_aload_n 15 d_M_target_14 rfl rfl ?_
    refine rn_getfield 18 d_M_target_15 rfl fd_M_64 rfl rfl ?_
    refine rn_iload_n 19 d_M_target_18 rfl rfl ?_
    refine rn_iconst 20 d_M_target_19 rfl ?_
    refine rn_imul 21 d_M_target_20 rfl ?_
    rw [Int.mul_comm b 2]
    refine rn_iload_n 22 d_M_target_21 rfl rfl ?_
    refine rn_iadd 23 d_M_target_22 rfl ?_
    refine rn_iaload 24 d_M_target_23 rfl rfl (by decide) (by omega) (by omega) ?_
    first | (exfalso; omega) | exact rn_ireturn d_M_target_24 (Or.inl rfl) ⟨by unfold aTargetM; (first | rw [if_pos (by omega)] | rw [if_neg (by omega)]); try (first | rw [if_pos (by omega)] | rw [if_neg (by omega)]), rfl⟩
  · refine rn_bipush 11 d_M_target_9 rfl rfl ?_
    refine rn_goto 24 d_M_target_11 rfl ?_
    first | (exfalso; omega) | exact rn_ireturn d_M_target_24 (Or.inl rfl) ⟨by unfold aTargetM; (first | rw [if_pos (by omega)] | rw [if_neg (by omega)]); try (first | rw [if_pos (by omega)] | rw [if_neg (by omega)]), rfl⟩
def aHeatOfM (σ : av_S) (b e : Int) : Int := if (b < 0 ∨ σ 26 1 ≤ b) ∨ e < -1 ∨ σ 29 b ≤ e then -3 else if e < 0 then σ 31 b else σ 32 (2 * b + e)
set_option maxRecDepth 100000 in
set_option maxHeartbeats 400000 in
theorem ev_M_heatOf {sc : av_sc} {d : Nat} {σ : av_S} {b e : Int} (hb : av_in b) (he : av_in e) (hI : iM σ) : av_Ev sc m_M_heatOf (d + 1) false 0 0 [vR 26, vI b, vI e] (hp σ) (fun r h => r = some (vI (aHeatOfM σ b e)) ∧ h = hp σ) := by
  obtain ⟨hn, hB, hc31, hc32, hlo, hrg⟩ := id hI
  obtain ⟨he1, he2⟩ := id he
  refine av_ev rfl rfl (Nat.le_of_ble_eq_true rfl) rfl ?_
  refine rn_aload_n 1 d_M_heatOf_0 rfl rfl ?_
  refine rn_iload_n 2 d_M_heatOf_1 rfl rfl ?_
  refine rn_callV1 5 d_M_heatOf_2 rfl cw_M_83 rfl (Nat.le_of_ble_eq_true rfl) (ev_M_no hb hn) ?_
  rintro _ _ ⟨rfl, rfl⟩
  refine rn_ifB_ne 23 8 d_M_heatOf_5 rfl rfl (fun c_5 => ?_) (fun c_5 => ?_)
  · refine rn_bipush 25 d_M_heatOf_23 rfl rfl ?_
    first | (exfalso; omega) | exact rn_ireturn d_M_heatOf_25 (Or.inl rfl) ⟨by unfold aHeatOfM; (first | rw [if_pos (by omega)] | rw [if_neg (by omega)]); try (first | rw [if_pos (by omega)] | rw [if_neg (by omega)]), rfl⟩
  · have hEb := (hB b (by omega) (by omega)).2.2.1
    refine rn_iload_n 9 d_M_heatOf_8 rfl rfl ?_
    refine rn_iconst 10 d_M_heatOf_9 rfl ?_
    refine rn_icmp_lt 23 13 d_M_heatOf_10 rfl rfl ⟨by omega, by omega⟩ ⟨by omega, by omega⟩ (fun c_10 => ?_) (fun c_10 => ?_)
    · refine rn_bipush 25 d_M_heatOf_23 rfl rfl ?_
      first | (exfalso; omega) | exact rn_ireturn d_M_heatOf_25 (Or.inl rfl) ⟨by unfold aHeatOfM; (first | rw [if_pos (by omega)] | rw [if_neg (by omega)]); try (first | rw [if_pos (by omega)] | rw [if_neg (by omega)]), rfl⟩
    · refine rn_iload_n 14 d_M_heatOf_13 rfl rfl ?_
      refine rn_aload_n 15 d_M_heatOf_14 rfl rfl ?_
      refine rn_getfield 18 d_M_heatOf_15 rfl fd_M_33 rfl rfl ?_
      refine rn_iload_n 19 d_M_heatOf_18 rfl rfl ?_
      refine rn_iaload 20 d_M_heatOf_19 rfl rfl (by decide) (by omega) (by omega) ?_
      refine rn_icmp_lt 26 23 d_M_heatOf_20 rfl rfl ⟨by omega, by omega⟩ ⟨by omega, by omega⟩ (fun c_20 => ?_) (fun c_20 => ?_)
      · refine rn_iload_n 27 d_M_heatOf_26 rfl rfl ?_
        refine rn_if_ge 39 30 d_M_heatOf_27 rfl rfl ⟨by omega, by omega⟩ (fun c_27 => ?_) (fun c_27 => ?_)
        · refine rn_aload_n 40 d_M_heatOf_39 rfl rfl ?_
          refine rn_getfield 43 d_M_heatOf_40 rfl fd_M_42 rfl rfl ?_
          refine rn_iload_n 44 d_M_heatOf_43 rfl rfl ?_
          refine rn_iconst 45 d_M_heatOf_44 rfl ?_
          refine rn_imul 46 d_M_heatOf_45 rfl ?_
          rw [Int.mul_comm b 2]
          refine rn_iload_n 47 d_M_heatOf_46 rfl rfl ?_
          refine rn_iadd 48 d_M_heatOf_47 rfl ?_
          refine rn_iaload 49 d_M_heatOf_48 rfl rfl (by decide) (by omega) (by omega) ?_
          first | (exfalso; omega) | exact rn_ireturn d_M_heatOf_49 (Or.inl rfl) ⟨by unfold aHeatOfM; (first | rw [if_pos (by omega)] | rw [if_neg (by omega)]); try (first | rw [if_pos (by omega)] | rw [if_neg (by omega)]), rfl⟩
        · refine rn_aload_n 31 d_M_heatOf_30 rfl rfl ?_
          refine rn_getfield 34 d_M_heatOf_31 rfl fd_M_39 rfl rfl ?_
          refine rn_iload_n 35 d_M_heatOf_34 rfl rfl ?_
          refine rn_iaload 36 d_M_heatOf_35 rfl rfl (by decide) (by omega) (by omega) ?_
          refine rn_goto 49 d_M_heatOf_36 rfl ?_
          first | (exfalso; omega) | exact rn_ireturn d_M_heatOf_49 (Or.inl rfl) ⟨by unfold aHeatOfM; (first | rw [if_pos (by omega)] | rw [if_neg (by omega)]); try (first | rw [if_pos (by omega)] | rw [if_neg (by omega)]), rfl⟩
      · refine rn_bipush 25 d_M_heatOf_23 rfl rfl ?_
        first | (exfalso; omega) | exact rn_ireturn d_M_heatOf_25 (Or.inl rfl) ⟨by unfold aHeatOfM; (first | rw [if_pos (by omega)] | rw [if_neg (by omega)]); try (first | rw [if_pos (by omega)] | rw [if_neg (by omega)]), rfl⟩
def lvM (σ : av_S) (b e : Int) : Int := if σ 29 b = 0 then 1 else if σ 29 b = 1 then (if σ 38 b = 0 then 0 else 1 + σ 40 (2 * b)) else if (if e = 0 then 1 else 0) = σ 41 b then (if σ 38 b = 1 then 1 else 2 + σ 40 (2 * b + 1)) else 1 + σ 40 (2 * b)
set_option maxRecDepth 100000 in
set_option maxHeartbeats 400000 in
theorem ev_M_leaving {sc : av_sc} {d : Nat} {σ : av_S} {b e : Int} (hb : 0 ≤ b ∧ b < 24) (he : -1 ≤ e ∧ e ≤ 1) (hE : 0 ≤ σ 29 b ∧ σ 29 b ≤ 2) (hLb : iLB σ b) : av_Ev sc m_M_leaving (d) false 0 0 [vR 26, vI b, vI e] (hp σ) (fun r h => r = some (vI (lvM σ b e)) ∧ h = hp σ) := by
  obtain ⟨hl1, hl2, hl3, hl4⟩ := hLb
  refine av_ev rfl rfl (Nat.le_of_ble_eq_true rfl) rfl ?_
  refine rn_iload_n 1 d_M_leaving_0 rfl rfl ?_
  refine rn_iconst 2 d_M_leaving_1 rfl ?_
  refine rn_imul 3 d_M_leaving_2 rfl ?_
  rw [Int.mul_comm b 2]
  refine rn_istore_n 4 d_M_leaving_3 rfl (by decide) rfl rfl ?_
  refine rn_aload_n 5 d_M_leaving_4 rfl rfl ?_
  refine rn_getfield 8 d_M_leaving_5 rfl fd_M_33 rfl rfl ?_
  refine rn_iload_n 9 d_M_leaving_8 rfl rfl ?_
  refine rn_iaload 10 d_M_leaving_9 rfl rfl (by decide) (by omega) (by omega) ?_
  refine rn_if_ne 15 13 d_M_leaving_10 rfl rfl ⟨by omega, by omega⟩ (fun c_10 => ?_) (fun c_10 => ?_)
  · refine rn_aload_n 16 d_M_leaving_15 rfl rfl ?_
    refine rn_getfield 19 d_M_leaving_16 rfl fd_M_33 rfl rfl ?_
    refine rn_iload_n 20 d_M_leaving_19 rfl rfl ?_
    refine rn_iaload 21 d_M_leaving_20 rfl rfl (by decide) (by omega) (by omega) ?_
    refine rn_iconst 22 d_M_leaving_21 rfl ?_
    refine rn_icmp_ne 47 25 d_M_leaving_22 rfl rfl ⟨by omega, by omega⟩ ⟨by omega, by omega⟩ (fun c_22 => ?_) (fun c_22 => ?_)
    · refine rn_iload_n 48 d_M_leaving_47 rfl rfl ?_
      refine rn_if_ne 55 51 d_M_leaving_48 rfl rfl ⟨by omega, by omega⟩ (fun c_48 => ?_) (fun c_48 => ?_)
      · refine rn_iconst 56 d_M_leaving_55 rfl ?_
        refine rn_aload_n 57 d_M_leaving_56 rfl rfl ?_
        refine rn_getfield 60 d_M_leaving_57 rfl fd_M_70 rfl rfl ?_
        refine rn_iload_n 61 d_M_leaving_60 rfl rfl ?_
        refine rn_baload 62 d_M_leaving_61 rfl rfl (by decide) (by omega) (by omega) ?_
        refine rn_icmp_eq 69 65 d_M_leaving_62 rfl rfl ⟨by omega, by omega⟩ ⟨by omega, by omega⟩ (fun c_62 => ?_) (fun c_62 => ?_)
        · refine rn_iconst 70 d_M_leaving_69 rfl ?_
          refine rn_istore 72 d_M_leaving_70 rfl (by decide) rfl rfl ?_
          refine rn_iload 74 d_M_leaving_72 rfl rfl ?_
          refine rn_if_eq 86 77 d_M_leaving_74 rfl rfl ⟨by omega, by omega⟩ (fun c_74 => ?_) (fun c_74 => ?_)
          · refine rn_aload_n 87 d_M_leaving_86 rfl rfl ?_
            refine rn_getfield 90 d_M_leaving_87 rfl fd_M_61 rfl rfl ?_
            refine rn_iload_n 91 d_M_leaving_90 rfl rfl ?_
            refine rn_iaload 92 d_M_leaving_91 rfl rfl (by decide) (by omega) (by omega) ?_
            refine rn_iconst 93 d_M_leaving_92 rfl ?_
            refine rn_icmp_ne 100 96 d_M_leaving_93 rfl rfl ⟨by omega, by omega⟩ ⟨by omega, by omega⟩ (fun c_93 => ?_) (fun c_93 => ?_)
            · refine rn_iconst 101 d_M_leaving_100 rfl ?_
              refine rn_aload_n 102 d_M_leaving_101 rfl rfl ?_
              refine rn_getfield 105 d_M_leaving_102 rfl fd_M_67 rfl rfl ?_
              refine rn_iload_n 106 d_M_leaving_105 rfl rfl ?_
              refine rn_iconst 107 d_M_leaving_106 rfl ?_
              refine rn_iadd 108 d_M_leaving_107 rfl ?_
              refine rn_iaload 109 d_M_leaving_108 rfl rfl (by decide) (by omega) (by omega) ?_
              refine rn_iadd 110 d_M_leaving_109 rfl ?_
              first | (exfalso; omega) | exact rn_ireturn d_M_leaving_110 (Or.inl rfl) ⟨congrArg (fun z => some (vI z)) (by unfold lvM; (try split) <;> (try split) <;> (try split) <;> (try split) <;> omega), rfl⟩
            · refine rn_iconst 97 d_M_leaving_96 rfl ?_
              refine rn_goto 110 d_M_leaving_97 rfl ?_
              first | (exfalso; omega) | exact rn_ireturn d_M_leaving_110 (Or.inl rfl) ⟨congrArg (fun z => some (vI z)) (by unfold lvM; (try split) <;> (try split) <;> (try split) <;> (try split) <;> omega), rfl⟩
          · refine rn_iconst 78 d_M_leaving_77 rfl ?_
            refine rn_aload_n 79 d_M_leaving_78 rfl rfl ?_
            refine rn_getfield 82 d_M_leaving_79 rfl fd_M_67 rfl rfl ?_
            refine rn_iload_n 83 d_M_leaving_82 rfl rfl ?_
            refine rn_iaload 84 d_M_leaving_83 rfl rfl (by decide) (by omega) (by omega) ?_
            refine rn_iadd 85 d_M_leaving_84 rfl ?_
            first | (exfalso; omega) | exact rn_ireturn d_M_leaving_85 (Or.inl rfl) ⟨congrArg (fun z => some (vI z)) (by unfold lvM; (try split) <;> (try split) <;> (try split) <;> (try split) <;> omega), rfl⟩
        · refine rn_iconst 66 d_M_leaving_65 rfl ?_
          refine rn_goto 70 d_M_leaving_66 rfl ?_
          refine rn_istore 72 d_M_leaving_70 rfl (by decide) rfl rfl ?_
          refine rn_iload 74 d_M_leaving_72 rfl rfl ?_
          refine rn_if_eq 86 77 d_M_leaving_74 rfl rfl ⟨by omega, by omega⟩ (fun c_74 => ?_) (fun c_74 => ?_)
          · refine rn_aload_n 87 d_M_leaving_86 rfl rfl ?_
            refine rn_getfield 90 d_M_leaving_87 rfl fd_M_61 rfl rfl ?_
            refine rn_iload_n 91 d_M_leaving_90 rfl rfl ?_
            refine rn_iaload 92 d_M_leaving_91 rfl rfl (by decide) (by omega) (by omega) ?_
            refine rn_iconst 93 d_M_leaving_92 rfl ?_
            refine rn_icmp_ne 100 96 d_M_leaving_93 rfl rfl ⟨by omega, by omega⟩ ⟨by omega, by omega⟩ (fun c_93 => ?_) (fun c_93 => ?_)
            · refine rn_iconst 101 d_M_leaving_100 rfl ?_
              refine rn_aload_n 102 d_M_leaving_101 rfl rfl ?_
              refine rn_getfield 105 d_M_leaving_102 rfl fd_M_67 rfl rfl ?_
              refine rn_iload_n 106 d_M_leaving_105 rfl rfl ?_
              refine rn_iconst 107 d_M_leaving_106 rfl ?_
              refine rn_iadd 108 d_M_leaving_107 rfl ?_
              refine rn_iaload 109 d_M_leaving_108 rfl rfl (by decide) (by omega) (by omega) ?_
              refine rn_iadd 110 d_M_leaving_109 rfl ?_
              first | (exfalso; omega) | exact rn_ireturn d_M_leaving_110 (Or.inl rfl) ⟨congrArg (fun z => some (vI z)) (by unfold lvM; (try split) <;> (try split) <;> (try split) <;> (try split) <;> omega), rfl⟩
            · refine rn_iconst 97 d_M_leaving_96 rfl ?_
              refine rn_goto 110 d_M_leaving_97 rfl ?_
              first | (exfalso; omega) | exact rn_ireturn d_M_leaving_110 (Or.inl rfl) ⟨congrArg (fun z => some (vI z)) (by unfold lvM; (try split) <;> (try split) <;> (try split) <;> (try split) <;> omega), rfl⟩
          · refine rn_iconst 78 d_M_leaving_77 rfl ?_
            refine rn_aload_n 79 d_M_leaving_78 rfl rfl ?_
            refine rn_getfield 82 d_M_leaving_79 rfl fd_M_67 rfl rfl ?_
            refine rn_iload_n 83 d_M_leaving_82 rfl rfl ?_
            refine rn_iaload 84 d_M_leaving_83 rfl rfl (by decide) (by omega) (by omega) ?_
            refine rn_iadd 85 d_M_leaving_84 rfl ?_
            first | (exfalso; omega) | exact rn_ireturn d_M_leaving_85 (Or.inl rfl) ⟨congrArg (fun z => some (vI z)) (by unfold lvM; (try split) <;> (try split) <;> (try split) <;> (try split) <;> omega), rfl⟩
      · refine rn_iconst 52 d_M_leaving_51 rfl ?_
        refine rn_goto 56 d_M_leaving_52 rfl ?_
        refine rn_aload_n 57 d_M_leaving_56 rfl rfl ?_
        refine rn_getfield 60 d_M_leaving_57 rfl fd_M_70 rfl rfl ?_
        refine rn_iload_n 61 d_M_leaving_60 rfl rfl ?_
        refine rn_baload 62 d_M_leaving_61 rfl rfl (by decide) (by omega) (by omega) ?_
        refine rn_icmp_eq 69 65 d_M_leaving_62 rfl rfl ⟨by omega, by omega⟩ ⟨by omega, by omega⟩ (fun c_62 => ?_) (fun c_62 => ?_)
        · refine rn_iconst 70 d_M_leaving_69 rfl ?_
          refine rn_istore 72 d_M_leaving_70 rfl (by decide) rfl rfl ?_
          refine rn_iload 74 d_M_leaving_72 rfl rfl ?_
          refine rn_if_eq 86 77 d_M_leaving_74 rfl rfl ⟨by omega, by omega⟩ (fun c_74 => ?_) (fun c_74 => ?_)
          · refine rn_aload_n 87 d_M_leaving_86 rfl rfl ?_
            refine rn_getfield 90 d_M_leaving_87 rfl fd_M_61 rfl rfl ?_
            refine rn_iload_n 91 d_M_leaving_90 rfl rfl ?_
            refine rn_iaload 92 d_M_leaving_91 rfl rfl (by decide) (by omega) (by omega) ?_
            refine rn_iconst 93 d_M_leaving_92 rfl ?_
            refine rn_icmp_ne 100 96 d_M_leaving_93 rfl rfl ⟨by omega, by omega⟩ ⟨by omega, by omega⟩ (fun c_93 => ?_) (fun c_93 => ?_)
            · refine rn_iconst 101 d_M_leaving_100 rfl ?_
              refine rn_aload_n 102 d_M_leaving_101 rfl rfl ?_
              refine rn_getfield 105 d_M_leaving_102 rfl fd_M_67 rfl rfl ?_
              refine rn_iload_n 106 d_M_leaving_105 rfl rfl ?_
              refine rn_iconst 107 d_M_leaving_106 rfl ?_
              refine rn_iadd 108 d_M_leaving_107 rfl ?_
              refine rn_iaload 109 d_M_leaving_108 rfl rfl (by decide) (by omega) (by omega) ?_
              refine rn_iadd 110 d_M_leaving_109 rfl ?_
              first | (exfalso; omega) | exact rn_ireturn d_M_leaving_110 (Or.inl rfl) ⟨congrArg (fun z => some (vI z)) (by unfold lvM; (try split) <;> (try split) <;> (try split) <;> (try split) <;> omega), rfl⟩
            · refine rn_iconst 97 d_M_leaving_96 rfl ?_
              refine rn_goto 110 d_M_leaving_97 rfl ?_
              first | (exfalso; omega) | exact rn_ireturn d_M_leaving_110 (Or.inl rfl) ⟨congrArg (fun z => some (vI z)) (by unfold lvM; (try split) <;> (try split) <;> (try split) <;> (try split) <;> omega), rfl⟩
          · refine rn_iconst 78 d_M_leaving_77 rfl ?_
            refine rn_aload_n 79 d_M_leaving_78 rfl rfl ?_
            refine rn_getfield 82 d_M_leaving_79 rfl fd_M_67 rfl rfl ?_
            refine rn_iload_n 83 d_M_leaving_82 rfl rfl ?_
            refine rn_iaload 84 d_M_leaving_83 rfl rfl (by decide) (by omega) (by omega) ?_
            refine rn_iadd 85 d_M_leaving_84 rfl ?_
            first | (exfalso; omega) | exact rn_ireturn d_M_leaving_85 (Or.inl rfl) ⟨congrArg (fun z => some (vI z)) (by unfold lvM; (try split) <;> (try split) <;> (try split) <;> (try split) <;> omega), rfl⟩
        · refine rn_iconst 66 d_M_leaving_65 rfl ?_
          refine rn_goto 70 d_M_leaving_66 rfl ?_
          refine rn_istore 72 d_M_leaving_70 rfl (by decide) rfl rfl ?_
          refine rn_iload 74 d_M_leaving_72 rfl rfl ?_
          refine rn_if_eq 86 77 d_M_leaving_74 rfl rfl ⟨by omega, by omega⟩ (fun c_74 => ?_) (fun c_74 => ?_)
          · refine rn_aload_n 87 d_M_leaving_86 rfl rfl ?_
            refine rn_getfield 90 d_M_leaving_87 rfl fd_M_61 rfl rfl ?_
            refine rn_iload_n 91 d_M_leaving_90 rfl rfl ?_
            refine rn_iaload 92 d_M_leaving_91 rfl rfl (by decide) (by omega) (by omega) ?_
            refine rn_iconst 93 d_M_leaving_92 rfl ?_
            refine rn_icmp_ne 100 96 d_M_leaving_93 rfl rfl ⟨by omega, by omega⟩ ⟨by omega, by omega⟩ (fun c_93 => ?_) (fun c_93 => ?_)
            · refine rn_iconst 101 d_M_leaving_100 rfl ?_
              refine rn_aload_n 102 d_M_leaving_101 rfl rfl ?_
              refine rn_getfield 105 d_M_leaving_102 rfl fd_M_67 rfl rfl ?_
              refine rn_iload_n 106 d_M_leaving_105 rfl rfl ?_
              refine rn_iconst 107 d_M_leaving_106 rfl ?_
              refine rn_iadd 108 d_M_leaving_107 rfl ?_
              refine rn_iaload 109 d_M_leaving_108 rfl rfl (by decide) (by omega) (by omega) ?_
              refine rn_iadd 110 d_M_leaving_109 rfl ?_
              first | (exfalso; omega) | exact rn_ireturn d_M_leaving_110 (Or.inl rfl) ⟨congrArg (fun z => some (vI z)) (by unfold lvM; (try split) <;> (try split) <;> (try split) <;> (try split) <;> omega), rfl⟩
            · refine rn_iconst 97 d_M_leaving_96 rfl ?_
              refine rn_goto 110 d_M_leaving_97 rfl ?_
              first | (exfalso; omega) | exact rn_ireturn d_M_leaving_110 (Or.inl rfl) ⟨congrArg (fun z => some (vI z)) (by unfold lvM; (try split) <;> (try split) <;> (try split) <;> (try split) <;> omega), rfl⟩
          · refine rn_iconst 78 d_M_leaving_77 rfl ?_
            refine rn_aload_n 79 d_M_leaving_78 rfl rfl ?_
            refine rn_getfield 82 d_M_leaving_79 rfl fd_M_67 rfl rfl ?_
            refine rn_iload_n 83 d_M_leaving_82 rfl rfl ?_
            refine rn_iaload 84 d_M_leaving_83 rfl rfl (by decide) (by omega) (by omega) ?_
            refine rn_iadd 85 d_M_leaving_84 rfl ?_
            first | (exfalso; omega) | exact rn_ireturn d_M_leaving_85 (Or.inl rfl) ⟨congrArg (fun z => some (vI z)) (by unfold lvM; (try split) <;> (try split) <;> (try split) <;> (try split) <;> omega), rfl⟩
    · refine rn_aload_n 26 d_M_leaving_25 rfl rfl ?_
      refine rn_getfield 29 d_M_leaving_26 rfl fd_M_61 rfl rfl ?_
      refine rn_iload_n 30 d_M_leaving_29 rfl rfl ?_
      refine rn_iaload 31 d_M_leaving_30 rfl rfl (by decide) (by omega) (by omega) ?_
      refine rn_if_ne 38 34 d_M_leaving_31 rfl rfl ⟨by omega, by omega⟩ (fun c_31 => ?_) (fun c_31 => ?_)
      · refine rn_iconst 39 d_M_leaving_38 rfl ?_
        refine rn_aload_n 40 d_M_leaving_39 rfl rfl ?_
        refine rn_getfield 43 d_M_leaving_40 rfl fd_M_67 rfl rfl ?_
        refine rn_iload_n 44 d_M_leaving_43 rfl rfl ?_
        refine rn_iaload 45 d_M_leaving_44 rfl rfl (by decide) (by omega) (by omega) ?_
        refine rn_iadd 46 d_M_leaving_45 rfl ?_
        first | (exfalso; omega) | exact rn_ireturn d_M_leaving_46 (Or.inl rfl) ⟨congrArg (fun z => some (vI z)) (by unfold lvM; (try split) <;> (try split) <;> (try split) <;> (try split) <;> omega), rfl⟩
      · refine rn_iconst 35 d_M_leaving_34 rfl ?_
        refine rn_goto 46 d_M_leaving_35 rfl ?_
        first | (exfalso; omega) | exact rn_ireturn d_M_leaving_46 (Or.inl rfl) ⟨congrArg (fun z => some (vI z)) (by unfold lvM; (try split) <;> (try split) <;> (try split) <;> (try split) <;> omega), rfl⟩
  · refine rn_iconst 14 d_M_leaving_13 rfl ?_
    first | (exfalso; omega) | exact rn_ireturn d_M_leaving_14 (Or.inl rfl) ⟨congrArg (fun z => some (vI z)) (by unfold lvM; (try split) <;> (try split) <;> (try split) <;> (try split) <;> omega), rfl⟩
def cSM (σ : av_S) : List (Int × Int) → Int
  | [] => 0
  | p :: r => lvM σ p.1 p.2 + cSM σ r
theorem lvM_e {σ : av_S} {b e e' : Int} (h : σ 29 b = 0 ∨ σ 29 b = 1) : lvM σ b e = lvM σ b e' := by
  unfold lvM
  rcases h with h | h
  · rw [if_pos h, if_pos h]
  · have h0 : ¬ σ 29 b = 0 := by omega
    simp only [if_neg h0, if_pos h]
theorem eM_lv {σ : av_S} {EN : Int → Int} {b i x : Int} (he : EN b = σ 29 b) (h : 0 ≤ σ 29 b ∧ σ 29 b ≤ 2) (hi : 0 ≤ i) : lvM σ b (eM (σ 29) b i x) = lvM σ b (wE EN x i b) := by
  by_cases h0 : σ 29 b = 0
  · exact lvM_e (Or.inl h0)
  · rw [eM_wE he h h0 hi]
set_option maxRecDepth 100000 in
set_option maxHeartbeats 400000 in
theorem costM_loop {sc : av_sc} {d n0 bc bs : Nat} {al : Bool} {σ : av_S} {EN TO : Int → Int} {fv x : Int} {Φ : Option av_V → av_H → Prop} (hn : 0 ≤ σ 26 1 ∧ σ 26 1 ≤ 24) (hB : ∀ b, 0 ≤ b → b < σ 26 1 → iMB σ b) (hL : iLM σ) (hw : hW σ EN TO) (hx : av_in x) :
    ∀ (k : Nat) (n t b sm : Int), n + ((k + 1 : Nat) : Int) = 60 → 0 ≤ n → 0 ≤ t → t ≤ n → 0 ≤ b → b < σ 26 1 → Φ (some (vI (sm + cSM σ (wk EN TO x (k + 1) t b)))) (hp σ) →
      av_Rn sc m_M_cost (d + 1) al n0 bc bs 41 [some (vR 26), some (vI fv), some (vI x), some (vI b), some (vI n), some (vI t), some (vI sm), none] [] (hp σ) Φ := by
  intro k
  induction k with
  | zero =>
    intro n t b sm hk h0 ht0 ht hb0 hb hΦ
    have hBb := hB b hb0 hb
    have hEb := hBb.2.2.1
    have hwb := hw b hb0 hb
    have e1 : wk EN TO x 1 t b = [(b, wE EN x t b)] := if_neg (by omega)
    rw [e1] at hΦ
    have e2 : sm + cSM σ [(b, wE EN x t b)] = sm + lvM σ b (wE EN x t b) := by show sm + (lvM σ b (wE EN x t b) + 0) = _; omega
    rw [e2, ← eM_lv hwb.1 hEb ht0] at hΦ
    have hei := eM_in (en := σ 29) (b := b) (i := t) (x := x) hEb
    refine rn_iinc 44 d_M_cost_41 rfl rfl (by decide) rfl rfl ?_
    refine rn_aload_n 45 d_M_cost_44 rfl rfl ?_
    refine rn_iload_n 46 d_M_cost_45 rfl rfl ?_
    refine rn_iload 48 d_M_cost_46 rfl rfl ?_
    refine rn_iload_n 49 d_M_cost_48 rfl rfl ?_
    refine rn_callV3 52 d_M_cost_49 rfl cw_M_96 rfl (Nat.le_of_ble_eq_true rfl) (ev_M_edge ⟨by omega, by omega⟩ ⟨by omega, by omega⟩ hEb) ?_
    rintro _ _ ⟨rfl, rfl⟩
    refine rn_istore 54 d_M_cost_52 rfl (by decide) rfl rfl ?_
    refine rn_iload 56 d_M_cost_54 rfl rfl ?_
    refine rn_aload_n 57 d_M_cost_56 rfl rfl ?_
    refine rn_iload_n 58 d_M_cost_57 rfl rfl ?_
    refine rn_iload 60 d_M_cost_58 rfl rfl ?_
    refine rn_callV2 63 d_M_cost_60 rfl cw_M_149 rfl (Nat.le_of_ble_eq_true rfl) (ev_M_leaving ⟨by omega, by omega⟩ hei hEb (hL b hb0 hb)) ?_
    rintro _ _ ⟨rfl, rfl⟩
    refine rn_iadd 64 d_M_cost_63 rfl ?_
    refine rn_istore 66 d_M_cost_64 rfl (by decide) rfl rfl ?_
    refine rn_iload 68 d_M_cost_66 rfl rfl ?_
    refine rn_bipush 70 d_M_cost_68 rfl rfl ?_
    refine rn_icmp_eq 78 73 d_M_cost_70 rfl rfl ⟨by omega, by omega⟩ ⟨by omega, by omega⟩ (fun c_70 => ?_) (fun c_70 => ?_)
    · refine rn_iload 80 d_M_cost_78 rfl rfl ?_
      exact rn_ireturn d_M_cost_80 (Or.inl rfl) hΦ
    · omega
  | succ k ih =>
    intro n t b sm hk h0 ht0 ht hb0 hb hΦ
    have hBb := hB b hb0 hb
    have hEb := hBb.2.2.1
    have hwb := hw b hb0 hb
    have e1 : wk EN TO x (k + 1 + 1) t b = (b, wE EN x t b) :: wk EN TO x (k + 1) (wT EN t b) (TO (2 * b + wE EN x t b)) := if_neg (by omega)
    rw [e1] at hΦ
    have e2 : sm + cSM σ ((b, wE EN x t b) :: wk EN TO x (k + 1) (wT EN t b) (TO (2 * b + wE EN x t b))) = sm + lvM σ b (eM (σ 29) b t x) + cSM σ (wk EN TO x (k + 1) (wT EN t b) (TO (2 * b + wE EN x t b))) := by
      rw [eM_lv hwb.1 hEb ht0]; show sm + (lvM σ b (wE EN x t b) + _) = _; omega
    rw [e2] at hΦ
    have hei := eM_in (en := σ 29) (b := b) (i := t) (x := x) hEb
    have hng := eM_neg (en := σ 29) (b := b) (i := t) (x := x) hEb
    refine rn_iinc 44 d_M_cost_41 rfl rfl (by decide) rfl rfl ?_
    refine rn_aload_n 45 d_M_cost_44 rfl rfl ?_
    refine rn_iload_n 46 d_M_cost_45 rfl rfl ?_
    refine rn_iload 48 d_M_cost_46 rfl rfl ?_
    refine rn_iload_n 49 d_M_cost_48 rfl rfl ?_
    refine rn_callV3 52 d_M_cost_49 rfl cw_M_96 rfl (Nat.le_of_ble_eq_true rfl) (ev_M_edge ⟨by omega, by omega⟩ ⟨by omega, by omega⟩ hEb) ?_
    rintro _ _ ⟨rfl, rfl⟩
    refine rn_istore 54 d_M_cost_52 rfl (by decide) rfl rfl ?_
    refine rn_iload 56 d_M_cost_54 rfl rfl ?_
    refine rn_aload_n 57 d_M_cost_56 rfl rfl ?_
    refine rn_iload_n 58 d_M_cost_57 rfl rfl ?_
    refine rn_iload 60 d_M_cost_58 rfl rfl ?_
    refine rn_callV2 63 d_M_cost_60 rfl cw_M_149 rfl (Nat.le_of_ble_eq_true rfl) (ev_M_leaving ⟨by omega, by omega⟩ hei hEb (hL b hb0 hb)) ?_
    rintro _ _ ⟨rfl, rfl⟩
    refine rn_iadd 64 d_M_cost_63 rfl ?_
    refine rn_istore 66 d_M_cost_64 rfl (by decide) rfl rfl ?_
    refine rn_iload 68 d_M_cost_66 rfl rfl ?_
    refine rn_bipush 70 d_M_cost_68 rfl rfl ?_
    refine rn_icmp_eq 78 73 d_M_cost_70 rfl rfl ⟨by omega, by omega⟩ ⟨by omega, by omega⟩ (fun c_70 => ?_) (fun c_70 => ?_)
    · omega
    · refine rn_iload 75 d_M_cost_73 rfl rfl ?_
      refine rn_if_ge 81 78 d_M_cost_75 rfl rfl ⟨by omega, by omega⟩ (fun c_75 => ?_) (fun c_75 => ?_)
      · have q0 : σ 29 b ≠ 0 := fun q => by have := hng.mpr q; omega
        have q1 : eM (σ 29) b t x = wE EN x t b := eM_wE hwb.1 hEb q0 ht0
        rw [q1] at hΦ ⊢
        have q2 : 0 ≤ wE EN x t b ∧ wE EN x t b < σ 29 b := by unfold wE; rw [hwb.1]; split <;> (try split) <;> omega
        have hTO : TO (2 * b + wE EN x t b) = σ 30 (2 * b + wE EN x t b) := by rw [hwb.2 _ q2.1 (by omega), if_pos q2.2]
        have hto := hBb.2.2.2 _ q2.1 q2.2
        have J : ∀ t' : Int, t' = wT EN t b → av_Rn sc m_M_cost (d + 1) al n0 bc bs 94 [some (vR 26), some (vI fv), some (vI x), some (vI b), some (vI (n + 1)), some (vI t'), some (vI (sm + lvM σ b (wE EN x t b))), some (vI (wE EN x t b))] [] (hp σ) Φ := by
          intro t' ht'
          have hT1 : 0 ≤ t' ∧ t' ≤ n + 1 := by rw [ht']; unfold wT; split <;> omega
          refine rn_aload_n 95 d_M_cost_94 rfl rfl ?_
          refine rn_getfield 98 d_M_cost_95 rfl fd_M_36 rfl rfl ?_
          refine rn_iload_n 99 d_M_cost_98 rfl rfl ?_
          refine rn_iconst 100 d_M_cost_99 rfl ?_
          refine rn_imul 101 d_M_cost_100 rfl ?_
          rw [Int.mul_comm b 2]
          refine rn_iload 103 d_M_cost_101 rfl rfl ?_
          refine rn_iadd 104 d_M_cost_103 rfl ?_
          refine rn_iaload 105 d_M_cost_104 rfl rfl (by decide) (by omega) (by omega) ?_
          refine rn_istore_n 106 d_M_cost_105 rfl (by decide) rfl rfl ?_
          refine rn_goto 41 d_M_cost_106 rfl ?_
          refine rn_kill 7 rfl ?_
          refine ih (n + 1) _ _ _ (by omega) (by omega) (by omega) (by omega) (by omega) (by omega) ?_
          rw [ht', ← hTO]
          exact hΦ
        refine rn_aload_n 82 d_M_cost_81 rfl rfl ?_
        refine rn_getfield 85 d_M_cost_82 rfl fd_M_33 rfl rfl ?_
        refine rn_iload_n 86 d_M_cost_85 rfl rfl ?_
        refine rn_iaload 87 d_M_cost_86 rfl rfl (by decide) (by omega) (by omega) ?_
        refine rn_iconst 88 d_M_cost_87 rfl ?_
        refine rn_icmp_ne 94 91 d_M_cost_88 rfl rfl ⟨by omega, by omega⟩ ⟨by omega, by omega⟩ (fun c_88 => ?_) (fun c_88 => ?_)
        · exact J _ (by unfold wT; rw [hwb.1]; first | rw [if_neg c_88] | rw [if_pos c_88])
        · refine rn_iinc 94 d_M_cost_91 rfl rfl (by decide) rfl rfl ?_
          exact J _ (by unfold wT; rw [hwb.1]; first | rw [if_neg c_88] | rw [if_pos c_88])
      · refine rn_iload 80 d_M_cost_78 rfl rfl ?_
        have q0 := hng.mp (by omega)
        have q1 : wE EN x t b = 0 := by unfold wE; rw [hwb.1, if_neg (by omega)]
        have q2 : TO (2 * b + wE EN x t b) = -1 := by rw [q1, hwb.2 0 (by omega) (by omega), if_neg (by omega)]
        have q3 : wk EN TO x (k + 1) (wT EN t b) (TO (2 * b + wE EN x t b)) = [] := by rw [q2]; exact if_pos rfl
        rw [q3] at hΦ
        rw [show sm + lvM σ b (eM (σ 29) b t x) + cSM σ [] = sm + lvM σ b (eM (σ 29) b t x) from Int.add_zero _] at hΦ
        exact rn_ireturn d_M_cost_80 (Or.inl rfl) hΦ
set_option maxRecDepth 100000 in
set_option maxHeartbeats 400000 in
theorem ev_M_cost {sc : av_sc} {d : Nat} {σ : av_S} {f x e : Int} {EN TO : Int → Int} (hf : av_in f) (hx : av_in x) (hI : iM σ) (hL : σ 26 5 = 1 → iLM σ) (hw : hW σ EN TO) (hE : 0 ≤ f → f ≤ 3 → iEM σ f e) : av_Ev sc m_M_cost (d + 1) false 0 0 [vR 26, vI f, vI x] (hp σ) (fun r h => (¬ (σ 26 5 = 1 ∧ (0 ≤ f ∧ f ≤ 3) ∧ e ≠ -1) ∧ r = some (vI (-1)) ∧ h = hp σ) ∨ ((σ 26 5 = 1 ∧ (0 ≤ f ∧ f ≤ 3) ∧ e ≠ -1) ∧ r = some (vI (cSM σ (wk EN TO x 60 0 e))) ∧ h = hp σ)) := by
  obtain ⟨hn, hB, hc31, hc32, hlo, hrg⟩ := id hI
  obtain ⟨hf1, hf2⟩ := hf
  refine av_ev rfl rfl (Nat.le_of_ble_eq_true rfl) rfl ?_
  refine rn_iload_n 1 d_M_cost_0 rfl rfl ?_
  refine rn_if_lt 9 4 d_M_cost_1 rfl rfl ⟨by omega, by omega⟩ (fun c_1 => ?_) (fun c_1 => ?_)
  · refine rn_iconst 10 d_M_cost_9 rfl ?_
    refine rn_goto 18 d_M_cost_10 rfl ?_
    refine rn_istore_n 19 d_M_cost_18 rfl (by decide) rfl rfl ?_
    refine rn_iconst 20 d_M_cost_19 rfl ?_
    refine rn_istore 22 d_M_cost_20 rfl (by decide) rfl rfl ?_
    refine rn_iconst 23 d_M_cost_22 rfl ?_
    refine rn_istore 25 d_M_cost_23 rfl (by decide) rfl rfl ?_
    refine rn_iconst 26 d_M_cost_25 rfl ?_
    refine rn_istore 28 d_M_cost_26 rfl (by decide) rfl rfl ?_
    refine rn_iload_n 29 d_M_cost_28 rfl rfl ?_
    refine rn_if_lt 39 32 d_M_cost_29 rfl rfl ⟨by omega, by omega⟩ (fun c_29 => ?_) (fun c_29 => ?_)
    · refine rn_iconst 40 d_M_cost_39 rfl ?_
      exact rn_ireturn d_M_cost_40 (Or.inl rfl) (Or.inl ⟨(by omega), rfl, rfl⟩)
    · refine rn_aload_n 33 d_M_cost_32 rfl rfl ?_
      refine rn_getfield 36 d_M_cost_33 rfl fd_M_22 rfl rfl ?_
      refine rn_if_ne 41 39 d_M_cost_36 rfl rfl ⟨by omega, by omega⟩ (fun c_36 => ?_) (fun c_36 => ?_)
      · first | (exfalso; omega) | (refine costM_loop hn hB (hL (by omega)) hw hx 59 0 0 e 0 (by omega) (by omega) (by omega) (by omega) (by omega) (by rcases hEf with ⟨q, -⟩ | ⟨q, -⟩ <;> omega) (Or.inr ⟨⟨by omega, ⟨by omega, by omega⟩, by omega⟩, ?_, rfl⟩); rw [Int.zero_add])
      · refine rn_iconst 40 d_M_cost_39 rfl ?_
        exact rn_ireturn d_M_cost_40 (Or.inl rfl) (Or.inl ⟨(by omega), rfl, rfl⟩)
  · refine rn_iload_n 5 d_M_cost_4 rfl rfl ?_
    refine rn_iconst 6 d_M_cost_5 rfl ?_
    refine rn_icmp_le 13 9 d_M_cost_6 rfl rfl ⟨by omega, by omega⟩ ⟨by omega, by omega⟩ (fun c_6 => ?_) (fun c_6 => ?_)
    · have hEf := hE (by omega) (by omega)
      have hei : -1 ≤ e ∧ e < 24 := by rcases hEf with ⟨q, -⟩ | ⟨q, -⟩ <;> omega
      refine rn_aload_n 14 d_M_cost_13 rfl rfl ?_
      refine rn_iload_n 15 d_M_cost_14 rfl rfl ?_
      refine rn_callV1 18 d_M_cost_15 rfl cw_M_88 rfl (Nat.le_of_ble_eq_true rfl) (ev_M_entry hn (fun b q0 q1 => (hB b q0 q1).1) ⟨by omega, by omega⟩ hEf) ?_
      rintro _ _ ⟨rfl, rfl⟩
      refine rn_istore_n 19 d_M_cost_18 rfl (by decide) rfl rfl ?_
      refine rn_iconst 20 d_M_cost_19 rfl ?_
      refine rn_istore 22 d_M_cost_20 rfl (by decide) rfl rfl ?_
      refine rn_iconst 23 d_M_cost_22 rfl ?_
      refine rn_istore 25 d_M_cost_23 rfl (by decide) rfl rfl ?_
      refine rn_iconst 26 d_M_cost_25 rfl ?_
      refine rn_istore 28 d_M_cost_26 rfl (by decide) rfl rfl ?_
      refine rn_iload_n 29 d_M_cost_28 rfl rfl ?_
      refine rn_if_lt 39 32 d_M_cost_29 rfl rfl ⟨by omega, by omega⟩ (fun c_29 => ?_) (fun c_29 => ?_)
      · refine rn_iconst 40 d_M_cost_39 rfl ?_
        exact rn_ireturn d_M_cost_40 (Or.inl rfl) (Or.inl ⟨(by omega), rfl, rfl⟩)
      · refine rn_aload_n 33 d_M_cost_32 rfl rfl ?_
        refine rn_getfield 36 d_M_cost_33 rfl fd_M_22 rfl rfl ?_
        refine rn_if_ne 41 39 d_M_cost_36 rfl rfl ⟨by omega, by omega⟩ (fun c_36 => ?_) (fun c_36 => ?_)
        · first | (exfalso; omega) | (refine costM_loop hn hB (hL (by omega)) hw hx 59 0 0 e 0 (by omega) (by omega) (by omega) (by omega) (by omega) (by rcases hEf with ⟨q, -⟩ | ⟨q, -⟩ <;> omega) (Or.inr ⟨⟨by omega, ⟨by omega, by omega⟩, by omega⟩, ?_, rfl⟩); rw [Int.zero_add])
        · refine rn_iconst 40 d_M_cost_39 rfl ?_
          exact rn_ireturn d_M_cost_40 (Or.inl rfl) (Or.inl ⟨(by omega), rfl, rfl⟩)
    · refine rn_iconst 10 d_M_cost_9 rfl ?_
      refine rn_goto 18 d_M_cost_10 rfl ?_
      refine rn_istore_n 19 d_M_cost_18 rfl (by decide) rfl rfl ?_
      refine rn_iconst 20 d_M_cost_19 rfl ?_
      refine rn_istore 22 d_M_cost_20 rfl (by decide) rfl rfl ?_
      refine rn_iconst 23 d_M_cost_22 rfl ?_
      refine rn_istore 25 d_M_cost_23 rfl (by decide) rfl rfl ?_
      refine rn_iconst 26 d_M_cost_25 rfl ?_
      refine rn_istore 28 d_M_cost_26 rfl (by decide) rfl rfl ?_
      refine rn_iload_n 29 d_M_cost_28 rfl rfl ?_
      refine rn_if_lt 39 32 d_M_cost_29 rfl rfl ⟨by omega, by omega⟩ (fun c_29 => ?_) (fun c_29 => ?_)
      · refine rn_iconst 40 d_M_cost_39 rfl ?_
        exact rn_ireturn d_M_cost_40 (Or.inl rfl) (Or.inl ⟨(by omega), rfl, rfl⟩)
      · refine rn_aload_n 33 d_M_cost_32 rfl rfl ?_
        refine rn_getfield 36 d_M_cost_33 rfl fd_M_22 rfl rfl ?_
        refine rn_if_ne 41 39 d_M_cost_36 rfl rfl ⟨by omega, by omega⟩ (fun c_36 => ?_) (fun c_36 => ?_)
        · first | (exfalso; omega) | (refine costM_loop hn hB (hL (by omega)) hw hx 59 0 0 e 0 (by omega) (by omega) (by omega) (by omega) (by omega) (by rcases hEf with ⟨q, -⟩ | ⟨q, -⟩ <;> omega) (Or.inr ⟨⟨by omega, ⟨by omega, by omega⟩, by omega⟩, ?_, rfl⟩); rw [Int.zero_add])
        · refine rn_iconst 40 d_M_cost_39 rfl ?_
          exact rn_ireturn d_M_cost_40 (Or.inl rfl) (Or.inl ⟨(by omega), rfl, rfl⟩)
def uM (σ : av_S) (b : Int) : Int := σ 28 b + (if σ 29 b = 0 then 1 else 0) + (if 0 < σ 38 b then σ 40 (2 * b) else 0) + (if 1 < σ 38 b then σ 40 (2 * b + 1) else 0)
def sm (f : Int → Int) : Nat → Int
  | 0 => 0
  | k + 1 => sm f k + f (k : Int)
set_option maxRecDepth 100000 in
set_option maxHeartbeats 400000 in
theorem ev_M_units {sc : av_sc} {d : Nat} {σ : av_S} {b : Int} (hb : 0 ≤ b ∧ b < 24) (hE : 0 ≤ σ 29 b ∧ σ 29 b ≤ 2) (hLb : iLB σ b) : av_Ev sc m_M_units d false 0 0 [vR 26, vI b] (hp σ) (fun r h => r = some (vI (uM σ b)) ∧ h = hp σ) := by
  obtain ⟨hl1, hl2, hl3, hl4⟩ := hLb
  refine av_ev rfl rfl (Nat.le_of_ble_eq_true rfl) rfl ?_
  have J2 : ∀ n : Int, n = uM σ b → 1 < σ 38 b → av_Rn sc m_M_units d false (hp σ).length 0 0 24 [some (vR 26), some (vI b), some (vI n), some (vI 2)] [] (hp σ) (fun r h => r = some (vI (uM σ b)) ∧ h = hp σ) := by
    intro n en hbr
    refine rn_iload_n 25 d_M_units_24 rfl rfl ?_
    refine rn_aload_n 26 d_M_units_25 rfl rfl ?_
    refine rn_getfield 29 d_M_units_26 rfl fd_M_61 rfl rfl ?_
    refine rn_iload_n 30 d_M_units_29 rfl rfl ?_
    refine rn_iaload 31 d_M_units_30 rfl rfl (by decide) (by omega) (by omega) ?_
    refine rn_icmp_ge 53 34 d_M_units_31 rfl rfl ⟨by omega, by omega⟩ ⟨by omega, by omega⟩ (fun c_31 => ?_) (fun c_31 => ?_)
    · refine rn_iload_n 54 d_M_units_53 rfl rfl ?_
      exact rn_ireturn d_M_units_54 (Or.inl rfl) ⟨by rw [en], rfl⟩
    · omega
  have J1 : ∀ n : Int, n = σ 28 b + (if σ 29 b = 0 then 1 else 0) + σ 40 (2 * b) → 0 < σ 38 b → av_Rn sc m_M_units d false (hp σ).length 0 0 24 [some (vR 26), some (vI b), some (vI n), some (vI 1)] [] (hp σ) (fun r h => r = some (vI (uM σ b)) ∧ h = hp σ) := by
    intro n en hbr
    refine rn_iload_n 25 d_M_units_24 rfl rfl ?_
    refine rn_aload_n 26 d_M_units_25 rfl rfl ?_
    refine rn_getfield 29 d_M_units_26 rfl fd_M_61 rfl rfl ?_
    refine rn_iload_n 30 d_M_units_29 rfl rfl ?_
    refine rn_iaload 31 d_M_units_30 rfl rfl (by decide) (by omega) (by omega) ?_
    refine rn_icmp_ge 53 34 d_M_units_31 rfl rfl ⟨by omega, by omega⟩ ⟨by omega, by omega⟩ (fun c_31 => ?_) (fun c_31 => ?_)
    · refine rn_iload_n 54 d_M_units_53 rfl rfl ?_
      exact rn_ireturn d_M_units_54 (Or.inl rfl) ⟨by unfold uM; rw [if_pos hbr, if_neg (show ¬ 1 < σ 38 b by omega), en, Int.add_zero], rfl⟩
    · refine rn_iload_n 35 d_M_units_34 rfl rfl ?_
      refine rn_aload_n 36 d_M_units_35 rfl rfl ?_
      refine rn_getfield 39 d_M_units_36 rfl fd_M_67 rfl rfl ?_
      refine rn_iload_n 40 d_M_units_39 rfl rfl ?_
      refine rn_iconst 41 d_M_units_40 rfl ?_
      refine rn_imul 42 d_M_units_41 rfl ?_
      rw [Int.mul_comm b 2]
      refine rn_iload_n 43 d_M_units_42 rfl rfl ?_
      refine rn_iadd 44 d_M_units_43 rfl ?_
      refine rn_iaload 45 d_M_units_44 rfl rfl (by decide) (by omega) (by omega) ?_
      refine rn_iadd 46 d_M_units_45 rfl ?_
      refine rn_istore_n 47 d_M_units_46 rfl (by decide) rfl rfl ?_
      refine rn_iinc 50 d_M_units_47 rfl rfl (by decide) rfl rfl ?_
      refine rn_goto 24 d_M_units_50 rfl ?_
      exact J2 _ (by unfold uM; rw [if_pos hbr, if_pos (show 1 < σ 38 b by omega), en]) (by omega)
  have J0 : ∀ n : Int, n = σ 28 b + (if σ 29 b = 0 then 1 else 0) → av_Rn sc m_M_units d false (hp σ).length 0 0 24 [some (vR 26), some (vI b), some (vI n), some (vI 0)] [] (hp σ) (fun r h => r = some (vI (uM σ b)) ∧ h = hp σ) := by
    intro n en
    refine rn_iload_n 25 d_M_units_24 rfl rfl ?_
    refine rn_aload_n 26 d_M_units_25 rfl rfl ?_
    refine rn_getfield 29 d_M_units_26 rfl fd_M_61 rfl rfl ?_
    refine rn_iload_n 30 d_M_units_29 rfl rfl ?_
    refine rn_iaload 31 d_M_units_30 rfl rfl (by decide) (by omega) (by omega) ?_
    refine rn_icmp_ge 53 34 d_M_units_31 rfl rfl ⟨by omega, by omega⟩ ⟨by omega, by omega⟩ (fun c_31 => ?_) (fun c_31 => ?_)
    · refine rn_iload_n 54 d_M_units_53 rfl rfl ?_
      exact rn_ireturn d_M_units_54 (Or.inl rfl) ⟨by unfold uM; rw [if_neg (show ¬ 0 < σ 38 b by omega), if_neg (show ¬ 1 < σ 38 b by omega), en, Int.add_zero, Int.add_zero], rfl⟩
    · refine rn_iload_n 35 d_M_units_34 rfl rfl ?_
      refine rn_aload_n 36 d_M_units_35 rfl rfl ?_
      refine rn_getfield 39 d_M_units_36 rfl fd_M_67 rfl rfl ?_
      refine rn_iload_n 40 d_M_units_39 rfl rfl ?_
      refine rn_iconst 41 d_M_units_40 rfl ?_
      refine rn_imul 42 d_M_units_41 rfl ?_
      rw [Int.mul_comm b 2]
      refine rn_iload_n 43 d_M_units_42 rfl rfl ?_
      refine rn_iadd 44 d_M_units_43 rfl ?_
      rw [Int.add_zero]
      refine rn_iaload 45 d_M_units_44 rfl rfl (by decide) (by omega) (by omega) ?_
      refine rn_iadd 46 d_M_units_45 rfl ?_
      refine rn_istore_n 47 d_M_units_46 rfl (by decide) rfl rfl ?_
      refine rn_iinc 50 d_M_units_47 rfl rfl (by decide) rfl rfl ?_
      refine rn_goto 24 d_M_units_50 rfl ?_
      exact J1 _ (by rw [en]) (by omega)
  refine rn_aload_n 1 d_M_units_0 rfl rfl ?_
  refine rn_getfield 4 d_M_units_1 rfl fd_M_30 rfl rfl ?_
  refine rn_iload_n 5 d_M_units_4 rfl rfl ?_
  refine rn_iaload 6 d_M_units_5 rfl rfl (by decide) (by omega) (by omega) ?_
  refine rn_aload_n 7 d_M_units_6 rfl rfl ?_
  refine rn_getfield 10 d_M_units_7 rfl fd_M_33 rfl rfl ?_
  refine rn_iload_n 11 d_M_units_10 rfl rfl ?_
  refine rn_iaload 12 d_M_units_11 rfl rfl (by decide) (by omega) (by omega) ?_
  refine rn_if_ne 19 15 d_M_units_12 rfl rfl ⟨by omega, by omega⟩ (fun c_12 => ?_) (fun c_12 => ?_)
  · refine rn_iconst 20 d_M_units_19 rfl ?_
    refine rn_iadd 21 d_M_units_20 rfl ?_
    refine rn_istore_n 22 d_M_units_21 rfl (by decide) rfl rfl ?_
    refine rn_iconst 23 d_M_units_22 rfl ?_
    refine rn_istore_n 24 d_M_units_23 rfl (by decide) rfl rfl ?_
    exact J0 _ (by first | rw [if_pos (by omega)] | rw [if_neg (by omega)])
  · refine rn_iconst 16 d_M_units_15 rfl ?_
    refine rn_goto 20 d_M_units_16 rfl ?_
    refine rn_iadd 21 d_M_units_20 rfl ?_
    refine rn_istore_n 22 d_M_units_21 rfl (by decide) rfl rfl ?_
    refine rn_iconst 23 d_M_units_22 rfl ?_
    refine rn_istore_n 24 d_M_units_23 rfl (by decide) rfl rfl ?_
    exact J0 _ (by first | rw [if_pos (by omega)] | rw [if_neg (by omega)])
set_option maxRecDepth 100000 in
set_option maxHeartbeats 400000 in
theorem addressOf_loop {sc : av_sc} {d n0 bc bs : Nat} {al : Bool} {σ : av_S} {b : Int} {p : Nat} {Φ : Option av_V → av_H → Prop} (hn : 0 ≤ σ 26 1 ∧ σ 26 1 ≤ 24) (hB : ∀ b, 0 ≤ b → b < σ 26 1 → iMB σ b) (hL : iLM σ) (hO : ∀ k, 0 ≤ k → k < σ 26 1 → 0 ≤ σ 37 k ∧ σ 37 k < σ 26 1) (hb : 0 ≤ b ∧ b < σ 26 1) (hpl : (p : Int) < σ 26 1) (hpb : σ 37 (p : Int) = b) (hpn : ∀ j, 0 ≤ j → j < (p : Int) → σ 37 j ≠ b) (hΦ : Φ (some (vI (sm (fun k => uM σ (σ 37 k)) p))) (hp σ)) :
    ∀ (m k : Nat), k + m = p → av_Rn sc m_M_addressOf (d + 1) al n0 bc bs 4 [some (vR 26), some (vI b), some (vI (sm (fun k => uM σ (σ 37 k)) k)), some (vI (k : Int))] [] (hp σ) Φ := by
  intro m
  induction m with
  | zero =>
    intro k hk
    obtain rfl : k = p := by omega
    refine rn_aload_n 5 d_M_addressOf_4 rfl rfl ?_
    refine rn_getfield 8 d_M_addressOf_5 rfl fd_M_58 rfl rfl ?_
    refine rn_iload_n 9 d_M_addressOf_8 rfl rfl ?_
    refine rn_iaload 10 d_M_addressOf_9 rfl rfl (by decide) (by omega) (by omega) ?_
    rw [hpb]
    refine rn_iload_n 11 d_M_addressOf_10 rfl rfl ?_
    refine rn_icmp_eq 33 14 d_M_addressOf_11 rfl rfl ⟨by omega, by omega⟩ ⟨by omega, by omega⟩ (fun c_11 => ?_) (fun c_11 => ?_)
    · refine rn_iload_n 34 d_M_addressOf_33 rfl rfl ?_
      exact rn_ireturn d_M_addressOf_34 (Or.inl rfl) hΦ
    · exact absurd rfl c_11
  | succ m ih =>
    intro k hk
    have hOk := hO (k : Int) (by omega) (by omega)
    have hne := hpn (k : Int) (by omega) (by omega)
    refine rn_aload_n 5 d_M_addressOf_4 rfl rfl ?_
    refine rn_getfield 8 d_M_addressOf_5 rfl fd_M_58 rfl rfl ?_
    refine rn_iload_n 9 d_M_addressOf_8 rfl rfl ?_
    refine rn_iaload 10 d_M_addressOf_9 rfl rfl (by decide) (by omega) (by omega) ?_
    refine rn_iload_n 11 d_M_addressOf_10 rfl rfl ?_
    refine rn_icmp_eq 33 14 d_M_addressOf_11 rfl rfl ⟨by omega, by omega⟩ ⟨by omega, by omega⟩ (fun c_11 => ?_) (fun c_11 => ?_)
    · exact absurd c_11 hne
    · refine rn_iload_n 15 d_M_addressOf_14 rfl rfl ?_
      refine rn_aload_n 16 d_M_addressOf_15 rfl rfl ?_
      refine rn_aload_n 17 d_M_addressOf_16 rfl rfl ?_
      refine rn_getfield 20 d_M_addressOf_17 rfl fd_M_58 rfl rfl ?_
      refine rn_iload_n 21 d_M_addressOf_20 rfl rfl ?_
      refine rn_iaload 22 d_M_addressOf_21 rfl rfl (by decide) (by omega) (by omega) ?_
      refine rn_callV1 25 d_M_addressOf_22 rfl cw_M_122 rfl (Nat.le_of_ble_eq_true rfl) (ev_M_units ⟨by omega, by omega⟩ (hB _ hOk.1 hOk.2).2.2.1 (hL _ hOk.1 hOk.2)) ?_
      rintro _ _ ⟨rfl, rfl⟩
      refine rn_iadd 26 d_M_addressOf_25 rfl ?_
      refine rn_istore_n 27 d_M_addressOf_26 rfl (by decide) rfl rfl ?_
      refine rn_iinc 30 d_M_addressOf_27 rfl rfl (by decide) rfl rfl ?_
      refine rn_goto 4 d_M_addressOf_30 rfl ?_
      exact ih (k + 1) (by omega)
set_option maxRecDepth 100000 in
set_option maxHeartbeats 400000 in
theorem ev_M_addressOf {sc : av_sc} {d : Nat} {σ : av_S} {b : Int} {p : Nat} (hI : iM σ) (hL : iLM σ) (hO : ∀ k, 0 ≤ k → k < σ 26 1 → 0 ≤ σ 37 k ∧ σ 37 k < σ 26 1) (hb : 0 ≤ b ∧ b < σ 26 1) (hpl : (p : Int) < σ 26 1) (hpb : σ 37 (p : Int) = b) (hpn : ∀ j, 0 ≤ j → j < (p : Int) → σ 37 j ≠ b) : av_Ev sc m_M_addressOf (d + 1) false 0 0 [vR 26, vI b] (hp σ) (fun r h => r = some (vI (sm (fun k => uM σ (σ 37 k)) p)) ∧ h = hp σ) := by
  obtain ⟨hn, hB, hc31, hc32, hlo, hrg⟩ := id hI
  refine av_ev rfl rfl (Nat.le_of_ble_eq_true rfl) rfl ?_
  refine rn_iconst 1 d_M_addressOf_0 rfl ?_
  refine rn_istore_n 2 d_M_addressOf_1 rfl (by decide) rfl rfl ?_
  refine rn_iconst 3 d_M_addressOf_2 rfl ?_
  refine rn_istore_n 4 d_M_addressOf_3 rfl (by decide) rfl rfl ?_
  exact addressOf_loop hn hB hL hO hb hpl hpb hpn ⟨rfl, rfl⟩ p 0 (by omega)
set_option maxRecDepth 100000 in
set_option maxHeartbeats 400000 in
theorem ev_M_address {sc : av_sc} {d : Nat} {σ : av_S} {b : Int} (hb : av_in b) (hI : iM σ) (hL : σ 26 5 = 1 → iLM σ) (hO : ∀ k, 0 ≤ k → k < σ 26 1 → 0 ≤ σ 37 k ∧ σ 37 k < σ 26 1) (hP : σ 26 5 = 1 → 0 ≤ b → b < σ 26 1 → ∃ p : Nat, (p : Int) < σ 26 1 ∧ σ 37 (p : Int) = b ∧ ∀ j, 0 ≤ j → j < (p : Int) → σ 37 j ≠ b) : av_Ev sc m_M_address (d + 2) false 0 0 [vR 26, vI b] (hp σ) (fun r h => (¬ (σ 26 5 = 1 ∧ 0 ≤ b ∧ b < σ 26 1) ∧ r = some (vI (-3)) ∧ h = hp σ) ∨ ((σ 26 5 = 1 ∧ 0 ≤ b ∧ b < σ 26 1) ∧ ∃ p : Nat, (p : Int) < σ 26 1 ∧ σ 37 (p : Int) = b ∧ (∀ j, 0 ≤ j → j < (p : Int) → σ 37 j ≠ b) ∧ r = some (vI (sm (fun k => uM σ (σ 37 k)) p)) ∧ h = hp σ)) := by
  obtain ⟨hn, hB, hc31, hc32, hlo, hrg⟩ := id hI
  refine av_ev rfl rfl (Nat.le_of_ble_eq_true rfl) rfl ?_
  refine rn_aload_n 1 d_M_address_0 rfl rfl ?_
  refine rn_getfield 4 d_M_address_1 rfl fd_M_22 rfl rfl ?_
  refine rn_if_eq 15 7 d_M_address_4 rfl rfl ⟨by omega, by omega⟩ (fun c_4 => ?_) (fun c_4 => ?_)
  · refine rn_bipush 17 d_M_address_15 rfl rfl ?_
    refine rn_goto 25 d_M_address_17 rfl ?_
    first | exact rn_ireturn d_M_address_25 (Or.inl rfl) (Or.inl ⟨(by omega), rfl, rfl⟩) | exact rn_ireturn d_M_address_25 (Or.inl rfl) (Or.inr ⟨(by omega), p, hp1, hp2, hp3, rfl, rfl⟩)
  · refine rn_aload_n 8 d_M_address_7 rfl rfl ?_
    refine rn_iload_n 9 d_M_address_8 rfl rfl ?_
    refine rn_callV1 12 d_M_address_9 rfl cw_M_83 rfl (Nat.le_of_ble_eq_true rfl) (ev_M_no hb hn) ?_
    rintro _ _ ⟨rfl, rfl⟩
    refine rn_ifB_eq 20 15 d_M_address_12 rfl rfl (fun c_12 => ?_) (fun c_12 => ?_)
    · obtain ⟨p, hp1, hp2, hp3⟩ := hP (by omega) (by omega) (by omega)
      refine rn_aload_n 21 d_M_address_20 rfl rfl ?_
      refine rn_iload_n 22 d_M_address_21 rfl rfl ?_
      refine rn_callV1 25 d_M_address_22 rfl cw_M_125 rfl (Nat.le_of_ble_eq_true rfl) (ev_M_addressOf hI (hL (by omega)) hO ⟨by omega, by omega⟩ hp1 hp2 hp3) ?_
      rintro _ _ ⟨rfl, rfl⟩
      first | exact rn_ireturn d_M_address_25 (Or.inl rfl) (Or.inl ⟨(by omega), rfl, rfl⟩) | exact rn_ireturn d_M_address_25 (Or.inl rfl) (Or.inr ⟨(by omega), p, hp1, hp2, hp3, rfl, rfl⟩)
    · refine rn_bipush 17 d_M_address_15 rfl rfl ?_
      refine rn_goto 25 d_M_address_17 rfl ?_
      first | exact rn_ireturn d_M_address_25 (Or.inl rfl) (Or.inl ⟨(by omega), rfl, rfl⟩) | exact rn_ireturn d_M_address_25 (Or.inl rfl) (Or.inr ⟨(by omega), p, hp1, hp2, hp3, rfl, rfl⟩)
set_option maxRecDepth 100000 in
set_option maxHeartbeats 400000 in
theorem total_loop {sc : av_sc} {d n0 bc bs : Nat} {al : Bool} {σ : av_S} {Φ : Option av_V → av_H → Prop} (hn : 0 ≤ σ 26 1 ∧ σ 26 1 ≤ 24) (hB : ∀ b, 0 ≤ b → b < σ 26 1 → iMB σ b) (hL : iLM σ) (hΦ : Φ (some (vI (sm (uM σ) (σ 26 1).toNat))) (hp σ)) :
    ∀ (m k : Nat), (k : Int) + (m : Int) = σ 26 1 → av_Rn sc m_M_total (d + 1) al n0 bc bs 4 [some (vR 26), some (vI (sm (uM σ) k)), some (vI (k : Int))] [] (hp σ) Φ := by
  intro m
  induction m with
  | zero =>
    intro k hk
    obtain rfl : k = (σ 26 1).toNat := by omega
    refine rn_iload_n 5 d_M_total_4 rfl rfl ?_
    refine rn_aload_n 6 d_M_total_5 rfl rfl ?_
    refine rn_getfield 9 d_M_total_6 rfl fd_M_7 rfl rfl ?_
    refine rn_icmp_ge 26 12 d_M_total_9 rfl rfl ⟨by omega, by omega⟩ ⟨by omega, by omega⟩ (fun c_9 => ?_) (fun c_9 => ?_)
    · refine rn_iload_n 27 d_M_total_26 rfl rfl ?_
      exact rn_ireturn d_M_total_27 (Or.inl rfl) hΦ
    · omega
  | succ m ih =>
    intro k hk
    refine rn_iload_n 5 d_M_total_4 rfl rfl ?_
    refine rn_aload_n 6 d_M_total_5 rfl rfl ?_
    refine rn_getfield 9 d_M_total_6 rfl fd_M_7 rfl rfl ?_
    refine rn_icmp_ge 26 12 d_M_total_9 rfl rfl ⟨by omega, by omega⟩ ⟨by omega, by omega⟩ (fun c_9 => ?_) (fun c_9 => ?_)
    · omega
    · refine rn_iload_n 13 d_M_total_12 rfl rfl ?_
      refine rn_aload_n 14 d_M_total_13 rfl rfl ?_
      refine rn_iload_n 15 d_M_total_14 rfl rfl ?_
      refine rn_callV1 18 d_M_total_15 rfl cw_M_122 rfl (Nat.le_of_ble_eq_true rfl) (ev_M_units ⟨by omega, by omega⟩ (hB _ (by omega) (by omega)).2.2.1 (hL _ (by omega) (by omega))) ?_
      rintro _ _ ⟨rfl, rfl⟩
      refine rn_iadd 19 d_M_total_18 rfl ?_
      refine rn_istore_n 20 d_M_total_19 rfl (by decide) rfl rfl ?_
      refine rn_iinc 23 d_M_total_20 rfl rfl (by decide) rfl rfl ?_
      refine rn_goto 4 d_M_total_23 rfl ?_
      exact ih (k + 1) (by omega)
set_option maxRecDepth 100000 in
set_option maxHeartbeats 400000 in
theorem ev_M_total {sc : av_sc} {d : Nat} {σ : av_S} (hI : iM σ) (hL : iLM σ) : av_Ev sc m_M_total (d + 1) false 0 0 [vR 26] (hp σ) (fun r h => r = some (vI (sm (uM σ) (σ 26 1).toNat)) ∧ h = hp σ) := by
  obtain ⟨hn, hB, hc31, hc32, hlo, hrg⟩ := id hI
  refine av_ev rfl rfl (Nat.le_of_ble_eq_true rfl) rfl ?_
  refine rn_iconst 1 d_M_total_0 rfl ?_
  refine rn_istore_n 2 d_M_total_1 rfl (by decide) rfl rfl ?_
  refine rn_iconst 3 d_M_total_2 rfl ?_
  refine rn_istore_n 4 d_M_total_3 rfl (by decide) rfl rfl ?_
  exact total_loop hn hB hL ⟨rfl, rfl⟩ (σ 26 1).toNat 0 (by omega)
end
section
def lgM (σ : av_S) (b : Int) : Int := (if 0 < σ 38 b ∧ σ 40 (2 * b) = 2 then 1 else 0) + (if 1 < σ 38 b ∧ σ 40 (2 * b + 1) = 2 then 1 else 0)
def aCM (σ : av_S) (w n g : Int) : Int := if w = 0 then σ 26 1 else if w < 1 ∨ 5 < w then -1 else if σ 26 5 = 0 then 0 else if w = 1 then sm (uM σ) (σ 26 1).toNat else if w = 2 then n else if w = 3 then g else if w = 4 then σ 26 3 else σ 26 4
set_option maxRecDepth 100000 in
set_option maxHeartbeats 400000 in
theorem count_end {sc : av_sc} {d n0 bc bs : Nat} {al : Bool} {σ : av_S} {w n g i : Int} {Φ : Option av_V → av_H → Prop} (hI : iM σ) (hL : σ 26 5 = 1 → iLM σ) (hw : av_in w) (hΦ : Φ (some (vI (aCM σ w n g))) (hp σ)) :
    av_Rn sc m_M_count (d + 2) al n0 bc bs 79 [some (vR 26), some (vI w), some (vI n), some (vI g), some (vI i), none] [] (hp σ) Φ := by
  obtain ⟨hn, hB, hc31, hc32, hlo, hrg⟩ := id hI
  obtain ⟨hw1, hw2⟩ := hw
  refine rn_iload_n 80 d_M_count_79 rfl rfl ?_
  refine rn_if_ne 88 83 d_M_count_80 rfl rfl ⟨by omega, by omega⟩ (fun c_80 => ?_) (fun c_80 => ?_)
  · refine rn_iload_n 89 d_M_count_88 rfl rfl ?_
    refine rn_iconst 90 d_M_count_89 rfl ?_
    refine rn_icmp_lt 98 93 d_M_count_90 rfl rfl ⟨by omega, by omega⟩ ⟨by omega, by omega⟩ (fun c_90 => ?_) (fun c_90 => ?_)
    · refine rn_iconst 99 d_M_count_98 rfl ?_
      have ea : aCM σ w n g = -1 := by unfold aCM; (first | rw [if_pos (by omega)] | rw [if_neg (by omega)]); try (first | rw [if_pos (by omega)] | rw [if_neg (by omega)]); try (first | rw [if_pos (by omega)] | rw [if_neg (by omega)]); try (first | rw [if_pos (by omega)] | rw [if_neg (by omega)]); try (first | rw [if_pos (by omega)] | rw [if_neg (by omega)]); try (first | rw [if_pos (by omega)] | rw [if_neg (by omega)]); try (first | rw [if_pos (by omega)] | rw [if_neg (by omega)])
      rw [ea] at hΦ
      exact rn_ireturn d_M_count_99 (Or.inl rfl) hΦ
    · refine rn_iload_n 94 d_M_count_93 rfl rfl ?_
      refine rn_iconst 95 d_M_count_94 rfl ?_
      refine rn_icmp_le 100 98 d_M_count_95 rfl rfl ⟨by omega, by omega⟩ ⟨by omega, by omega⟩ (fun c_95 => ?_) (fun c_95 => ?_)
      · refine rn_aload_n 101 d_M_count_100 rfl rfl ?_
        refine rn_getfield 104 d_M_count_101 rfl fd_M_22 rfl rfl ?_
        refine rn_if_ne 109 107 d_M_count_104 rfl rfl ⟨by omega, by omega⟩ (fun c_104 => ?_) (fun c_104 => ?_)
        · refine rn_iload_n 110 d_M_count_109 rfl rfl ?_
          refine rn_iconst 111 d_M_count_110 rfl ?_
          refine rn_icmp_ne 121 114 d_M_count_111 rfl rfl ⟨by omega, by omega⟩ ⟨by omega, by omega⟩ (fun c_111 => ?_) (fun c_111 => ?_)
          · refine rn_iload_n 122 d_M_count_121 rfl rfl ?_
            refine rn_iconst 123 d_M_count_122 rfl ?_
            refine rn_icmp_ne 130 126 d_M_count_123 rfl rfl ⟨by omega, by omega⟩ ⟨by omega, by omega⟩ (fun c_123 => ?_) (fun c_123 => ?_)
            · refine rn_iload_n 131 d_M_count_130 rfl rfl ?_
              refine rn_iconst 132 d_M_count_131 rfl ?_
              refine rn_icmp_ne 139 135 d_M_count_132 rfl rfl ⟨by omega, by omega⟩ ⟨by omega, by omega⟩ (fun c_132 => ?_) (fun c_132 => ?_)
              · refine rn_iload_n 140 d_M_count_139 rfl rfl ?_
                refine rn_iconst 141 d_M_count_140 rfl ?_
                refine rn_icmp_ne 151 144 d_M_count_141 rfl rfl ⟨by omega, by omega⟩ ⟨by omega, by omega⟩ (fun c_141 => ?_) (fun c_141 => ?_)
                · refine rn_aload_n 152 d_M_count_151 rfl rfl ?_
                  refine rn_getfield 155 d_M_count_152 rfl fd_M_19 rfl rfl ?_
                  have ea : aCM σ w n g = σ 26 4 := by unfold aCM; (first | rw [if_pos (by omega)] | rw [if_neg (by omega)]); try (first | rw [if_pos (by omega)] | rw [if_neg (by omega)]); try (first | rw [if_pos (by omega)] | rw [if_neg (by omega)]); try (first | rw [if_pos (by omega)] | rw [if_neg (by omega)]); try (first | rw [if_pos (by omega)] | rw [if_neg (by omega)]); try (first | rw [if_pos (by omega)] | rw [if_neg (by omega)]); try (first | rw [if_pos (by omega)] | rw [if_neg (by omega)])
                  rw [ea] at hΦ
                  exact rn_ireturn d_M_count_155 (Or.inl rfl) hΦ
                · refine rn_aload_n 145 d_M_count_144 rfl rfl ?_
                  refine rn_getfield 148 d_M_count_145 rfl fd_M_16 rfl rfl ?_
                  refine rn_goto 155 d_M_count_148 rfl ?_
                  have ea : aCM σ w n g = σ 26 3 := by unfold aCM; (first | rw [if_pos (by omega)] | rw [if_neg (by omega)]); try (first | rw [if_pos (by omega)] | rw [if_neg (by omega)]); try (first | rw [if_pos (by omega)] | rw [if_neg (by omega)]); try (first | rw [if_pos (by omega)] | rw [if_neg (by omega)]); try (first | rw [if_pos (by omega)] | rw [if_neg (by omega)]); try (first | rw [if_pos (by omega)] | rw [if_neg (by omega)]); try (first | rw [if_pos (by omega)] | rw [if_neg (by omega)])
                  rw [ea] at hΦ
                  exact rn_ireturn d_M_count_155 (Or.inl rfl) hΦ
              · refine rn_iload_n 136 d_M_count_135 rfl rfl ?_
                refine rn_goto 155 d_M_count_136 rfl ?_
                have ea : aCM σ w n g = g := by unfold aCM; (first | rw [if_pos (by omega)] | rw [if_neg (by omega)]); try (first | rw [if_pos (by omega)] | rw [if_neg (by omega)]); try (first | rw [if_pos (by omega)] | rw [if_neg (by omega)]); try (first | rw [if_pos (by omega)] | rw [if_neg (by omega)]); try (first | rw [if_pos (by omega)] | rw [if_neg (by omega)]); try (first | rw [if_pos (by omega)] | rw [if_neg (by omega)]); try (first | rw [if_pos (by omega)] | rw [if_neg (by omega)])
                rw [ea] at hΦ
                exact rn_ireturn d_M_count_155 (Or.inl rfl) hΦ
            · refine rn_iload_n 127 d_M_count_126 rfl rfl ?_
              refine rn_goto 155 d_M_count_127 rfl ?_
              have ea : aCM σ w n g = n := by unfold aCM; (first | rw [if_pos (by omega)] | rw [if_neg (by omega)]); try (first | rw [if_pos (by omega)] | rw [if_neg (by omega)]); try (first | rw [if_pos (by omega)] | rw [if_neg (by omega)]); try (first | rw [if_pos (by omega)] | rw [if_neg (by omega)]); try (first | rw [if_pos (by omega)] | rw [if_neg (by omega)]); try (first | rw [if_pos (by omega)] | rw [if_neg (by omega)]); try (first | rw [if_pos (by omega)] | rw [if_neg (by omega)])
              rw [ea] at hΦ
              exact rn_ireturn d_M_count_155 (Or.inl rfl) hΦ
          · refine rn_aload_n 115 d_M_count_114 rfl rfl ?_
            refine rn_callV0 118 d_M_count_115 rfl cw_M_142 rfl (Nat.le_of_ble_eq_true rfl) (ev_M_total hI (hL (by omega))) ?_
            rintro _ _ ⟨rfl, rfl⟩
            refine rn_goto 155 d_M_count_118 rfl ?_
            have ea : aCM σ w n g = sm (uM σ) (σ 26 1).toNat := by unfold aCM; (first | rw [if_pos (by omega)] | rw [if_neg (by omega)]); try (first | rw [if_pos (by omega)] | rw [if_neg (by omega)]); try (first | rw [if_pos (by omega)] | rw [if_neg (by omega)]); try (first | rw [if_pos (by omega)] | rw [if_neg (by omega)]); try (first | rw [if_pos (by omega)] | rw [if_neg (by omega)]); try (first | rw [if_pos (by omega)] | rw [if_neg (by omega)]); try (first | rw [if_pos (by omega)] | rw [if_neg (by omega)])
            rw [ea] at hΦ
            exact rn_ireturn d_M_count_155 (Or.inl rfl) hΦ
        · refine rn_iconst 108 d_M_count_107 rfl ?_
          have ea : aCM σ w n g = 0 := by unfold aCM; (first | rw [if_pos (by omega)] | rw [if_neg (by omega)]); try (first | rw [if_pos (by omega)] | rw [if_neg (by omega)]); try (first | rw [if_pos (by omega)] | rw [if_neg (by omega)]); try (first | rw [if_pos (by omega)] | rw [if_neg (by omega)]); try (first | rw [if_pos (by omega)] | rw [if_neg (by omega)]); try (first | rw [if_pos (by omega)] | rw [if_neg (by omega)]); try (first | rw [if_pos (by omega)] | rw [if_neg (by omega)])
          rw [ea] at hΦ
          exact rn_ireturn d_M_count_108 (Or.inl rfl) hΦ
      · refine rn_iconst 99 d_M_count_98 rfl ?_
        have ea : aCM σ w n g = -1 := by unfold aCM; (first | rw [if_pos (by omega)] | rw [if_neg (by omega)]); try (first | rw [if_pos (by omega)] | rw [if_neg (by omega)]); try (first | rw [if_pos (by omega)] | rw [if_neg (by omega)]); try (first | rw [if_pos (by omega)] | rw [if_neg (by omega)]); try (first | rw [if_pos (by omega)] | rw [if_neg (by omega)]); try (first | rw [if_pos (by omega)] | rw [if_neg (by omega)]); try (first | rw [if_pos (by omega)] | rw [if_neg (by omega)])
        rw [ea] at hΦ
        exact rn_ireturn d_M_count_99 (Or.inl rfl) hΦ
  · refine rn_aload_n 84 d_M_count_83 rfl rfl ?_
    refine rn_getfield 87 d_M_count_84 rfl fd_M_7 rfl rfl ?_
    have ea : aCM σ w n g = σ 26 1 := by unfold aCM; (first | rw [if_pos (by omega)] | rw [if_neg (by omega)]); try (first | rw [if_pos (by omega)] | rw [if_neg (by omega)]); try (first | rw [if_pos (by omega)] | rw [if_neg (by omega)]); try (first | rw [if_pos (by omega)] | rw [if_neg (by omega)]); try (first | rw [if_pos (by omega)] | rw [if_neg (by omega)]); try (first | rw [if_pos (by omega)] | rw [if_neg (by omega)]); try (first | rw [if_pos (by omega)] | rw [if_neg (by omega)])
    rw [ea] at hΦ
    exact rn_ireturn d_M_count_87 (Or.inl rfl) hΦ
set_option maxRecDepth 100000 in
set_option maxHeartbeats 400000 in
theorem count_loop {sc : av_sc} {d n0 bc bs : Nat} {al : Bool} {σ : av_S} {w : Int} {Φ : Option av_V → av_H → Prop} (hI : iM σ) (hmd : σ 26 5 = 1) (hL : iLM σ) (hw : av_in w) (hΦ : Φ (some (vI (aCM σ w (sm (σ 38) (σ 26 1).toNat) (sm (lgM σ) (σ 26 1).toNat)))) (hp σ)) :
    ∀ (m k : Nat), (k : Int) + (m : Int) = σ 26 1 → av_Rn sc m_M_count (d + 2) al n0 bc bs 7 [some (vR 26), some (vI w), some (vI (sm (σ 38) k)), some (vI (sm (lgM σ) k)), some (vI (k : Int)), none] [] (hp σ) Φ := by
  obtain ⟨hn, hB, hc31, hc32, hlo, hrg⟩ := id hI
  intro m
  induction m with
  | zero =>
    intro k hk
    obtain rfl : k = (σ 26 1).toNat := by omega
    refine rn_iload 9 d_M_count_7 rfl rfl ?_
    refine rn_aload_n 10 d_M_count_9 rfl rfl ?_
    refine rn_getfield 13 d_M_count_10 rfl fd_M_7 rfl rfl ?_
    refine rn_icmp_ge 79 16 d_M_count_13 rfl rfl ⟨by omega, by omega⟩ ⟨by omega, by omega⟩ (fun c_13 => ?_) (fun c_13 => ?_)
    · exact count_end hI (fun _ => hL) hw hΦ
    · omega
  | succ m ih =>
    intro k hk
    obtain ⟨hl1, hl2, hl3, hl4⟩ := hL (k : Int) (by omega) (by omega)
    have K : ∀ (g i : Int), g = sm (lgM σ) k + lgM σ (k : Int) → av_Rn sc m_M_count (d + 2) al n0 bc bs 73 [some (vR 26), some (vI w), some (vI (sm (σ 38) k + σ 38 (k : Int))), some (vI g), some (vI (k : Int)), some (vI i)] [] (hp σ) Φ := by
      intro g i eg
      subst eg
      refine rn_iinc 76 d_M_count_73 rfl rfl (by decide) rfl rfl ?_
      refine rn_goto 7 d_M_count_76 rfl ?_
      refine rn_kill 5 rfl ?_
      exact ih (k + 1) (by omega)
    have I2 : ∀ g : Int, g = sm (lgM σ) k + lgM σ (k : Int) → 1 < σ 38 (k : Int) → av_Rn sc m_M_count (d + 2) al n0 bc bs 36 [some (vR 26), some (vI w), some (vI (sm (σ 38) k + σ 38 (k : Int))), some (vI g), some (vI (k : Int)), some (vI 2)] [] (hp σ) Φ := by
      intro g eg hbr
      refine rn_iload 38 d_M_count_36 rfl rfl ?_
      refine rn_aload_n 39 d_M_count_38 rfl rfl ?_
      refine rn_getfield 42 d_M_count_39 rfl fd_M_61 rfl rfl ?_
      refine rn_iload 44 d_M_count_42 rfl rfl ?_
      refine rn_iaload 45 d_M_count_44 rfl rfl (by decide) (by omega) (by omega) ?_
      refine rn_icmp_ge 73 48 d_M_count_45 rfl rfl ⟨by omega, by omega⟩ ⟨by omega, by omega⟩ (fun c_45 => ?_) (fun c_45 => ?_)
      · exact K _ _ eg
      · omega
    have I1 : ∀ g : Int, g = sm (lgM σ) k + (if 0 < σ 38 (k : Int) ∧ σ 40 (2 * (k : Int)) = 2 then 1 else 0) → 0 < σ 38 (k : Int) → av_Rn sc m_M_count (d + 2) al n0 bc bs 36 [some (vR 26), some (vI w), some (vI (sm (σ 38) k + σ 38 (k : Int))), some (vI g), some (vI (k : Int)), some (vI 1)] [] (hp σ) Φ := by
      intro g eg hbr
      refine rn_iload 38 d_M_count_36 rfl rfl ?_
      refine rn_aload_n 39 d_M_count_38 rfl rfl ?_
      refine rn_getfield 42 d_M_count_39 rfl fd_M_61 rfl rfl ?_
      refine rn_iload 44 d_M_count_42 rfl rfl ?_
      refine rn_iaload 45 d_M_count_44 rfl rfl (by decide) (by omega) (by omega) ?_
      refine rn_icmp_ge 73 48 d_M_count_45 rfl rfl ⟨by omega, by omega⟩ ⟨by omega, by omega⟩ (fun c_45 => ?_) (fun c_45 => ?_)
      · exact K _ _ (by rw [eg]; unfold lgM; (try split) <;> (try split) <;> omega)
      · refine rn_aload_n 49 d_M_count_48 rfl rfl ?_
        refine rn_getfield 52 d_M_count_49 rfl fd_M_67 rfl rfl ?_
        refine rn_iload 54 d_M_count_52 rfl rfl ?_
        refine rn_iconst 55 d_M_count_54 rfl ?_
        refine rn_imul 56 d_M_count_55 rfl ?_
        refine rn_iload 58 d_M_count_56 rfl rfl ?_
        rw [Int.mul_comm (k : Int) 2]
        refine rn_iadd 59 d_M_count_58 rfl ?_
        refine rn_iaload 60 d_M_count_59 rfl rfl (by decide) (by omega) (by omega) ?_
        refine rn_iconst 61 d_M_count_60 rfl ?_
        refine rn_icmp_ne 67 64 d_M_count_61 rfl rfl ⟨by omega, by omega⟩ ⟨by omega, by omega⟩ (fun c_61 => ?_) (fun c_61 => ?_)
        · refine rn_iinc 70 d_M_count_67 rfl rfl (by decide) rfl rfl ?_
          refine rn_goto 36 d_M_count_70 rfl ?_
          exact I2 _ (by rw [eg]; unfold lgM; (try split) <;> (try split) <;> omega) (by omega)
        · refine rn_iinc 67 d_M_count_64 rfl rfl (by decide) rfl rfl ?_
          refine rn_iinc 70 d_M_count_67 rfl rfl (by decide) rfl rfl ?_
          refine rn_goto 36 d_M_count_70 rfl ?_
          exact I2 _ (by rw [eg]; unfold lgM; (try split) <;> (try split) <;> omega) (by omega)
    have I0 : ∀ g : Int, g = sm (lgM σ) k → av_Rn sc m_M_count (d + 2) al n0 bc bs 36 [some (vR 26), some (vI w), some (vI (sm (σ 38) k + σ 38 (k : Int))), some (vI g), some (vI (k : Int)), some (vI 0)] [] (hp σ) Φ := by
      intro g eg
      refine rn_iload 38 d_M_count_36 rfl rfl ?_
      refine rn_aload_n 39 d_M_count_38 rfl rfl ?_
      refine rn_getfield 42 d_M_count_39 rfl fd_M_61 rfl rfl ?_
      refine rn_iload 44 d_M_count_42 rfl rfl ?_
      refine rn_iaload 45 d_M_count_44 rfl rfl (by decide) (by omega) (by omega) ?_
      refine rn_icmp_ge 73 48 d_M_count_45 rfl rfl ⟨by omega, by omega⟩ ⟨by omega, by omega⟩ (fun c_45 => ?_) (fun c_45 => ?_)
      · exact K _ _ (by rw [eg]; unfold lgM; (try split) <;> (try split) <;> omega)
      · refine rn_aload_n 49 d_M_count_48 rfl rfl ?_
        refine rn_getfield 52 d_M_count_49 rfl fd_M_67 rfl rfl ?_
        refine rn_iload 54 d_M_count_52 rfl rfl ?_
        refine rn_iconst 55 d_M_count_54 rfl ?_
        refine rn_imul 56 d_M_count_55 rfl ?_
        refine rn_iload 58 d_M_count_56 rfl rfl ?_
        rw [Int.mul_comm (k : Int) 2]
        refine rn_iadd 59 d_M_count_58 rfl ?_
        rw [Int.add_zero]
        refine rn_iaload 60 d_M_count_59 rfl rfl (by decide) (by omega) (by omega) ?_
        refine rn_iconst 61 d_M_count_60 rfl ?_
        refine rn_icmp_ne 67 64 d_M_count_61 rfl rfl ⟨by omega, by omega⟩ ⟨by omega, by omega⟩ (fun c_61 => ?_) (fun c_61 => ?_)
        · refine rn_iinc 70 d_M_count_67 rfl rfl (by decide) rfl rfl ?_
          refine rn_goto 36 d_M_count_70 rfl ?_
          exact I1 _ (by rw [eg]; unfold lgM; (try split) <;> (try split) <;> omega) (by omega)
        · refine rn_iinc 67 d_M_count_64 rfl rfl (by decide) rfl rfl ?_
          refine rn_iinc 70 d_M_count_67 rfl rfl (by decide) rfl rfl ?_
          refine rn_goto 36 d_M_count_70 rfl ?_
          exact I1 _ (by rw [eg]; unfold lgM; (try split) <;> (try split) <;> omega) (by omega)
    refine rn_iload 9 d_M_count_7 rfl rfl ?_
    refine rn_aload_n 10 d_M_count_9 rfl rfl ?_
    refine rn_getfield 13 d_M_count_10 rfl fd_M_7 rfl rfl ?_
    refine rn_icmp_ge 79 16 d_M_count_13 rfl rfl ⟨by omega, by omega⟩ ⟨by omega, by omega⟩ (fun c_13 => ?_) (fun c_13 => ?_)
    · omega
    · refine rn_aload_n 17 d_M_count_16 rfl rfl ?_
      refine rn_getfield 20 d_M_count_17 rfl fd_M_22 rfl rfl ?_
      refine rn_if_eq 79 23 d_M_count_20 rfl rfl ⟨by omega, by omega⟩ (fun c_20 => ?_) (fun c_20 => ?_)
      · omega
      · refine rn_iload_n 24 d_M_count_23 rfl rfl ?_
        refine rn_aload_n 25 d_M_count_24 rfl rfl ?_
        refine rn_getfield 28 d_M_count_25 rfl fd_M_61 rfl rfl ?_
        refine rn_iload 30 d_M_count_28 rfl rfl ?_
        refine rn_iaload 31 d_M_count_30 rfl rfl (by decide) (by omega) (by omega) ?_
        refine rn_iadd 32 d_M_count_31 rfl ?_
        refine rn_istore_n 33 d_M_count_32 rfl (by decide) rfl rfl ?_
        refine rn_iconst 34 d_M_count_33 rfl ?_
        refine rn_istore 36 d_M_count_34 rfl (by decide) rfl rfl ?_
        exact I0 _ rfl
set_option maxRecDepth 100000 in
set_option maxHeartbeats 400000 in
theorem ev_M_count {sc : av_sc} {d : Nat} {σ : av_S} {w : Int} (hw : av_in w) (hI : iM σ) (hL : σ 26 5 = 1 → iLM σ) : av_Ev sc m_M_count (d + 2) false 0 0 [vR 26, vI w] (hp σ) (fun r h => r = some (vI (aCM σ w (sm (σ 38) (σ 26 1).toNat) (sm (lgM σ) (σ 26 1).toNat))) ∧ h = hp σ) := by
  obtain ⟨hn, hB, hc31, hc32, hlo, hrg⟩ := id hI
  refine av_ev rfl rfl (Nat.le_of_ble_eq_true rfl) rfl ?_
  refine rn_iconst 1 d_M_count_0 rfl ?_
  refine rn_istore_n 2 d_M_count_1 rfl (by decide) rfl rfl ?_
  refine rn_iconst 3 d_M_count_2 rfl ?_
  refine rn_istore_n 4 d_M_count_3 rfl (by decide) rfl rfl ?_
  refine rn_iconst 5 d_M_count_4 rfl ?_
  refine rn_istore 7 d_M_count_5 rfl (by decide) rfl rfl ?_
  rcases hlo with hm | hm
  · have J : av_Rn sc m_M_count (d + 2) false (hp σ).length 0 0 79 [some (vR 26), some (vI w), some (vI 0), some (vI 0), some (vI 0), none] [] (hp σ) (fun r h => r = some (vI (aCM σ w (sm (σ 38) (σ 26 1).toNat) (sm (lgM σ) (σ 26 1).toNat))) ∧ h = hp σ) := count_end hI hL hw ⟨by unfold aCM; simp only [if_pos hm], rfl⟩
    refine rn_iload 9 d_M_count_7 rfl rfl ?_
    refine rn_aload_n 10 d_M_count_9 rfl rfl ?_
    refine rn_getfield 13 d_M_count_10 rfl fd_M_7 rfl rfl ?_
    refine rn_icmp_ge 79 16 d_M_count_13 rfl rfl ⟨by omega, by omega⟩ ⟨by omega, by omega⟩ (fun c_13 => ?_) (fun c_13 => ?_)
    · exact J
    · refine rn_aload_n 17 d_M_count_16 rfl rfl ?_
      refine rn_getfield 20 d_M_count_17 rfl fd_M_22 rfl rfl ?_
      refine rn_if_eq 79 23 d_M_count_20 rfl rfl ⟨by omega, by omega⟩ (fun c_20 => ?_) (fun c_20 => ?_)
      · exact J
      · omega
  · exact count_loop hI hm (hL hm) hw ⟨rfl, rfl⟩ (σ 26 1).toNat 0 (by omega)
end
section
/-- the class's code, its arrays and numbers named -/
def kS (σ : av_S) (ST G U T : Int → Int) (Ln Bn On : Int) : av_S := up (up (up (up (up σ 22 ST) 23 G) 24 U) 25 T) 21 (fun j => if j = 4 then Ln else if j = 5 then Bn else if j = 6 then On else σ 21 j)
theorem kS_ext {σ : av_S} {ST G U T ST' G' U' T' : Int → Int} {Ln Bn On Ln' Bn' On' : Int} (h0 : ST = ST') (h1 : G = G') (h2 : U = U') (h3 : T = T') (h4 : Ln = Ln') (h5 : Bn = Bn') (h6 : On = On') : hp (kS σ ST G U T Ln Bn On) = hp (kS σ ST' G' U' T' Ln' Bn' On') := by
  subst h0; subst h1; subst h2; subst h3; subst h4; subst h5; subst h6; rfl
/-- the plan of a block's branches: NEXT is nx -/
def plU0 (en x nx : Int) : Int := if en = 1 then (if x = nx then 0 else 1) else if en = 2 then 1 else 0
def plU1 (en x y nx : Int) : Int := if en = 2 ∧ ¬ y = nx ∧ ¬ x = nx then 1 else 0
def plG0 (en x y nx : Int) : Int := if en = 1 then (if x = nx then -1 else x) else if en = 2 then (if ¬ y = nx ∧ x = nx then y else x) else -1
def plG1 (en x y nx : Int) : Int := if en = 2 ∧ ¬ y = nx ∧ ¬ x = nx then y else -1
def plT (en x y nx : Int) : Int := if en = 2 ∧ ¬ y = nx ∧ x = nx then 1 else 0
set_option maxRecDepth 100000 in
set_option maxHeartbeats 400000 in
theorem ev_C_clearBranches {sc : av_sc} {d : Nat} {σ : av_S} {ST G U T : Int → Int} {Ln Bn On : Int} {b : Int} (hb : 0 ≤ b ∧ b < 24) : av_Ev sc m_C_clearBranches d false 0 0 [vR 21, vI b] (hp (kS σ ST G U T Ln Bn On)) (fun r h => r = none ∧ h = hp (kS σ ST (uI (uI G (2 * b) (-1)) (2 * b + 1) (-1)) (uI (uI U (2 * b) 0) (2 * b + 1) 0) (uI T b 0) Ln Bn On)) := by
  refine av_ev rfl rfl (Nat.le_of_ble_eq_true rfl) rfl ?_
  have J2 : av_Rn sc m_C_clearBranches d false (hp (kS σ ST G U T Ln Bn On)).length 0 0 11 [some (vR 21), some (vI b), some (vI (2 * b + 1 + 1))] [] (hp (kS σ ST (uI (uI G (2 * b) (-1)) (2 * b + 1) (-1)) (uI (uI U (2 * b) 0) (2 * b + 1) 0) (uI T b 0) Ln Bn On)) (fun r h => r = none ∧ h = hp (kS σ ST (uI (uI G (2 * b) (-1)) (2 * b + 1) (-1)) (uI (uI U (2 * b) 0) (2 * b + 1) 0) (uI T b 0) Ln Bn On)) := by
    refine rn_iload_n 12 d_C_clearBranches_11 rfl rfl ?_
    refine rn_iconst 13 d_C_clearBranches_12 rfl ?_
    refine rn_iload_n 14 d_C_clearBranches_13 rfl rfl ?_
    refine rn_imul 15 d_C_clearBranches_14 rfl ?_
    refine rn_iconst 16 d_C_clearBranches_15 rfl ?_
    refine rn_iadd 17 d_C_clearBranches_16 rfl ?_
    refine rn_icmp_ge 40 20 d_C_clearBranches_17 rfl rfl ⟨by omega, by omega⟩ ⟨by omega, by omega⟩ (fun c_17 => ?_) (fun c_17 => ?_)
    · exact rn_return d_C_clearBranches_40 rfl ⟨rfl, rfl⟩
    · omega
  have J1 : av_Rn sc m_C_clearBranches d false (hp (kS σ ST G U T Ln Bn On)).length 0 0 11 [some (vR 21), some (vI b), some (vI (2 * b + 1))] [] (hp (kS σ ST (uI G (2 * b) (-1)) (uI U (2 * b) 0) (uI T b 0) Ln Bn On)) (fun r h => r = none ∧ h = hp (kS σ ST (uI (uI G (2 * b) (-1)) (2 * b + 1) (-1)) (uI (uI U (2 * b) 0) (2 * b + 1) 0) (uI T b 0) Ln Bn On)) := by
    refine rn_iload_n 12 d_C_clearBranches_11 rfl rfl ?_
    refine rn_iconst 13 d_C_clearBranches_12 rfl ?_
    refine rn_iload_n 14 d_C_clearBranches_13 rfl rfl ?_
    refine rn_imul 15 d_C_clearBranches_14 rfl ?_
    refine rn_iconst 16 d_C_clearBranches_15 rfl ?_
    refine rn_iadd 17 d_C_clearBranches_16 rfl ?_
    refine rn_icmp_ge 40 20 d_C_clearBranches_17 rfl rfl ⟨by omega, by omega⟩ ⟨by omega, by omega⟩ (fun c_17 => ?_) (fun c_17 => ?_)
    · omega
    · refine rn_aload_n 21 d_C_clearBranches_20 rfl rfl ?_
      refine rn_getfield 24 d_C_clearBranches_21 rfl fd_C_15 rfl rfl ?_
      refine rn_iload_n 25 d_C_clearBranches_24 rfl rfl ?_
      refine rn_iconst 26 d_C_clearBranches_25 rfl ?_
      refine rn_iastore 27 d_C_clearBranches_26 rfl rfl (by decide) (by omega) (by omega) (hs_23 _ _) ?_
      refine rn_aload_n 28 d_C_clearBranches_27 rfl rfl ?_
      refine rn_getfield 31 d_C_clearBranches_28 rfl fd_C_18 rfl rfl ?_
      refine rn_iload_n 32 d_C_clearBranches_31 rfl rfl ?_
      refine rn_iconst 33 d_C_clearBranches_32 rfl ?_
      refine rn_iastore 34 d_C_clearBranches_33 rfl rfl (by decide) (by omega) (by omega) (hs_24 _ _) ?_
      refine rn_iinc 37 d_C_clearBranches_34 rfl rfl (by decide) rfl rfl ?_
      refine rn_goto 11 d_C_clearBranches_37 rfl ?_
      change av_Rn _ _ _ _ _ _ _ _ _ _ (hp (kS σ ST (uI (uI G (2 * b) (-1)) (2 * b + 1) (-1)) (uI (uI U (2 * b) 0) (2 * b + 1) 0) (uI T b 0) Ln Bn On)) _
      exact J2
  have J0 : av_Rn sc m_C_clearBranches d false (hp (kS σ ST G U T Ln Bn On)).length 0 0 11 [some (vR 21), some (vI b), some (vI (2 * b))] [] (hp (kS σ ST G U (uI T b 0) Ln Bn On)) (fun r h => r = none ∧ h = hp (kS σ ST (uI (uI G (2 * b) (-1)) (2 * b + 1) (-1)) (uI (uI U (2 * b) 0) (2 * b + 1) 0) (uI T b 0) Ln Bn On)) := by
    refine rn_iload_n 12 d_C_clearBranches_11 rfl rfl ?_
    refine rn_iconst 13 d_C_clearBranches_12 rfl ?_
    refine rn_iload_n 14 d_C_clearBranches_13 rfl rfl ?_
    refine rn_imul 15 d_C_clearBranches_14 rfl ?_
    refine rn_iconst 16 d_C_clearBranches_15 rfl ?_
    refine rn_iadd 17 d_C_clearBranches_16 rfl ?_
    refine rn_icmp_ge 40 20 d_C_clearBranches_17 rfl rfl ⟨by omega, by omega⟩ ⟨by omega, by omega⟩ (fun c_17 => ?_) (fun c_17 => ?_)
    · omega
    · refine rn_aload_n 21 d_C_clearBranches_20 rfl rfl ?_
      refine rn_getfield 24 d_C_clearBranches_21 rfl fd_C_15 rfl rfl ?_
      refine rn_iload_n 25 d_C_clearBranches_24 rfl rfl ?_
      refine rn_iconst 26 d_C_clearBranches_25 rfl ?_
      refine rn_iastore 27 d_C_clearBranches_26 rfl rfl (by decide) (by omega) (by omega) (hs_23 _ _) ?_
      refine rn_aload_n 28 d_C_clearBranches_27 rfl rfl ?_
      refine rn_getfield 31 d_C_clearBranches_28 rfl fd_C_18 rfl rfl ?_
      refine rn_iload_n 32 d_C_clearBranches_31 rfl rfl ?_
      refine rn_iconst 33 d_C_clearBranches_32 rfl ?_
      refine rn_iastore 34 d_C_clearBranches_33 rfl rfl (by decide) (by omega) (by omega) (hs_24 _ _) ?_
      refine rn_iinc 37 d_C_clearBranches_34 rfl rfl (by decide) rfl rfl ?_
      refine rn_goto 11 d_C_clearBranches_37 rfl ?_
      change av_Rn _ _ _ _ _ _ _ _ _ _ (hp (kS σ ST (uI G (2 * b) (-1)) (uI U (2 * b) 0) (uI T b 0) Ln Bn On)) _
      exact J1
  refine rn_aload_n 1 d_C_clearBranches_0 rfl rfl ?_
  refine rn_getfield 4 d_C_clearBranches_1 rfl fd_C_21 rfl rfl ?_
  refine rn_iload_n 5 d_C_clearBranches_4 rfl rfl ?_
  refine rn_iconst 6 d_C_clearBranches_5 rfl ?_
  refine rn_bastore 7 d_C_clearBranches_6 rfl rfl (by decide) (by omega) (by omega) (by omega) (hs_25 _ _) ?_
  refine rn_iconst 8 d_C_clearBranches_7 rfl ?_
  refine rn_iload_n 9 d_C_clearBranches_8 rfl rfl ?_
  refine rn_imul 10 d_C_clearBranches_9 rfl ?_
  refine rn_istore_n 11 d_C_clearBranches_10 rfl (by decide) rfl rfl ?_
  change av_Rn _ _ _ _ _ _ _ _ _ _ (hp (kS σ ST G U (uI T b 0) Ln Bn On)) _
  exact J0
set_option maxRecDepth 100000 in
set_option maxHeartbeats 400000 in
theorem ev_C_putBranch {sc : av_sc} {d : Nat} {σ : av_S} {ST G U T : Int → Int} {Ln Bn On : Int} {k y : Int} (hk : 0 ≤ k ∧ k < 48) : av_Ev sc m_C_putBranch (d) false 0 0 [vR 21, vI k, vI y] (hp (kS σ ST G U T Ln Bn On)) (fun r h => r = none ∧ h = hp (kS σ ST (uI G k y) (uI U k 1) T Ln (Bn + 1) On)) := by
  refine av_ev rfl rfl (Nat.le_of_ble_eq_true rfl) rfl ?_
  refine rn_aload_n 1 d_C_putBranch_0 rfl rfl ?_
  refine rn_getfield 4 d_C_putBranch_1 rfl fd_C_15 rfl rfl ?_
  refine rn_iload_n 5 d_C_putBranch_4 rfl rfl ?_
  refine rn_iload_n 6 d_C_putBranch_5 rfl rfl ?_
  refine rn_iastore 7 d_C_putBranch_6 rfl rfl (by decide) (by omega) (by omega) (hs_23 _ _) ?_
  refine rn_aload_n 8 d_C_putBranch_7 rfl rfl ?_
  refine rn_getfield 11 d_C_putBranch_8 rfl fd_C_18 rfl rfl ?_
  refine rn_iload_n 12 d_C_putBranch_11 rfl rfl ?_
  refine rn_iconst 13 d_C_putBranch_12 rfl ?_
  refine rn_iastore 14 d_C_putBranch_13 rfl rfl (by decide) (by omega) (by omega) (hs_24 _ _) ?_
  refine rn_aload_n 15 d_C_putBranch_14 rfl rfl ?_
  refine rn_dup 16 d_C_putBranch_15 rfl rfl ?_
  refine rn_getfield 19 d_C_putBranch_16 rfl fd_C_29 rfl rfl ?_
  refine rn_iconst 20 d_C_putBranch_19 rfl ?_
  refine rn_iadd 21 d_C_putBranch_20 rfl ?_
  refine rn_putfield 24 d_C_putBranch_21 rfl fp_C_29 rfl (Nat.le_of_ble_eq_true rfl) av_fitI (hs_21_5 _ _) ?_
  exact rn_return d_C_putBranch_24 rfl ⟨rfl, rfl⟩
theorem uI2 {f : Int → Int} {b p q p' q' : Int} (hp : p = p') (hq : q = q') : uI (uI f (2 * b) p) (2 * b + 1) q = uI (uI f (2 * b) p') (2 * b + 1) q' := by rw [hp, hq]
theorem uI3 {f : Int → Int} {b p q v p' q' : Int} (hp : v = p') (hq : q = q') : uI (uI (uI f (2 * b) p) (2 * b + 1) q) (2 * b) v = uI (uI f (2 * b) p') (2 * b + 1) q' := by
  subst hp; subst hq
  funext j
  simp only [uI]
  by_cases h1 : j = 2 * b
  · have h2 : ¬ j = 2 * b + 1 := by omega
    simp only [if_pos h1, if_neg h2]
  · simp only [if_neg h1]
theorem uI4 {f : Int → Int} {b p q v w p' q' : Int} (hp : v = p') (hq : w = q') : uI (uI (uI (uI f (2 * b) p) (2 * b + 1) q) (2 * b) v) (2 * b + 1) w = uI (uI f (2 * b) p') (2 * b + 1) q' := by
  rw [uI3 (f := f) (b := b) (p := p) (q := q) (v := v) rfl rfl]
  subst hp; subst hq
  funext j
  simp only [uI]
  by_cases h1 : j = 2 * b + 1
  · simp only [if_pos h1]
  · simp only [if_neg h1]
theorem uIT {f : Int → Int} {b p v t : Int} (h : v = t) : uI (uI f b p) b v = uI f b t := by
  subst h
  funext j
  simp only [uI]
  split <;> rfl
theorem uI1 {f : Int → Int} {b v t : Int} (h : v = t) : uI f b v = uI f b t := by rw [h]
set_option maxRecDepth 100000 in
set_option maxHeartbeats 400000 in
theorem ev_C_chooseBranches {sc : av_sc} {d : Nat} {σ : av_S} {ST G U T : Int → Int} {Ln Bn On : Int} {b nx : Int} (hb : 0 ≤ b ∧ b < 24) (hnx : -1 ≤ nx ∧ nx < 24) (hE : 0 ≤ σ 4 b ∧ σ 4 b ≤ 2) (hx : -1 ≤ σ 5 (2 * b) ∧ σ 5 (2 * b) < 24) (hy : -1 ≤ σ 5 (2 * b + 1) ∧ σ 5 (2 * b + 1) < 24) : av_Ev sc m_C_chooseBranches (d + 1) false 0 0 [vR 21, vR 1, vI b, vI nx] (hp (kS σ ST G U T Ln Bn On)) (fun r h => r = none ∧ h = hp (kS σ ST (uI (uI G (2 * b) (plG0 (σ 4 b) (σ 5 (2 * b)) (σ 5 (2 * b + 1)) nx)) (2 * b + 1) (plG1 (σ 4 b) (σ 5 (2 * b)) (σ 5 (2 * b + 1)) nx)) (uI (uI U (2 * b) (plU0 (σ 4 b) (σ 5 (2 * b)) nx)) (2 * b + 1) (plU1 (σ 4 b) (σ 5 (2 * b)) (σ 5 (2 * b + 1)) nx)) (uI T b (plT (σ 4 b) (σ 5 (2 * b)) (σ 5 (2 * b + 1)) nx)) Ln (Bn + plU0 (σ 4 b) (σ 5 (2 * b)) nx + plU1 (σ 4 b) (σ 5 (2 * b)) (σ 5 (2 * b + 1)) nx) On)) := by
  refine av_ev rfl rfl (Nat.le_of_ble_eq_true rfl) rfl ?_
  refine rn_aload_n 1 d_C_chooseBranches_0 rfl rfl ?_
  refine rn_getfield 4 d_C_chooseBranches_1 rfl fd_C_52 rfl rfl ?_
  refine rn_iconst 5 d_C_chooseBranches_4 rfl ?_
  refine rn_iload_n 6 d_C_chooseBranches_5 rfl rfl ?_
  refine rn_imul 7 d_C_chooseBranches_6 rfl ?_
  refine rn_iaload 8 d_C_chooseBranches_7 rfl rfl (by decide) (by omega) (by omega) ?_
  rw [show (kS σ ST G U T Ln Bn On) 5 (2 * b) = σ 5 (2 * b) from rfl]
  refine rn_istore 10 d_C_chooseBranches_8 rfl (by decide) rfl rfl ?_
  refine rn_aload_n 11 d_C_chooseBranches_10 rfl rfl ?_
  refine rn_getfield 14 d_C_chooseBranches_11 rfl fd_C_52 rfl rfl ?_
  refine rn_iconst 15 d_C_chooseBranches_14 rfl ?_
  refine rn_iload_n 16 d_C_chooseBranches_15 rfl rfl ?_
  refine rn_imul 17 d_C_chooseBranches_16 rfl ?_
  refine rn_iconst 18 d_C_chooseBranches_17 rfl ?_
  refine rn_iadd 19 d_C_chooseBranches_18 rfl ?_
  refine rn_iaload 20 d_C_chooseBranches_19 rfl rfl (by decide) (by omega) (by omega) ?_
  rw [show (kS σ ST G U T Ln Bn On) 5 (2 * b + 1) = σ 5 (2 * b + 1) from rfl]
  refine rn_istore 22 d_C_chooseBranches_20 rfl (by decide) rfl rfl ?_
  refine rn_aload_n 23 d_C_chooseBranches_22 rfl rfl ?_
  refine rn_iload_n 24 d_C_chooseBranches_23 rfl rfl ?_
  refine rn_callV1 27 d_C_chooseBranches_24 rfl cw_C_55 rfl (Nat.le_of_ble_eq_true rfl) (ev_C_clearBranches hb) ?_
  rintro _ _ ⟨rfl, rfl⟩
  refine rn_aload_n 28 d_C_chooseBranches_27 rfl rfl ?_
  refine rn_getfield 31 d_C_chooseBranches_28 rfl fd_C_59 rfl rfl ?_
  refine rn_iload_n 32 d_C_chooseBranches_31 rfl rfl ?_
  refine rn_iaload 33 d_C_chooseBranches_32 rfl rfl (by decide) (by omega) (by omega) ?_
  rw [show (kS σ ST (uI (uI G (2 * b) (-1)) (2 * b + 1) (-1)) (uI (uI U (2 * b) 0) (2 * b + 1) 0) (uI T b 0) Ln Bn On) 4 b = σ 4 b from rfl]
  refine rn_iconst 34 d_C_chooseBranches_33 rfl ?_
  refine rn_icmp_ne 55 37 d_C_chooseBranches_34 rfl rfl ⟨by omega, by omega⟩ ⟨by omega, by omega⟩ (fun c_34 => ?_) (fun c_34 => ?_)
  · refine rn_aload_n 56 d_C_chooseBranches_55 rfl rfl ?_
    refine rn_getfield 59 d_C_chooseBranches_56 rfl fd_C_59 rfl rfl ?_
    refine rn_iload_n 60 d_C_chooseBranches_59 rfl rfl ?_
    refine rn_iaload 61 d_C_chooseBranches_60 rfl rfl (by decide) (by omega) (by omega) ?_
    rw [show (kS σ ST (uI (uI G (2 * b) (-1)) (2 * b + 1) (-1)) (uI (uI U (2 * b) 0) (2 * b + 1) 0) (uI T b 0) Ln Bn On) 4 b = σ 4 b from rfl]
    refine rn_iconst 62 d_C_chooseBranches_61 rfl ?_
    refine rn_icmp_ne 128 65 d_C_chooseBranches_62 rfl rfl ⟨by omega, by omega⟩ ⟨by omega, by omega⟩ (fun c_62 => ?_) (fun c_62 => ?_)
    · exact rn_return d_C_chooseBranches_128 rfl ⟨rfl, kS_ext rfl (uI2 (by symm; unfold plG0; (first | rw [if_pos (by omega)] | rw [if_neg (by omega)]); (try (first | rw [if_pos (by omega)] | rw [if_neg (by omega)])); (try (first | rw [if_pos (by omega)] | rw [if_neg (by omega)]))) (by symm; unfold plG1; (first | rw [if_pos (by omega)] | rw [if_neg (by omega)]); (try (first | rw [if_pos (by omega)] | rw [if_neg (by omega)])); (try (first | rw [if_pos (by omega)] | rw [if_neg (by omega)])))) (uI2 (by symm; unfold plU0; (first | rw [if_pos (by omega)] | rw [if_neg (by omega)]); (try (first | rw [if_pos (by omega)] | rw [if_neg (by omega)])); (try (first | rw [if_pos (by omega)] | rw [if_neg (by omega)]))) (by symm; unfold plU1; (first | rw [if_pos (by omega)] | rw [if_neg (by omega)]); (try (first | rw [if_pos (by omega)] | rw [if_neg (by omega)])); (try (first | rw [if_pos (by omega)] | rw [if_neg (by omega)])))) (uI1 (by symm; unfold plT; (first | rw [if_pos (by omega)] | rw [if_neg (by omega)]); (try (first | rw [if_pos (by omega)] | rw [if_neg (by omega)])); (try (first | rw [if_pos (by omega)] | rw [if_neg (by omega)])))) rfl (by rw [show plU0 (σ 4 b) (σ 5 (2 * b)) nx = 0 from (by unfold plU0; (first | rw [if_pos (by omega)] | rw [if_neg (by omega)]); (try (first | rw [if_pos (by omega)] | rw [if_neg (by omega)])); (try (first | rw [if_pos (by omega)] | rw [if_neg (by omega)]))), show plU1 (σ 4 b) (σ 5 (2 * b)) (σ 5 (2 * b + 1)) nx = 0 from (by unfold plU1; (first | rw [if_pos (by omega)] | rw [if_neg (by omega)]); (try (first | rw [if_pos (by omega)] | rw [if_neg (by omega)])); (try (first | rw [if_pos (by omega)] | rw [if_neg (by omega)])))]; try omega) rfl⟩
    · refine rn_iload 67 d_C_chooseBranches_65 rfl rfl ?_
      refine rn_iload_n 68 d_C_chooseBranches_67 rfl rfl ?_
      refine rn_icmp_ne 83 71 d_C_chooseBranches_68 rfl rfl ⟨by omega, by omega⟩ ⟨by omega, by omega⟩ (fun c_68 => ?_) (fun c_68 => ?_)
      · refine rn_iload 85 d_C_chooseBranches_83 rfl rfl ?_
        refine rn_iload_n 86 d_C_chooseBranches_85 rfl rfl ?_
        refine rn_icmp_ne 108 89 d_C_chooseBranches_86 rfl rfl ⟨by omega, by omega⟩ ⟨by omega, by omega⟩ (fun c_86 => ?_) (fun c_86 => ?_)
        · refine rn_aload_n 109 d_C_chooseBranches_108 rfl rfl ?_
          refine rn_iconst 110 d_C_chooseBranches_109 rfl ?_
          refine rn_iload_n 111 d_C_chooseBranches_110 rfl rfl ?_
          refine rn_imul 112 d_C_chooseBranches_111 rfl ?_
          refine rn_iload 114 d_C_chooseBranches_112 rfl rfl ?_
          refine rn_callV2 117 d_C_chooseBranches_114 rfl cw_C_62 rfl (Nat.le_of_ble_eq_true rfl) (ev_C_putBranch ⟨by omega, by omega⟩) ?_
          rintro _ _ ⟨rfl, rfl⟩
          refine rn_aload_n 118 d_C_chooseBranches_117 rfl rfl ?_
          refine rn_iconst 119 d_C_chooseBranches_118 rfl ?_
          refine rn_iload_n 120 d_C_chooseBranches_119 rfl rfl ?_
          refine rn_imul 121 d_C_chooseBranches_120 rfl ?_
          refine rn_iconst 122 d_C_chooseBranches_121 rfl ?_
          refine rn_iadd 123 d_C_chooseBranches_122 rfl ?_
          refine rn_iload 125 d_C_chooseBranches_123 rfl rfl ?_
          refine rn_callV2 128 d_C_chooseBranches_125 rfl cw_C_62 rfl (Nat.le_of_ble_eq_true rfl) (ev_C_putBranch ⟨by omega, by omega⟩) ?_
          rintro _ _ ⟨rfl, rfl⟩
          exact rn_return d_C_chooseBranches_128 rfl ⟨rfl, kS_ext rfl (uI4 (by symm; unfold plG0; (first | rw [if_pos (by omega)] | rw [if_neg (by omega)]); (try (first | rw [if_pos (by omega)] | rw [if_neg (by omega)])); (try (first | rw [if_pos (by omega)] | rw [if_neg (by omega)]))) (by symm; unfold plG1; (first | rw [if_pos (by omega)] | rw [if_neg (by omega)]); (try (first | rw [if_pos (by omega)] | rw [if_neg (by omega)])); (try (first | rw [if_pos (by omega)] | rw [if_neg (by omega)])))) (uI4 (by symm; unfold plU0; (first | rw [if_pos (by omega)] | rw [if_neg (by omega)]); (try (first | rw [if_pos (by omega)] | rw [if_neg (by omega)])); (try (first | rw [if_pos (by omega)] | rw [if_neg (by omega)]))) (by symm; unfold plU1; (first | rw [if_pos (by omega)] | rw [if_neg (by omega)]); (try (first | rw [if_pos (by omega)] | rw [if_neg (by omega)])); (try (first | rw [if_pos (by omega)] | rw [if_neg (by omega)])))) (uI1 (by symm; unfold plT; (first | rw [if_pos (by omega)] | rw [if_neg (by omega)]); (try (first | rw [if_pos (by omega)] | rw [if_neg (by omega)])); (try (first | rw [if_pos (by omega)] | rw [if_neg (by omega)])))) rfl (by rw [show plU0 (σ 4 b) (σ 5 (2 * b)) nx = 1 from (by unfold plU0; (first | rw [if_pos (by omega)] | rw [if_neg (by omega)]); (try (first | rw [if_pos (by omega)] | rw [if_neg (by omega)])); (try (first | rw [if_pos (by omega)] | rw [if_neg (by omega)]))), show plU1 (σ 4 b) (σ 5 (2 * b)) (σ 5 (2 * b + 1)) nx = 1 from (by unfold plU1; (first | rw [if_pos (by omega)] | rw [if_neg (by omega)]); (try (first | rw [if_pos (by omega)] | rw [if_neg (by omega)])); (try (first | rw [if_pos (by omega)] | rw [if_neg (by omega)])))]; try omega) rfl⟩
        · refine rn_aload_n 90 d_C_chooseBranches_89 rfl rfl ?_
          refine rn_iconst 91 d_C_chooseBranches_90 rfl ?_
          refine rn_iload_n 92 d_C_chooseBranches_91 rfl rfl ?_
          refine rn_imul 93 d_C_chooseBranches_92 rfl ?_
          refine rn_iload 95 d_C_chooseBranches_93 rfl rfl ?_
          refine rn_callV2 98 d_C_chooseBranches_95 rfl cw_C_62 rfl (Nat.le_of_ble_eq_true rfl) (ev_C_putBranch ⟨by omega, by omega⟩) ?_
          rintro _ _ ⟨rfl, rfl⟩
          refine rn_aload_n 99 d_C_chooseBranches_98 rfl rfl ?_
          refine rn_getfield 102 d_C_chooseBranches_99 rfl fd_C_21 rfl rfl ?_
          refine rn_iload_n 103 d_C_chooseBranches_102 rfl rfl ?_
          refine rn_iconst 104 d_C_chooseBranches_103 rfl ?_
          refine rn_bastore 105 d_C_chooseBranches_104 rfl rfl (by decide) (by omega) (by omega) (by omega) (hs_25 _ _) ?_
          change av_Rn _ _ _ _ _ _ _ _ _ _ (hp (kS σ ST (uI (uI (uI G (2 * b) (-1)) (2 * b + 1) (-1)) (2 * b) (σ 5 (2 * b + 1))) (uI (uI (uI U (2 * b) 0) (2 * b + 1) 0) (2 * b) 1) (uI (uI T b 0) b 1) Ln (Bn + 1) On)) _
          refine rn_goto 128 d_C_chooseBranches_105 rfl ?_
          exact rn_return d_C_chooseBranches_128 rfl ⟨rfl, kS_ext rfl (uI3 (by symm; unfold plG0; (first | rw [if_pos (by omega)] | rw [if_neg (by omega)]); (try (first | rw [if_pos (by omega)] | rw [if_neg (by omega)])); (try (first | rw [if_pos (by omega)] | rw [if_neg (by omega)]))) (by symm; unfold plG1; (first | rw [if_pos (by omega)] | rw [if_neg (by omega)]); (try (first | rw [if_pos (by omega)] | rw [if_neg (by omega)])); (try (first | rw [if_pos (by omega)] | rw [if_neg (by omega)])))) (uI3 (by symm; unfold plU0; (first | rw [if_pos (by omega)] | rw [if_neg (by omega)]); (try (first | rw [if_pos (by omega)] | rw [if_neg (by omega)])); (try (first | rw [if_pos (by omega)] | rw [if_neg (by omega)]))) (by symm; unfold plU1; (first | rw [if_pos (by omega)] | rw [if_neg (by omega)]); (try (first | rw [if_pos (by omega)] | rw [if_neg (by omega)])); (try (first | rw [if_pos (by omega)] | rw [if_neg (by omega)])))) (uIT (by symm; unfold plT; (first | rw [if_pos (by omega)] | rw [if_neg (by omega)]); (try (first | rw [if_pos (by omega)] | rw [if_neg (by omega)])); (try (first | rw [if_pos (by omega)] | rw [if_neg (by omega)])))) rfl (by rw [show plU0 (σ 4 b) (σ 5 (2 * b)) nx = 1 from (by unfold plU0; (first | rw [if_pos (by omega)] | rw [if_neg (by omega)]); (try (first | rw [if_pos (by omega)] | rw [if_neg (by omega)])); (try (first | rw [if_pos (by omega)] | rw [if_neg (by omega)]))), show plU1 (σ 4 b) (σ 5 (2 * b)) (σ 5 (2 * b + 1)) nx = 0 from (by unfold plU1; (first | rw [if_pos (by omega)] | rw [if_neg (by omega)]); (try (first | rw [if_pos (by omega)] | rw [if_neg (by omega)])); (try (first | rw [if_pos (by omega)] | rw [if_neg (by omega)])))]; try omega) rfl⟩
      · refine rn_aload_n 72 d_C_chooseBranches_71 rfl rfl ?_
        refine rn_iconst 73 d_C_chooseBranches_72 rfl ?_
        refine rn_iload_n 74 d_C_chooseBranches_73 rfl rfl ?_
        refine rn_imul 75 d_C_chooseBranches_74 rfl ?_
        refine rn_iload 77 d_C_chooseBranches_75 rfl rfl ?_
        refine rn_callV2 80 d_C_chooseBranches_77 rfl cw_C_62 rfl (Nat.le_of_ble_eq_true rfl) (ev_C_putBranch ⟨by omega, by omega⟩) ?_
        rintro _ _ ⟨rfl, rfl⟩
        refine rn_goto 128 d_C_chooseBranches_80 rfl ?_
        exact rn_return d_C_chooseBranches_128 rfl ⟨rfl, kS_ext rfl (uI3 (by symm; unfold plG0; (first | rw [if_pos (by omega)] | rw [if_neg (by omega)]); (try (first | rw [if_pos (by omega)] | rw [if_neg (by omega)])); (try (first | rw [if_pos (by omega)] | rw [if_neg (by omega)]))) (by symm; unfold plG1; (first | rw [if_pos (by omega)] | rw [if_neg (by omega)]); (try (first | rw [if_pos (by omega)] | rw [if_neg (by omega)])); (try (first | rw [if_pos (by omega)] | rw [if_neg (by omega)])))) (uI3 (by symm; unfold plU0; (first | rw [if_pos (by omega)] | rw [if_neg (by omega)]); (try (first | rw [if_pos (by omega)] | rw [if_neg (by omega)])); (try (first | rw [if_pos (by omega)] | rw [if_neg (by omega)]))) (by symm; unfold plU1; (first | rw [if_pos (by omega)] | rw [if_neg (by omega)]); (try (first | rw [if_pos (by omega)] | rw [if_neg (by omega)])); (try (first | rw [if_pos (by omega)] | rw [if_neg (by omega)])))) (uI1 (by symm; unfold plT; (first | rw [if_pos (by omega)] | rw [if_neg (by omega)]); (try (first | rw [if_pos (by omega)] | rw [if_neg (by omega)])); (try (first | rw [if_pos (by omega)] | rw [if_neg (by omega)])))) rfl (by rw [show plU0 (σ 4 b) (σ 5 (2 * b)) nx = 1 from (by unfold plU0; (first | rw [if_pos (by omega)] | rw [if_neg (by omega)]); (try (first | rw [if_pos (by omega)] | rw [if_neg (by omega)])); (try (first | rw [if_pos (by omega)] | rw [if_neg (by omega)]))), show plU1 (σ 4 b) (σ 5 (2 * b)) (σ 5 (2 * b + 1)) nx = 0 from (by unfold plU1; (first | rw [if_pos (by omega)] | rw [if_neg (by omega)]); (try (first | rw [if_pos (by omega)] | rw [if_neg (by omega)])); (try (first | rw [if_pos (by omega)] | rw [if_neg (by omega)])))]; try omega) rfl⟩
  · refine rn_iload 39 d_C_chooseBranches_37 rfl rfl ?_
    refine rn_iload_n 40 d_C_chooseBranches_39 rfl rfl ?_
    refine rn_icmp_eq 128 43 d_C_chooseBranches_40 rfl rfl ⟨by omega, by omega⟩ ⟨by omega, by omega⟩ (fun c_40 => ?_) (fun c_40 => ?_)
    · exact rn_return d_C_chooseBranches_128 rfl ⟨rfl, kS_ext rfl (uI2 (by symm; unfold plG0; (first | rw [if_pos (by omega)] | rw [if_neg (by omega)]); (try (first | rw [if_pos (by omega)] | rw [if_neg (by omega)])); (try (first | rw [if_pos (by omega)] | rw [if_neg (by omega)]))) (by symm; unfold plG1; (first | rw [if_pos (by omega)] | rw [if_neg (by omega)]); (try (first | rw [if_pos (by omega)] | rw [if_neg (by omega)])); (try (first | rw [if_pos (by omega)] | rw [if_neg (by omega)])))) (uI2 (by symm; unfold plU0; (first | rw [if_pos (by omega)] | rw [if_neg (by omega)]); (try (first | rw [if_pos (by omega)] | rw [if_neg (by omega)])); (try (first | rw [if_pos (by omega)] | rw [if_neg (by omega)]))) (by symm; unfold plU1; (first | rw [if_pos (by omega)] | rw [if_neg (by omega)]); (try (first | rw [if_pos (by omega)] | rw [if_neg (by omega)])); (try (first | rw [if_pos (by omega)] | rw [if_neg (by omega)])))) (uI1 (by symm; unfold plT; (first | rw [if_pos (by omega)] | rw [if_neg (by omega)]); (try (first | rw [if_pos (by omega)] | rw [if_neg (by omega)])); (try (first | rw [if_pos (by omega)] | rw [if_neg (by omega)])))) rfl (by rw [show plU0 (σ 4 b) (σ 5 (2 * b)) nx = 0 from (by unfold plU0; (first | rw [if_pos (by omega)] | rw [if_neg (by omega)]); (try (first | rw [if_pos (by omega)] | rw [if_neg (by omega)])); (try (first | rw [if_pos (by omega)] | rw [if_neg (by omega)]))), show plU1 (σ 4 b) (σ 5 (2 * b)) (σ 5 (2 * b + 1)) nx = 0 from (by unfold plU1; (first | rw [if_pos (by omega)] | rw [if_neg (by omega)]); (try (first | rw [if_pos (by omega)] | rw [if_neg (by omega)])); (try (first | rw [if_pos (by omega)] | rw [if_neg (by omega)])))]; try omega) rfl⟩
    · refine rn_aload_n 44 d_C_chooseBranches_43 rfl rfl ?_
      refine rn_iconst 45 d_C_chooseBranches_44 rfl ?_
      refine rn_iload_n 46 d_C_chooseBranches_45 rfl rfl ?_
      refine rn_imul 47 d_C_chooseBranches_46 rfl ?_
      refine rn_iload 49 d_C_chooseBranches_47 rfl rfl ?_
      refine rn_callV2 52 d_C_chooseBranches_49 rfl cw_C_62 rfl (Nat.le_of_ble_eq_true rfl) (ev_C_putBranch ⟨by omega, by omega⟩) ?_
      rintro _ _ ⟨rfl, rfl⟩
      refine rn_goto 128 d_C_chooseBranches_52 rfl ?_
      exact rn_return d_C_chooseBranches_128 rfl ⟨rfl, kS_ext rfl (uI3 (by symm; unfold plG0; (first | rw [if_pos (by omega)] | rw [if_neg (by omega)]); (try (first | rw [if_pos (by omega)] | rw [if_neg (by omega)])); (try (first | rw [if_pos (by omega)] | rw [if_neg (by omega)]))) (by symm; unfold plG1; (first | rw [if_pos (by omega)] | rw [if_neg (by omega)]); (try (first | rw [if_pos (by omega)] | rw [if_neg (by omega)])); (try (first | rw [if_pos (by omega)] | rw [if_neg (by omega)])))) (uI3 (by symm; unfold plU0; (first | rw [if_pos (by omega)] | rw [if_neg (by omega)]); (try (first | rw [if_pos (by omega)] | rw [if_neg (by omega)])); (try (first | rw [if_pos (by omega)] | rw [if_neg (by omega)]))) (by symm; unfold plU1; (first | rw [if_pos (by omega)] | rw [if_neg (by omega)]); (try (first | rw [if_pos (by omega)] | rw [if_neg (by omega)])); (try (first | rw [if_pos (by omega)] | rw [if_neg (by omega)])))) (uI1 (by symm; unfold plT; (first | rw [if_pos (by omega)] | rw [if_neg (by omega)]); (try (first | rw [if_pos (by omega)] | rw [if_neg (by omega)])); (try (first | rw [if_pos (by omega)] | rw [if_neg (by omega)])))) rfl (by rw [show plU0 (σ 4 b) (σ 5 (2 * b)) nx = 1 from (by unfold plU0; (first | rw [if_pos (by omega)] | rw [if_neg (by omega)]); (try (first | rw [if_pos (by omega)] | rw [if_neg (by omega)])); (try (first | rw [if_pos (by omega)] | rw [if_neg (by omega)]))), show plU1 (σ 4 b) (σ 5 (2 * b)) (σ 5 (2 * b + 1)) nx = 0 from (by unfold plU1; (first | rw [if_pos (by omega)] | rw [if_neg (by omega)]); (try (first | rw [if_pos (by omega)] | rw [if_neg (by omega)])); (try (first | rw [if_pos (by omega)] | rw [if_neg (by omega)])))]; try omega) rfl⟩
end
section
/-- a block's length by the class's units -/
def cuC (σ : av_S) (U : Int → Int) (b : Int) : Int := σ 3 b + U (2 * b) + U (2 * b + 1) + (if σ 4 b = 0 then 1 else 0)
def adC (σ : av_S) (U : Int → Int) (k : Nat) : Int := sm (fun k => cuC σ U (σ 14 k)) k
def ab (x : Int) : Int := if 0 ≤ x then x else 0 - x
set_option maxRecDepth 100000 in
set_option maxHeartbeats 400000 in
theorem measure_loop {sc : av_sc} {d n0 bc bs : Nat} {al : Bool} {σ : av_S} {G U T : Int → Int} {Bn On : Int} {Φ : Option av_V → av_H → Prop} (hn : 0 ≤ σ 1 5 ∧ σ 1 5 ≤ 24) (hO : ∀ k, 0 ≤ k → k < σ 1 5 → 0 ≤ σ 14 k ∧ σ 14 k < σ 1 5) (hJ : ∀ i j, 0 ≤ i → i < j → j < σ 1 5 → σ 14 i ≠ σ 14 j) (hE : ∀ b, 0 ≤ b → b < σ 1 5 → 0 ≤ σ 4 b ∧ σ 4 b ≤ 2)
    (hΦ : ∀ ST' : Int → Int, (∀ k : Nat, (k : Int) < σ 1 5 → ST' (σ 14 (k : Int)) = adC σ U k) → Φ none (hp (kS σ (ST') G U T (adC σ U (σ 1 5).toNat) Bn On))) :
    ∀ (m k : Nat) (ST : Int → Int), (k : Int) + (m : Int) = σ 1 5 → (∀ j : Nat, j < k → ST (σ 14 (j : Int)) = adC σ U j) → av_Rn sc m_C_measure d al n0 bc bs 7 [some (vR 21), some (vR 1), some (vR 14), some (vI (k : Int)), none] [] (hp (kS σ ST G U T (adC σ U k) Bn On)) Φ := by
  intro m
  induction m with
  | zero =>
    intro k ST hk hST
    obtain rfl : k = (σ 1 5).toNat := by omega
    refine rn_iload_n 8 d_C_measure_7 rfl rfl ?_
    refine rn_aload_n 9 d_C_measure_8 rfl rfl ?_
    refine rn_getfield 12 d_C_measure_9 rfl fd_C_35 rfl rfl ?_
    rw [show (kS σ ST G U T (adC σ U (σ 1 5).toNat) Bn On) 1 5 = σ 1 5 from rfl]
    refine rn_icmp_ge 99 15 d_C_measure_12 rfl rfl ⟨by omega, by omega⟩ ⟨by omega, by omega⟩ (fun c_12 => ?_) (fun c_12 => ?_)
    · exact rn_return d_C_measure_99 rfl (hΦ ST (fun k hk2 => hST k (by omega)))
    · omega
  | succ m ih =>
    intro k ST hk hST
    have hOk := hO (k : Int) (by omega) (by omega)
    have hEk := hE _ hOk.1 hOk.2
    refine rn_iload_n 8 d_C_measure_7 rfl rfl ?_
    refine rn_aload_n 9 d_C_measure_8 rfl rfl ?_
    refine rn_getfield 12 d_C_measure_9 rfl fd_C_35 rfl rfl ?_
    rw [show (kS σ ST G U T (adC σ U k) Bn On) 1 5 = σ 1 5 from rfl]
    refine rn_icmp_ge 99 15 d_C_measure_12 rfl rfl ⟨by omega, by omega⟩ ⟨by omega, by omega⟩ (fun c_12 => ?_) (fun c_12 => ?_)
    · omega
    · refine rn_aload_n 16 d_C_measure_15 rfl rfl ?_
      refine rn_iload_n 17 d_C_measure_16 rfl rfl ?_
      refine rn_iaload 18 d_C_measure_17 rfl rfl (by decide) (by omega) (by omega) ?_
      rw [show (kS σ ST G U T (adC σ U k) Bn On) 14 (k : Int) = (σ 14 (k : Int)) from rfl]
      refine rn_istore 20 d_C_measure_18 rfl (by decide) rfl rfl ?_
      refine rn_aload_n 21 d_C_measure_20 rfl rfl ?_
      refine rn_getfield 24 d_C_measure_21 rfl fd_C_9 rfl rfl ?_
      refine rn_iload 26 d_C_measure_24 rfl rfl ?_
      refine rn_aload_n 27 d_C_measure_26 rfl rfl ?_
      refine rn_getfield 30 d_C_measure_27 rfl fd_C_25 rfl rfl ?_
      rw [show (kS σ ST G U T (adC σ U k) Bn On) 21 4 = adC σ U k from rfl]
      refine rn_iastore 31 d_C_measure_30 rfl rfl (by decide) (by omega) (by omega) (hs_22 _ _) ?_
      change av_Rn _ _ _ _ _ _ _ _ _ _ (hp (kS σ (uI ST (σ 14 (k : Int)) (adC σ U k)) G U T (adC σ U k) Bn On)) _
      refine rn_aload_n 32 d_C_measure_31 rfl rfl ?_
      refine rn_dup 33 d_C_measure_32 rfl rfl ?_
      refine rn_getfield 36 d_C_measure_33 rfl fd_C_25 rfl rfl ?_
      rw [show (kS σ (uI ST (σ 14 (k : Int)) (adC σ U k)) G U T (adC σ U k) Bn On) 21 4 = adC σ U k from rfl]
      refine rn_aload_n 37 d_C_measure_36 rfl rfl ?_
      refine rn_getfield 40 d_C_measure_37 rfl fd_C_66 rfl rfl ?_
      refine rn_iload 42 d_C_measure_40 rfl rfl ?_
      refine rn_iaload 43 d_C_measure_42 rfl rfl (by decide) (by omega) (by omega) ?_
      rw [show (kS σ (uI ST (σ 14 (k : Int)) (adC σ U k)) G U T (adC σ U k) Bn On) 3 (σ 14 (k : Int)) = σ 3 (σ 14 (k : Int)) from rfl]
      refine rn_aload_n 44 d_C_measure_43 rfl rfl ?_
      refine rn_getfield 47 d_C_measure_44 rfl fd_C_18 rfl rfl ?_
      refine rn_iconst 48 d_C_measure_47 rfl ?_
      refine rn_iload 50 d_C_measure_48 rfl rfl ?_
      refine rn_imul 51 d_C_measure_50 rfl ?_
      refine rn_iaload 52 d_C_measure_51 rfl rfl (by decide) (by omega) (by omega) ?_
      rw [show (kS σ (uI ST (σ 14 (k : Int)) (adC σ U k)) G U T (adC σ U k) Bn On) 24 (2 * (σ 14 (k : Int))) = U (2 * (σ 14 (k : Int))) from rfl]
      refine rn_iadd 53 d_C_measure_52 rfl ?_
      refine rn_aload_n 54 d_C_measure_53 rfl rfl ?_
      refine rn_getfield 57 d_C_measure_54 rfl fd_C_18 rfl rfl ?_
      refine rn_iconst 58 d_C_measure_57 rfl ?_
      refine rn_iload 60 d_C_measure_58 rfl rfl ?_
      refine rn_imul 61 d_C_measure_60 rfl ?_
      refine rn_iconst 62 d_C_measure_61 rfl ?_
      refine rn_iadd 63 d_C_measure_62 rfl ?_
      refine rn_iaload 64 d_C_measure_63 rfl rfl (by decide) (by omega) (by omega) ?_
      rw [show (kS σ (uI ST (σ 14 (k : Int)) (adC σ U k)) G U T (adC σ U k) Bn On) 24 (2 * (σ 14 (k : Int)) + 1) = U (2 * (σ 14 (k : Int)) + 1) from rfl]
      refine rn_iadd 65 d_C_measure_64 rfl ?_
      refine rn_iadd 66 d_C_measure_65 rfl ?_
      refine rn_putfield 69 d_C_measure_66 rfl fp_C_25 rfl (Nat.le_of_ble_eq_true rfl) av_fitI (hs_21_4 _ _) ?_
      change av_Rn _ _ _ _ _ _ _ _ _ _ (hp (kS σ (uI ST (σ 14 (k : Int)) (adC σ U k)) G U T (adC σ U k + (σ 3 (σ 14 (k : Int)) + U (2 * (σ 14 (k : Int))) + U (2 * (σ 14 (k : Int)) + 1))) Bn On)) _
      refine rn_aload_n 70 d_C_measure_69 rfl rfl ?_
      refine rn_dup 71 d_C_measure_70 rfl rfl ?_
      refine rn_getfield 74 d_C_measure_71 rfl fd_C_25 rfl rfl ?_
      rw [show (kS σ (uI ST (σ 14 (k : Int)) (adC σ U k)) G U T (adC σ U k + (σ 3 (σ 14 (k : Int)) + U (2 * (σ 14 (k : Int))) + U (2 * (σ 14 (k : Int)) + 1))) Bn On) 21 4 = adC σ U k + (σ 3 (σ 14 (k : Int)) + U (2 * (σ 14 (k : Int))) + U (2 * (σ 14 (k : Int)) + 1)) from rfl]
      refine rn_aload_n 75 d_C_measure_74 rfl rfl ?_
      refine rn_getfield 78 d_C_measure_75 rfl fd_C_59 rfl rfl ?_
      refine rn_iload 80 d_C_measure_78 rfl rfl ?_
      refine rn_iaload 81 d_C_measure_80 rfl rfl (by decide) (by omega) (by omega) ?_
      rw [show (kS σ (uI ST (σ 14 (k : Int)) (adC σ U k)) G U T (adC σ U k + (σ 3 (σ 14 (k : Int)) + U (2 * (σ 14 (k : Int))) + U (2 * (σ 14 (k : Int)) + 1))) Bn On) 4 (σ 14 (k : Int)) = σ 4 (σ 14 (k : Int)) from rfl]
      have J : ∀ z : Int, z = (if σ 4 (σ 14 (k : Int)) = 0 then 1 else 0) → av_Rn sc m_C_measure d al n0 bc bs 89 [some (vR 21), some (vR 1), some (vR 14), some (vI (k : Int)), some (vI (σ 14 (k : Int)))] [vI z, vI (adC σ U k + (σ 3 (σ 14 (k : Int)) + U (2 * (σ 14 (k : Int))) + U (2 * (σ 14 (k : Int)) + 1))), vR 21] (hp (kS σ (uI ST (σ 14 (k : Int)) (adC σ U k)) G U T (adC σ U k + (σ 3 (σ 14 (k : Int)) + U (2 * (σ 14 (k : Int))) + U (2 * (σ 14 (k : Int)) + 1))) Bn On)) Φ := by
        intro z ez
        have eL : adC σ U (k + 1) = adC σ U k + (σ 3 (σ 14 (k : Int)) + U (2 * (σ 14 (k : Int))) + U (2 * (σ 14 (k : Int)) + 1)) + z := by
          show adC σ U k + cuC σ U (σ 14 (k : Int)) = _
          unfold cuC; rw [ez]; omega
        refine rn_iadd 90 d_C_measure_89 rfl ?_
        rw [← eL]
        refine rn_putfield 93 d_C_measure_90 rfl fp_C_25 rfl (Nat.le_of_ble_eq_true rfl) av_fitI (hs_21_4 _ _) ?_
        change av_Rn _ _ _ _ _ _ _ _ _ _ (hp (kS σ (uI ST (σ 14 (k : Int)) (adC σ U k)) G U T (adC σ U (k + 1)) Bn On)) _
        refine rn_iinc 96 d_C_measure_93 rfl rfl (by decide) rfl rfl ?_
        refine rn_goto 7 d_C_measure_96 rfl ?_
        refine rn_kill 4 rfl ?_
        refine ih (k + 1) _ (by omega) (fun j hj => ?_)
        by_cases hjk : j = k
        · subst hjk; exact uI_s ST _ _
        · rw [uI_n ST _ (hJ (j : Int) (k : Int) (by omega) (by omega) (by omega))]; exact hST j (by omega)
      refine rn_if_ne 88 84 d_C_measure_81 rfl rfl ⟨by omega, by omega⟩ (fun c_81 => ?_) (fun c_81 => ?_)
      · refine rn_iconst 89 d_C_measure_88 rfl ?_
        exact J _ (by (first | rw [if_pos (by omega)] | rw [if_neg (by omega)]))
      · refine rn_iconst 85 d_C_measure_84 rfl ?_
        refine rn_goto 89 d_C_measure_85 rfl ?_
        exact J _ (by (first | rw [if_pos (by omega)] | rw [if_neg (by omega)]))
set_option maxRecDepth 100000 in
set_option maxHeartbeats 400000 in
theorem ev_C_measure {sc : av_sc} {d : Nat} {σ : av_S} {ST G U T : Int → Int} {Ln Bn On : Int} (hn : 0 ≤ σ 1 5 ∧ σ 1 5 ≤ 24) (hO : ∀ k, 0 ≤ k → k < σ 1 5 → 0 ≤ σ 14 k ∧ σ 14 k < σ 1 5) (hJ : ∀ i j, 0 ≤ i → i < j → j < σ 1 5 → σ 14 i ≠ σ 14 j) (hE : ∀ b, 0 ≤ b → b < σ 1 5 → 0 ≤ σ 4 b ∧ σ 4 b ≤ 2) : av_Ev sc m_C_measure (d) false 0 0 [vR 21, vR 1, vR 14] (hp (kS σ ST G U T Ln Bn On)) (fun r h => r = none ∧ ∃ ST' : Int → Int, (∀ k : Nat, (k : Int) < σ 1 5 → ST' (σ 14 (k : Int)) = adC σ U k) ∧ h = hp (kS σ (ST') G U T (adC σ U (σ 1 5).toNat) Bn On)) := by
  refine av_ev rfl rfl (Nat.le_of_ble_eq_true rfl) rfl ?_
  refine rn_aload_n 1 d_C_measure_0 rfl rfl ?_
  refine rn_iconst 2 d_C_measure_1 rfl ?_
  refine rn_putfield 5 d_C_measure_2 rfl fp_C_25 rfl (Nat.le_of_ble_eq_true rfl) av_fitI (hs_21_4 _ _) ?_
  refine rn_iconst 6 d_C_measure_5 rfl ?_
  refine rn_istore_n 7 d_C_measure_6 rfl (by decide) rfl rfl ?_
  change av_Rn _ _ _ _ _ _ _ _ _ _ (hp (kS σ ST G U T (adC σ U 0) Bn On)) _
  exact measure_loop hn hO hJ hE (fun ST' hST' => ⟨rfl, ST', hST', rfl⟩) (σ 1 5).toNat 0 ST (by omega) (fun j hj => by omega)
set_option maxRecDepth 100000 in
set_option maxHeartbeats 400000 in
theorem ev_C_lengthenOne {sc : av_sc} {d : Nat} {σ : av_S} {ST G U T : Int → Int} {Ln Bn On : Int} {k own rg : Int} (hk : 0 ≤ k ∧ k < 48) (hU : 0 ≤ U k ∧ U k ≤ 2) (hG : U k = 1 → (0 ≤ G k ∧ G k < 24) ∧ 0 ≤ ST (G k) ∧ ST (G k) ≤ 10000) (ho : 0 ≤ own ∧ own ≤ 20000) (hr : 0 ≤ rg ∧ rg ≤ 400) : av_Ev sc m_C_lengthenOne (d + 1) false 0 0 [vR 21, vI k, vI own, vI rg] (hp (kS σ ST G U T Ln Bn On)) (fun r h => r = some (vI (bz (U k = 1 ∧ rg < ab (own - ST (G k))))) ∧ h = hp (kS σ ST G (if (U k = 1 ∧ rg < ab (own - ST (G k))) then uI U k 2 else U) T Ln Bn (if (U k = 1 ∧ rg < ab (own - ST (G k))) then On + 1 else On))) := by
  refine av_ev rfl rfl (Nat.le_of_ble_eq_true rfl) rfl ?_
  refine rn_aload_n 1 d_C_lengthenOne_0 rfl rfl ?_
  refine rn_getfield 4 d_C_lengthenOne_1 rfl fd_C_18 rfl rfl ?_
  refine rn_iload_n 5 d_C_lengthenOne_4 rfl rfl ?_
  refine rn_iaload 6 d_C_lengthenOne_5 rfl rfl (by decide) (by omega) (by omega) ?_
  rw [show (kS σ ST G U T Ln Bn On) 24 k = U k from rfl]
  refine rn_iconst 7 d_C_lengthenOne_6 rfl ?_
  refine rn_icmp_ne 30 10 d_C_lengthenOne_7 rfl rfl ⟨by omega, by omega⟩ ⟨by omega, by omega⟩ (fun c_7 => ?_) (fun c_7 => ?_)
  · refine rn_iconst 31 d_C_lengthenOne_30 rfl ?_
    refine rn_ireturn d_C_lengthenOne_31 (Or.inr ⟨rfl, Or.inl rfl⟩) ⟨by rw [bz_f (by omega)], ?_⟩
    rw [if_neg (by omega), if_neg (by omega)]
  · have hG1 := hG c_7
    refine rn_iload_n 11 d_C_lengthenOne_10 rfl rfl ?_
    refine rn_aload_n 12 d_C_lengthenOne_11 rfl rfl ?_
    refine rn_getfield 15 d_C_lengthenOne_12 rfl fd_C_9 rfl rfl ?_
    refine rn_aload_n 16 d_C_lengthenOne_15 rfl rfl ?_
    refine rn_getfield 19 d_C_lengthenOne_16 rfl fd_C_15 rfl rfl ?_
    refine rn_iload_n 20 d_C_lengthenOne_19 rfl rfl ?_
    refine rn_iaload 21 d_C_lengthenOne_20 rfl rfl (by decide) (by omega) (by omega) ?_
    rw [show (kS σ ST G U T Ln Bn On) 23 k = G k from rfl]
    refine rn_iaload 22 d_C_lengthenOne_21 rfl rfl (by decide) (by omega) (by omega) ?_
    rw [show (kS σ ST G U T Ln Bn On) 22 (G k) = ST (G k) from rfl]
    refine rn_isub 23 d_C_lengthenOne_22 rfl ?_
    refine rn_abs 26 d_C_lengthenOne_23 rfl cw_C_73 (Nat.le_of_ble_eq_true rfl) ⟨by omega, by omega⟩ ?_
    change av_Rn _ _ _ _ _ _ _ _ _ (vI (ab (own - ST (G k))) :: _) _ _
    have hab : 0 ≤ ab (own - ST (G k)) ∧ ab (own - ST (G k)) ≤ 40000 := by unfold ab; split <;> omega
    refine rn_iload_n 27 d_C_lengthenOne_26 rfl rfl ?_
    refine rn_icmp_gt 32 30 d_C_lengthenOne_27 rfl rfl ⟨by omega, by omega⟩ ⟨by omega, by omega⟩ (fun c_27 => ?_) (fun c_27 => ?_)
    · refine rn_aload_n 33 d_C_lengthenOne_32 rfl rfl ?_
      refine rn_getfield 36 d_C_lengthenOne_33 rfl fd_C_18 rfl rfl ?_
      refine rn_iload_n 37 d_C_lengthenOne_36 rfl rfl ?_
      refine rn_iconst 38 d_C_lengthenOne_37 rfl ?_
      refine rn_iastore 39 d_C_lengthenOne_38 rfl rfl (by decide) (by omega) (by omega) (hs_24 _ _) ?_
      change av_Rn _ _ _ _ _ _ _ _ _ _ (hp (kS σ ST G (uI U k 2) T Ln Bn On)) _
      refine rn_aload_n 40 d_C_lengthenOne_39 rfl rfl ?_
      refine rn_dup 41 d_C_lengthenOne_40 rfl rfl ?_
      refine rn_getfield 44 d_C_lengthenOne_41 rfl fd_C_32 rfl rfl ?_
      rw [show (kS σ ST G (uI U k 2) T Ln Bn On) 21 6 = On from rfl]
      refine rn_iconst 45 d_C_lengthenOne_44 rfl ?_
      refine rn_iadd 46 d_C_lengthenOne_45 rfl ?_
      refine rn_putfield 49 d_C_lengthenOne_46 rfl fp_C_32 rfl (Nat.le_of_ble_eq_true rfl) av_fitI (hs_21_6 _ _) ?_
      change av_Rn _ _ _ _ _ _ _ _ _ _ (hp (kS σ ST G (uI U k 2) T Ln Bn (On + 1))) _
      refine rn_iconst 50 d_C_lengthenOne_49 rfl ?_
      refine rn_ireturn d_C_lengthenOne_50 (Or.inr ⟨rfl, Or.inr rfl⟩) ⟨by rw [bz_t (by omega)], ?_⟩
      rw [if_pos (by omega), if_pos (by omega)]
    · refine rn_iconst 31 d_C_lengthenOne_30 rfl ?_
      refine rn_ireturn d_C_lengthenOne_31 (Or.inr ⟨rfl, Or.inl rfl⟩) ⟨by rw [bz_f (by omega)], ?_⟩
      rw [if_neg (by omega), if_neg (by omega)]
end
section
theorem ior01 {x : Int} {P : Prop} [Decidable P] (hx : x = 0 ∨ x = 1) : Int32.ofInt x ||| Int32.ofInt (bz P) = Int32.ofInt (bz (x = 1 ∨ P)) := by
  by_cases hP : P
  · rw [bz_t hP, bz_t (Or.inr hP)]
    rcases hx with rfl | rfl <;> rfl
  · rw [bz_f hP]
    rcases hx with rfl | rfl
    · rw [bz_f (fun q => q.elim (fun z => by cases z) hP)]; rfl
    · rw [bz_t (Or.inl rfl)]; rfl
/-- a slot grows in a round: U the units, ST the addresses of the round -/
abbrev P0 (bo ST G U : Int → Int) (rg j : Int) : Prop := U (2 * j) = 1 ∧ rg < ab (ST j + bo j - ST (G (2 * j)))
abbrev P1 (bo ST G U : Int → Int) (rg j : Int) : Prop := U (2 * j + 1) = 1 ∧ rg < ab (ST j + bo j + U (2 * j) - ST (G (2 * j + 1)))
/-- the units behind the round, for the blocks below k -/
def nxU (bo ST G U : Int → Int) (rg : Int) (U' : Int → Int) (k : Nat) : Prop := (∀ j : Nat, j < k → U' (2 * (j : Int)) = (if P0 bo ST G U rg (j : Int) then 2 else U (2 * (j : Int))) ∧ U' (2 * (j : Int) + 1) = (if P1 bo ST G U rg (j : Int) then 2 else U (2 * (j : Int) + 1))) ∧ ∀ i, 2 * (k : Int) ≤ i → U' i = U i
def grN (bo ST G U : Int → Int) (rg : Int) (k : Nat) : Prop := ∃ j : Nat, j < k ∧ (P0 bo ST G U rg (j : Int) ∨ P1 bo ST G U rg (j : Int))
def grS (bo ST G U : Int → Int) (rg : Int) (k : Nat) : Int := sm (fun j => bz (P0 bo ST G U rg j) + bz (P1 bo ST G U rg j)) k
theorem nxU_step {bo ST G U U1 U2 : Int → Int} {rg : Int} {k : Nat} {V : Int → Int} (h : nxU bo ST G U rg V k) (h1 : U1 = if P0 bo ST G U rg (k : Int) then uI V (2 * (k : Int)) 2 else V) (h2 : U2 = if P1 bo ST G U rg (k : Int) then uI U1 (2 * (k : Int) + 1) 2 else U1) : nxU bo ST G U rg U2 (k + 1) := by
  have a1 : ∀ i, i ≠ 2 * (k : Int) → U1 i = V i := by
    intro i hi
    rw [h1]
    split
    · exact uI_n V 2 hi
    · rfl
  have a2 : ∀ i, i ≠ 2 * (k : Int) + 1 → U2 i = U1 i := by
    intro i hi
    rw [h2]
    split
    · exact uI_n U1 2 hi
    · rfl
  refine ⟨fun j hj => ?_, fun i hi => ?_⟩
  · by_cases hjk : j = k
    · subst hjk
      constructor
      · rw [a2 _ (by omega), h1]
        split
        · exact uI_s V _ 2
        · exact h.2 _ (by omega)
      · rw [h2]
        split
        · exact uI_s U1 _ 2
        · rw [a1 _ (by omega)]; exact h.2 _ (by omega)
    · have := h.1 j (by omega)
      rw [a2 _ (by omega), a1 _ (by omega), a2 _ (by omega), a1 _ (by omega)]
      exact this
  · rw [a2 _ (by omega), a1 _ (by omega)]
    exact h.2 i (by omega)
set_option maxRecDepth 100000 in
set_option maxHeartbeats 400000 in
theorem lengthen_loop {sc : av_sc} {d n0 bc bs : Nat} {al : Bool} {σ : av_S} {ST G U0 T : Int → Int} {Ln Bn O0 rg : Int} {Φ : Option av_V → av_H → Prop} (hn : 0 ≤ σ 1 5 ∧ σ 1 5 ≤ 24) (hB : ∀ b, 0 ≤ b → b < σ 1 5 → 1 ≤ σ 3 b ∧ σ 3 b ≤ 40) (hU : ∀ i, 0 ≤ i → i < 48 → 0 ≤ U0 i ∧ U0 i ≤ 2) (hG : ∀ i, 0 ≤ i → i < 2 * σ 1 5 → U0 i = 1 → 0 ≤ G i ∧ G i < σ 1 5) (hST : ∀ b, 0 ≤ b → b < σ 1 5 → 0 ≤ ST b ∧ ST b ≤ 10000) (hr : 0 ≤ rg ∧ rg ≤ 400)
    (hΦ : ∀ (U' : Int → Int) (g : Int), (g = 0 ∨ g = 1) → (g = 1 ↔ grN (σ 3) ST G U0 rg (σ 1 5).toNat) → nxU (σ 3) ST G U0 rg U' (σ 1 5).toNat → Φ (some (vI g)) (hp (kS σ ST G (U') T Ln Bn (O0 + grS (σ 3) ST G U0 rg (σ 1 5).toNat)))) :
    ∀ (m k : Nat) (U : Int → Int) (g : Int), (k : Int) + (m : Int) = σ 1 5 → (g = 0 ∨ g = 1) → (g = 1 ↔ grN (σ 3) ST G U0 rg k) → nxU (σ 3) ST G U0 rg U k → av_Rn sc m_C_lengthen (d + 2) al n0 bc bs 5 [some (vR 21), some (vR 1), some (vI rg), some (vI g), some (vI (k : Int)), none, none] [] (hp (kS σ ST G U T Ln Bn (O0 + grS (σ 3) ST G U0 rg k))) Φ := by
  intro m
  induction m with
  | zero =>
    intro k U g hk hg01 hg hU'
    obtain rfl : k = (σ 1 5).toNat := by omega
    refine rn_iload 7 d_C_lengthen_5 rfl rfl ?_
    refine rn_aload_n 8 d_C_lengthen_7 rfl rfl ?_
    refine rn_getfield 11 d_C_lengthen_8 rfl fd_C_35 rfl rfl ?_
    rw [show (kS σ ST G U T Ln Bn (O0 + grS (σ 3) ST G U0 rg (σ 1 5).toNat)) 1 5 = σ 1 5 from rfl]
    refine rn_icmp_ge 81 14 d_C_lengthen_11 rfl rfl ⟨by omega, by omega⟩ ⟨by omega, by omega⟩ (fun c_11 => ?_) (fun c_11 => ?_)
    · refine rn_iload_n 82 d_C_lengthen_81 rfl rfl ?_
      exact rn_ireturn d_C_lengthen_82 (Or.inr ⟨rfl, hg01⟩) (hΦ U g hg01 hg hU')
    · omega
  | succ m ih =>
    intro k U g hk hg01 hg hU'
    have hBk := hB (k : Int) (by omega) (by omega)
    have hSTk := hST (k : Int) (by omega) (by omega)
    have eU0 : U (2 * (k : Int)) = U0 (2 * (k : Int)) := hU'.2 _ (by omega)
    have eU1 : U (2 * (k : Int) + 1) = U0 (2 * (k : Int) + 1) := hU'.2 _ (by omega)
    have b0 := hU (2 * (k : Int)) (by omega) (by omega)
    have b1 := hU (2 * (k : Int) + 1) (by omega) (by omega)
    have g0 : U (2 * (k : Int)) = 1 → (0 ≤ G (2 * (k : Int)) ∧ G (2 * (k : Int)) < 24) ∧ 0 ≤ ST (G (2 * (k : Int))) ∧ ST (G (2 * (k : Int))) ≤ 10000 := fun q => by
      have z := hG (2 * (k : Int)) (by omega) (by omega) (by omega)
      exact ⟨⟨z.1, by omega⟩, hST _ z.1 z.2⟩
    have g1 : U (2 * (k : Int) + 1) = 1 → (0 ≤ G (2 * (k : Int) + 1) ∧ G (2 * (k : Int) + 1) < 24) ∧ 0 ≤ ST (G (2 * (k : Int) + 1)) ∧ ST (G (2 * (k : Int) + 1)) ≤ 10000 := fun q => by
      have z := hG (2 * (k : Int) + 1) (by omega) (by omega) (by omega)
      exact ⟨⟨z.1, by omega⟩, hST _ z.1 z.2⟩
    refine rn_iload 7 d_C_lengthen_5 rfl rfl ?_
    refine rn_aload_n 8 d_C_lengthen_7 rfl rfl ?_
    refine rn_getfield 11 d_C_lengthen_8 rfl fd_C_35 rfl rfl ?_
    rw [show (kS σ ST G U T Ln Bn (O0 + grS (σ 3) ST G U0 rg k)) 1 5 = σ 1 5 from rfl]
    refine rn_icmp_ge 81 14 d_C_lengthen_11 rfl rfl ⟨by omega, by omega⟩ ⟨by omega, by omega⟩ (fun c_11 => ?_) (fun c_11 => ?_)
    · omega
    · refine rn_aload_n 15 d_C_lengthen_14 rfl rfl ?_
      refine rn_getfield 18 d_C_lengthen_15 rfl fd_C_9 rfl rfl ?_
      refine rn_iload 20 d_C_lengthen_18 rfl rfl ?_
      refine rn_iaload 21 d_C_lengthen_20 rfl rfl (by decide) (by omega) (by omega) ?_
      rw [show (kS σ ST G U T Ln Bn (O0 + grS (σ 3) ST G U0 rg k)) 22 (k : Int) = ST (k : Int) from rfl]
      refine rn_aload_n 22 d_C_lengthen_21 rfl rfl ?_
      refine rn_getfield 25 d_C_lengthen_22 rfl fd_C_66 rfl rfl ?_
      refine rn_iload 27 d_C_lengthen_25 rfl rfl ?_
      refine rn_iaload 28 d_C_lengthen_27 rfl rfl (by decide) (by omega) (by omega) ?_
      rw [show (kS σ ST G U T Ln Bn (O0 + grS (σ 3) ST G U0 rg k)) 3 (k : Int) = σ 3 (k : Int) from rfl]
      refine rn_iadd 29 d_C_lengthen_28 rfl ?_
      refine rn_istore 31 d_C_lengthen_29 rfl (by decide) rfl rfl ?_
      refine rn_iload 33 d_C_lengthen_31 rfl rfl ?_
      refine rn_aload_n 34 d_C_lengthen_33 rfl rfl ?_
      refine rn_getfield 37 d_C_lengthen_34 rfl fd_C_18 rfl rfl ?_
      refine rn_iconst 38 d_C_lengthen_37 rfl ?_
      refine rn_iload 40 d_C_lengthen_38 rfl rfl ?_
      refine rn_imul 41 d_C_lengthen_40 rfl ?_
      refine rn_iaload 42 d_C_lengthen_41 rfl rfl (by decide) (by omega) (by omega) ?_
      rw [show (kS σ ST G U T Ln Bn (O0 + grS (σ 3) ST G U0 rg k)) 24 (2 * (k : Int)) = U (2 * (k : Int)) from rfl]
      refine rn_iadd 43 d_C_lengthen_42 rfl ?_
      refine rn_istore 45 d_C_lengthen_43 rfl (by decide) rfl rfl ?_
      refine rn_iload_n 46 d_C_lengthen_45 rfl rfl ?_
      refine rn_aload_n 47 d_C_lengthen_46 rfl rfl ?_
      refine rn_iconst 48 d_C_lengthen_47 rfl ?_
      refine rn_iload 50 d_C_lengthen_48 rfl rfl ?_
      refine rn_imul 51 d_C_lengthen_50 rfl ?_
      refine rn_iload 53 d_C_lengthen_51 rfl rfl ?_
      refine rn_iload_n 54 d_C_lengthen_53 rfl rfl ?_
      refine rn_callV3 57 d_C_lengthen_54 rfl cw_C_69 rfl (Nat.le_of_ble_eq_true rfl) (ev_C_lengthenOne ⟨by omega, by omega⟩ ⟨by omega, by omega⟩ g0 ⟨by omega, by omega⟩ hr) ?_
      rintro _ _ ⟨rfl, rfl⟩
      obtain ⟨U1, hU1⟩ : ∃ U1, U1 = (if (U (2 * (k : Int)) = 1 ∧ rg < ab (ST (k : Int) + σ 3 (k : Int) - ST (G (2 * (k : Int))))) then uI U (2 * (k : Int)) 2 else U) := ⟨_, rfl⟩
      obtain ⟨O1, hO1⟩ : ∃ O1 : Int, O1 = (if (U (2 * (k : Int)) = 1 ∧ rg < ab (ST (k : Int) + σ 3 (k : Int) - ST (G (2 * (k : Int))))) then O0 + grS (σ 3) ST G U0 rg k + 1 else O0 + grS (σ 3) ST G U0 rg k) := ⟨_, rfl⟩
      rw [← hU1, ← hO1]
      have e11 : U1 (2 * (k : Int) + 1) = U (2 * (k : Int) + 1) := by rw [hU1]; split; exact uI_n U 2 (by omega); rfl
      have q0 : (U (2 * (k : Int)) = 1 ∧ rg < ab (ST (k : Int) + σ 3 (k : Int) - ST (G (2 * (k : Int))))) ↔ P0 (σ 3) ST G U0 rg (k : Int) := by rw [eU0]
      refine rn_ior 58 d_C_lengthen_57 rfl _ (ior01 hg01) ?_
      refine rn_istore_n 59 d_C_lengthen_58 rfl (by decide) rfl rfl ?_
      refine rn_iload_n 60 d_C_lengthen_59 rfl rfl ?_
      refine rn_aload_n 61 d_C_lengthen_60 rfl rfl ?_
      refine rn_iconst 62 d_C_lengthen_61 rfl ?_
      refine rn_iload 64 d_C_lengthen_62 rfl rfl ?_
      refine rn_imul 65 d_C_lengthen_64 rfl ?_
      refine rn_iconst 66 d_C_lengthen_65 rfl ?_
      refine rn_iadd 67 d_C_lengthen_66 rfl ?_
      refine rn_iload 69 d_C_lengthen_67 rfl rfl ?_
      refine rn_iload_n 70 d_C_lengthen_69 rfl rfl ?_
      refine rn_callV3 73 d_C_lengthen_70 rfl cw_C_69 rfl (Nat.le_of_ble_eq_true rfl) (ev_C_lengthenOne ⟨by omega, by omega⟩ ⟨by omega, by omega⟩ (fun q => g1 (by omega)) ⟨by omega, by omega⟩ hr) ?_
      rintro _ _ ⟨rfl, rfl⟩
      obtain ⟨U2, hU2⟩ : ∃ U2, U2 = (if (U1 (2 * (k : Int) + 1) = 1 ∧ rg < ab (ST (k : Int) + σ 3 (k : Int) + U (2 * (k : Int)) - ST (G (2 * (k : Int) + 1)))) then uI U1 (2 * (k : Int) + 1) 2 else U1) := ⟨_, rfl⟩
      obtain ⟨O2, hO2⟩ : ∃ O2 : Int, O2 = (if (U1 (2 * (k : Int) + 1) = 1 ∧ rg < ab (ST (k : Int) + σ 3 (k : Int) + U (2 * (k : Int)) - ST (G (2 * (k : Int) + 1)))) then O1 + 1 else O1) := ⟨_, rfl⟩
      rw [← hU2, ← hO2]
      have q1 : (U1 (2 * (k : Int) + 1) = 1 ∧ rg < ab (ST (k : Int) + σ 3 (k : Int) + U (2 * (k : Int)) - ST (G (2 * (k : Int) + 1)))) ↔ P1 (σ 3) ST G U0 rg (k : Int) := by rw [e11, eU1, eU0]
      refine rn_ior 74 d_C_lengthen_73 rfl _ (ior01 bz_01) ?_
      refine rn_istore_n 75 d_C_lengthen_74 rfl (by decide) rfl rfl ?_
      refine rn_iinc 78 d_C_lengthen_75 rfl rfl (by decide) rfl rfl ?_
      refine rn_goto 5 d_C_lengthen_78 rfl ?_
      refine rn_kill 5 rfl ?_
      refine rn_kill 6 rfl ?_
      have eO : O2 = O0 + grS (σ 3) ST G U0 rg (k + 1) := by
        show O2 = O0 + (grS (σ 3) ST G U0 rg k + (bz (P0 (σ 3) ST G U0 rg (k : Int)) + bz (P1 (σ 3) ST G U0 rg (k : Int))))
        rw [hO2, hO1]
        by_cases p0 : P0 (σ 3) ST G U0 rg (k : Int) <;> by_cases p1 : P1 (σ 3) ST G U0 rg (k : Int)
        · rw [if_pos (q1.mpr p1), if_pos (q0.mpr p0), bz_t p0, bz_t p1]; omega
        · rw [if_neg (fun z => p1 (q1.mp z)), if_pos (q0.mpr p0), bz_t p0, bz_f p1]; omega
        · rw [if_pos (q1.mpr p1), if_neg (fun z => p0 (q0.mp z)), bz_f p0, bz_t p1]; omega
        · rw [if_neg (fun z => p1 (q1.mp z)), if_neg (fun z => p0 (q0.mp z)), bz_f p0, bz_f p1]; omega
      rw [eO]
      refine ih (k + 1) U2 _ (by omega) bz_01 ?_ ?_
      · rw [bz_iff, bz_iff]
        constructor
        · rintro ((z | z) | z)
          · obtain ⟨j, hj, hz⟩ := hg.mp z; exact ⟨j, by omega, hz⟩
          · exact ⟨k, by omega, Or.inl (q0.mp z)⟩
          · exact ⟨k, by omega, Or.inr (q1.mp z)⟩
        · rintro ⟨j, hj, hz⟩
          by_cases hjk : j = k
          · subst hjk
            rcases hz with hz | hz
            · exact Or.inl (Or.inr (q0.mpr hz))
            · exact Or.inr (q1.mpr hz)
          · exact Or.inl (Or.inl (hg.mpr ⟨j, by omega, hz⟩))
      · refine nxU_step hU' (U1 := U1) ?_ ?_
        · rw [hU1]; by_cases p0 : P0 (σ 3) ST G U0 rg (k : Int)
          · rw [if_pos p0, if_pos (q0.mpr p0)]
          · rw [if_neg p0, if_neg (fun z => p0 (q0.mp z))]
        · rw [hU2]; by_cases p1 : P1 (σ 3) ST G U0 rg (k : Int)
          · rw [if_pos p1, if_pos (q1.mpr p1)]
          · rw [if_neg p1, if_neg (fun z => p1 (q1.mp z))]
set_option maxRecDepth 100000 in
set_option maxHeartbeats 400000 in
theorem ev_C_lengthen {sc : av_sc} {d : Nat} {σ : av_S} {ST G U0 T : Int → Int} {Ln Bn On rg : Int} (hn : 0 ≤ σ 1 5 ∧ σ 1 5 ≤ 24) (hB : ∀ b, 0 ≤ b → b < σ 1 5 → 1 ≤ σ 3 b ∧ σ 3 b ≤ 40) (hU : ∀ i, 0 ≤ i → i < 48 → 0 ≤ U0 i ∧ U0 i ≤ 2) (hG : ∀ i, 0 ≤ i → i < 2 * σ 1 5 → U0 i = 1 → 0 ≤ G i ∧ G i < σ 1 5) (hST : ∀ b, 0 ≤ b → b < σ 1 5 → 0 ≤ ST b ∧ ST b ≤ 10000) (hr : 0 ≤ rg ∧ rg ≤ 400) : av_Ev sc m_C_lengthen (d + 2) false 0 0 [vR 21, vR 1, vI rg] (hp (kS σ ST G U0 T Ln Bn On)) (fun r h => ∃ (U' : Int → Int) (g : Int), r = some (vI g) ∧ (g = 0 ∨ g = 1) ∧ (g = 1 ↔ grN (σ 3) ST G U0 rg (σ 1 5).toNat) ∧ nxU (σ 3) ST G U0 rg U' (σ 1 5).toNat ∧ h = hp (kS σ ST G (U') T Ln Bn (On + grS (σ 3) ST G U0 rg (σ 1 5).toNat))) := by
  refine av_ev rfl rfl (Nat.le_of_ble_eq_true rfl) rfl ?_
  refine rn_iconst 1 d_C_lengthen_0 rfl ?_
  refine rn_istore_n 2 d_C_lengthen_1 rfl (by decide) rfl rfl ?_
  refine rn_iconst 3 d_C_lengthen_2 rfl ?_
  refine rn_istore 5 d_C_lengthen_3 rfl (by decide) rfl rfl ?_
  have L := lengthen_loop (sc := sc) (d := d) (n0 := (hp (kS σ ST G U0 T Ln Bn On)).length) (bc := 0) (bs := 0) (al := false) (T := T) (Ln := Ln) (Bn := Bn) (O0 := On) (Φ := fun r h => ∃ (U' : Int → Int) (g : Int), r = some (vI g) ∧ (g = 0 ∨ g = 1) ∧ (g = 1 ↔ grN (σ 3) ST G U0 rg (σ 1 5).toNat) ∧ nxU (σ 3) ST G U0 rg U' (σ 1 5).toNat ∧ h = hp (kS σ ST G (U') T Ln Bn (On + grS (σ 3) ST G U0 rg (σ 1 5).toNat))) hn hB hU hG hST hr (fun U' g h1 h2 h3 => ⟨U', g, rfl, h1, h2, h3, rfl⟩) (σ 1 5).toNat 0 U0 0 (by omega) (Or.inl rfl) ⟨fun q => by omega, fun q => by obtain ⟨j, hj, -⟩ := q; omega⟩ ⟨fun j hj => by omega, fun i _ => rfl⟩
  rw [show On + grS (σ 3) ST G U0 rg 0 = On from Int.add_zero On] at L
  exact L
end
section
/-- the block placed behind place j -/
def nxI (σ : av_S) (j : Int) : Int := if j + 1 < σ 1 5 then σ 14 (j + 1) else -1
def qU0 (σ : av_S) (j : Int) : Int := plU0 (σ 4 (σ 14 j)) (σ 5 (2 * σ 14 j)) (nxI σ j)
def qU1 (σ : av_S) (j : Int) : Int := plU1 (σ 4 (σ 14 j)) (σ 5 (2 * σ 14 j)) (σ 5 (2 * σ 14 j + 1)) (nxI σ j)
def qG0 (σ : av_S) (j : Int) : Int := plG0 (σ 4 (σ 14 j)) (σ 5 (2 * σ 14 j)) (σ 5 (2 * σ 14 j + 1)) (nxI σ j)
def qG1 (σ : av_S) (j : Int) : Int := plG1 (σ 4 (σ 14 j)) (σ 5 (2 * σ 14 j)) (σ 5 (2 * σ 14 j + 1)) (nxI σ j)
def qT (σ : av_S) (j : Int) : Int := plT (σ 4 (σ 14 j)) (σ 5 (2 * σ 14 j)) (σ 5 (2 * σ 14 j + 1)) (nxI σ j)
/-- the branches of the blocks at the places below k are as planned -/
def plO (σ : av_S) (G U T : Int → Int) (k : Nat) : Prop := ∀ j : Nat, j < k → (G (2 * σ 14 (j : Int)) = qG0 σ (j : Int) ∧ G (2 * σ 14 (j : Int) + 1) = qG1 σ (j : Int)) ∧ (U (2 * σ 14 (j : Int)) = qU0 σ (j : Int) ∧ U (2 * σ 14 (j : Int) + 1) = qU1 σ (j : Int)) ∧ T (σ 14 (j : Int)) = qT σ (j : Int)
def bnC (σ : av_S) (k : Nat) : Int := sm (fun j => qU0 σ j + qU1 σ j) k
/-- the order is one of all blocks -/
def iO (σ : av_S) : Prop := (∀ k, 0 ≤ k → k < σ 1 5 → 0 ≤ σ 14 k ∧ σ 14 k < σ 1 5) ∧ (∀ i j, 0 ≤ i → i < j → j < σ 1 5 → σ 14 i ≠ σ 14 j) ∧ ∀ b, 0 ≤ b → b < σ 1 5 → ∃ k : Nat, (k : Int) < σ 1 5 ∧ σ 14 (k : Int) = b
theorem uI2_at {f : Int → Int} {b p q : Int} : uI (uI f (2 * b) p) (2 * b + 1) q (2 * b) = p ∧ uI (uI f (2 * b) p) (2 * b + 1) q (2 * b + 1) = q := by
  constructor
  · rw [uI_n _ _ (by omega), uI_s]
  · exact uI_s _ _ _
theorem uI2_off {f : Int → Int} {b p q j : Int} (h : j ≠ 2 * b) (h2 : j ≠ 2 * b + 1) : uI (uI f (2 * b) p) (2 * b + 1) q j = f j := by
  rw [uI_n _ _ h2, uI_n _ _ h]
theorem plO_step {σ : av_S} {G U T : Int → Int} {k : Nat} (hI : iO σ) (hk : (k : Int) < σ 1 5) (h : plO σ G U T k) : plO σ (uI (uI G (2 * σ 14 (k : Int)) (qG0 σ (k : Int))) (2 * σ 14 (k : Int) + 1) (qG1 σ (k : Int))) (uI (uI U (2 * σ 14 (k : Int)) (qU0 σ (k : Int))) (2 * σ 14 (k : Int) + 1) (qU1 σ (k : Int))) (uI T (σ 14 (k : Int)) (qT σ (k : Int))) (k + 1) := by
  intro j hj
  by_cases hjk : j = k
  · subst hjk
    exact ⟨uI2_at, uI2_at, uI_s _ _ _⟩
  · have hne := hI.2.1 (j : Int) (k : Int) (by omega) (by omega) hk
    have := h j (by omega)
    rw [uI2_off (by omega) (by omega), uI2_off (by omega) (by omega), uI2_off (by omega) (by omega), uI2_off (by omega) (by omega), uI_n _ _ hne]
    exact this
theorem qU_bd (σ : av_S) (j : Int) : (0 ≤ qU0 σ j ∧ qU0 σ j ≤ 2) ∧ (0 ≤ qU1 σ j ∧ qU1 σ j ≤ 2) := by
  constructor
  · unfold qU0 plU0; split
    · split <;> omega
    · split <;> omega
  · unfold qU1 plU1; split <;> omega
theorem qT_bd (σ : av_S) (j : Int) : qT σ j = 0 ∨ qT σ j = 1 := by
  unfold qT plT; split
  · exact Or.inr rfl
  · exact Or.inl rfl
theorem uI2_bd {f : Int → Int} {b p q : Int} (h : ∀ i, 0 ≤ i → i < 48 → 0 ≤ f i ∧ f i ≤ 2) (hp : 0 ≤ p ∧ p ≤ 2) (hq : 0 ≤ q ∧ q ≤ 2) : ∀ i, 0 ≤ i → i < 48 → 0 ≤ uI (uI f (2 * b) p) (2 * b + 1) q i ∧ uI (uI f (2 * b) p) (2 * b + 1) q i ≤ 2 := by
  intro i h0 h1
  by_cases e1 : i = 2 * b + 1
  · rw [e1, uI_s]; exact hq
  · rw [uI_n _ _ e1]
    by_cases e2 : i = 2 * b
    · rw [e2, uI_s]; exact hp
    · rw [uI_n _ _ e2]; exact h i h0 h1
theorem uIT_bd {f : Int → Int} {b p : Int} (h : ∀ i, 0 ≤ i → i < 24 → f i = 0 ∨ f i = 1) (hp : p = 0 ∨ p = 1) : ∀ i, 0 ≤ i → i < 24 → uI f b p i = 0 ∨ uI f b p i = 1 := by
  intro i h0 h1
  by_cases e2 : i = b
  · rw [e2, uI_s]; exact hp
  · rw [uI_n _ _ e2]; exact h i h0 h1
set_option maxRecDepth 100000 in
set_option maxHeartbeats 400000 in
theorem lay_choose {sc : av_sc} {d n0 bc bs : Nat} {al : Bool} {σ : av_S} {ST : Int → Int} {Ln rg : Int} {Φ : Option av_V → av_H → Prop} (hn : 0 ≤ σ 1 5 ∧ σ 1 5 ≤ 24) (hI : iO σ) (hE : ∀ b, 0 ≤ b → b < σ 1 5 → (0 ≤ σ 4 b ∧ σ 4 b ≤ 2) ∧ (-1 ≤ σ 5 (2 * b) ∧ σ 5 (2 * b) < 24) ∧ (-1 ≤ σ 5 (2 * b + 1) ∧ σ 5 (2 * b + 1) < 24))
    (hΦ : ∀ G U T : Int → Int, plO σ G U T (σ 1 5).toNat → (∀ i, 0 ≤ i → i < 48 → 0 ≤ U i ∧ U i ≤ 2) → (∀ b, 0 ≤ b → b < 24 → T b = 0 ∨ T b = 1) → av_Rn sc m_C_lay (d + 2) al n0 bc bs 58 [some (vR 21), some (vR 1), some (vR 14), some (vI rg), some (vI (σ 1 5))] [] (hp (kS σ ST G U T Ln (bnC σ (σ 1 5).toNat) 0)) Φ) :
    ∀ (m k : Nat) (G U T : Int → Int), (k : Int) + (m : Int) = σ 1 5 → plO σ G U T k → (∀ i, 0 ≤ i → i < 48 → 0 ≤ U i ∧ U i ≤ 2) → (∀ b, 0 ≤ b → b < 24 → T b = 0 ∨ T b = 1) → av_Rn sc m_C_lay (d + 2) al n0 bc bs 13 [some (vR 21), some (vR 1), some (vR 14), some (vI rg), some (vI (k : Int))] [] (hp (kS σ ST G U T Ln (bnC σ k) 0)) Φ := by
  intro m
  induction m with
  | zero =>
    intro k G U T hk hP hUb hTb
    have ek : (k : Int) = σ 1 5 := by omega
    obtain rfl : k = (σ 1 5).toNat := by omega
    refine rn_iload 15 d_C_lay_13 rfl rfl ?_
    refine rn_aload_n 16 d_C_lay_15 rfl rfl ?_
    refine rn_getfield 19 d_C_lay_16 rfl fd_C_35 rfl rfl ?_
    rw [show (kS σ ST G U T Ln (bnC σ (σ 1 5).toNat) 0) 1 5 = σ 1 5 from rfl]
    refine rn_icmp_ge 58 22 d_C_lay_19 rfl rfl ⟨by omega, by omega⟩ ⟨by omega, by omega⟩ (fun c_19 => ?_) (fun c_19 => ?_)
    · rw [ek]
      exact hΦ G U T hP hUb hTb
    · omega
  | succ m ih =>
    intro k G U T hk hP hUb hTb
    have hOk := hI.1 (k : Int) (by omega) (by omega)
    have hEk := hE _ hOk.1 hOk.2
    have J : ∀ nx : Int, nx = nxI σ (k : Int) → av_Rn sc m_C_lay (d + 2) al n0 bc bs 49 [some (vR 21), some (vR 1), some (vR 14), some (vI rg), some (vI (k : Int))] [vI nx, vI (σ 14 (k : Int)), vR 1, vR 21] (hp (kS σ ST G U T Ln (bnC σ k) 0)) Φ := by
      intro nx enx
      have hnx : -1 ≤ nx ∧ nx < 24 := by
        rw [enx]; unfold nxI; split
        · have := hI.1 ((k : Int) + 1) (by omega) (by omega); omega
        · omega
      subst enx
      refine rn_callV3 52 d_C_lay_49 rfl cw_C_40 rfl (Nat.le_of_ble_eq_true rfl) (ev_C_chooseBranches ⟨by omega, by omega⟩ hnx hEk.1 hEk.2.1 hEk.2.2) ?_
      rintro _ _ ⟨rfl, rfl⟩
      change av_Rn _ _ _ _ _ _ _ _ _ _ (hp (kS σ ST (uI (uI G (2 * (σ 14 (k : Int))) (qG0 σ (k : Int))) (2 * (σ 14 (k : Int)) + 1) (qG1 σ (k : Int))) (uI (uI U (2 * (σ 14 (k : Int))) (qU0 σ (k : Int))) (2 * (σ 14 (k : Int)) + 1) (qU1 σ (k : Int))) (uI T (σ 14 (k : Int)) (qT σ (k : Int))) Ln (bnC σ k + qU0 σ (k : Int) + qU1 σ (k : Int)) 0)) _
      rw [show bnC σ k + qU0 σ (k : Int) + qU1 σ (k : Int) = bnC σ (k + 1) by show _ = bnC σ k + (qU0 σ (k : Int) + qU1 σ (k : Int)); omega]
      refine rn_iinc 55 d_C_lay_52 rfl rfl (by decide) rfl rfl ?_
      refine rn_goto 13 d_C_lay_55 rfl ?_
      exact ih (k + 1) _ _ _ (by omega) (plO_step hI (by omega) hP) (uI2_bd hUb (qU_bd σ (k : Int)).1 (qU_bd σ (k : Int)).2) (uIT_bd hTb (qT_bd σ (k : Int)))
    refine rn_iload 15 d_C_lay_13 rfl rfl ?_
    refine rn_aload_n 16 d_C_lay_15 rfl rfl ?_
    refine rn_getfield 19 d_C_lay_16 rfl fd_C_35 rfl rfl ?_
    rw [show (kS σ ST G U T Ln (bnC σ k) 0) 1 5 = σ 1 5 from rfl]
    refine rn_icmp_ge 58 22 d_C_lay_19 rfl rfl ⟨by omega, by omega⟩ ⟨by omega, by omega⟩ (fun c_19 => ?_) (fun c_19 => ?_)
    · omega
    · refine rn_aload_n 23 d_C_lay_22 rfl rfl ?_
      refine rn_aload_n 24 d_C_lay_23 rfl rfl ?_
      refine rn_aload_n 25 d_C_lay_24 rfl rfl ?_
      refine rn_iload 27 d_C_lay_25 rfl rfl ?_
      refine rn_iaload 28 d_C_lay_27 rfl rfl (by decide) (by omega) (by omega) ?_
      rw [show (kS σ ST G U T Ln (bnC σ k) 0) 14 (k : Int) = (σ 14 (k : Int)) from rfl]
      refine rn_iload 30 d_C_lay_28 rfl rfl ?_
      refine rn_iconst 31 d_C_lay_30 rfl ?_
      refine rn_iadd 32 d_C_lay_31 rfl ?_
      refine rn_aload_n 33 d_C_lay_32 rfl rfl ?_
      refine rn_getfield 36 d_C_lay_33 rfl fd_C_35 rfl rfl ?_
      rw [show (kS σ ST G U T Ln (bnC σ k) 0) 1 5 = σ 1 5 from rfl]
      refine rn_icmp_ge 48 39 d_C_lay_36 rfl rfl ⟨by omega, by omega⟩ ⟨by omega, by omega⟩ (fun c_36 => ?_) (fun c_36 => ?_)
      · refine rn_iconst 49 d_C_lay_48 rfl ?_
        exact J _ (by unfold nxI; (first | rw [if_pos (by omega)] | rw [if_neg (by omega)]))
      · refine rn_aload_n 40 d_C_lay_39 rfl rfl ?_
        refine rn_iload 42 d_C_lay_40 rfl rfl ?_
        refine rn_iconst 43 d_C_lay_42 rfl ?_
        refine rn_iadd 44 d_C_lay_43 rfl ?_
        refine rn_iaload 45 d_C_lay_44 rfl rfl (by decide) (by omega) (by omega) ?_
        rw [show (kS σ ST G U T Ln (bnC σ k) 0) 14 ((k : Int) + 1) = σ 14 ((k : Int) + 1) from rfl]
        refine rn_goto 49 d_C_lay_45 rfl ?_
        exact J _ (by unfold nxI; (first | rw [if_pos (by omega)] | rw [if_neg (by omega)]))
/-- addresses by the units -/
def adS (σ : av_S) (ST U : Int → Int) : Prop := ∀ k : Nat, (k : Int) < σ 1 5 → ST (σ 14 (k : Int)) = adC σ U k
def rnd (σ : av_S) (G : Int → Int) (rg : Int) (U U' : Int → Int) : Prop := ∃ ST : Int → Int, adS σ ST U ∧ nxU (σ 3) ST G U rg U' (σ 1 5).toNat ∧ grN (σ 3) ST G U rg (σ 1 5).toNat
def rnds (σ : av_S) (G : Int → Int) (rg : Int) : Nat → (Int → Int) → (Int → Int) → Prop
  | 0, U, V => U = V
  | m + 1, U, V => ∃ U1, rnd σ G rg U U1 ∧ rnds σ G rg m U1 V
def lgU (U : Int → Int) (j : Int) : Int := bz (U (2 * j) = 2) + bz (U (2 * j + 1) = 2)
theorem sm_add {f g : Int → Int} : ∀ n : Nat, sm (fun j => f j + g j) n = sm f n + sm g n := by
  intro n
  induction n with
  | zero => rfl
  | succ n ih => show sm (fun j => f j + g j) n + (f n + g n) = (sm f n + f n) + (sm g n + g n); omega
theorem sm_congr {f g : Int → Int} : ∀ n : Nat, (∀ j : Nat, j < n → f (j : Int) = g (j : Int)) → sm f n = sm g n := by
  intro n
  induction n with
  | zero => intro _; rfl
  | succ n ih => intro h; show sm f n + f n = sm g n + g n; rw [ih (fun j hj => h j (by omega)), h n (by omega)]
theorem lgU_nx {bo ST G U U' : Int → Int} {rg : Int} {n : Nat} (h : nxU bo ST G U rg U' n) : sm (lgU U') n = sm (lgU U) n + grS bo ST G U rg n := by
  unfold grS
  rw [← sm_add]
  refine sm_congr n fun j hj => ?_
  obtain ⟨h1, h2⟩ := h.1 j hj
  show lgU U' (j : Int) = lgU U (j : Int) + (bz (P0 bo ST G U rg (j : Int)) + bz (P1 bo ST G U rg (j : Int)))
  unfold lgU
  rw [h1, h2]
  have a0 : bz ((if P0 bo ST G U rg (j : Int) then 2 else U (2 * (j : Int))) = 2) = bz (U (2 * (j : Int)) = 2) + bz (P0 bo ST G U rg (j : Int)) := by
    by_cases p : P0 bo ST G U rg (j : Int)
    · simp only [if_pos p]; rw [bz_t trivial, bz_t p, bz_f (by have := p.1; omega)]; rfl
    · simp only [if_neg p]; rw [bz_f p]; omega
  have a1 : bz ((if P1 bo ST G U rg (j : Int) then 2 else U (2 * (j : Int) + 1)) = 2) = bz (U (2 * (j : Int) + 1) = 2) + bz (P1 bo ST G U rg (j : Int)) := by
    by_cases p : P1 bo ST G U rg (j : Int)
    · simp only [if_pos p]; rw [bz_t trivial, bz_t p, bz_f (by have := p.1; omega)]; rfl
    · simp only [if_neg p]; rw [bz_f p]; omega
  rw [a0, a1]; omega
theorem nxU_bd {bo ST G U U' : Int → Int} {rg : Int} {n : Nat} (h : nxU bo ST G U rg U' n) (i : Int) (h0 : 0 ≤ i) : U' i = 2 ∨ U' i = U i := by
  by_cases hi : 2 * (n : Int) ≤ i
  · exact Or.inr (h.2 i hi)
  · obtain ⟨j, hj⟩ : ∃ j : Nat, (j : Int) = i / 2 := ⟨(i / 2).toNat, by omega⟩
    obtain ⟨h1, h2⟩ := h.1 j (by omega)
    rcases (show i = 2 * (j : Int) ∨ i = 2 * (j : Int) + 1 by omega) with e | e
    · rw [e, h1]; split
      · exact Or.inl rfl
      · exact Or.inr rfl
    · rw [e, h2]; split
      · exact Or.inl rfl
      · exact Or.inr rfl
theorem adC_bd {σ : av_S} {U : Int → Int} (hn : 0 ≤ σ 1 5 ∧ σ 1 5 ≤ 24) (hI : iO σ) (hB : ∀ b, 0 ≤ b → b < σ 1 5 → 1 ≤ σ 3 b ∧ σ 3 b ≤ 40) (hU : ∀ i, 0 ≤ i → i < 48 → 0 ≤ U i ∧ U i ≤ 2) : ∀ k : Nat, (k : Int) ≤ σ 1 5 → 0 ≤ adC σ U k ∧ adC σ U k ≤ 45 * (k : Int) := by
  intro k
  induction k with
  | zero => intro _; exact ⟨Int.le_refl 0, Int.le_refl 0⟩
  | succ k ih =>
    intro hk
    have h1 := ih (by omega)
    have hO := hI.1 (k : Int) (by omega) (by omega)
    have hb := hB _ hO.1 hO.2
    have u0 := hU (2 * σ 14 (k : Int)) (by omega) (by omega)
    have u1 := hU (2 * σ 14 (k : Int) + 1) (by omega) (by omega)
    have e : adC σ U (k + 1) = adC σ U k + cuC σ U (σ 14 (k : Int)) := rfl
    have c : 0 ≤ cuC σ U (σ 14 (k : Int)) ∧ cuC σ U (σ 14 (k : Int)) ≤ 45 := by unfold cuC; split <;> omega
    omega
theorem adS_bd {σ : av_S} {ST U : Int → Int} (hn : 0 ≤ σ 1 5 ∧ σ 1 5 ≤ 24) (hI : iO σ) (hB : ∀ b, 0 ≤ b → b < σ 1 5 → 1 ≤ σ 3 b ∧ σ 3 b ≤ 40) (hU : ∀ i, 0 ≤ i → i < 48 → 0 ≤ U i ∧ U i ≤ 2) (h : adS σ ST U) : ∀ b, 0 ≤ b → b < σ 1 5 → 0 ≤ ST b ∧ ST b ≤ 10000 := by
  intro b h0 h1
  obtain ⟨k, hk, rfl⟩ := hI.2.2 b h0 h1
  have := adC_bd hn hI hB hU k (by omega)
  rw [h k hk]
  omega
set_option maxRecDepth 100000 in
set_option maxHeartbeats 400000 in
theorem lay_rounds {sc : av_sc} {d n0 bc bs : Nat} {al : Bool} {σ : av_S} {G T : Int → Int} {Bn rg : Int} {Φ : Option av_V → av_H → Prop} (hn : 0 ≤ σ 1 5 ∧ σ 1 5 ≤ 24) (hI : iO σ) (hE : ∀ b, 0 ≤ b → b < σ 1 5 → 0 ≤ σ 4 b ∧ σ 4 b ≤ 2) (hB : ∀ b, 0 ≤ b → b < σ 1 5 → 1 ≤ σ 3 b ∧ σ 3 b ≤ 40) (hr : 0 ≤ rg ∧ rg ≤ 400) :
    ∀ (m : Nat) (rd : Int) (U ST : Int → Int), 0 ≤ rd → rd + (m : Int) = 48 → adS σ ST U → (∀ i, 0 ≤ i → i < 48 → 0 ≤ U i ∧ U i ≤ 2) → (∀ i, 0 ≤ i → i < 2 * σ 1 5 → U i = 1 → 0 ≤ G i ∧ G i < σ 1 5) →
      (∀ (m' : Nat) (V ST' : Int → Int), m' ≤ m → rnds σ G rg m' U V → adS σ ST' V → (∀ i, 0 ≤ i → i < 48 → 0 ≤ V i ∧ V i ≤ 2) → (¬ grN (σ 3) ST' G V rg (σ 1 5).toNat ∨ m' = m) → Φ none (hp (kS σ (ST') G V T (adC σ V (σ 1 5).toNat) Bn (sm (lgU V) (σ 1 5).toNat)))) →
      av_Rn sc m_C_lay (d + 3) al n0 bc bs 67 [some (vR 21), some (vR 1), some (vR 14), some (vI rg), some (vI rd)] [] (hp (kS σ ST G U T (adC σ U (σ 1 5).toNat) Bn (sm (lgU U) (σ 1 5).toNat))) Φ := by
  intro m
  induction m with
  | zero =>
    intro rd U ST h0 hm hS hU hG hΦ
    refine rn_iload 69 d_C_lay_67 rfl rfl ?_
    refine rn_bipush 71 d_C_lay_69 rfl rfl ?_
    refine rn_icmp_ge 95 74 d_C_lay_71 rfl rfl ⟨by omega, by omega⟩ ⟨by omega, by omega⟩ (fun c_71 => ?_) (fun c_71 => ?_)
    · exact rn_return d_C_lay_95 rfl (hΦ 0 U ST (Nat.le_refl 0) rfl hS hU (Or.inr rfl))
    · omega
  | succ m ih =>
    intro rd U ST h0 hm hS hU hG hΦ
    refine rn_iload 69 d_C_lay_67 rfl rfl ?_
    refine rn_bipush 71 d_C_lay_69 rfl rfl ?_
    refine rn_icmp_ge 95 74 d_C_lay_71 rfl rfl ⟨by omega, by omega⟩ ⟨by omega, by omega⟩ (fun c_71 => ?_) (fun c_71 => ?_)
    · omega
    · refine rn_aload_n 75 d_C_lay_74 rfl rfl ?_
      refine rn_aload_n 76 d_C_lay_75 rfl rfl ?_
      refine rn_iload_n 77 d_C_lay_76 rfl rfl ?_
      refine rn_callV2 80 d_C_lay_77 rfl cw_C_48 rfl (Nat.le_of_ble_eq_true rfl) (ev_C_lengthen hn hB hU hG (adS_bd hn hI hB hU hS) hr) ?_
      rintro _ _ ⟨U', g, rfl, hg01, hg, hN, rfl⟩
      rw [← lgU_nx hN]
      refine rn_if_eq 95 83 d_C_lay_80 rfl rfl ⟨by omega, by omega⟩ (fun c_80 => ?_) (fun c_80 => ?_)
      · have hng : ¬ grN (σ 3) ST G U rg (σ 1 5).toNat := fun q => by have := hg.mpr q; omega
        have eU : ∀ i, 0 ≤ i → U' i = U i := by
          intro i hi
          by_cases hi2 : 2 * (((σ 1 5).toNat : Nat) : Int) ≤ i
          · exact hN.2 i hi2
          · obtain ⟨j, hj⟩ : ∃ j : Nat, (j : Int) = i / 2 := ⟨(i / 2).toNat, by omega⟩
            obtain ⟨h1, h2⟩ := hN.1 j (by omega)
            rw [if_neg (fun q => hng ⟨j, by omega, Or.inl q⟩)] at h1
            rw [if_neg (fun q => hng ⟨j, by omega, Or.inr q⟩)] at h2
            rcases (show i = 2 * (j : Int) ∨ i = 2 * (j : Int) + 1 by omega) with e | e
            · rw [e]; exact h1
            · rw [e]; exact h2
        refine rn_arr (q := 24) (t := 0) (n := 48) (f := U') (g := U) rfl (fun j q1 q2 => eU j q1) ?_
        have eO : sm (lgU U') (σ 1 5).toNat = sm (lgU U) (σ 1 5).toNat := sm_congr _ (fun j _ => by unfold lgU; rw [eU _ (by omega), eU _ (by omega)])
        rw [eO]
        change av_Rn _ _ _ _ _ _ _ _ _ _ (hp (kS σ ST G U T (adC σ U (σ 1 5).toNat) Bn (sm (lgU U) (σ 1 5).toNat))) _
        exact rn_return d_C_lay_95 rfl (hΦ 0 U ST (Nat.zero_le _) rfl hS hU (Or.inl hng))
      · refine rn_aload_n 84 d_C_lay_83 rfl rfl ?_
        refine rn_aload_n 85 d_C_lay_84 rfl rfl ?_
        refine rn_aload_n 86 d_C_lay_85 rfl rfl ?_
        refine rn_callV2 89 d_C_lay_86 rfl cw_C_44 rfl (Nat.le_of_ble_eq_true rfl) (ev_C_measure hn hI.1 hI.2.1 hE) ?_
        rintro _ _ ⟨rfl, ST1, hS1, rfl⟩
        refine rn_iinc 92 d_C_lay_89 rfl rfl (by decide) rfl rfl ?_
        refine rn_goto 67 d_C_lay_92 rfl ?_
        have hgr : grN (σ 3) ST G U rg (σ 1 5).toNat := hg.mp (by omega)
        refine ih (rd + 1) U' ST1 (by omega) (by omega) hS1 (fun i q0 q1 => ?_) (fun i q0 q1 q2 => ?_) (fun m' V ST' z1 z2 z3 z4 z5 => hΦ (m' + 1) V ST' (by omega) ⟨U', ⟨ST, hS, hN, hgr⟩, z2⟩ z3 z4 (by rcases z5 with z5 | z5; exact Or.inl z5; exact Or.inr (by omega)))
        · have := hU i q0 q1
          rcases nxU_bd hN i q0 with e | e <;> omega
        · refine hG i q0 q1 ?_
          rcases nxU_bd hN i q0 with e | e <;> omega
/-- a planned branch leads to a block -/
theorem plG_ok {σ : av_S} {G U T : Int → Int} (hn : 0 ≤ σ 1 5 ∧ σ 1 5 ≤ 24) (hI : iO σ) (hE : ∀ b, 0 ≤ b → b < σ 1 5 → (0 ≤ σ 4 b ∧ σ 4 b ≤ 2) ∧ (∀ e, 0 ≤ e → e < σ 4 b → 0 ≤ σ 5 (2 * b + e) ∧ σ 5 (2 * b + e) < σ 1 5) ∧ (∀ e, σ 4 b ≤ e → 0 ≤ e → e ≤ 1 → σ 5 (2 * b + e) = -1)) (hP : plO σ G U T (σ 1 5).toNat) : ∀ i, 0 ≤ i → i < 2 * σ 1 5 → U i = 1 → 0 ≤ G i ∧ G i < σ 1 5 := by
  intro i h0 h1 hu
  obtain ⟨k, hk, hkb⟩ := hI.2.2 (i / 2) (by omega) (by omega)
  obtain ⟨⟨g0, g1⟩, ⟨u0, u1⟩, -⟩ := hP k (by omega)
  have hO := hI.1 (k : Int) (by omega) hk
  obtain ⟨e1, e2, e3⟩ := hE _ hO.1 hO.2
  have x0 := e2 0 (by omega)
  have x1 := e2 1 (by omega)
  rw [Int.add_zero] at x0
  rcases (show i = 2 * σ 14 (k : Int) ∨ i = 2 * σ 14 (k : Int) + 1 by omega) with e | e
  · rw [e] at hu ⊢
    rw [u0] at hu
    rw [g0]
    unfold qU0 plU0 at hu
    unfold qG0 plG0
    by_cases c1 : σ 4 (σ 14 (k : Int)) = 1
    · rw [if_pos c1] at hu ⊢
      by_cases c2 : σ 5 (2 * σ 14 (k : Int)) = nxI σ (k : Int)
      · rw [if_pos c2] at hu; omega
      · rw [if_neg c2]; exact x0 (by omega)
    · rw [if_neg c1] at hu ⊢
      by_cases c2 : σ 4 (σ 14 (k : Int)) = 2
      · rw [if_pos c2]; split
        · exact x1 (by omega)
        · exact x0 (by omega)
      · rw [if_neg c2] at hu; omega
  · rw [e] at hu ⊢
    rw [u1] at hu
    rw [g1]
    unfold qU1 plU1 at hu
    unfold qG1 plG1
    split at hu
    · rename_i c; rw [if_pos c]; exact x1 (by omega)
    · omega
theorem lgU_0 {σ : av_S} {G U T : Int → Int} (hI : iO σ) (hP : plO σ G U T (σ 1 5).toNat) (hn : 0 ≤ σ 1 5 ∧ σ 1 5 ≤ 24) : sm (lgU U) (σ 1 5).toNat = 0 := by
  have : ∀ k : Nat, (k : Int) ≤ σ 1 5 → sm (lgU U) k = 0 := by
    intro k
    induction k with
    | zero => intro _; rfl
    | succ k ih =>
      intro hk
      show sm (lgU U) k + lgU U (k : Int) = 0
      rw [ih (by omega)]
      obtain ⟨j, hj, hjb⟩ := hI.2.2 (k : Int) (by omega) (by omega)
      obtain ⟨-, ⟨u0, u1⟩, -⟩ := hP j (by omega)
      rw [hjb] at u0 u1
      unfold lgU
      rw [u0, u1, bz_f, bz_f]
      · rfl
      · unfold qU1 plU1; split <;> omega
      · unfold qU0 plU0; split
        · split <;> omega
        · split <;> omega
  exact this _ (by omega)
set_option maxRecDepth 100000 in
set_option maxHeartbeats 400000 in
theorem ev_C_lay {sc : av_sc} {d : Nat} {σ : av_S} {rg : Int} (hn : 0 ≤ σ 1 5 ∧ σ 1 5 ≤ 24) (hI : iO σ) (hE : ∀ b, 0 ≤ b → b < σ 1 5 → (0 ≤ σ 4 b ∧ σ 4 b ≤ 2) ∧ (∀ e, 0 ≤ e → e < σ 4 b → 0 ≤ σ 5 (2 * b + e) ∧ σ 5 (2 * b + e) < σ 1 5) ∧ (∀ e, σ 4 b ≤ e → 0 ≤ e → e ≤ 1 → σ 5 (2 * b + e) = -1)) (hB : ∀ b, 0 ≤ b → b < σ 1 5 → 1 ≤ σ 3 b ∧ σ 3 b ≤ 40) (hr : 0 ≤ rg ∧ rg ≤ 400) (hU0 : ∀ i, 0 ≤ i → i < 48 → 0 ≤ σ 24 i ∧ σ 24 i ≤ 2) (hT0 : ∀ b, 0 ≤ b → b < 24 → σ 25 b = 0 ∨ σ 25 b = 1) : av_Ev sc m_C_lay (d + 3) false 0 0 [vR 21, vR 1, vR 14, vI rg] (hp σ) (fun r h => r = none ∧ ∃ (G U T V ST : Int → Int) (m : Nat), plO σ G U T (σ 1 5).toNat ∧ (∀ b, 0 ≤ b → b < 24 → T b = 0 ∨ T b = 1) ∧ rnds σ G rg m U V ∧ adS σ ST V ∧ (∀ i, 0 ≤ i → i < 48 → 0 ≤ V i ∧ V i ≤ 2) ∧ (¬ grN (σ 3) ST G V rg (σ 1 5).toNat ∨ m = 48) ∧ h = hp (kS σ ST G V T (adC σ V (σ 1 5).toNat) (bnC σ (σ 1 5).toNat) (sm (lgU V) (σ 1 5).toNat))) := by
  have hE1 : ∀ b, 0 ≤ b → b < σ 1 5 → (0 ≤ σ 4 b ∧ σ 4 b ≤ 2) ∧ (-1 ≤ σ 5 (2 * b) ∧ σ 5 (2 * b) < 24) ∧ (-1 ≤ σ 5 (2 * b + 1) ∧ σ 5 (2 * b + 1) < 24) := by
    intro b q0 q1
    obtain ⟨e1, e2, e3⟩ := hE b q0 q1
    have x0 := e2 0 (by omega)
    have x1 := e2 1 (by omega)
    have y0 := e3 0
    have y1 := e3 1
    rw [Int.add_zero] at x0 y0
    refine ⟨e1, ?_, ?_⟩
    · by_cases c : 0 < σ 4 b
      · have := x0 c; omega
      · have := y0 (by omega) (by omega) (by omega); omega
    · by_cases c : 1 < σ 4 b
      · have := x1 c; omega
      · have := y1 (by omega) (by omega) (by omega); omega
  refine av_ev rfl rfl (Nat.le_of_ble_eq_true rfl) rfl ?_
  refine rn_aload_n 1 d_C_lay_0 rfl rfl ?_
  refine rn_iconst 2 d_C_lay_1 rfl ?_
  refine rn_putfield 5 d_C_lay_2 rfl fp_C_29 rfl (Nat.le_of_ble_eq_true rfl) av_fitI (hs_21_5 _ _) ?_
  refine rn_aload_n 6 d_C_lay_5 rfl rfl ?_
  refine rn_iconst 7 d_C_lay_6 rfl ?_
  refine rn_putfield 10 d_C_lay_7 rfl fp_C_32 rfl (Nat.le_of_ble_eq_true rfl) av_fitI (hs_21_6 _ _) ?_
  refine rn_iconst 11 d_C_lay_10 rfl ?_
  refine rn_istore 13 d_C_lay_11 rfl (by decide) rfl rfl ?_
  change av_Rn _ _ _ _ _ _ _ _ _ _ (hp (kS σ (σ 22) (σ 23) (σ 24) (σ 25) (σ 21 4) (bnC σ 0) 0)) _
  refine lay_choose (d := d + 1) hn hI hE1 (fun G U T hP hUb hTb => ?_) (σ 1 5).toNat 0 (σ 23) (σ 24) (σ 25) (by omega) (fun j hj => by omega) hU0 hT0
  refine rn_aload_n 59 d_C_lay_58 rfl rfl ?_
  refine rn_aload_n 60 d_C_lay_59 rfl rfl ?_
  refine rn_aload_n 61 d_C_lay_60 rfl rfl ?_
  refine rn_callV2 64 d_C_lay_61 rfl cw_C_44 rfl (Nat.le_of_ble_eq_true rfl) (ev_C_measure hn hI.1 hI.2.1 (fun b q0 q1 => (hE b q0 q1).1)) ?_
  rintro _ _ ⟨rfl, ST1, hS1, rfl⟩
  refine rn_iconst 65 d_C_lay_64 rfl ?_
  refine rn_istore 67 d_C_lay_65 rfl (by decide) rfl rfl ?_
  have L := lay_rounds (sc := sc) (d := d) (n0 := (hp σ).length) (bc := 0) (bs := 0) (al := false) (T := T) (Bn := bnC σ (σ 1 5).toNat) (Φ := fun r h => r = none ∧ ∃ (G U T V ST : Int → Int) (m : Nat), plO σ G U T (σ 1 5).toNat ∧ (∀ b, 0 ≤ b → b < 24 → T b = 0 ∨ T b = 1) ∧ rnds σ G rg m U V ∧ adS σ ST V ∧ (∀ i, 0 ≤ i → i < 48 → 0 ≤ V i ∧ V i ≤ 2) ∧ (¬ grN (σ 3) ST G V rg (σ 1 5).toNat ∨ m = 48) ∧ h = hp (kS σ ST G V T (adC σ V (σ 1 5).toNat) (bnC σ (σ 1 5).toNat) (sm (lgU V) (σ 1 5).toNat))) hn hI (fun b q0 q1 => (hE b q0 q1).1) hB hr 48 0 U ST1 (by omega) (by omega) hS1 hUb (plG_ok hn hI hE hP) (fun m' V ST' z1 z2 z3 z4 z5 => ⟨rfl, G, U, T, V, ST', m', hP, hTb, z2, z3, z4, z5, rfl⟩)
  rw [lgU_0 hI hP hn] at L
  exact L
end
section
/-- the class's placing, its arrays and numbers named -/
def pS (σ : av_S) (OR ED HD FI BE HS BS : Int → Int) (Ch Co : Int) : av_S := up (up (up (up (up (up (up (up σ 14 OR) 15 ED) 16 HD) 17 FI) 18 BE) 19 HS) 20 BS) 13 (fun j => if j = 1 then Ch else if j = 2 then Co else σ 13 j)
/-- g below k, f from there on -/
def fl (g f : Int → Int) (k : Int) : Int → Int := fun j => if 0 ≤ j ∧ j < k then g j else f j
theorem fl_0 (g f : Int → Int) : fl g f 0 = f := by funext j; exact if_neg (by omega)
theorem fl_step {g f : Int → Int} {k z : Int} (h : 0 ≤ k) (hz : z = g k) : uI (fl g f k) k z = fl g f (k + 1) := by
  subst hz
  funext j
  simp only [uI, fl]
  by_cases hj : j = k
  · subst hj; rw [if_pos rfl, if_pos (by omega)]
  · rw [if_neg hj]
    by_cases h2 : 0 ≤ j ∧ j < k
    · rw [if_pos h2, if_pos (by omega)]
    · rw [if_neg h2, if_neg (by omega)]
theorem fl_skip {g f : Int → Int} {k : Int} (h : 0 ≤ k) (hz : g k = f k) : fl g f k = fl g f (k + 1) := by
  funext j
  simp only [fl]
  by_cases hj : j = k
  · subst hj; rw [if_neg (by omega), if_pos (by omega)]; exact hz.symm
  · by_cases h2 : 0 ≤ j ∧ j < k
    · rw [if_pos h2, if_pos (by omega)]
    · rw [if_neg h2, if_neg (by omega)]
theorem fl_at (g f : Int → Int) (k : Int) : fl g f k k = f k := if_neg (by omega)
theorem fl_in {g f : Int → Int} {k j : Int} (h : 0 ≤ j ∧ j < k) : fl g f k j = g j := if_pos h
theorem fl_out {g f : Int → Int} {k j : Int} (h : ¬ (0 ≤ j ∧ j < k)) : fl g f k j = f j := if_neg h
set_option maxRecDepth 100000 in
set_option maxHeartbeats 400000 in
theorem pbn_loop {sc : av_sc} {d n0 bc bs : Nat} {al : Bool} {σ : av_S} {OR ED HD FI BE HS BS : Int → Int} {Ch Co : Int} {Φ : Option av_V → av_H → Prop} (hn : 0 ≤ σ 1 5 ∧ σ 1 5 ≤ 24) (hΦ : Φ none (hp (pS σ (fl (fun j => j) OR (σ 1 5)) ED HD FI BE HS BS (σ 1 5) 0))) :
    ∀ (m : Nat) (k : Int), 0 ≤ k → k + (m : Int) = σ 1 5 → av_Rn sc m_P_placeByNumber d al n0 bc bs 2 [some (vR 13), some (vR 1), some (vI k)] [] (hp (pS σ (fl (fun j => j) OR k) ED HD FI BE HS BS Ch Co)) Φ := by
  intro m
  induction m with
  | zero =>
    intro k h0 hk
    obtain rfl : k = σ 1 5 := by omega
    refine rn_iload_n 3 d_P_placeByNumber_2 rfl rfl ?_
    refine rn_aload_n 4 d_P_placeByNumber_3 rfl rfl ?_
    refine rn_getfield 7 d_P_placeByNumber_4 rfl fd_P_40 rfl rfl ?_
    rw [show (pS σ (fl (fun j => j) OR (σ 1 5)) ED HD FI BE HS BS Ch Co) 1 5 = σ 1 5 from rfl]
    refine rn_icmp_ge 23 10 d_P_placeByNumber_7 rfl rfl ⟨by omega, by omega⟩ ⟨by omega, by omega⟩ (fun c_7 => ?_) (fun c_7 => ?_)
    · refine rn_aload_n 24 d_P_placeByNumber_23 rfl rfl ?_
      refine rn_aload_n 25 d_P_placeByNumber_24 rfl rfl ?_
      refine rn_getfield 28 d_P_placeByNumber_25 rfl fd_P_40 rfl rfl ?_
      rw [show (pS σ (fl (fun j => j) OR (σ 1 5)) ED HD FI BE HS BS Ch Co) 1 5 = σ 1 5 from rfl]
      refine rn_putfield 31 d_P_placeByNumber_28 rfl fp_P_15 rfl (Nat.le_of_ble_eq_true rfl) av_fitI (hs_13_1 _ _) ?_
      change av_Rn _ _ _ _ _ _ _ _ _ _ (hp (pS σ (fl (fun j => j) OR (σ 1 5)) ED HD FI BE HS BS (σ 1 5) Co)) _
      refine rn_aload_n 32 d_P_placeByNumber_31 rfl rfl ?_
      refine rn_iconst 33 d_P_placeByNumber_32 rfl ?_
      refine rn_putfield 36 d_P_placeByNumber_33 rfl fp_P_19 rfl (Nat.le_of_ble_eq_true rfl) av_fitI (hs_13_2 _ _) ?_
      change av_Rn _ _ _ _ _ _ _ _ _ _ (hp (pS σ (fl (fun j => j) OR (σ 1 5)) ED HD FI BE HS BS (σ 1 5) 0)) _
      exact rn_return d_P_placeByNumber_36 rfl hΦ
    · omega
  | succ m ih =>
    intro k h0 hk
    refine rn_iload_n 3 d_P_placeByNumber_2 rfl rfl ?_
    refine rn_aload_n 4 d_P_placeByNumber_3 rfl rfl ?_
    refine rn_getfield 7 d_P_placeByNumber_4 rfl fd_P_40 rfl rfl ?_
    rw [show (pS σ (fl (fun j => j) OR k) ED HD FI BE HS BS Ch Co) 1 5 = σ 1 5 from rfl]
    refine rn_icmp_ge 23 10 d_P_placeByNumber_7 rfl rfl ⟨by omega, by omega⟩ ⟨by omega, by omega⟩ (fun c_7 => ?_) (fun c_7 => ?_)
    · omega
    · refine rn_aload_n 11 d_P_placeByNumber_10 rfl rfl ?_
      refine rn_getfield 14 d_P_placeByNumber_11 rfl fd_P_9 rfl rfl ?_
      refine rn_iload_n 15 d_P_placeByNumber_14 rfl rfl ?_
      refine rn_iload_n 16 d_P_placeByNumber_15 rfl rfl ?_
      refine rn_iastore 17 d_P_placeByNumber_16 rfl rfl (by decide) (by omega) (by omega) (hs_14 _ _) ?_
      change av_Rn _ _ _ _ _ _ _ _ _ _ (hp (pS σ (uI (fl (fun j => j) OR k) k k) ED HD FI BE HS BS Ch Co)) _
      rw [fl_step h0 rfl]
      refine rn_iinc 20 d_P_placeByNumber_17 rfl rfl (by decide) rfl rfl ?_
      refine rn_goto 2 d_P_placeByNumber_20 rfl ?_
      exact ih (k + 1) (by omega) (by omega)
set_option maxRecDepth 100000 in
set_option maxHeartbeats 400000 in
theorem ev_P_placeByNumber {sc : av_sc} {d : Nat} {σ : av_S} {OR ED HD FI BE HS BS : Int → Int} {Ch Co : Int} (hn : 0 ≤ σ 1 5 ∧ σ 1 5 ≤ 24) : av_Ev sc m_P_placeByNumber (d) false 0 0 [vR 13, vR 1] (hp (pS σ OR ED HD FI BE HS BS Ch Co)) (fun r h => r = none ∧ h = hp (pS σ (fl (fun j => j) OR (σ 1 5)) ED HD FI BE HS BS (σ 1 5) 0)) := by
  refine av_ev rfl rfl (Nat.le_of_ble_eq_true rfl) rfl ?_
  refine rn_iconst 1 d_P_placeByNumber_0 rfl ?_
  refine rn_istore_n 2 d_P_placeByNumber_1 rfl (by decide) rfl rfl ?_
  have L := pbn_loop (sc := sc) (d := d) (n0 := (hp (pS σ OR ED HD FI BE HS BS Ch Co)).length) (bc := 0) (bs := 0) (al := false) (OR := OR) (ED := ED) (HD := HD) (FI := FI) (BE := BE) (HS := HS) (BS := BS) (Ch := Ch) (Co := Co) (Φ := fun r h => r = none ∧ h = hp (pS σ (fl (fun j => j) OR (σ 1 5)) ED HD FI BE HS BS (σ 1 5) 0)) hn ⟨rfl, rfl⟩ (σ 1 5).toNat 0 (by omega) (by omega)
  rw [fl_0] at L
  exact L
set_option maxRecDepth 100000 in
set_option maxHeartbeats 400000 in
theorem start_loop {sc : av_sc} {d n0 bc bs : Nat} {al : Bool} {σ : av_S} {OR ED HD FI BE HS BS : Int → Int} {Ch Co : Int} {Φ : Option av_V → av_H → Prop} (hn : 0 ≤ σ 1 5 ∧ σ 1 5 ≤ 24) (hΦ : Φ none (hp (pS σ OR ED HD (fl (fun j => j) FI (σ 1 5)) (fl (fun _ => -1) BE (σ 1 5)) (fl (σ 8) HS (σ 1 5)) (fl (σ 3) BS (σ 1 5)) Ch Co))) :
    ∀ (m : Nat) (k : Int), 0 ≤ k → k + (m : Int) = σ 1 5 → av_Rn sc m_P_startChains d al n0 bc bs 2 [some (vR 13), some (vR 1), some (vR 7), some (vI k)] [] (hp (pS σ OR ED HD (fl (fun j => j) FI k) (fl (fun _ => -1) BE k) (fl (σ 8) HS k) (fl (σ 3) BS k) Ch Co)) Φ := by
  intro m
  induction m with
  | zero =>
    intro k h0 hk
    obtain rfl : k = σ 1 5 := by omega
    refine rn_iload_n 3 d_P_startChains_2 rfl rfl ?_
    refine rn_aload_n 4 d_P_startChains_3 rfl rfl ?_
    refine rn_getfield 7 d_P_startChains_4 rfl fd_P_40 rfl rfl ?_
    rw [show (pS σ OR ED HD (fl (fun j => j) FI (σ 1 5)) (fl (fun _ => -1) BE (σ 1 5)) (fl (σ 8) HS (σ 1 5)) (fl (σ 3) BS (σ 1 5)) Ch Co) 1 5 = σ 1 5 from rfl]
    refine rn_icmp_ge 54 10 d_P_startChains_7 rfl rfl ⟨by omega, by omega⟩ ⟨by omega, by omega⟩ (fun c_7 => ?_) (fun c_7 => ?_)
    · exact rn_return d_P_startChains_54 rfl hΦ
    · omega
  | succ m ih =>
    intro k h0 hk
    refine rn_iload_n 3 d_P_startChains_2 rfl rfl ?_
    refine rn_aload_n 4 d_P_startChains_3 rfl rfl ?_
    refine rn_getfield 7 d_P_startChains_4 rfl fd_P_40 rfl rfl ?_
    rw [show (pS σ OR ED HD (fl (fun j => j) FI k) (fl (fun _ => -1) BE k) (fl (σ 8) HS k) (fl (σ 3) BS k) Ch Co) 1 5 = σ 1 5 from rfl]
    refine rn_icmp_ge 54 10 d_P_startChains_7 rfl rfl ⟨by omega, by omega⟩ ⟨by omega, by omega⟩ (fun c_7 => ?_) (fun c_7 => ?_)
    · omega
    · refine rn_aload_n 11 d_P_startChains_10 rfl rfl ?_
      refine rn_getfield 14 d_P_startChains_11 rfl fd_P_28 rfl rfl ?_
      refine rn_iload_n 15 d_P_startChains_14 rfl rfl ?_
      refine rn_iload_n 16 d_P_startChains_15 rfl rfl ?_
      refine rn_iastore 17 d_P_startChains_16 rfl rfl (by decide) (by omega) (by omega) (hs_17 _ _) ?_
      refine rn_aload_n 18 d_P_startChains_17 rfl rfl ?_
      refine rn_getfield 21 d_P_startChains_18 rfl fd_P_31 rfl rfl ?_
      refine rn_iload_n 22 d_P_startChains_21 rfl rfl ?_
      refine rn_iconst 23 d_P_startChains_22 rfl ?_
      refine rn_iastore 24 d_P_startChains_23 rfl rfl (by decide) (by omega) (by omega) (hs_18 _ _) ?_
      refine rn_aload_n 25 d_P_startChains_24 rfl rfl ?_
      refine rn_getfield 28 d_P_startChains_25 rfl fd_P_34 rfl rfl ?_
      refine rn_iload_n 29 d_P_startChains_28 rfl rfl ?_
      refine rn_aload_n 30 d_P_startChains_29 rfl rfl ?_
      refine rn_getfield 33 d_P_startChains_30 rfl fd_P_67 rfl rfl ?_
      refine rn_iload_n 34 d_P_startChains_33 rfl rfl ?_
      refine rn_iaload 35 d_P_startChains_34 rfl rfl (by decide) (by omega) (by omega) ?_
      refine rn_iastore 36 d_P_startChains_35 rfl rfl (by decide) (by omega) (by omega) (hs_19 _ _) ?_
      refine rn_aload_n 37 d_P_startChains_36 rfl rfl ?_
      refine rn_getfield 40 d_P_startChains_37 rfl fd_P_37 rfl rfl ?_
      refine rn_iload_n 41 d_P_startChains_40 rfl rfl ?_
      refine rn_aload_n 42 d_P_startChains_41 rfl rfl ?_
      refine rn_getfield 45 d_P_startChains_42 rfl fd_P_72 rfl rfl ?_
      refine rn_iload_n 46 d_P_startChains_45 rfl rfl ?_
      refine rn_iaload 47 d_P_startChains_46 rfl rfl (by decide) (by omega) (by omega) ?_
      refine rn_iastore 48 d_P_startChains_47 rfl rfl (by decide) (by omega) (by omega) (hs_20 _ _) ?_
      change av_Rn _ _ _ _ _ _ _ _ _ _ (hp (pS σ OR ED HD (uI (fl (fun j => j) FI k) k k) (uI (fl (fun _ => -1) BE k) k (-1)) (uI (fl (σ 8) HS k) k (σ 8 k)) (uI (fl (σ 3) BS k) k (σ 3 k)) Ch Co)) _
      rw [fl_step h0 rfl, fl_step h0 rfl, fl_step h0 rfl, fl_step h0 rfl]
      refine rn_iinc 51 d_P_startChains_48 rfl rfl (by decide) rfl rfl ?_
      refine rn_goto 2 d_P_startChains_51 rfl ?_
      exact ih (k + 1) (by omega) (by omega)
set_option maxRecDepth 100000 in
set_option maxHeartbeats 400000 in
theorem ev_P_startChains {sc : av_sc} {d : Nat} {σ : av_S} {OR ED HD FI BE HS BS : Int → Int} {Ch Co : Int} (hn : 0 ≤ σ 1 5 ∧ σ 1 5 ≤ 24) : av_Ev sc m_P_startChains (d) false 0 0 [vR 13, vR 1, vR 7] (hp (pS σ OR ED HD FI BE HS BS Ch Co)) (fun r h => r = none ∧ h = hp (pS σ OR ED HD (fl (fun j => j) FI (σ 1 5)) (fl (fun _ => -1) BE (σ 1 5)) (fl (σ 8) HS (σ 1 5)) (fl (σ 3) BS (σ 1 5)) Ch Co)) := by
  refine av_ev rfl rfl (Nat.le_of_ble_eq_true rfl) rfl ?_
  refine rn_iconst 1 d_P_startChains_0 rfl ?_
  refine rn_istore_n 2 d_P_startChains_1 rfl (by decide) rfl rfl ?_
  have L := start_loop (sc := sc) (d := d) (n0 := (hp (pS σ OR ED HD FI BE HS BS Ch Co)).length) (bc := 0) (bs := 0) (al := false) (OR := OR) (ED := ED) (HD := HD) (FI := FI) (BE := BE) (HS := HS) (BS := BS) (Ch := Ch) (Co := Co) (Φ := fun r h => r = none ∧ h = hp (pS σ OR ED HD (fl (fun j => j) FI (σ 1 5)) (fl (fun _ => -1) BE (σ 1 5)) (fl (σ 8) HS (σ 1 5)) (fl (σ 3) BS (σ 1 5)) Ch Co)) hn ⟨rfl, rfl⟩ (σ 1 5).toNat 0 (by omega) (by omega)
  rw [fl_0, fl_0, fl_0, fl_0] at L
  exact L
/-- an edge that may join -/
abbrev mJ (en to ce : Int → Int) (e : Int) : Prop := e % 2 < en (e / 2) ∧ 0 < ce e ∧ to e ≠ e / 2
theorem td {e : Int} (h : 0 ≤ e) : e.tdiv 2 = e / 2 := Int.tdiv_eq_ediv_of_nonneg h
theorem tm {e : Int} (h : 0 ≤ e) : e.tmod 2 = e % 2 := Int.tmod_eq_emod_of_nonneg h
set_option maxRecDepth 100000 in
set_option maxHeartbeats 400000 in
theorem ev_P_mayJoin {sc : av_sc} {d : Nat} {σ : av_S} {e : Int} (he : 0 ≤ e ∧ e < 48) (hE : 0 ≤ σ 4 (e / 2) ∧ σ 4 (e / 2) ≤ 2) (hc : 0 ≤ σ 9 e ∧ σ 9 e ≤ 1000000) (ht : -1 ≤ σ 5 e ∧ σ 5 e < 24) : av_Ev sc m_P_mayJoin (d) false 0 0 [vR 1, vR 7, vI e] (hp σ) (fun r h => r = some (vI (bz (mJ (σ 4) (σ 5) (σ 9) e))) ∧ h = hp σ) := by
  refine av_ev rfl rfl (Nat.le_of_ble_eq_true rfl) rfl ?_
  refine rn_iload_n 1 d_P_mayJoin_0 rfl rfl ?_
  refine rn_iconst 2 d_P_mayJoin_1 rfl ?_
  refine rn_irem 3 d_P_mayJoin_2 rfl ⟨by omega, by omega⟩ ⟨by omega, by omega⟩ (by omega) ?_
  rw [tm he.1]
  refine rn_aload_n 4 d_P_mayJoin_3 rfl rfl ?_
  refine rn_getfield 7 d_P_mayJoin_4 rfl fd_P_82 rfl rfl ?_
  refine rn_iload_n 8 d_P_mayJoin_7 rfl rfl ?_
  refine rn_iconst 9 d_P_mayJoin_8 rfl ?_
  refine rn_idiv 10 d_P_mayJoin_9 rfl ⟨by omega, by omega⟩ ⟨by omega, by omega⟩ (by omega) ?_
  rw [td he.1]
  refine rn_iaload 11 d_P_mayJoin_10 rfl rfl (by decide) (by omega) (by omega) ?_
  refine rn_icmp_ge 39 14 d_P_mayJoin_11 rfl rfl ⟨by omega, by omega⟩ ⟨by omega, by omega⟩ (fun c_11 => ?_) (fun c_11 => ?_)
  · refine rn_iconst 40 d_P_mayJoin_39 rfl ?_
    exact rn_ireturn d_P_mayJoin_40 (Or.inr ⟨rfl, Or.inl rfl⟩) ⟨by rw [bz_f (by omega)], rfl⟩
  · refine rn_aload_n 15 d_P_mayJoin_14 rfl rfl ?_
    refine rn_getfield 18 d_P_mayJoin_15 rfl fd_P_79 rfl rfl ?_
    refine rn_iload_n 19 d_P_mayJoin_18 rfl rfl ?_
    refine rn_iaload 20 d_P_mayJoin_19 rfl rfl (by decide) (by omega) (by omega) ?_
    refine rn_if_le 39 23 d_P_mayJoin_20 rfl rfl ⟨by omega, by omega⟩ (fun c_20 => ?_) (fun c_20 => ?_)
    · refine rn_iconst 40 d_P_mayJoin_39 rfl ?_
      exact rn_ireturn d_P_mayJoin_40 (Or.inr ⟨rfl, Or.inl rfl⟩) ⟨by rw [bz_f (by omega)], rfl⟩
    · refine rn_aload_n 24 d_P_mayJoin_23 rfl rfl ?_
      refine rn_getfield 27 d_P_mayJoin_24 rfl fd_P_53 rfl rfl ?_
      refine rn_iload_n 28 d_P_mayJoin_27 rfl rfl ?_
      refine rn_iaload 29 d_P_mayJoin_28 rfl rfl (by decide) (by omega) (by omega) ?_
      refine rn_iload_n 30 d_P_mayJoin_29 rfl rfl ?_
      refine rn_iconst 31 d_P_mayJoin_30 rfl ?_
      refine rn_idiv 32 d_P_mayJoin_31 rfl ⟨by omega, by omega⟩ ⟨by omega, by omega⟩ (by omega) ?_
      rw [td he.1]
      refine rn_icmp_eq 39 35 d_P_mayJoin_32 rfl rfl ⟨by omega, by omega⟩ ⟨by omega, by omega⟩ (fun c_32 => ?_) (fun c_32 => ?_)
      · refine rn_iconst 40 d_P_mayJoin_39 rfl ?_
        exact rn_ireturn d_P_mayJoin_40 (Or.inr ⟨rfl, Or.inl rfl⟩) ⟨by rw [bz_f (by omega)], rfl⟩
      · refine rn_iconst 36 d_P_mayJoin_35 rfl ?_
        refine rn_goto 40 d_P_mayJoin_36 rfl ?_
        exact rn_ireturn d_P_mayJoin_40 (Or.inr ⟨rfl, Or.inr rfl⟩) ⟨by rw [bz_t (by omega)], rfl⟩
abbrev isE (σ : av_S) (b : Int) : Prop := σ 6 (σ 2 b) = b
abbrev cold (σ : av_S) (HS : Int → Int) (b : Int) : Prop := HS b = 0 ∧ ¬ isE σ b
theorem ev_GE {sc : av_sc} {d : Nat} {σ : av_S} {OR ED HD FI BE HS BS : Int → Int} {Ch Co : Int} {b : Int} (hb : 0 ≤ b ∧ b < 24) (hF : 0 ≤ σ 2 b ∧ σ 2 b ≤ 3) (hT : -1 ≤ σ 6 (σ 2 b) ∧ σ 6 (σ 2 b) < 24) : av_Ev sc m_G_isEntry d false 0 0 [vR 1, vI b] (hp (pS σ OR ED HD FI BE HS BS Ch Co)) (fun r h => r = some (vI (bz (isE σ b))) ∧ h = hp (pS σ OR ED HD FI BE HS BS Ch Co)) := ev_G_isEntry (σ := pS σ OR ED HD FI BE HS BS Ch Co) hb hF hT
theorem bz_eq {P Q : Prop} [Decidable P] [Decidable Q] : bz P = bz Q ↔ (P ↔ Q) := by
  by_cases hP : P <;> by_cases hQ : Q
  · rw [bz_t hP, bz_t hQ]; exact ⟨fun _ => ⟨fun _ => hQ, fun _ => hP⟩, fun _ => rfl⟩
  · rw [bz_t hP, bz_f hQ]; exact ⟨fun q => by omega, fun q => absurd (q.mp hP) hQ⟩
  · rw [bz_f hP, bz_t hQ]; exact ⟨fun q => by omega, fun q => absurd (q.mpr hQ) hP⟩
  · rw [bz_f hP, bz_f hQ]; exact ⟨fun _ => ⟨fun q => absurd q hP, fun q => absurd q hQ⟩, fun _ => rfl⟩
theorem mulbd {x y : Int} (hx : 0 ≤ x ∧ x ≤ 24000000) (hy : 0 ≤ y ∧ y ≤ 960) : 0 ≤ x * y ∧ x * y ≤ 23040000000 :=
  ⟨Int.mul_nonneg hx.1 hy.1, by have := Int.mul_le_mul hx.2 hy.2 hy.1 (by omega : (0 : Int) ≤ 24000000); omega⟩
/-- the order of the chains, by their heads -/
abbrev cbf (σ : av_S) (HS BS : Int → Int) (a b : Int) : Prop := (¬ (cold σ HS a ↔ cold σ HS b) ∧ cold σ HS b) ∨ ((cold σ HS a ↔ cold σ HS b) ∧ (σ 2 a < σ 2 b ∨ (σ 2 a = σ 2 b ∧ ((¬ (isE σ a ↔ isE σ b) ∧ isE σ a) ∨ ((isE σ a ↔ isE σ b) ∧ (HS b * BS a < HS a * BS b ∨ (HS a * BS b = HS b * BS a ∧ a < b)))))))
set_option maxRecDepth 100000 in
set_option maxHeartbeats 400000 in
theorem ev_P_isCold {sc : av_sc} {d : Nat} {σ : av_S} {OR ED HD FI BE HS BS : Int → Int} {Ch Co : Int} {b : Int} (hn : 0 ≤ σ 1 5 ∧ σ 1 5 ≤ 24) (hF : ∀ b, 0 ≤ b → b < σ 1 5 → 0 ≤ σ 2 b ∧ σ 2 b ≤ 3) (hT : ∀ f, 0 ≤ f → f < 4 → -1 ≤ σ 6 f ∧ σ 6 f < 24) (hH : ∀ b, 0 ≤ b → b < σ 1 5 → 0 ≤ HS b ∧ HS b ≤ 24000000) (hb : 0 ≤ b ∧ b < σ 1 5) : av_Ev sc m_P_isCold (d + 1) false 0 0 [vR 13, vR 1, vI b] (hp (pS σ OR ED HD FI BE HS BS Ch Co)) (fun r h => r = some (vI (bz (cold σ HS b))) ∧ h = hp (pS σ OR ED HD FI BE HS BS Ch Co)) := by
  have hFb := hF b hb.1 hb.2
  have hTb := hT (σ 2 b) hFb.1 (by omega)
  have hHb := hH b hb.1 hb.2
  refine av_ev rfl rfl (Nat.le_of_ble_eq_true rfl) rfl ?_
  refine rn_aload_n 1 d_P_isCold_0 rfl rfl ?_
  refine rn_getfield 4 d_P_isCold_1 rfl fd_P_34 rfl rfl ?_
  refine rn_iload_n 5 d_P_isCold_4 rfl rfl ?_
  refine rn_iaload 6 d_P_isCold_5 rfl rfl (by decide) (by omega) (by omega) ?_
  rw [show (pS σ OR ED HD FI BE HS BS Ch Co) 19 b = HS b from rfl]
  refine rn_if_ne 21 9 d_P_isCold_6 rfl rfl ⟨by omega, by omega⟩ (fun c_6 => ?_) (fun c_6 => ?_)
  · refine rn_iconst 22 d_P_isCold_21 rfl ?_
    exact rn_ireturn d_P_isCold_22 (Or.inr ⟨rfl, Or.inl rfl⟩) ⟨by rw [bz_f (by omega)], rfl⟩
  · refine rn_aload_n 10 d_P_isCold_9 rfl rfl ?_
    refine rn_iload_n 11 d_P_isCold_10 rfl rfl ?_
    refine rn_callV1 14 d_P_isCold_11 rfl cw_P_85 rfl (Nat.le_of_ble_eq_true rfl) (ev_GE ⟨by omega, by omega⟩ hFb hTb) ?_
    rintro _ _ ⟨rfl, rfl⟩
    refine rn_ifB_ne 21 17 d_P_isCold_14 rfl rfl (fun c_14 => ?_) (fun c_14 => ?_)
    · refine rn_iconst 22 d_P_isCold_21 rfl ?_
      exact rn_ireturn d_P_isCold_22 (Or.inr ⟨rfl, Or.inl rfl⟩) ⟨by rw [bz_f (by omega)], rfl⟩
    · refine rn_iconst 18 d_P_isCold_17 rfl ?_
      refine rn_goto 22 d_P_isCold_18 rfl ?_
      exact rn_ireturn d_P_isCold_22 (Or.inr ⟨rfl, Or.inr rfl⟩) ⟨by rw [bz_t (by omega)], rfl⟩
set_option maxRecDepth 100000 in
set_option maxHeartbeats 400000 in
theorem ev_P_comesBefore {sc : av_sc} {d : Nat} {σ : av_S} {OR ED HD FI BE HS BS : Int → Int} {Ch Co : Int} {a b : Int} (hn : 0 ≤ σ 1 5 ∧ σ 1 5 ≤ 24) (hF : ∀ b, 0 ≤ b → b < σ 1 5 → 0 ≤ σ 2 b ∧ σ 2 b ≤ 3) (hT : ∀ f, 0 ≤ f → f < 4 → -1 ≤ σ 6 f ∧ σ 6 f < 24) (hH : ∀ b, 0 ≤ b → b < σ 1 5 → 0 ≤ HS b ∧ HS b ≤ 24000000) (hS : ∀ b, 0 ≤ b → b < σ 1 5 → 0 ≤ BS b ∧ BS b ≤ 960) (ha : 0 ≤ a ∧ a < σ 1 5) (hb : 0 ≤ b ∧ b < σ 1 5) : av_Ev sc m_P_comesBefore (d + 2) false 0 0 [vR 13, vR 1, vI a, vI b] (hp (pS σ OR ED HD FI BE HS BS Ch Co)) (fun r h => r = some (vI (bz (cbf σ HS BS a b))) ∧ h = hp (pS σ OR ED HD FI BE HS BS Ch Co)) := by
  have hFb := hF b hb.1 hb.2
  have hTb := hT (σ 2 b) hFb.1 (by omega)
  have hHb := hH b hb.1 hb.2
  have hFa := hF a ha.1 ha.2
  have hTa := hT (σ 2 a) hFa.1 (by omega)
  have hHa := hH a ha.1 ha.2
  have hSa := hS a ha.1 ha.2
  have hSb := hS b hb.1 hb.2
  have w1 := mulbd hHa hSb
  have w2 := mulbd hHb hSa
  refine av_ev rfl rfl (Nat.le_of_ble_eq_true rfl) rfl ?_
  refine rn_aload_n 1 d_P_comesBefore_0 rfl rfl ?_
  refine rn_aload_n 2 d_P_comesBefore_1 rfl rfl ?_
  refine rn_iload_n 3 d_P_comesBefore_2 rfl rfl ?_
  refine rn_callV2 6 d_P_comesBefore_3 rfl cw_P_93 rfl (Nat.le_of_ble_eq_true rfl) (ev_P_isCold hn hF hT hH ha) ?_
  rintro _ _ ⟨rfl, rfl⟩
  refine rn_aload_n 7 d_P_comesBefore_6 rfl rfl ?_
  refine rn_aload_n 8 d_P_comesBefore_7 rfl rfl ?_
  refine rn_iload_n 9 d_P_comesBefore_8 rfl rfl ?_
  refine rn_callV2 12 d_P_comesBefore_9 rfl cw_P_93 rfl (Nat.le_of_ble_eq_true rfl) (ev_P_isCold hn hF hT hH hb) ?_
  rintro _ _ ⟨rfl, rfl⟩
  refine rn_icmp_eq 22 15 d_P_comesBefore_12 rfl rfl bz_in bz_in (fun c_12 => ?_) (fun c_12 => ?_)
  · have q12 := bz_eq.mp c_12
    refine rn_aload_n 23 d_P_comesBefore_22 rfl rfl ?_
    refine rn_getfield 26 d_P_comesBefore_23 rfl fd_P_97 rfl rfl ?_
    refine rn_iload_n 27 d_P_comesBefore_26 rfl rfl ?_
    refine rn_iaload 28 d_P_comesBefore_27 rfl rfl (by decide) (by omega) (by omega) ?_
    rw [show (pS σ OR ED HD FI BE HS BS Ch Co) 2 a = σ 2 a from rfl]
    refine rn_aload_n 29 d_P_comesBefore_28 rfl rfl ?_
    refine rn_getfield 32 d_P_comesBefore_29 rfl fd_P_97 rfl rfl ?_
    refine rn_iload_n 33 d_P_comesBefore_32 rfl rfl ?_
    refine rn_iaload 34 d_P_comesBefore_33 rfl rfl (by decide) (by omega) (by omega) ?_
    rw [show (pS σ OR ED HD FI BE HS BS Ch Co) 2 b = σ 2 b from rfl]
    refine rn_icmp_eq 58 37 d_P_comesBefore_34 rfl rfl ⟨by omega, by omega⟩ ⟨by omega, by omega⟩ (fun c_34 => ?_) (fun c_34 => ?_)
    · refine rn_aload_n 59 d_P_comesBefore_58 rfl rfl ?_
      refine rn_iload_n 60 d_P_comesBefore_59 rfl rfl ?_
      refine rn_callV1 63 d_P_comesBefore_60 rfl cw_P_85 rfl (Nat.le_of_ble_eq_true rfl) (ev_GE ⟨by omega, by omega⟩ hFa hTa) ?_
      rintro _ _ ⟨rfl, rfl⟩
      refine rn_aload_n 64 d_P_comesBefore_63 rfl rfl ?_
      refine rn_iload_n 65 d_P_comesBefore_64 rfl rfl ?_
      refine rn_callV1 68 d_P_comesBefore_65 rfl cw_P_85 rfl (Nat.le_of_ble_eq_true rfl) (ev_GE ⟨by omega, by omega⟩ hFb hTb) ?_
      rintro _ _ ⟨rfl, rfl⟩
      refine rn_icmp_eq 77 71 d_P_comesBefore_68 rfl rfl bz_in bz_in (fun c_68 => ?_) (fun c_68 => ?_)
      · have q68 := bz_eq.mp c_68
        refine rn_aload_n 78 d_P_comesBefore_77 rfl rfl ?_
        refine rn_getfield 81 d_P_comesBefore_78 rfl fd_P_34 rfl rfl ?_
        refine rn_iload_n 82 d_P_comesBefore_81 rfl rfl ?_
        refine rn_iaload 83 d_P_comesBefore_82 rfl rfl (by decide) (by omega) (by omega) ?_
        rw [show (pS σ OR ED HD FI BE HS BS Ch Co) 19 a = HS a from rfl]
        refine rn_i2l 84 d_P_comesBefore_83 rfl ⟨by omega, by omega⟩ ?_
        refine rn_aload_n 85 d_P_comesBefore_84 rfl rfl ?_
        refine rn_getfield 88 d_P_comesBefore_85 rfl fd_P_37 rfl rfl ?_
        refine rn_iload_n 89 d_P_comesBefore_88 rfl rfl ?_
        refine rn_iaload 90 d_P_comesBefore_89 rfl rfl (by decide) (by omega) (by omega) ?_
        rw [show (pS σ OR ED HD FI BE HS BS Ch Co) 20 b = BS b from rfl]
        refine rn_i2l 91 d_P_comesBefore_90 rfl ⟨by omega, by omega⟩ ?_
        refine rn_lmul 92 d_P_comesBefore_91 rfl ?_
        refine rn_lstore 94 d_P_comesBefore_92 rfl (by decide) rfl rfl ?_
        refine rn_aload_n 95 d_P_comesBefore_94 rfl rfl ?_
        refine rn_getfield 98 d_P_comesBefore_95 rfl fd_P_34 rfl rfl ?_
        refine rn_iload_n 99 d_P_comesBefore_98 rfl rfl ?_
        refine rn_iaload 100 d_P_comesBefore_99 rfl rfl (by decide) (by omega) (by omega) ?_
        rw [show (pS σ OR ED HD FI BE HS BS Ch Co) 19 b = HS b from rfl]
        refine rn_i2l 101 d_P_comesBefore_100 rfl ⟨by omega, by omega⟩ ?_
        refine rn_aload_n 102 d_P_comesBefore_101 rfl rfl ?_
        refine rn_getfield 105 d_P_comesBefore_102 rfl fd_P_37 rfl rfl ?_
        refine rn_iload_n 106 d_P_comesBefore_105 rfl rfl ?_
        refine rn_iaload 107 d_P_comesBefore_106 rfl rfl (by decide) (by omega) (by omega) ?_
        rw [show (pS σ OR ED HD FI BE HS BS Ch Co) 20 a = BS a from rfl]
        refine rn_i2l 108 d_P_comesBefore_107 rfl ⟨by omega, by omega⟩ ?_
        refine rn_lmul 109 d_P_comesBefore_108 rfl ?_
        refine rn_lstore 111 d_P_comesBefore_109 rfl (by decide) rfl rfl ?_
        refine rn_lload 113 d_P_comesBefore_111 rfl rfl ?_
        refine rn_lload 115 d_P_comesBefore_113 rfl rfl ?_
        refine rn_lcmp 116 d_P_comesBefore_115 rfl ⟨by omega, by omega⟩ ⟨by omega, by omega⟩ ?_
        refine rn_if_eq 135 119 d_P_comesBefore_116 rfl rfl (by unfold av_in; split; omega; (try split) <;> omega) (fun c_116 => ?_) (fun c_116 => ?_)
        · have q116 : HS a * BS b = HS b * BS a := by
            by_cases z1 : HS b * BS a < HS a * BS b
            · rw [if_pos z1] at c_116; omega
            · rw [if_neg z1] at c_116
              by_cases z2 : HS a * BS b = HS b * BS a
              · exact z2
              · rw [if_neg z2] at c_116; omega
          refine rn_iload_n 136 d_P_comesBefore_135 rfl rfl ?_
          refine rn_iload_n 137 d_P_comesBefore_136 rfl rfl ?_
          refine rn_icmp_ge 144 140 d_P_comesBefore_137 rfl rfl ⟨by omega, by omega⟩ ⟨by omega, by omega⟩ (fun c_137 => ?_) (fun c_137 => ?_)
          · refine rn_iconst 145 d_P_comesBefore_144 rfl ?_
            refine rn_ireturn d_P_comesBefore_145 (Or.inr ⟨rfl, Or.inl rfl⟩) ⟨?_, rfl⟩
            rw [bz_f]
            rintro (z | ⟨-, z | ⟨-, z | ⟨-, z | z⟩⟩⟩)
            · exact z.1 q12
            · omega
            · exact z.1 q68
            · omega
            · omega
          · refine rn_iconst 141 d_P_comesBefore_140 rfl ?_
            refine rn_goto 145 d_P_comesBefore_141 rfl ?_
            exact rn_ireturn d_P_comesBefore_145 (Or.inr ⟨rfl, Or.inr rfl⟩) ⟨by rw [bz_t (Or.inr ⟨q12, Or.inr ⟨c_34, Or.inr ⟨q68, Or.inr ⟨q116, by omega⟩⟩⟩⟩)], rfl⟩
        · have q116 : HS a * BS b ≠ HS b * BS a := fun z => c_116 (by rw [if_neg (by omega), if_pos z])
          refine rn_lload 121 d_P_comesBefore_119 rfl rfl ?_
          refine rn_lload 123 d_P_comesBefore_121 rfl rfl ?_
          refine rn_lcmp 124 d_P_comesBefore_123 rfl ⟨by omega, by omega⟩ ⟨by omega, by omega⟩ ?_
          refine rn_if_le 131 127 d_P_comesBefore_124 rfl rfl (by unfold av_in; split; omega; (try split) <;> omega) (fun c_124 => ?_) (fun c_124 => ?_)
          · refine rn_iconst 132 d_P_comesBefore_131 rfl ?_
            refine rn_goto 145 d_P_comesBefore_132 rfl ?_
            have q124 : HS a * BS b < HS b * BS a := by
                have z3 := c_124
                by_cases z1 : HS b * BS a < HS a * BS b
                · rw [if_pos z1] at z3; omega
                · omega
            refine rn_ireturn d_P_comesBefore_145 (Or.inr ⟨rfl, Or.inl rfl⟩) ⟨?_, rfl⟩
            rw [bz_f]
            rintro (z | ⟨-, z | ⟨-, z | ⟨-, z | z⟩⟩⟩)
            · exact z.1 q12
            · omega
            · exact z.1 q68
            · omega
            · omega
          · refine rn_iconst 128 d_P_comesBefore_127 rfl ?_
            refine rn_goto 145 d_P_comesBefore_128 rfl ?_
            have q124 : HS b * BS a < HS a * BS b := by
                have z3 := c_124
                by_cases z1 : HS b * BS a < HS a * BS b
                · exact z1
                · rw [if_neg z1] at z3; split at z3 <;> omega
            exact rn_ireturn d_P_comesBefore_145 (Or.inr ⟨rfl, Or.inr rfl⟩) ⟨by rw [bz_t (Or.inr ⟨q12, Or.inr ⟨c_34, Or.inr ⟨q68, Or.inl (by omega)⟩⟩⟩)], rfl⟩
      · refine rn_aload_n 72 d_P_comesBefore_71 rfl rfl ?_
        refine rn_iload_n 73 d_P_comesBefore_72 rfl rfl ?_
        refine rn_callV1 76 d_P_comesBefore_73 rfl cw_P_85 rfl (Nat.le_of_ble_eq_true rfl) (ev_GE ⟨by omega, by omega⟩ hFa hTa) ?_
        rintro _ _ ⟨rfl, rfl⟩
        have q68 : ¬ (isE σ a ↔ isE σ b) := fun z => c_68 (bz_eq.mpr z)
        exact rn_ireturn d_P_comesBefore_76 (Or.inr ⟨rfl, bz_01⟩) ⟨congrArg (fun z => some (vI z)) (bz_eq.mpr ⟨fun z => Or.inr ⟨q12, Or.inr ⟨c_34, Or.inl ⟨q68, z⟩⟩⟩, fun z => by
          rcases z with z | ⟨-, z | ⟨-, z | z⟩⟩
          · exact absurd q12 z.1
          · omega
          · exact z.2
          · exact absurd z.1 q68⟩), rfl⟩
    · refine rn_aload_n 38 d_P_comesBefore_37 rfl rfl ?_
      refine rn_getfield 41 d_P_comesBefore_38 rfl fd_P_97 rfl rfl ?_
      refine rn_iload_n 42 d_P_comesBefore_41 rfl rfl ?_
      refine rn_iaload 43 d_P_comesBefore_42 rfl rfl (by decide) (by omega) (by omega) ?_
      rw [show (pS σ OR ED HD FI BE HS BS Ch Co) 2 a = σ 2 a from rfl]
      refine rn_aload_n 44 d_P_comesBefore_43 rfl rfl ?_
      refine rn_getfield 47 d_P_comesBefore_44 rfl fd_P_97 rfl rfl ?_
      refine rn_iload_n 48 d_P_comesBefore_47 rfl rfl ?_
      refine rn_iaload 49 d_P_comesBefore_48 rfl rfl (by decide) (by omega) (by omega) ?_
      rw [show (pS σ OR ED HD FI BE HS BS Ch Co) 2 b = σ 2 b from rfl]
      refine rn_icmp_ge 56 52 d_P_comesBefore_49 rfl rfl ⟨by omega, by omega⟩ ⟨by omega, by omega⟩ (fun c_49 => ?_) (fun c_49 => ?_)
      · refine rn_iconst 57 d_P_comesBefore_56 rfl ?_
        first
          | exact rn_ireturn d_P_comesBefore_57 (Or.inr ⟨rfl, Or.inr rfl⟩) ⟨by rw [bz_t (Or.inr ⟨q12, Or.inl (by omega)⟩)], rfl⟩
          | (refine rn_ireturn d_P_comesBefore_57 (Or.inr ⟨rfl, Or.inl rfl⟩) ⟨?_, rfl⟩
             rw [bz_f]
             rintro (z | ⟨-, z | z⟩)
             · exact z.1 q12
             · omega
             · omega)
      · refine rn_iconst 53 d_P_comesBefore_52 rfl ?_
        refine rn_goto 57 d_P_comesBefore_53 rfl ?_
        first
          | exact rn_ireturn d_P_comesBefore_57 (Or.inr ⟨rfl, Or.inr rfl⟩) ⟨by rw [bz_t (Or.inr ⟨q12, Or.inl (by omega)⟩)], rfl⟩
          | (refine rn_ireturn d_P_comesBefore_57 (Or.inr ⟨rfl, Or.inl rfl⟩) ⟨?_, rfl⟩
             rw [bz_f]
             rintro (z | ⟨-, z | z⟩)
             · exact z.1 q12
             · omega
             · omega)
  · refine rn_aload_n 16 d_P_comesBefore_15 rfl rfl ?_
    refine rn_aload_n 17 d_P_comesBefore_16 rfl rfl ?_
    refine rn_iload_n 18 d_P_comesBefore_17 rfl rfl ?_
    refine rn_callV2 21 d_P_comesBefore_18 rfl cw_P_93 rfl (Nat.le_of_ble_eq_true rfl) (ev_P_isCold hn hF hT hH hb) ?_
    rintro _ _ ⟨rfl, rfl⟩
    have q12 : ¬ (cold σ HS a ↔ cold σ HS b) := fun z => c_12 (bz_eq.mpr z)
    exact rn_ireturn d_P_comesBefore_21 (Or.inr ⟨rfl, bz_01⟩) ⟨congrArg (fun z => some (vI z)) (bz_eq.mpr ⟨fun z => Or.inl ⟨q12, z⟩, fun z => by
      rcases z with z | z
      · exact z.2
      · exact absurd z.1 q12⟩), rfl⟩
end
section
set_option maxRecDepth 100000 in
set_option maxHeartbeats 400000 in
theorem join_loop {sc : av_sc} {d n0 bc bs : Nat} {al : Bool} {σ : av_S} {OR ED HD FI BE HS BS : Int → Int} {Ch Co : Int} {x y : Int} {Φ : Option av_V → av_H → Prop} (hn : 0 ≤ σ 1 5 ∧ σ 1 5 ≤ 24) (hFI : ∀ b, 0 ≤ b → b < σ 1 5 → 0 ≤ FI b ∧ FI b < σ 1 5) (hy : 0 ≤ y ∧ y < σ 1 5) (hΦ : Φ none (hp (pS σ OR ED HD (fl (fun j => if FI j = y then FI x else FI j) FI (σ 1 5)) (uI BE x y) (uI HS (FI x) (HS (FI x) + HS y)) (uI BS (FI x) (BS (FI x) + BS y)) Ch Co))) :
    ∀ (m : Nat) (k : Int), 0 ≤ k → k + (m : Int) = σ 1 5 → av_Rn sc m_P_joinAlong d al n0 bc bs 85 [some (vR 13), some (vR 1), some (vI x), some (vI y), some (vI (FI x)), some (vI k)] [] (hp (pS σ OR ED HD (fl (fun j => if FI j = y then FI x else FI j) FI k) (uI BE x y) (uI HS (FI x) (HS (FI x) + HS y)) (uI BS (FI x) (BS (FI x) + BS y)) Ch Co)) Φ := by
  intro m
  induction m with
  | zero =>
    intro k h0 hk
    obtain rfl : k = σ 1 5 := by omega
    refine rn_iload 87 d_P_joinAlong_85 rfl rfl ?_
    refine rn_aload_n 88 d_P_joinAlong_87 rfl rfl ?_
    refine rn_getfield 91 d_P_joinAlong_88 rfl fd_P_40 rfl rfl ?_
    rw [show (pS σ OR ED HD (fl (fun j => if FI j = y then FI x else FI j) FI (σ 1 5)) (uI BE x y) (uI HS (FI x) (HS (FI x) + HS y)) (uI BS (FI x) (BS (FI x) + BS y)) Ch Co) 1 5 = σ 1 5 from rfl]
    refine rn_icmp_ge 120 94 d_P_joinAlong_91 rfl rfl ⟨by omega, by omega⟩ ⟨by omega, by omega⟩ (fun c_91 => ?_) (fun c_91 => ?_)
    · exact rn_return d_P_joinAlong_120 rfl hΦ
    · omega
  | succ m ih =>
    intro k h0 hk
    have hk1 := hFI k h0 (by omega)
    refine rn_iload 87 d_P_joinAlong_85 rfl rfl ?_
    refine rn_aload_n 88 d_P_joinAlong_87 rfl rfl ?_
    refine rn_getfield 91 d_P_joinAlong_88 rfl fd_P_40 rfl rfl ?_
    rw [show (pS σ OR ED HD (fl (fun j => if FI j = y then FI x else FI j) FI k) (uI BE x y) (uI HS (FI x) (HS (FI x) + HS y)) (uI BS (FI x) (BS (FI x) + BS y)) Ch Co) 1 5 = σ 1 5 from rfl]
    refine rn_icmp_ge 120 94 d_P_joinAlong_91 rfl rfl ⟨by omega, by omega⟩ ⟨by omega, by omega⟩ (fun c_91 => ?_) (fun c_91 => ?_)
    · omega
    · refine rn_aload_n 95 d_P_joinAlong_94 rfl rfl ?_
      refine rn_getfield 98 d_P_joinAlong_95 rfl fd_P_28 rfl rfl ?_
      refine rn_iload 100 d_P_joinAlong_98 rfl rfl ?_
      refine rn_iaload 101 d_P_joinAlong_100 rfl rfl (by decide) (by omega) (by omega) ?_
      rw [show (pS σ OR ED HD (fl (fun j => if FI j = y then FI x else FI j) FI k) (uI BE x y) (uI HS (FI x) (HS (FI x) + HS y)) (uI BS (FI x) (BS (FI x) + BS y)) Ch Co) 17 k = fl (fun j => if FI j = y then FI x else FI j) FI k k from rfl]
      rw [fl_at]
      refine rn_iload_n 102 d_P_joinAlong_101 rfl rfl ?_
      refine rn_icmp_ne 114 105 d_P_joinAlong_102 rfl rfl ⟨by omega, by omega⟩ ⟨by omega, by omega⟩ (fun c_102 => ?_) (fun c_102 => ?_)
      · first
          | (rw [fl_skip (g := (fun j => if FI j = y then FI x else FI j)) (f := FI) (k := k) h0 (if_neg c_102)]
             refine rn_iinc 117 d_P_joinAlong_114 rfl rfl (by decide) rfl rfl ?_
             refine rn_goto 85 d_P_joinAlong_117 rfl ?_
             exact ih (k + 1) (by omega) (by omega))
          | (change av_Rn _ _ _ _ _ _ _ _ _ _ (hp (pS σ OR ED HD (uI (fl (fun j => if FI j = y then FI x else FI j) FI k) k (FI x)) (uI BE x y) (uI HS (FI x) (HS (FI x) + HS y)) (uI BS (FI x) (BS (FI x) + BS y)) Ch Co)) _
             rw [fl_step (g := (fun j => if FI j = y then FI x else FI j)) (f := FI) (k := k) (z := FI x) h0 (if_pos c_102).symm]
             refine rn_iinc 117 d_P_joinAlong_114 rfl rfl (by decide) rfl rfl ?_
             refine rn_goto 85 d_P_joinAlong_117 rfl ?_
             exact ih (k + 1) (by omega) (by omega))
      · refine rn_aload_n 106 d_P_joinAlong_105 rfl rfl ?_
        refine rn_getfield 109 d_P_joinAlong_106 rfl fd_P_28 rfl rfl ?_
        refine rn_iload 111 d_P_joinAlong_109 rfl rfl ?_
        refine rn_iload 113 d_P_joinAlong_111 rfl rfl ?_
        refine rn_iastore 114 d_P_joinAlong_113 rfl rfl (by decide) (by omega) (by omega) (hs_17 _ _) ?_
        first
          | (rw [fl_skip (g := (fun j => if FI j = y then FI x else FI j)) (f := FI) (k := k) h0 (if_neg c_102)]
             refine rn_iinc 117 d_P_joinAlong_114 rfl rfl (by decide) rfl rfl ?_
             refine rn_goto 85 d_P_joinAlong_117 rfl ?_
             exact ih (k + 1) (by omega) (by omega))
          | (change av_Rn _ _ _ _ _ _ _ _ _ _ (hp (pS σ OR ED HD (uI (fl (fun j => if FI j = y then FI x else FI j) FI k) k (FI x)) (uI BE x y) (uI HS (FI x) (HS (FI x) + HS y)) (uI BS (FI x) (BS (FI x) + BS y)) Ch Co)) _
             rw [fl_step (g := (fun j => if FI j = y then FI x else FI j)) (f := FI) (k := k) (z := FI x) h0 (if_pos c_102).symm]
             refine rn_iinc 117 d_P_joinAlong_114 rfl rfl (by decide) rfl rfl ?_
             refine rn_goto 85 d_P_joinAlong_117 rfl ?_
             exact ih (k + 1) (by omega) (by omega))
set_option maxRecDepth 100000 in
set_option maxHeartbeats 400000 in
theorem ev_P_joinAlong {sc : av_sc} {d : Nat} {σ : av_S} {OR ED HD FI BE HS BS : Int → Int} {Ch Co : Int} {x y : Int} (hn : 0 ≤ σ 1 5 ∧ σ 1 5 ≤ 24) (hFI : ∀ b, 0 ≤ b → b < σ 1 5 → 0 ≤ FI b ∧ FI b < σ 1 5) (hBE : ∀ b, 0 ≤ b → b < σ 1 5 → -1 ≤ BE b ∧ BE b < 24) (hF : ∀ b, 0 ≤ b → b < σ 1 5 → 0 ≤ σ 2 b ∧ σ 2 b ≤ 3) (hT : ∀ f, 0 ≤ f → f < 4 → -1 ≤ σ 6 f ∧ σ 6 f < 24) (hx : 0 ≤ x ∧ x < σ 1 5) (hy : 0 ≤ y ∧ y < σ 1 5) : av_Ev sc m_P_joinAlong (d + 1) false 0 0 [vR 13, vR 1, vI x, vI y] (hp (pS σ OR ED HD FI BE HS BS Ch Co)) (fun r h => r = none ∧ ((¬ (BE x = -1 ∧ FI y = y ∧ FI x ≠ y ∧ ¬ isE σ y) ∧ h = hp (pS σ OR ED HD FI BE HS BS Ch Co)) ∨ ((BE x = -1 ∧ FI y = y ∧ FI x ≠ y ∧ ¬ isE σ y) ∧ h = hp (pS σ OR ED HD (fl (fun j => if FI j = y then FI x else FI j) FI (σ 1 5)) (uI BE x y) (uI HS (FI x) (HS (FI x) + HS y)) (uI BS (FI x) (BS (FI x) + BS y)) Ch Co)))) := by
  have f1 := hFI x hx.1 hx.2
  have f2 := hFI y hy.1 hy.2
  have b1 := hBE x hx.1 hx.2
  have hFy := hF y hy.1 hy.2
  have hTy := hT (σ 2 y) hFy.1 (by omega)
  refine av_ev rfl rfl (Nat.le_of_ble_eq_true rfl) rfl ?_
  refine rn_aload_n 1 d_P_joinAlong_0 rfl rfl ?_
  refine rn_getfield 4 d_P_joinAlong_1 rfl fd_P_28 rfl rfl ?_
  refine rn_iload_n 5 d_P_joinAlong_4 rfl rfl ?_
  refine rn_iaload 6 d_P_joinAlong_5 rfl rfl (by decide) (by omega) (by omega) ?_
  rw [show (pS σ OR ED HD FI BE HS BS Ch Co) 17 x = FI x from rfl]
  refine rn_istore 8 d_P_joinAlong_6 rfl (by decide) rfl rfl ?_
  refine rn_aload_n 9 d_P_joinAlong_8 rfl rfl ?_
  refine rn_getfield 12 d_P_joinAlong_9 rfl fd_P_31 rfl rfl ?_
  refine rn_iload_n 13 d_P_joinAlong_12 rfl rfl ?_
  refine rn_iaload 14 d_P_joinAlong_13 rfl rfl (by decide) (by omega) (by omega) ?_
  rw [show (pS σ OR ED HD FI BE HS BS Ch Co) 18 x = BE x from rfl]
  refine rn_iconst 15 d_P_joinAlong_14 rfl ?_
  refine rn_icmp_ne 42 18 d_P_joinAlong_15 rfl rfl ⟨by omega, by omega⟩ ⟨by omega, by omega⟩ (fun c_15 => ?_) (fun c_15 => ?_)
  · exact rn_return d_P_joinAlong_42 rfl ⟨rfl, Or.inl ⟨(by intro z; first | (exact c_15 z.1) | (exact c_25 z.2.1) | (exact z.2.2.1 c_31) | (exact z.2.2.2 c_39)), rfl⟩⟩
  · refine rn_aload_n 19 d_P_joinAlong_18 rfl rfl ?_
    refine rn_getfield 22 d_P_joinAlong_19 rfl fd_P_28 rfl rfl ?_
    refine rn_iload_n 23 d_P_joinAlong_22 rfl rfl ?_
    refine rn_iaload 24 d_P_joinAlong_23 rfl rfl (by decide) (by omega) (by omega) ?_
    rw [show (pS σ OR ED HD FI BE HS BS Ch Co) 17 y = FI y from rfl]
    refine rn_iload_n 25 d_P_joinAlong_24 rfl rfl ?_
    refine rn_icmp_ne 42 28 d_P_joinAlong_25 rfl rfl ⟨by omega, by omega⟩ ⟨by omega, by omega⟩ (fun c_25 => ?_) (fun c_25 => ?_)
    · exact rn_return d_P_joinAlong_42 rfl ⟨rfl, Or.inl ⟨(by intro z; first | (exact c_15 z.1) | (exact c_25 z.2.1) | (exact z.2.2.1 c_31) | (exact z.2.2.2 c_39)), rfl⟩⟩
    · refine rn_iload 30 d_P_joinAlong_28 rfl rfl ?_
      refine rn_iload_n 31 d_P_joinAlong_30 rfl rfl ?_
      refine rn_icmp_eq 42 34 d_P_joinAlong_31 rfl rfl ⟨by omega, by omega⟩ ⟨by omega, by omega⟩ (fun c_31 => ?_) (fun c_31 => ?_)
      · exact rn_return d_P_joinAlong_42 rfl ⟨rfl, Or.inl ⟨(by intro z; first | (exact c_15 z.1) | (exact c_25 z.2.1) | (exact z.2.2.1 c_31) | (exact z.2.2.2 c_39)), rfl⟩⟩
      · refine rn_aload_n 35 d_P_joinAlong_34 rfl rfl ?_
        refine rn_iload_n 36 d_P_joinAlong_35 rfl rfl ?_
        refine rn_callV1 39 d_P_joinAlong_36 rfl cw_P_85 rfl (Nat.le_of_ble_eq_true rfl) (ev_GE ⟨by omega, by omega⟩ hFy hTy) ?_
        rintro _ _ ⟨rfl, rfl⟩
        refine rn_ifB_eq 43 42 d_P_joinAlong_39 rfl rfl (fun c_39 => ?_) (fun c_39 => ?_)
        · refine rn_aload_n 44 d_P_joinAlong_43 rfl rfl ?_
          refine rn_getfield 47 d_P_joinAlong_44 rfl fd_P_31 rfl rfl ?_
          refine rn_iload_n 48 d_P_joinAlong_47 rfl rfl ?_
          refine rn_iload_n 49 d_P_joinAlong_48 rfl rfl ?_
          refine rn_iastore 50 d_P_joinAlong_49 rfl rfl (by decide) (by omega) (by omega) (hs_18 _ _) ?_
          refine rn_aload_n 51 d_P_joinAlong_50 rfl rfl ?_
          refine rn_getfield 54 d_P_joinAlong_51 rfl fd_P_34 rfl rfl ?_
          refine rn_iload 56 d_P_joinAlong_54 rfl rfl ?_
          refine rn_dup2 57 d_P_joinAlong_56 rfl rfl rfl ?_
          refine rn_iaload 58 d_P_joinAlong_57 rfl rfl (by decide) (by omega) (by omega) ?_
          refine rn_aload_n 59 d_P_joinAlong_58 rfl rfl ?_
          refine rn_getfield 62 d_P_joinAlong_59 rfl fd_P_34 rfl rfl ?_
          refine rn_iload_n 63 d_P_joinAlong_62 rfl rfl ?_
          refine rn_iaload 64 d_P_joinAlong_63 rfl rfl (by decide) (by omega) (by omega) ?_
          refine rn_iadd 65 d_P_joinAlong_64 rfl ?_
          refine rn_iastore 66 d_P_joinAlong_65 rfl rfl (by decide) (by omega) (by omega) (hs_19 _ _) ?_
          refine rn_aload_n 67 d_P_joinAlong_66 rfl rfl ?_
          refine rn_getfield 70 d_P_joinAlong_67 rfl fd_P_37 rfl rfl ?_
          refine rn_iload 72 d_P_joinAlong_70 rfl rfl ?_
          refine rn_dup2 73 d_P_joinAlong_72 rfl rfl rfl ?_
          refine rn_iaload 74 d_P_joinAlong_73 rfl rfl (by decide) (by omega) (by omega) ?_
          refine rn_aload_n 75 d_P_joinAlong_74 rfl rfl ?_
          refine rn_getfield 78 d_P_joinAlong_75 rfl fd_P_37 rfl rfl ?_
          refine rn_iload_n 79 d_P_joinAlong_78 rfl rfl ?_
          refine rn_iaload 80 d_P_joinAlong_79 rfl rfl (by decide) (by omega) (by omega) ?_
          refine rn_iadd 81 d_P_joinAlong_80 rfl ?_
          refine rn_iastore 82 d_P_joinAlong_81 rfl rfl (by decide) (by omega) (by omega) (hs_20 _ _) ?_
          refine rn_iconst 83 d_P_joinAlong_82 rfl ?_
          refine rn_istore 85 d_P_joinAlong_83 rfl (by decide) rfl rfl ?_
          change av_Rn _ _ _ _ _ _ _ _ _ _ (hp (pS σ OR ED HD FI (uI BE x y) (uI HS (FI x) (HS (FI x) + HS y)) (uI BS (FI x) (BS (FI x) + BS y)) Ch Co)) _
          have L := join_loop (sc := sc) (d := d + 1) (n0 := (hp (pS σ OR ED HD FI BE HS BS Ch Co)).length) (bc := 0) (bs := 0) (al := false) (OR := OR) (ED := ED) (HD := HD) (BE := BE) (HS := HS) (BS := BS) (Ch := Ch) (Co := Co) (x := x) (y := y) (Φ := fun r h => r = none ∧ ((¬ (BE x = -1 ∧ FI y = y ∧ FI x ≠ y ∧ ¬ isE σ y) ∧ h = hp (pS σ OR ED HD FI BE HS BS Ch Co)) ∨ ((BE x = -1 ∧ FI y = y ∧ FI x ≠ y ∧ ¬ isE σ y) ∧ h = hp (pS σ OR ED HD (fl (fun j => if FI j = y then FI x else FI j) FI (σ 1 5)) (uI BE x y) (uI HS (FI x) (HS (FI x) + HS y)) (uI BS (FI x) (BS (FI x) + BS y)) Ch Co)))) hn hFI hy ⟨rfl, Or.inr ⟨⟨c_15, c_25, c_31, c_39⟩, rfl⟩⟩ (σ 1 5).toNat 0 (by omega) (by omega)
          rw [fl_0] at L
          exact L
        · exact rn_return d_P_joinAlong_42 rfl ⟨rfl, Or.inl ⟨(by intro z; first | (exact c_15 z.1) | (exact c_25 z.2.1) | (exact z.2.2.1 c_31) | (exact z.2.2.2 c_39)), rfl⟩⟩
theorem ins_sorted {Rl : Int → Int → Prop} {A B : Int → Int} {m k e : Int} (hk : 0 ≤ k ∧ k ≤ m) (h0 : ∀ i j, 0 ≤ i → i < j → j < m → Rl (A i) (A j)) (hsh : ∀ i, k ≤ i → i < m → Rl e (A i)) (hst : ∀ i, 0 ≤ i → i < k → Rl (A i) e) (e1 : ∀ i, 0 ≤ i → i < k → B i = A i) (e2 : B k = e) (e3 : ∀ i, k < i → i ≤ m → B i = A (i - 1)) : ∀ i j, 0 ≤ i → i < j → j < m + 1 → Rl (B i) (B j) := by
  intro i j hi hij hj
  rcases Int.lt_trichotomy i k with c | c | c
  · rw [e1 i hi c]
    rcases Int.lt_trichotomy j k with c2 | c2 | c2
    · rw [e1 j (by omega) c2]; exact h0 i j hi hij (by omega)
    · rw [c2, e2]; exact hst i hi c
    · rw [e3 j c2 (by omega)]; exact h0 i (j - 1) hi (by omega) (by omega)
  · rw [c, e2, e3 j (by omega) (by omega)]; exact hsh (j - 1) (by omega) (by omega)
  · rw [e3 i c (by omega), e3 j (by omega) (by omega)]; exact h0 (i - 1) (j - 1) (by omega) (by omega) (by omega)
theorem ins_mem {A B : Int → Int} {m k e : Int} (hk : 0 ≤ k ∧ k ≤ m) (e1 : ∀ i, 0 ≤ i → i < k → B i = A i) (e2 : B k = e) (e3 : ∀ i, k < i → i ≤ m → B i = A (i - 1)) (q : Int) : (∃ i, 0 ≤ i ∧ i < m + 1 ∧ B i = q) ↔ (q = e ∨ ∃ i, 0 ≤ i ∧ i < m ∧ A i = q) := by
  constructor
  · rintro ⟨i, h0, h1, h2⟩
    rcases Int.lt_trichotomy i k with c | c | c
    · rw [e1 i h0 c] at h2; exact Or.inr ⟨i, h0, by omega, h2⟩
    · rw [c, e2] at h2; exact Or.inl h2.symm
    · rw [e3 i c (by omega)] at h2; exact Or.inr ⟨i - 1, by omega, by omega, h2⟩
  · rintro (h | ⟨i, h0, h1, h2⟩)
    · exact ⟨k, hk.1, by omega, by rw [e2, h]⟩
    · by_cases c : i < k
      · exact ⟨i, h0, by omega, by rw [e1 i h0 c]; exact h2⟩
      · exact ⟨i + 1, by omega, by omega, by rw [e3 (i + 1) (by omega) (by omega), Int.add_sub_cancel]; exact h2⟩
/-- edges in their order: greater count first, then the lesser number -/
def eR (ce : Int → Int) (a b : Int) : Prop := ce b < ce a ∨ (ce b = ce a ∧ a < b)
/-- A holds just the edges below e that may join, in their order -/
def iED (P : Int → Prop) (ce A : Int → Int) (m e : Int) : Prop := (∀ i, 0 ≤ i → i < m → (0 ≤ A i ∧ A i < e) ∧ P (A i)) ∧ (∀ q, 0 ≤ q → q < e → P q → ∃ i, 0 ≤ i ∧ i < m ∧ A i = q) ∧ (∀ i j, 0 ≤ i → i < j → j < m → eR ce (A i) (A j)) ∧ 0 ≤ m ∧ m ≤ e
theorem iED_skip {P : Int → Prop} {ce A : Int → Int} {m e : Int} (h : iED P ce A m e) (hP : ¬ P e) : iED P ce A m (e + 1) := by
  obtain ⟨h1, h2, h3, h4, h5⟩ := h
  refine ⟨fun i a b => ⟨⟨(h1 i a b).1.1, by have := (h1 i a b).1.2; omega⟩, (h1 i a b).2⟩, fun q a b c => ?_, h3, h4, by omega⟩
  by_cases hq : q = e
  · subst hq; exact absurd c hP
  · exact h2 q a (by omega) c
theorem iED_ins {P : Int → Prop} {ce A B : Int → Int} {m e k : Int} (h : iED P ce A m e) (he : 0 ≤ e) (hP : P e) (hk : 0 ≤ k ∧ k ≤ m) (hsh : ∀ i, k ≤ i → i < m → ce (A i) < ce e) (hst : 0 < k → ce e ≤ ce (A (k - 1))) (e1 : ∀ i, 0 ≤ i → i < k → B i = A i) (e2 : B k = e) (e3 : ∀ i, k < i → i ≤ m → B i = A (i - 1)) : iED P ce B (m + 1) (e + 1) := by
  obtain ⟨h1, h2, h3, h4, h5⟩ := h
  have hm := ins_mem hk e1 e2 e3
  refine ⟨fun i a b => ?_, fun q a b c => ?_, ?_, by omega, by omega⟩
  · rcases (hm (B i)).mp ⟨i, a, b, rfl⟩ with z | ⟨j, z1, z2, z3⟩
    · rw [z]; exact ⟨⟨he, by omega⟩, hP⟩
    · rw [← z3]; exact ⟨⟨(h1 j z1 z2).1.1, by have := (h1 j z1 z2).1.2; omega⟩, (h1 j z1 z2).2⟩
  · refine (hm q).mpr ?_
    by_cases hq : q = e
    · exact Or.inl hq
    · exact Or.inr (h2 q a (by omega) c)
  · refine ins_sorted hk h3 (fun i a b => Or.inl (hsh i a b)) (fun i a b => ?_) e1 e2 e3
    have z1 := hst (by omega)
    have z2 := (h1 i a (by omega)).1.2
    by_cases c : i = k - 1
    · subst c; unfold eR; omega
    · have z3 := h3 i (k - 1) a (by omega) (by omega)
      unfold eR at z3 ⊢; omega
set_option maxRecDepth 100000 in
set_option maxHeartbeats 400000 in
theorem insE_loop {sc : av_sc} {d n0 bc bs : Nat} {al : Bool} {σ : av_S} {OR HD FI BE HS BS : Int → Int} {Ch Co : Int} {A : Int → Int} {m e : Int} {Φ : Option av_V → av_H → Prop} (hn : 0 ≤ σ 1 5 ∧ σ 1 5 ≤ 24) (hc : bd (σ 9) 48) (hA : ∀ i, 0 ≤ i → i < m → 0 ≤ A i ∧ A i < 48) (he : 0 ≤ e ∧ e < 48) (hm : 0 ≤ m ∧ m < 48)
    (hΦ : ∀ (B : Int → Int) (k : Int), 0 ≤ k → k ≤ m → (∀ i, 0 ≤ i → i < k → B i = A i) → (∀ i, k < i → i ≤ m → B i = A (i - 1)) → (∀ i, k ≤ i → i < m → σ 9 (A i) < σ 9 e) → (0 < k → σ 9 e ≤ σ 9 (A (k - 1))) → av_Rn sc m_P_sortEdges (d + 1) al n0 bc bs 80 [some (vR 13), some (vR 1), some (vR 7), some (vI m), some (vI e), some (vI k)] [] (hp (pS σ OR B HD FI BE HS BS Ch Co)) Φ) :
    ∀ (z : Nat) (k : Int) (B : Int → Int), (z : Int) = k → k ≤ m → (∀ i, 0 ≤ i → i < k → B i = A i) → (∀ i, k < i → i ≤ m → B i = A (i - 1)) → (∀ i, k ≤ i → i < m → σ 9 (A i) < σ 9 e) → av_Rn sc m_P_sortEdges (d + 1) al n0 bc bs 29 [some (vR 13), some (vR 1), some (vR 7), some (vI m), some (vI e), some (vI k)] [] (hp (pS σ OR B HD FI BE HS BS Ch Co)) Φ := by
  intro z
  induction z with
  | zero =>
    intro k B hz hk h1 h2 h3
    obtain rfl : k = 0 := by omega
    refine rn_iload 31 d_P_sortEdges_29 rfl rfl ?_
    refine rn_if_le 80 34 d_P_sortEdges_31 rfl rfl ⟨by omega, by omega⟩ (fun c_31 => ?_) (fun c_31 => ?_)
    · exact hΦ B 0 (by omega) hk h1 h2 h3 (fun q => by omega)
    · omega
  | succ z ih =>
    intro k B hz hk h1 h2 h3
    have eA : B (k - 1) = A (k - 1) := h1 (k - 1) (by omega) (by omega)
    have hAk := hA (k - 1) (by omega) (by omega)
    have c1 := hc (A (k - 1)) hAk.1 hAk.2
    have c2 := hc e he.1 he.2
    refine rn_iload 31 d_P_sortEdges_29 rfl rfl ?_
    refine rn_if_le 80 34 d_P_sortEdges_31 rfl rfl ⟨by omega, by omega⟩ (fun c_31 => ?_) (fun c_31 => ?_)
    · omega
    · refine rn_aload_n 35 d_P_sortEdges_34 rfl rfl ?_
      refine rn_getfield 38 d_P_sortEdges_35 rfl fd_P_79 rfl rfl ?_
      refine rn_aload_n 39 d_P_sortEdges_38 rfl rfl ?_
      refine rn_getfield 42 d_P_sortEdges_39 rfl fd_P_22 rfl rfl ?_
      refine rn_iload 44 d_P_sortEdges_42 rfl rfl ?_
      refine rn_iconst 45 d_P_sortEdges_44 rfl ?_
      refine rn_isub 46 d_P_sortEdges_45 rfl ?_
      refine rn_iaload 47 d_P_sortEdges_46 rfl rfl (by decide) (by omega) (by omega) ?_
      rw [show (pS σ OR B HD FI BE HS BS Ch Co) 15 (k - 1) = B (k - 1) from rfl]
      rw [eA]
      refine rn_iaload 48 d_P_sortEdges_47 rfl rfl (by decide) (by omega) (by omega) ?_
      rw [show (pS σ OR B HD FI BE HS BS Ch Co) 9 (A (k - 1)) = σ 9 (A (k - 1)) from rfl]
      refine rn_aload_n 49 d_P_sortEdges_48 rfl rfl ?_
      refine rn_getfield 52 d_P_sortEdges_49 rfl fd_P_79 rfl rfl ?_
      refine rn_iload 54 d_P_sortEdges_52 rfl rfl ?_
      refine rn_iaload 55 d_P_sortEdges_54 rfl rfl (by decide) (by omega) (by omega) ?_
      rw [show (pS σ OR B HD FI BE HS BS Ch Co) 9 e = σ 9 e from rfl]
      refine rn_icmp_ge 80 58 d_P_sortEdges_55 rfl rfl ⟨by omega, by omega⟩ ⟨by omega, by omega⟩ (fun c_55 => ?_) (fun c_55 => ?_)
      · exact hΦ B k (by omega) hk h1 h2 h3 (fun q => by omega)
      · refine rn_aload_n 59 d_P_sortEdges_58 rfl rfl ?_
        refine rn_getfield 62 d_P_sortEdges_59 rfl fd_P_22 rfl rfl ?_
        refine rn_iload 64 d_P_sortEdges_62 rfl rfl ?_
        refine rn_aload_n 65 d_P_sortEdges_64 rfl rfl ?_
        refine rn_getfield 68 d_P_sortEdges_65 rfl fd_P_22 rfl rfl ?_
        refine rn_iload 70 d_P_sortEdges_68 rfl rfl ?_
        refine rn_iconst 71 d_P_sortEdges_70 rfl ?_
        refine rn_isub 72 d_P_sortEdges_71 rfl ?_
        refine rn_iaload 73 d_P_sortEdges_72 rfl rfl (by decide) (by omega) (by omega) ?_
        rw [show (pS σ OR B HD FI BE HS BS Ch Co) 15 (k - 1) = B (k - 1) from rfl]
        refine rn_iastore 74 d_P_sortEdges_73 rfl rfl (by decide) (by omega) (by omega) (hs_15 _ _) ?_
        change av_Rn _ _ _ _ _ _ _ _ _ _ (hp (pS σ OR (uI B k (B (k - 1))) HD FI BE HS BS Ch Co)) _
        refine rn_iinc 77 d_P_sortEdges_74 rfl rfl (by decide) rfl rfl ?_
        refine rn_goto 29 d_P_sortEdges_77 rfl ?_
        have ek : k + -1 = k - 1 := by omega
        rw [ek]
        refine ih (k - 1) (uI B k (B (k - 1))) (by omega) (by omega) (fun i q0 q1 => ?_) (fun i q0 q1 => ?_) (fun i q0 q1 => ?_)
        · rw [uI_n _ _ (by omega)]; exact h1 i q0 (by omega)
        · by_cases hi : i = k
          · rw [hi, uI_s, eA]
          · rw [uI_n _ _ hi]; exact h2 i (by omega) q1
        · by_cases hi : i = k - 1
          · rw [hi]; omega
          · exact h3 i (by omega) q1
set_option maxRecDepth 100000 in
set_option maxHeartbeats 400000 in
theorem sortE_loop {sc : av_sc} {d n0 bc bs : Nat} {al : Bool} {σ : av_S} {OR HD FI BE HS BS : Int → Int} {Ch Co : Int} {Φ : Option av_V → av_H → Prop} (hn : 0 ≤ σ 1 5 ∧ σ 1 5 ≤ 24) (hE : ∀ b, 0 ≤ b → b < σ 1 5 → 0 ≤ σ 4 b ∧ σ 4 b ≤ 2) (hc : bd (σ 9) 48) (ht : ∀ e, 0 ≤ e → e < 2 * σ 1 5 → -1 ≤ σ 5 e ∧ σ 5 e < 24)
    (hΦ : ∀ (A : Int → Int) (m : Int), iED (mJ (σ 4) (σ 5) (σ 9)) (σ 9) A m (2 * σ 1 5) → Φ (some (vI m)) (hp (pS σ OR A HD FI BE HS BS Ch Co))) :
    ∀ (z : Nat) (e m : Int) (A : Int → Int), 0 ≤ e → e + (z : Int) = 2 * σ 1 5 → iED (mJ (σ 4) (σ 5) (σ 9)) (σ 9) A m e → av_Rn sc m_P_sortEdges (d + 1) al n0 bc bs 5 [some (vR 13), some (vR 1), some (vR 7), some (vI m), some (vI e), none] [] (hp (pS σ OR A HD FI BE HS BS Ch Co)) Φ := by
  intro z
  induction z with
  | zero =>
    intro e m A h0 hz hI
    obtain rfl : e = 2 * σ 1 5 := by omega
    refine rn_iload 7 d_P_sortEdges_5 rfl rfl ?_
    refine rn_iconst 8 d_P_sortEdges_7 rfl ?_
    refine rn_aload_n 9 d_P_sortEdges_8 rfl rfl ?_
    refine rn_getfield 12 d_P_sortEdges_9 rfl fd_P_40 rfl rfl ?_
    rw [show (pS σ OR A HD FI BE HS BS Ch Co) 1 5 = σ 1 5 from rfl]
    refine rn_imul 13 d_P_sortEdges_12 rfl ?_
    refine rn_icmp_ge 98 16 d_P_sortEdges_13 rfl rfl ⟨by omega, by omega⟩ ⟨by omega, by omega⟩ (fun c_13 => ?_) (fun c_13 => ?_)
    · refine rn_iload_n 99 d_P_sortEdges_98 rfl rfl ?_
      exact rn_ireturn d_P_sortEdges_99 (Or.inl rfl) (hΦ A m hI)
    · omega
  | succ z ih =>
    intro e m A h0 hz hI
    have hI4 := hI.2.2.2
    have hEe := hE (e / 2) (by omega) (by omega)
    have hce := hc e h0 (by omega)
    have hte := ht e h0 (by omega)
    have X : ∀ (A' : Int → Int) (m' : Int) (k : Option av_V), iED (mJ (σ 4) (σ 5) (σ 9)) (σ 9) A' m' (e + 1) → av_Rn sc m_P_sortEdges (d + 1) al n0 bc bs 92 [some (vR 13), some (vR 1), some (vR 7), some (vI m'), some (vI e), k] [] (hp (pS σ OR (A') HD FI BE HS BS Ch Co)) Φ := by
      intro A' m' k hI'
      refine rn_kill 5 rfl ?_
      refine rn_iinc 95 d_P_sortEdges_92 rfl rfl (by decide) rfl rfl ?_
      refine rn_goto 5 d_P_sortEdges_95 rfl ?_
      exact ih (e + 1) m' A' (by omega) (by omega) hI'
    refine rn_iload 7 d_P_sortEdges_5 rfl rfl ?_
    refine rn_iconst 8 d_P_sortEdges_7 rfl ?_
    refine rn_aload_n 9 d_P_sortEdges_8 rfl rfl ?_
    refine rn_getfield 12 d_P_sortEdges_9 rfl fd_P_40 rfl rfl ?_
    rw [show (pS σ OR A HD FI BE HS BS Ch Co) 1 5 = σ 1 5 from rfl]
    refine rn_imul 13 d_P_sortEdges_12 rfl ?_
    refine rn_icmp_ge 98 16 d_P_sortEdges_13 rfl rfl ⟨by omega, by omega⟩ ⟨by omega, by omega⟩ (fun c_13 => ?_) (fun c_13 => ?_)
    · omega
    · refine rn_aload_n 17 d_P_sortEdges_16 rfl rfl ?_
      refine rn_aload_n 18 d_P_sortEdges_17 rfl rfl ?_
      refine rn_iload 20 d_P_sortEdges_18 rfl rfl ?_
      refine rn_callS3 23 d_P_sortEdges_20 rfl cw_P_75 (Nat.le_of_ble_eq_true rfl) (ev_P_mayJoin (σ := pS σ OR A HD FI BE HS BS Ch Co) ⟨by omega, by omega⟩ hEe hce hte) ?_
      rintro _ _ ⟨rfl, rfl⟩
      change av_Rn _ _ _ _ _ _ _ _ _ (vI (bz (mJ (σ 4) (σ 5) (σ 9) e)) :: _) _ _
      refine rn_ifB_eq 92 26 d_P_sortEdges_23 rfl rfl (fun c_23 => ?_) (fun c_23 => ?_)
      · exact X A m none (iED_skip hI c_23)
      · refine rn_iload_n 27 d_P_sortEdges_26 rfl rfl ?_
        refine rn_istore 29 d_P_sortEdges_27 rfl (by decide) rfl rfl ?_
        refine insE_loop (A := A) hn hc (fun i q0 q1 => ⟨(hI.1 i q0 q1).1.1, by have := (hI.1 i q0 q1).1.2; omega⟩) ⟨by omega, by omega⟩ ⟨by omega, by omega⟩ (fun B k k0 k1 b1 b2 b3 b4 => ?_) m.toNat m A (by omega) (by omega) (fun i _ _ => rfl) (fun i q0 q1 => by omega) (fun i q0 q1 => by omega)
        refine rn_aload_n 81 d_P_sortEdges_80 rfl rfl ?_
        refine rn_getfield 84 d_P_sortEdges_81 rfl fd_P_22 rfl rfl ?_
        refine rn_iload 86 d_P_sortEdges_84 rfl rfl ?_
        refine rn_iload 88 d_P_sortEdges_86 rfl rfl ?_
        refine rn_iastore 89 d_P_sortEdges_88 rfl rfl (by decide) (by omega) (by omega) (hs_15 _ _) ?_
        change av_Rn _ _ _ _ _ _ _ _ _ _ (hp (pS σ OR (uI B k e) HD FI BE HS BS Ch Co)) _
        refine rn_iinc 92 d_P_sortEdges_89 rfl rfl (by decide) rfl rfl ?_
        exact X (uI B k e) (m + 1) _ (iED_ins hI h0 c_23 ⟨k0, k1⟩ b3 b4 (fun i q0 q1 => by rw [uI_n _ _ (by omega)]; exact b1 i q0 q1) (uI_s _ _ _) (fun i q0 q1 => by rw [uI_n _ _ (by omega)]; exact b2 i q0 q1))
set_option maxRecDepth 100000 in
set_option maxHeartbeats 400000 in
theorem ev_P_sortEdges {sc : av_sc} {d : Nat} {σ : av_S} {OR ED HD FI BE HS BS : Int → Int} {Ch Co : Int} (hn : 0 ≤ σ 1 5 ∧ σ 1 5 ≤ 24) (hE : ∀ b, 0 ≤ b → b < σ 1 5 → 0 ≤ σ 4 b ∧ σ 4 b ≤ 2) (hc : bd (σ 9) 48) (ht : ∀ e, 0 ≤ e → e < 2 * σ 1 5 → -1 ≤ σ 5 e ∧ σ 5 e < 24) : av_Ev sc m_P_sortEdges (d + 1) false 0 0 [vR 13, vR 1, vR 7] (hp (pS σ OR ED HD FI BE HS BS Ch Co)) (fun r h => ∃ (A : Int → Int) (m : Int), r = some (vI m) ∧ iED (mJ (σ 4) (σ 5) (σ 9)) (σ 9) A m (2 * σ 1 5) ∧ h = hp (pS σ OR A HD FI BE HS BS Ch Co)) := by
  refine av_ev rfl rfl (Nat.le_of_ble_eq_true rfl) rfl ?_
  refine rn_iconst 1 d_P_sortEdges_0 rfl ?_
  refine rn_istore_n 2 d_P_sortEdges_1 rfl (by decide) rfl rfl ?_
  refine rn_iconst 3 d_P_sortEdges_2 rfl ?_
  refine rn_istore 5 d_P_sortEdges_3 rfl (by decide) rfl rfl ?_
  exact sortE_loop hn hE hc ht (fun A m q => ⟨A, m, rfl, q, rfl⟩) (2 * σ 1 5).toNat 0 0 ED (by omega) (by omega) ⟨fun i q0 q1 => by omega, fun q q0 q1 => by omega, fun i j q0 q1 q2 => by omega, by omega, by omega⟩
end
section
/-- A holds just the numbers below e of which P holds, in the order Rl -/
def iS (P : Int → Prop) (Rl : Int → Int → Prop) (A : Int → Int) (m e : Int) : Prop := (∀ i, 0 ≤ i → i < m → (0 ≤ A i ∧ A i < e) ∧ P (A i)) ∧ (∀ q, 0 ≤ q → q < e → P q → ∃ i, 0 ≤ i ∧ i < m ∧ A i = q) ∧ (∀ i j, 0 ≤ i → i < j → j < m → Rl (A i) (A j)) ∧ 0 ≤ m ∧ m ≤ e
theorem iS_skip {P : Int → Prop} {Rl : Int → Int → Prop} {A : Int → Int} {m e : Int} (h : iS P Rl A m e) (hP : ¬ P e) : iS P Rl A m (e + 1) := by
  obtain ⟨h1, h2, h3, h4, h5⟩ := h
  refine ⟨fun i a b => ⟨⟨(h1 i a b).1.1, by have := (h1 i a b).1.2; omega⟩, (h1 i a b).2⟩, fun q a b c => ?_, h3, h4, by omega⟩
  by_cases hq : q = e
  · subst hq; exact absurd c hP
  · exact h2 q a (by omega) c
theorem iS_ins {P : Int → Prop} {Rl : Int → Int → Prop} {A B : Int → Int} {m e k : Int} (h : iS P Rl A m e) (he : 0 ≤ e) (hP : P e) (hk : 0 ≤ k ∧ k ≤ m) (hsh : ∀ i, k ≤ i → i < m → Rl e (A i)) (hst : ∀ i, 0 ≤ i → i < k → Rl (A i) e) (e1 : ∀ i, 0 ≤ i → i < k → B i = A i) (e2 : B k = e) (e3 : ∀ i, k < i → i ≤ m → B i = A (i - 1)) : iS P Rl B (m + 1) (e + 1) := by
  obtain ⟨h1, h2, h3, h4, h5⟩ := h
  have hm := ins_mem hk e1 e2 e3
  refine ⟨fun i a b => ?_, fun q a b c => ?_, ins_sorted hk h3 hsh hst e1 e2 e3, by omega, by omega⟩
  · rcases (hm (B i)).mp ⟨i, a, b, rfl⟩ with z | ⟨j, z1, z2, z3⟩
    · rw [z]; exact ⟨⟨he, by omega⟩, hP⟩
    · rw [← z3]; exact ⟨⟨(h1 j z1 z2).1.1, by have := (h1 j z1 z2).1.2; omega⟩, (h1 j z1 z2).2⟩
  · refine (hm q).mpr ?_
    by_cases hq : q = e
    · exact Or.inl hq
    · exact Or.inr (h2 q a (by omega) c)
set_option maxRecDepth 100000 in
set_option maxHeartbeats 400000 in
theorem insH_loop {sc : av_sc} {d n0 bc bs : Nat} {al : Bool} {σ : av_S} {OR ED FI BE HS BS : Int → Int} {Co : Int} {A : Int → Int} {m e : Int} {Φ : Option av_V → av_H → Prop} (hn : 0 ≤ σ 1 5 ∧ σ 1 5 ≤ 24) (hF : ∀ b, 0 ≤ b → b < σ 1 5 → 0 ≤ σ 2 b ∧ σ 2 b ≤ 3) (hT : ∀ f, 0 ≤ f → f < 4 → -1 ≤ σ 6 f ∧ σ 6 f < 24) (hH : ∀ b, 0 ≤ b → b < σ 1 5 → 0 ≤ HS b ∧ HS b ≤ 24000000) (hS : ∀ b, 0 ≤ b → b < σ 1 5 → 0 ≤ BS b ∧ BS b ≤ 960) (hA : ∀ i, 0 ≤ i → i < m → 0 ≤ A i ∧ A i < σ 1 5) (he : 0 ≤ e ∧ e < σ 1 5) (hm : 0 ≤ m ∧ m < 24)
    (hΦ : ∀ (B : Int → Int) (k : Int), 0 ≤ k → k ≤ m → (∀ i, 0 ≤ i → i < k → B i = A i) → (∀ i, k < i → i ≤ m → B i = A (i - 1)) → (∀ i, k ≤ i → i < m → cbf σ HS BS e (A i)) → (0 < k → ¬ cbf σ HS BS e (A (k - 1))) → av_Rn sc m_P_sortHeads (d + 3) al n0 bc bs 71 [some (vR 13), some (vR 1), some (vI e), some (vI k)] [] (hp (pS σ OR ED B FI BE HS BS m Co)) Φ) :
    ∀ (z : Nat) (k : Int) (B : Int → Int), (z : Int) = k → k ≤ m → (∀ i, 0 ≤ i → i < k → B i = A i) → (∀ i, k < i → i ≤ m → B i = A (i - 1)) → (∀ i, k ≤ i → i < m → cbf σ HS BS e (A i)) → av_Rn sc m_P_sortHeads (d + 3) al n0 bc bs 30 [some (vR 13), some (vR 1), some (vI e), some (vI k)] [] (hp (pS σ OR ED B FI BE HS BS m Co)) Φ := by
  intro z
  induction z with
  | zero =>
    intro k B hz hk h1 h2 h3
    obtain rfl : k = 0 := by omega
    refine rn_iload_n 31 d_P_sortHeads_30 rfl rfl ?_
    refine rn_if_le 71 34 d_P_sortHeads_31 rfl rfl ⟨by omega, by omega⟩ (fun c_31 => ?_) (fun c_31 => ?_)
    · exact hΦ B 0 (by omega) hk h1 h2 h3 (fun q => by omega)
    · omega
  | succ z ih =>
    intro k B hz hk h1 h2 h3
    have eA : B (k - 1) = A (k - 1) := h1 (k - 1) (by omega) (by omega)
    have hAk := hA (k - 1) (by omega) (by omega)
    refine rn_iload_n 31 d_P_sortHeads_30 rfl rfl ?_
    refine rn_if_le 71 34 d_P_sortHeads_31 rfl rfl ⟨by omega, by omega⟩ (fun c_31 => ?_) (fun c_31 => ?_)
    · omega
    · refine rn_aload_n 35 d_P_sortHeads_34 rfl rfl ?_
      refine rn_aload_n 36 d_P_sortHeads_35 rfl rfl ?_
      refine rn_iload_n 37 d_P_sortHeads_36 rfl rfl ?_
      refine rn_aload_n 38 d_P_sortHeads_37 rfl rfl ?_
      refine rn_getfield 41 d_P_sortHeads_38 rfl fd_P_25 rfl rfl ?_
      refine rn_iload_n 42 d_P_sortHeads_41 rfl rfl ?_
      refine rn_iconst 43 d_P_sortHeads_42 rfl ?_
      refine rn_isub 44 d_P_sortHeads_43 rfl ?_
      refine rn_iaload 45 d_P_sortHeads_44 rfl rfl (by decide) (by omega) (by omega) ?_
      rw [show (pS σ OR ED B FI BE HS BS m Co) 16 (k - 1) = B (k - 1) from rfl]
      rw [eA]
      refine rn_callV3 48 d_P_sortHeads_45 rfl cw_P_89 rfl (Nat.le_of_ble_eq_true rfl) (ev_P_comesBefore hn hF hT hH hS he hAk) ?_
      rintro _ _ ⟨rfl, rfl⟩
      refine rn_ifB_eq 71 51 d_P_sortHeads_48 rfl rfl (fun c_48 => ?_) (fun c_48 => ?_)
      · exact hΦ B k (by omega) hk h1 h2 h3 (fun _ => c_48)
      · refine rn_aload_n 52 d_P_sortHeads_51 rfl rfl ?_
        refine rn_getfield 55 d_P_sortHeads_52 rfl fd_P_25 rfl rfl ?_
        refine rn_iload_n 56 d_P_sortHeads_55 rfl rfl ?_
        refine rn_aload_n 57 d_P_sortHeads_56 rfl rfl ?_
        refine rn_getfield 60 d_P_sortHeads_57 rfl fd_P_25 rfl rfl ?_
        refine rn_iload_n 61 d_P_sortHeads_60 rfl rfl ?_
        refine rn_iconst 62 d_P_sortHeads_61 rfl ?_
        refine rn_isub 63 d_P_sortHeads_62 rfl ?_
        refine rn_iaload 64 d_P_sortHeads_63 rfl rfl (by decide) (by omega) (by omega) ?_
        rw [show (pS σ OR ED B FI BE HS BS m Co) 16 (k - 1) = B (k - 1) from rfl]
        refine rn_iastore 65 d_P_sortHeads_64 rfl rfl (by decide) (by omega) (by omega) (hs_16 _ _) ?_
        change av_Rn _ _ _ _ _ _ _ _ _ _ (hp (pS σ OR ED (uI B k (B (k - 1))) FI BE HS BS m Co)) _
        refine rn_iinc 68 d_P_sortHeads_65 rfl rfl (by decide) rfl rfl ?_
        refine rn_goto 30 d_P_sortHeads_68 rfl ?_
        have ek : k + -1 = k - 1 := by omega
        rw [ek]
        refine ih (k - 1) (uI B k (B (k - 1))) (by omega) (by omega) (fun i q0 q1 => ?_) (fun i q0 q1 => ?_) (fun i q0 q1 => ?_)
        · rw [uI_n _ _ (by omega)]; exact h1 i q0 (by omega)
        · by_cases hi : i = k
          · rw [hi, uI_s, eA]
          · rw [uI_n _ _ hi]; exact h2 i (by omega) q1
        · by_cases hi : i = k - 1
          · rw [hi]; exact c_48
          · exact h3 i (by omega) q1
set_option maxRecDepth 100000 in
set_option maxHeartbeats 400000 in
theorem sortH_loop {sc : av_sc} {d n0 bc bs : Nat} {al : Bool} {σ : av_S} {OR ED FI BE HS BS : Int → Int} {Co : Int} {Φ : Option av_V → av_H → Prop} (hn : 0 ≤ σ 1 5 ∧ σ 1 5 ≤ 24) (hF : ∀ b, 0 ≤ b → b < σ 1 5 → 0 ≤ σ 2 b ∧ σ 2 b ≤ 3) (hT : ∀ f, 0 ≤ f → f < 4 → -1 ≤ σ 6 f ∧ σ 6 f < 24) (hH : ∀ b, 0 ≤ b → b < σ 1 5 → 0 ≤ HS b ∧ HS b ≤ 24000000) (hS : ∀ b, 0 ≤ b → b < σ 1 5 → 0 ≤ BS b ∧ BS b ≤ 960) (hTr : ∀ a b c, (0 ≤ a ∧ a < σ 1 5) → (0 ≤ b ∧ b < σ 1 5) → (0 ≤ c ∧ c < σ 1 5) → cbf σ HS BS a b → cbf σ HS BS b c → cbf σ HS BS a c) (hTo : ∀ a b, (0 ≤ a ∧ a < σ 1 5) → (0 ≤ b ∧ b < σ 1 5) → a ≠ b → ¬ cbf σ HS BS a b → cbf σ HS BS b a) (hFI : ∀ b, 0 ≤ b → b < σ 1 5 → 0 ≤ FI b ∧ FI b < σ 1 5)
    (hΦ : ∀ (A : Int → Int) (m : Int), iS (fun b => FI b = b) (cbf σ HS BS) A m (σ 1 5) → Φ none (hp (pS σ OR ED A FI BE HS BS m Co))) :
    ∀ (z : Nat) (e m : Int) (A : Int → Int), 0 ≤ e → e + (z : Int) = σ 1 5 → iS (fun b => FI b = b) (cbf σ HS BS) A m e → av_Rn sc m_P_sortHeads (d + 3) al n0 bc bs 7 [some (vR 13), some (vR 1), some (vI e), none] [] (hp (pS σ OR ED A FI BE HS BS m Co)) Φ := by
  intro z
  induction z with
  | zero =>
    intro e m A h0 hz hI
    obtain rfl : e = σ 1 5 := by omega
    refine rn_iload_n 8 d_P_sortHeads_7 rfl rfl ?_
    refine rn_aload_n 9 d_P_sortHeads_8 rfl rfl ?_
    refine rn_getfield 12 d_P_sortHeads_9 rfl fd_P_40 rfl rfl ?_
    rw [show (pS σ OR ED A FI BE HS BS m Co) 1 5 = σ 1 5 from rfl]
    refine rn_icmp_ge 94 15 d_P_sortHeads_12 rfl rfl ⟨by omega, by omega⟩ ⟨by omega, by omega⟩ (fun c_12 => ?_) (fun c_12 => ?_)
    · exact rn_return d_P_sortHeads_94 rfl (hΦ A m hI)
    · omega
  | succ z ih =>
    intro e m A h0 hz hI
    have hI4 := hI.2.2.2
    have hfe := hFI e h0 (by omega)
    have X : ∀ (A' : Int → Int) (m' : Int) (k : Option av_V), iS (fun b => FI b = b) (cbf σ HS BS) A' m' (e + 1) → av_Rn sc m_P_sortHeads (d + 3) al n0 bc bs 88 [some (vR 13), some (vR 1), some (vI e), k] [] (hp (pS σ OR ED (A') FI BE HS BS (m') Co)) Φ := by
      intro A' m' k hI'
      refine rn_kill 3 rfl ?_
      refine rn_iinc 91 d_P_sortHeads_88 rfl rfl (by decide) rfl rfl ?_
      refine rn_goto 7 d_P_sortHeads_91 rfl ?_
      exact ih (e + 1) m' A' (by omega) (by omega) hI'
    refine rn_iload_n 8 d_P_sortHeads_7 rfl rfl ?_
    refine rn_aload_n 9 d_P_sortHeads_8 rfl rfl ?_
    refine rn_getfield 12 d_P_sortHeads_9 rfl fd_P_40 rfl rfl ?_
    rw [show (pS σ OR ED A FI BE HS BS m Co) 1 5 = σ 1 5 from rfl]
    refine rn_icmp_ge 94 15 d_P_sortHeads_12 rfl rfl ⟨by omega, by omega⟩ ⟨by omega, by omega⟩ (fun c_12 => ?_) (fun c_12 => ?_)
    · omega
    · refine rn_aload_n 16 d_P_sortHeads_15 rfl rfl ?_
      refine rn_getfield 19 d_P_sortHeads_16 rfl fd_P_28 rfl rfl ?_
      refine rn_iload_n 20 d_P_sortHeads_19 rfl rfl ?_
      refine rn_iaload 21 d_P_sortHeads_20 rfl rfl (by decide) (by omega) (by omega) ?_
      rw [show (pS σ OR ED A FI BE HS BS m Co) 17 e = FI e from rfl]
      refine rn_iload_n 22 d_P_sortHeads_21 rfl rfl ?_
      refine rn_icmp_ne 88 25 d_P_sortHeads_22 rfl rfl ⟨by omega, by omega⟩ ⟨by omega, by omega⟩ (fun c_22 => ?_) (fun c_22 => ?_)
      · exact X A m none (iS_skip hI c_22)
      · refine rn_aload_n 26 d_P_sortHeads_25 rfl rfl ?_
        refine rn_getfield 29 d_P_sortHeads_26 rfl fd_P_15 rfl rfl ?_
        rw [show (pS σ OR ED A FI BE HS BS m Co) 13 1 = m from rfl]
        refine rn_istore_n 30 d_P_sortHeads_29 rfl (by decide) rfl rfl ?_
        refine insH_loop (A := A) hn hF hT hH hS (fun i q0 q1 => ⟨(hI.1 i q0 q1).1.1, by have := (hI.1 i q0 q1).1.2; omega⟩) ⟨by omega, by omega⟩ ⟨by omega, by omega⟩ (fun B k k0 k1 b1 b2 b3 b4 => ?_) m.toNat m A (by omega) (by omega) (fun i _ _ => rfl) (fun i q0 q1 => by omega) (fun i q0 q1 => by omega)
        have hst : ∀ i, 0 ≤ i → i < k → cbf σ HS BS (A i) e := by
          intro i q0 q1
          have z1 := (hI.1 (k - 1) (by omega) (by omega)).1
          have z2 := (hI.1 i q0 (by omega)).1
          have z3 := hTo e (A (k - 1)) ⟨h0, by omega⟩ ⟨z1.1, by omega⟩ (by omega) (b4 (by omega))
          by_cases c : i = k - 1
          · rw [c]; exact z3
          · exact hTr (A i) (A (k - 1)) e ⟨z2.1, by omega⟩ ⟨z1.1, by omega⟩ ⟨h0, by omega⟩ (hI.2.2.1 i (k - 1) q0 (by omega) (by omega)) z3
        refine rn_aload_n 72 d_P_sortHeads_71 rfl rfl ?_
        refine rn_getfield 75 d_P_sortHeads_72 rfl fd_P_25 rfl rfl ?_
        refine rn_iload_n 76 d_P_sortHeads_75 rfl rfl ?_
        refine rn_iload_n 77 d_P_sortHeads_76 rfl rfl ?_
        refine rn_iastore 78 d_P_sortHeads_77 rfl rfl (by decide) (by omega) (by omega) (hs_16 _ _) ?_
        change av_Rn _ _ _ _ _ _ _ _ _ _ (hp (pS σ OR ED (uI B k e) FI BE HS BS m Co)) _
        refine rn_aload_n 79 d_P_sortHeads_78 rfl rfl ?_
        refine rn_dup 80 d_P_sortHeads_79 rfl rfl ?_
        refine rn_getfield 83 d_P_sortHeads_80 rfl fd_P_15 rfl rfl ?_
        rw [show (pS σ OR ED (uI B k e) FI BE HS BS m Co) 13 1 = m from rfl]
        refine rn_iconst 84 d_P_sortHeads_83 rfl ?_
        refine rn_iadd 85 d_P_sortHeads_84 rfl ?_
        refine rn_putfield 88 d_P_sortHeads_85 rfl fp_P_15 rfl (Nat.le_of_ble_eq_true rfl) av_fitI (hs_13_1 _ _) ?_
        change av_Rn _ _ _ _ _ _ _ _ _ _ (hp (pS σ OR ED (uI B k e) FI BE HS BS (m + 1) Co)) _
        exact X (uI B k e) (m + 1) _ (iS_ins hI h0 c_22 ⟨k0, k1⟩ b3 hst (fun i q0 q1 => by rw [uI_n _ _ (by omega)]; exact b1 i q0 q1) (uI_s _ _ _) (fun i q0 q1 => by rw [uI_n _ _ (by omega)]; exact b2 i q0 q1))
set_option maxRecDepth 100000 in
set_option maxHeartbeats 400000 in
theorem ev_P_sortHeads {sc : av_sc} {d : Nat} {σ : av_S} {OR ED HD FI BE HS BS : Int → Int} {Ch Co : Int} (hn : 0 ≤ σ 1 5 ∧ σ 1 5 ≤ 24) (hF : ∀ b, 0 ≤ b → b < σ 1 5 → 0 ≤ σ 2 b ∧ σ 2 b ≤ 3) (hT : ∀ f, 0 ≤ f → f < 4 → -1 ≤ σ 6 f ∧ σ 6 f < 24) (hH : ∀ b, 0 ≤ b → b < σ 1 5 → 0 ≤ HS b ∧ HS b ≤ 24000000) (hS : ∀ b, 0 ≤ b → b < σ 1 5 → 0 ≤ BS b ∧ BS b ≤ 960) (hTr : ∀ a b c, (0 ≤ a ∧ a < σ 1 5) → (0 ≤ b ∧ b < σ 1 5) → (0 ≤ c ∧ c < σ 1 5) → cbf σ HS BS a b → cbf σ HS BS b c → cbf σ HS BS a c) (hTo : ∀ a b, (0 ≤ a ∧ a < σ 1 5) → (0 ≤ b ∧ b < σ 1 5) → a ≠ b → ¬ cbf σ HS BS a b → cbf σ HS BS b a) (hFI : ∀ b, 0 ≤ b → b < σ 1 5 → 0 ≤ FI b ∧ FI b < σ 1 5) : av_Ev sc m_P_sortHeads (d + 3) false 0 0 [vR 13, vR 1] (hp (pS σ OR ED HD FI BE HS BS Ch Co)) (fun r h => r = none ∧ ∃ (A : Int → Int) (m : Int), iS (fun b => FI b = b) (cbf σ HS BS) A m (σ 1 5) ∧ h = hp (pS σ OR ED A FI BE HS BS m Co)) := by
  refine av_ev rfl rfl (Nat.le_of_ble_eq_true rfl) rfl ?_
  refine rn_aload_n 1 d_P_sortHeads_0 rfl rfl ?_
  refine rn_iconst 2 d_P_sortHeads_1 rfl ?_
  refine rn_putfield 5 d_P_sortHeads_2 rfl fp_P_15 rfl (Nat.le_of_ble_eq_true rfl) av_fitI (hs_13_1 _ _) ?_
  refine rn_iconst 6 d_P_sortHeads_5 rfl ?_
  refine rn_istore_n 7 d_P_sortHeads_6 rfl (by decide) rfl rfl ?_
  change av_Rn _ _ _ _ _ _ _ _ _ _ (hp (pS σ OR ED HD FI BE HS BS 0 Co)) _
  exact sortH_loop hn hF hT hH hS hTr hTo hFI (fun A m q => ⟨rfl, A, m, q, rfl⟩) (σ 1 5).toNat 0 0 HD (by omega) (by omega) ⟨fun i q0 q1 => by omega, fun q q0 q1 => by omega, fun i j q0 q1 q2 => by omega, by omega, by omega⟩
theorem sm_le {f : Int → Int} : ∀ (m c : Nat), c ≤ m → (∀ j : Nat, j < m → 0 ≤ f (j : Int)) → sm f c ≤ sm f m := by
  intro m
  induction m with
  | zero => intro c hc _; obtain rfl : c = 0 := by omega
            exact Int.le_refl _
  | succ m ih =>
    intro c hc h
    by_cases e : c = m + 1
    · subst e; exact Int.le_refl _
    · have h1 := ih c (by omega) (fun j hj => h j (by omega))
      have h2 := h m (by omega)
      show sm f c ≤ sm f m + f (m : Int)
      omega
set_option maxRecDepth 100000 in
set_option maxHeartbeats 400000 in
theorem write_in {sc : av_sc} {d n0 bc bs : Nat} {al : Bool} {σ : av_S} {OR ED HD FI BE HS BS TT ln : Int → Int} {m : Nat} {Φ : Option av_V → av_H → Prop} (hn : 0 ≤ σ 1 5 ∧ σ 1 5 ≤ 24) (hln : ∀ c : Nat, c < m → 1 ≤ ln (c : Int)) (hsum : sm ln m = σ 1 5) (hT0 : ∀ c : Nat, c < m → TT (sm ln c) = HD (c : Int)) (hTB : ∀ (c : Nat) (i : Int), c < m → 0 ≤ i → i < ln (c : Int) → (0 ≤ TT (sm ln c + i) ∧ TT (sm ln c + i) < σ 1 5) ∧ BE (TT (sm ln c + i)) = if i + 1 < ln (c : Int) then TT (sm ln c + i + 1) else -1) {c : Nat} (hc : c < m) {cd : Int} (hcd : cd = 0 ∨ cd = 1) {co : Int}
    (hΦ : av_Rn sc m_P_writeOrder (d + 2) al n0 bc bs 94 [some (vR 13), some (vR 1), some (vI (sm ln c + ln (c : Int))), some (vI (c : Int)), some (vI cd), some (vI (-1))] [] (hp (pS σ (fl TT OR (sm ln c + ln (c : Int))) ED HD FI BE HS BS ((m : Int)) (co + (if cd = 1 then ln (c : Int) else 0)))) Φ) :
    ∀ (z : Nat) (i : Int), 0 ≤ i → i + (z : Int) = ln (c : Int) → av_Rn sc m_P_writeOrder (d + 2) al n0 bc bs 38 [some (vR 13), some (vR 1), some (vI (sm ln c + i)), some (vI (c : Int)), some (vI cd), some (vI (if i < ln (c : Int) then TT (sm ln c + i) else -1))] [] (hp (pS σ (fl TT OR (sm ln c + i)) ED HD FI BE HS BS ((m : Int)) (co + (if cd = 1 then i else 0)))) Φ := by
  have hle := sm_le (f := ln) m (c + 1) (by omega) (fun j hj => by have := hln j hj; omega)
  have hle2 : sm ln c + ln (c : Int) ≤ σ 1 5 := by rw [← hsum]; exact hle
  have hs0 : 0 ≤ sm ln c := sm_le (f := ln) c 0 (by omega) (fun j hj => by have := hln j (by omega); omega)
  intro z
  induction z with
  | zero =>
    intro i h0 hz
    obtain rfl : i = ln (c : Int) := by omega
    rw [if_neg (by omega)]
    refine rn_iload 40 d_P_writeOrder_38 rfl rfl ?_
    refine rn_iconst 41 d_P_writeOrder_40 rfl ?_
    refine rn_icmp_eq 94 44 d_P_writeOrder_41 rfl rfl ⟨by omega, by omega⟩ ⟨by omega, by omega⟩ (fun c_41 => ?_) (fun c_41 => ?_)
    · exact hΦ
    · exact absurd rfl c_41
  | succ z ih =>
    intro i h0 hz
    obtain ⟨hb, hbe⟩ := hTB c i hc h0 (by omega)
    rw [if_pos (by omega)]
    refine rn_iload 40 d_P_writeOrder_38 rfl rfl ?_
    refine rn_iconst 41 d_P_writeOrder_40 rfl ?_
    refine rn_icmp_eq 94 44 d_P_writeOrder_41 rfl rfl ⟨by omega, by omega⟩ ⟨by omega, by omega⟩ (fun c_41 => ?_) (fun c_41 => ?_)
    · omega
    · refine rn_iload_n 45 d_P_writeOrder_44 rfl rfl ?_
      refine rn_aload_n 46 d_P_writeOrder_45 rfl rfl ?_
      refine rn_getfield 49 d_P_writeOrder_46 rfl fd_P_40 rfl rfl ?_
      rw [show (pS σ (fl TT OR (sm ln c + i)) ED HD FI BE HS BS ((m : Int)) (co + (if cd = 1 then i else 0))) 1 5 = σ 1 5 from rfl]
      refine rn_icmp_ge 94 52 d_P_writeOrder_49 rfl rfl ⟨by omega, by omega⟩ ⟨by omega, by omega⟩ (fun c_49 => ?_) (fun c_49 => ?_)
      · omega
      · refine rn_aload_n 53 d_P_writeOrder_52 rfl rfl ?_
        refine rn_getfield 56 d_P_writeOrder_53 rfl fd_P_9 rfl rfl ?_
        refine rn_iload_n 57 d_P_writeOrder_56 rfl rfl ?_
        refine rn_iload 59 d_P_writeOrder_57 rfl rfl ?_
        refine rn_iastore 60 d_P_writeOrder_59 rfl rfl (by decide) (by omega) (by omega) (hs_14 _ _) ?_
        change av_Rn _ _ _ _ _ _ _ _ _ _ (hp (pS σ (uI (fl TT OR (sm ln c + i)) (sm ln c + i) (TT (sm ln c + i))) ED HD FI BE HS BS ((m : Int)) (co + (if cd = 1 then i else 0)))) _
        rw [fl_step (by omega) rfl]
        refine rn_iinc 63 d_P_writeOrder_60 rfl rfl (by decide) rfl rfl ?_
        refine rn_aload_n 64 d_P_writeOrder_63 rfl rfl ?_
        refine rn_dup 65 d_P_writeOrder_64 rfl rfl ?_
        refine rn_getfield 68 d_P_writeOrder_65 rfl fd_P_19 rfl rfl ?_
        rw [show (pS σ (fl TT OR (sm ln c + i + 1)) ED HD FI BE HS BS ((m : Int)) (co + (if cd = 1 then i else 0))) 13 2 = co + (if cd = 1 then i else 0) from rfl]
        have J : ∀ w : Int, w = cd → av_Rn sc m_P_writeOrder (d + 2) al n0 bc bs 78 [some (vR 13), some (vR 1), some (vI (sm ln c + i + 1)), some (vI (c : Int)), some (vI cd), some (vI (TT (sm ln c + i)))] [vI w, vI (co + (if cd = 1 then i else 0)), vR 13] (hp (pS σ (fl TT OR (sm ln c + i + 1)) ED HD FI BE HS BS ((m : Int)) (co + (if cd = 1 then i else 0)))) Φ := by
          intro w ew
          subst ew
          have eco : co + (if w = 1 then i else 0) + w = co + (if w = 1 then i + 1 else 0) := by rcases hcd with rfl | rfl <;> simp <;> omega
          refine rn_iadd 79 d_P_writeOrder_78 rfl ?_
          rw [eco]
          refine rn_putfield 82 d_P_writeOrder_79 rfl fp_P_19 rfl (Nat.le_of_ble_eq_true rfl) av_fitI (hs_13_2 _ _) ?_
          change av_Rn _ _ _ _ _ _ _ _ _ _ (hp (pS σ (fl TT OR (sm ln c + i + 1)) ED HD FI BE HS BS ((m : Int)) (co + (if w = 1 then i + 1 else 0)))) _
          refine rn_aload_n 83 d_P_writeOrder_82 rfl rfl ?_
          refine rn_getfield 86 d_P_writeOrder_83 rfl fd_P_31 rfl rfl ?_
          refine rn_iload 88 d_P_writeOrder_86 rfl rfl ?_
          refine rn_iaload 89 d_P_writeOrder_88 rfl rfl (by decide) (by omega) (by omega) ?_
          rw [show (pS σ (fl TT OR (sm ln c + i + 1)) ED HD FI BE HS BS ((m : Int)) (co + (if w = 1 then i + 1 else 0))) 18 (TT (sm ln c + i)) = BE (TT (sm ln c + i)) from rfl]
          rw [hbe]
          refine rn_istore 91 d_P_writeOrder_89 rfl (by decide) rfl rfl ?_
          refine rn_goto 38 d_P_writeOrder_91 rfl ?_
          have L := ih (i + 1) (by omega) (by omega)
          rw [show sm ln c + (i + 1) = sm ln c + i + 1 by omega] at L
          exact L
        refine rn_iload 70 d_P_writeOrder_68 rfl rfl ?_
        refine rn_if_eq 77 73 d_P_writeOrder_70 rfl rfl ⟨by omega, by omega⟩ (fun c_70 => ?_) (fun c_70 => ?_)
        · refine rn_iconst 78 d_P_writeOrder_77 rfl ?_
          exact J _ (by omega)
        · refine rn_iconst 74 d_P_writeOrder_73 rfl ?_
          refine rn_goto 78 d_P_writeOrder_74 rfl ?_
          exact J _ (by omega)
set_option maxRecDepth 100000 in
set_option maxHeartbeats 400000 in
theorem write_out {sc : av_sc} {d n0 bc bs : Nat} {al : Bool} {σ : av_S} {OR ED HD FI BE HS BS TT ln : Int → Int} {m : Nat} {Φ : Option av_V → av_H → Prop} (hn : 0 ≤ σ 1 5 ∧ σ 1 5 ≤ 24) (hln : ∀ c : Nat, c < m → 1 ≤ ln (c : Int)) (hsum : sm ln m = σ 1 5) (hT0 : ∀ c : Nat, c < m → TT (sm ln c) = HD (c : Int)) (hTB : ∀ (c : Nat) (i : Int), c < m → 0 ≤ i → i < ln (c : Int) → (0 ≤ TT (sm ln c + i) ∧ TT (sm ln c + i) < σ 1 5) ∧ BE (TT (sm ln c + i)) = if i + 1 < ln (c : Int) then TT (sm ln c + i + 1) else -1) (hF : ∀ b, 0 ≤ b → b < σ 1 5 → 0 ≤ σ 2 b ∧ σ 2 b ≤ 3) (hT : ∀ f, 0 ≤ f → f < 4 → -1 ≤ σ 6 f ∧ σ 6 f < 24) (hH : ∀ b, 0 ≤ b → b < σ 1 5 → 0 ≤ HS b ∧ HS b ≤ 24000000) (hm : m ≤ 24) (hΦ : Φ none (hp (pS σ (fl TT OR (σ 1 5)) ED HD FI BE HS BS ((m : Int)) (sm (fun c => if cold σ HS (HD c) then ln c else 0) m)))) :
    ∀ (z c : Nat), c + z = m → av_Rn sc m_P_writeOrder (d + 2) al n0 bc bs 9 [some (vR 13), some (vR 1), some (vI (sm ln c)), some (vI (c : Int)), none, none] [] (hp (pS σ (fl TT OR (sm ln c)) ED HD FI BE HS BS ((m : Int)) (sm (fun c => if cold σ HS (HD c) then ln c else 0) c))) Φ := by
  intro z
  induction z with
  | zero =>
    intro c hz
    obtain rfl : c = m := by omega
    rw [hsum]
    refine rn_iload_n 10 d_P_writeOrder_9 rfl rfl ?_
    refine rn_aload_n 11 d_P_writeOrder_10 rfl rfl ?_
    refine rn_getfield 14 d_P_writeOrder_11 rfl fd_P_15 rfl rfl ?_
    rw [show (pS σ (fl TT OR (σ 1 5)) ED HD FI BE HS BS ((c : Int)) (sm (fun c => if cold σ HS (HD c) then ln c else 0) c)) 13 1 = (c : Int) from rfl]
    refine rn_icmp_ge 100 17 d_P_writeOrder_14 rfl rfl ⟨by omega, by omega⟩ ⟨by omega, by omega⟩ (fun c_14 => ?_) (fun c_14 => ?_)
    · exact rn_return d_P_writeOrder_100 rfl hΦ
    · omega
  | succ z ih =>
    intro c hz
    have hl := hln c (by omega)
    have hb0 := (hTB c 0 (by omega) (by omega) (by omega)).1
    rw [Int.add_zero, hT0 c (by omega)] at hb0
    refine rn_iload_n 10 d_P_writeOrder_9 rfl rfl ?_
    refine rn_aload_n 11 d_P_writeOrder_10 rfl rfl ?_
    refine rn_getfield 14 d_P_writeOrder_11 rfl fd_P_15 rfl rfl ?_
    rw [show (pS σ (fl TT OR (sm ln c)) ED HD FI BE HS BS ((m : Int)) (sm (fun c => if cold σ HS (HD c) then ln c else 0) c)) 13 1 = (m : Int) from rfl]
    refine rn_icmp_ge 100 17 d_P_writeOrder_14 rfl rfl ⟨by omega, by omega⟩ ⟨by omega, by omega⟩ (fun c_14 => ?_) (fun c_14 => ?_)
    · omega
    · refine rn_aload_n 18 d_P_writeOrder_17 rfl rfl ?_
      refine rn_aload_n 19 d_P_writeOrder_18 rfl rfl ?_
      refine rn_aload_n 20 d_P_writeOrder_19 rfl rfl ?_
      refine rn_getfield 23 d_P_writeOrder_20 rfl fd_P_25 rfl rfl ?_
      refine rn_iload_n 24 d_P_writeOrder_23 rfl rfl ?_
      refine rn_iaload 25 d_P_writeOrder_24 rfl rfl (by decide) (by omega) (by omega) ?_
      rw [show (pS σ (fl TT OR (sm ln c)) ED HD FI BE HS BS ((m : Int)) (sm (fun c => if cold σ HS (HD c) then ln c else 0) c)) 16 (c : Int) = HD (c : Int) from rfl]
      refine rn_callV2 28 d_P_writeOrder_25 rfl cw_P_93 rfl (Nat.le_of_ble_eq_true rfl) (ev_P_isCold hn hF hT hH hb0) ?_
      rintro _ _ ⟨rfl, rfl⟩
      refine rn_istore 30 d_P_writeOrder_28 rfl (by decide) rfl rfl ?_
      refine rn_aload_n 31 d_P_writeOrder_30 rfl rfl ?_
      refine rn_getfield 34 d_P_writeOrder_31 rfl fd_P_25 rfl rfl ?_
      refine rn_iload_n 35 d_P_writeOrder_34 rfl rfl ?_
      refine rn_iaload 36 d_P_writeOrder_35 rfl rfl (by decide) (by omega) (by omega) ?_
      rw [show (pS σ (fl TT OR (sm ln c)) ED HD FI BE HS BS ((m : Int)) (sm (fun c => if cold σ HS (HD c) then ln c else 0) c)) 16 (c : Int) = HD (c : Int) from rfl]
      refine rn_istore 38 d_P_writeOrder_36 rfl (by decide) rfl rfl ?_
      have L := write_in (sc := sc) (d := d) (n0 := n0) (bc := bc) (bs := bs) (al := al) (OR := OR) (ED := ED) (HD := HD) (FI := FI) (HS := HS) (BS := BS) (Φ := Φ) hn hln hsum hT0 hTB (c := c) (by omega) (cd := bz (cold σ HS (HD (c : Int)))) bz_01 (co := sm (fun c => if cold σ HS (HD c) then ln c else 0) c) ?_ (ln (c : Int)).toNat 0 (by omega) (by omega)
      · rw [if_pos (by omega), Int.add_zero, hT0 c (by omega), ite_self, Int.add_zero] at L
        exact L
      · refine rn_kill 4 rfl ?_
        refine rn_kill 5 rfl ?_
        refine rn_iinc 97 d_P_writeOrder_94 rfl rfl (by decide) rfl rfl ?_
        refine rn_goto 9 d_P_writeOrder_97 rfl ?_
        have e1 : sm (fun c => if cold σ HS (HD c) then ln c else 0) c + (if bz (cold σ HS (HD (c : Int))) = 1 then ln (c : Int) else 0) = sm (fun c => if cold σ HS (HD c) then ln c else 0) (c + 1) := by
          show _ = sm (fun c => if cold σ HS (HD c) then ln c else 0) c + (if cold σ HS (HD (c : Int)) then ln (c : Int) else 0)
          by_cases q : cold σ HS (HD (c : Int))
          · rw [if_pos q, if_pos (bz_t q)]
          · rw [if_neg q, if_neg (by rw [bz_f q]; omega)]
        rw [e1]
        exact ih (c + 1) (by omega)
set_option maxRecDepth 100000 in
set_option maxHeartbeats 400000 in
theorem ev_P_writeOrder {sc : av_sc} {d : Nat} {σ : av_S} {OR ED HD FI BE HS BS TT ln : Int → Int} {m : Nat} {Co : Int} (hn : 0 ≤ σ 1 5 ∧ σ 1 5 ≤ 24) (hln : ∀ c : Nat, c < m → 1 ≤ ln (c : Int)) (hsum : sm ln m = σ 1 5) (hT0 : ∀ c : Nat, c < m → TT (sm ln c) = HD (c : Int)) (hTB : ∀ (c : Nat) (i : Int), c < m → 0 ≤ i → i < ln (c : Int) → (0 ≤ TT (sm ln c + i) ∧ TT (sm ln c + i) < σ 1 5) ∧ BE (TT (sm ln c + i)) = if i + 1 < ln (c : Int) then TT (sm ln c + i + 1) else -1) (hF : ∀ b, 0 ≤ b → b < σ 1 5 → 0 ≤ σ 2 b ∧ σ 2 b ≤ 3) (hT : ∀ f, 0 ≤ f → f < 4 → -1 ≤ σ 6 f ∧ σ 6 f < 24) (hH : ∀ b, 0 ≤ b → b < σ 1 5 → 0 ≤ HS b ∧ HS b ≤ 24000000) (hm : m ≤ 24) : av_Ev sc m_P_writeOrder (d + 2) false 0 0 [vR 13, vR 1] (hp (pS σ OR ED HD FI BE HS BS ((m : Int)) Co)) (fun r h => r = none ∧ h = hp (pS σ (fl TT OR (σ 1 5)) ED HD FI BE HS BS ((m : Int)) (sm (fun c => if cold σ HS (HD c) then ln c else 0) m))) := by
  refine av_ev rfl rfl (Nat.le_of_ble_eq_true rfl) rfl ?_
  refine rn_iconst 1 d_P_writeOrder_0 rfl ?_
  refine rn_istore_n 2 d_P_writeOrder_1 rfl (by decide) rfl rfl ?_
  refine rn_aload_n 3 d_P_writeOrder_2 rfl rfl ?_
  refine rn_iconst 4 d_P_writeOrder_3 rfl ?_
  refine rn_putfield 7 d_P_writeOrder_4 rfl fp_P_19 rfl (Nat.le_of_ble_eq_true rfl) av_fitI (hs_13_2 _ _) ?_
  refine rn_iconst 8 d_P_writeOrder_7 rfl ?_
  refine rn_istore_n 9 d_P_writeOrder_8 rfl (by decide) rfl rfl ?_
  change av_Rn _ _ _ _ _ _ _ _ _ _ (hp (pS σ OR ED HD FI BE HS BS ((m : Int)) (sm (fun c => if cold σ HS (HD c) then ln c else 0) 0))) _
  have L := write_out (sc := sc) (d := d) (n0 := (hp (pS σ OR ED HD FI BE HS BS ((m : Int)) Co)).length) (bc := 0) (bs := 0) (al := false) (OR := OR) (ED := ED) (FI := FI) (BS := BS) (Φ := fun r h => r = none ∧ h = hp (pS σ (fl TT OR (σ 1 5)) ED HD FI BE HS BS ((m : Int)) (sm (fun c => if cold σ HS (HD c) then ln c else 0) m))) hn hln hsum hT0 hTB hF hT hH hm ⟨rfl, rfl⟩ m 0 (by omega)
  rw [show sm ln 0 = 0 from rfl, fl_0] at L
  exact L
end
