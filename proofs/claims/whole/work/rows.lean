section
-- ===== PART A: goes FIRST, ahead of the names: the tables' words, and 'selects' of the private methods out of them =====
/-- a private method of a class that the tables say can be made, by its rows of tables_1 -/
def lw_okq (q : MethodName × Nat) : Prop := (q.1.cls ≠ "java/lang/invoke/MethodHandle" ∧ q.1.cls ≠ "java/lang/invoke/VarHandle") ∧ Cond.instantiable q.1.cls q.2 ∈ tables_1 ∧ Cond.privateMethod q.1 ∈ tables_1 ∧ Cond.instanceMethod q.1 ∈ tables_1
theorem lw_p0 : lw_okq (⟨"LayoutOptimizer$Placing", "startChains", "(LLayoutOptimizer$Graph;LLayoutOptimizer$Counts;)V"⟩, 9) := ⟨⟨by decide +kernel, by decide +kernel⟩, List.mem_of_getElem? (i := 108) (by decide +kernel), List.mem_of_getElem? (i := 296) (by decide +kernel), List.mem_of_getElem? (i := 297) (by decide +kernel)⟩
theorem lw_p1 : lw_okq (⟨"LayoutOptimizer$Placing", "sortEdges", "(LLayoutOptimizer$Graph;LLayoutOptimizer$Counts;)I"⟩, 9) := ⟨⟨by decide +kernel, by decide +kernel⟩, List.mem_of_getElem? (i := 108) (by decide +kernel), List.mem_of_getElem? (i := 300) (by decide +kernel), List.mem_of_getElem? (i := 301) (by decide +kernel)⟩
theorem lw_p2 : lw_okq (⟨"LayoutOptimizer$Placing", "joinAlong", "(LLayoutOptimizer$Graph;II)V"⟩, 9) := ⟨⟨by decide +kernel, by decide +kernel⟩, List.mem_of_getElem? (i := 108) (by decide +kernel), List.mem_of_getElem? (i := 307) (by decide +kernel), List.mem_of_getElem? (i := 308) (by decide +kernel)⟩
theorem lw_p3 : lw_okq (⟨"LayoutOptimizer$Placing", "sortHeads", "(LLayoutOptimizer$Graph;)V"⟩, 9) := ⟨⟨by decide +kernel, by decide +kernel⟩, List.mem_of_getElem? (i := 108) (by decide +kernel), List.mem_of_getElem? (i := 315) (by decide +kernel), List.mem_of_getElem? (i := 316) (by decide +kernel)⟩
theorem lw_p4 : lw_okq (⟨"LayoutOptimizer$Placing", "comesBefore", "(LLayoutOptimizer$Graph;II)Z"⟩, 9) := ⟨⟨by decide +kernel, by decide +kernel⟩, List.mem_of_getElem? (i := 108) (by decide +kernel), List.mem_of_getElem? (i := 319) (by decide +kernel), List.mem_of_getElem? (i := 320) (by decide +kernel)⟩
theorem lw_p5 : lw_okq (⟨"LayoutOptimizer$Placing", "isCold", "(LLayoutOptimizer$Graph;I)Z"⟩, 9) := ⟨⟨by decide +kernel, by decide +kernel⟩, List.mem_of_getElem? (i := 108) (by decide +kernel), List.mem_of_getElem? (i := 323) (by decide +kernel), List.mem_of_getElem? (i := 324) (by decide +kernel)⟩
theorem lw_p6 : lw_okq (⟨"LayoutOptimizer$Placing", "writeOrder", "(LLayoutOptimizer$Graph;)V"⟩, 9) := ⟨⟨by decide +kernel, by decide +kernel⟩, List.mem_of_getElem? (i := 108) (by decide +kernel), List.mem_of_getElem? (i := 327) (by decide +kernel), List.mem_of_getElem? (i := 328) (by decide +kernel)⟩
theorem lw_p7 : lw_okq (⟨"LayoutOptimizer$Code", "chooseBranches", "(LLayoutOptimizer$Graph;II)V"⟩, 7) := ⟨⟨by decide +kernel, by decide +kernel⟩, List.mem_of_getElem? (i := 145) (by decide +kernel), List.mem_of_getElem? (i := 335) (by decide +kernel), List.mem_of_getElem? (i := 336) (by decide +kernel)⟩
theorem lw_p8 : lw_okq (⟨"LayoutOptimizer$Code", "clearBranches", "(I)V"⟩, 7) := ⟨⟨by decide +kernel, by decide +kernel⟩, List.mem_of_getElem? (i := 145) (by decide +kernel), List.mem_of_getElem? (i := 339) (by decide +kernel), List.mem_of_getElem? (i := 340) (by decide +kernel)⟩
theorem lw_p9 : lw_okq (⟨"LayoutOptimizer$Code", "putBranch", "(II)V"⟩, 7) := ⟨⟨by decide +kernel, by decide +kernel⟩, List.mem_of_getElem? (i := 145) (by decide +kernel), List.mem_of_getElem? (i := 343) (by decide +kernel), List.mem_of_getElem? (i := 344) (by decide +kernel)⟩
theorem lw_p10 : lw_okq (⟨"LayoutOptimizer$Code", "measure", "(LLayoutOptimizer$Graph;[I)V"⟩, 7) := ⟨⟨by decide +kernel, by decide +kernel⟩, List.mem_of_getElem? (i := 145) (by decide +kernel), List.mem_of_getElem? (i := 347) (by decide +kernel), List.mem_of_getElem? (i := 348) (by decide +kernel)⟩
theorem lw_p11 : lw_okq (⟨"LayoutOptimizer$Code", "lengthen", "(LLayoutOptimizer$Graph;I)Z"⟩, 7) := ⟨⟨by decide +kernel, by decide +kernel⟩, List.mem_of_getElem? (i := 145) (by decide +kernel), List.mem_of_getElem? (i := 351) (by decide +kernel), List.mem_of_getElem? (i := 352) (by decide +kernel)⟩
theorem lw_p12 : lw_okq (⟨"LayoutOptimizer$Code", "lengthenOne", "(III)Z"⟩, 7) := ⟨⟨by decide +kernel, by decide +kernel⟩, List.mem_of_getElem? (i := 145) (by decide +kernel), List.mem_of_getElem? (i := 355) (by decide +kernel), List.mem_of_getElem? (i := 356) (by decide +kernel)⟩
theorem lw_p13 : lw_okq (⟨"LayoutOptimizer", "hasBranch", "(II)Z"⟩, 7) := ⟨⟨by decide +kernel, by decide +kernel⟩, List.mem_of_getElem? (i := 11) (by decide +kernel), List.mem_of_getElem? (i := 375) (by decide +kernel), List.mem_of_getElem? (i := 376) (by decide +kernel)⟩
theorem lw_p14 : lw_okq (⟨"LayoutOptimizer$Code", "longExtra", "(I)I"⟩, 7) := ⟨⟨by decide +kernel, by decide +kernel⟩, List.mem_of_getElem? (i := 145) (by decide +kernel), List.mem_of_getElem? (i := 391) (by decide +kernel), List.mem_of_getElem? (i := 392) (by decide +kernel)⟩
theorem lw_p15 : lw_okq (⟨"LayoutOptimizer", "countOfLayout", "(I)I"⟩, 7) := ⟨⟨by decide +kernel, by decide +kernel⟩, List.mem_of_getElem? (i := 11) (by decide +kernel), List.mem_of_getElem? (i := 403) (by decide +kernel), List.mem_of_getElem? (i := 404) (by decide +kernel)⟩
def lw_privs_1 : List (MethodName × Nat) := [(⟨"LayoutOptimizer$Placing", "startChains", "(LLayoutOptimizer$Graph;LLayoutOptimizer$Counts;)V"⟩, 9), (⟨"LayoutOptimizer$Placing", "sortEdges", "(LLayoutOptimizer$Graph;LLayoutOptimizer$Counts;)I"⟩, 9), (⟨"LayoutOptimizer$Placing", "joinAlong", "(LLayoutOptimizer$Graph;II)V"⟩, 9), (⟨"LayoutOptimizer$Placing", "sortHeads", "(LLayoutOptimizer$Graph;)V"⟩, 9), (⟨"LayoutOptimizer$Placing", "comesBefore", "(LLayoutOptimizer$Graph;II)Z"⟩, 9), (⟨"LayoutOptimizer$Placing", "isCold", "(LLayoutOptimizer$Graph;I)Z"⟩, 9), (⟨"LayoutOptimizer$Placing", "writeOrder", "(LLayoutOptimizer$Graph;)V"⟩, 9), (⟨"LayoutOptimizer$Code", "chooseBranches", "(LLayoutOptimizer$Graph;II)V"⟩, 7), (⟨"LayoutOptimizer$Code", "clearBranches", "(I)V"⟩, 7), (⟨"LayoutOptimizer$Code", "putBranch", "(II)V"⟩, 7), (⟨"LayoutOptimizer$Code", "measure", "(LLayoutOptimizer$Graph;[I)V"⟩, 7), (⟨"LayoutOptimizer$Code", "lengthen", "(LLayoutOptimizer$Graph;I)Z"⟩, 7), (⟨"LayoutOptimizer$Code", "lengthenOne", "(III)Z"⟩, 7), (⟨"LayoutOptimizer", "hasBranch", "(II)Z"⟩, 7), (⟨"LayoutOptimizer$Code", "longExtra", "(I)I"⟩, 7), (⟨"LayoutOptimizer", "countOfLayout", "(I)I"⟩, 7)]
theorem lw_r1 : ∀ q ∈ lw_privs_1, lw_okq q := List.forall_mem_cons.mpr ⟨lw_p0, List.forall_mem_cons.mpr ⟨lw_p1, List.forall_mem_cons.mpr ⟨lw_p2, List.forall_mem_cons.mpr ⟨lw_p3, List.forall_mem_cons.mpr ⟨lw_p4, List.forall_mem_cons.mpr ⟨lw_p5, List.forall_mem_cons.mpr ⟨lw_p6, List.forall_mem_cons.mpr ⟨lw_p7, List.forall_mem_cons.mpr ⟨lw_p8, List.forall_mem_cons.mpr ⟨lw_p9, List.forall_mem_cons.mpr ⟨lw_p10, List.forall_mem_cons.mpr ⟨lw_p11, List.forall_mem_cons.mpr ⟨lw_p12, List.forall_mem_cons.mpr ⟨lw_p13, List.forall_mem_cons.mpr ⟨lw_p14, List.forall_mem_cons.mpr ⟨lw_p15, fun _ h => absurd h List.not_mem_nil⟩⟩⟩⟩⟩⟩⟩⟩⟩⟩⟩⟩⟩⟩⟩⟩
theorem lw_p16 : lw_okq (⟨"LayoutOptimizerModel", "give", "(IIII)I"⟩, 22) := ⟨⟨by decide +kernel, by decide +kernel⟩, List.mem_of_getElem? (i := 410) (by decide +kernel), List.mem_of_getElem? (i := 491) (by decide +kernel), List.mem_of_getElem? (i := 492) (by decide +kernel)⟩
theorem lw_p17 : lw_okq (⟨"LayoutOptimizerModel", "no", "(I)Z"⟩, 22) := ⟨⟨by decide +kernel, by decide +kernel⟩, List.mem_of_getElem? (i := 410) (by decide +kernel), List.mem_of_getElem? (i := 495) (by decide +kernel), List.mem_of_getElem? (i := 496) (by decide +kernel)⟩
theorem lw_p18 : lw_okq (⟨"LayoutOptimizerModel", "entry", "(I)I"⟩, 22) := ⟨⟨by decide +kernel, by decide +kernel⟩, List.mem_of_getElem? (i := 410) (by decide +kernel), List.mem_of_getElem? (i := 507) (by decide +kernel), List.mem_of_getElem? (i := 508) (by decide +kernel)⟩
theorem lw_p19 : lw_okq (⟨"LayoutOptimizerModel", "warmer", "(II)I"⟩, 22) := ⟨⟨by decide +kernel, by decide +kernel⟩, List.mem_of_getElem? (i := 410) (by decide +kernel), List.mem_of_getElem? (i := 511) (by decide +kernel), List.mem_of_getElem? (i := 512) (by decide +kernel)⟩
theorem lw_p20 : lw_okq (⟨"LayoutOptimizerModel", "edge", "(III)I"⟩, 22) := ⟨⟨by decide +kernel, by decide +kernel⟩, List.mem_of_getElem? (i := 410) (by decide +kernel), List.mem_of_getElem? (i := 516) (by decide +kernel), List.mem_of_getElem? (i := 517) (by decide +kernel)⟩
theorem lw_p21 : lw_okq (⟨"LayoutOptimizerModel", "makeChains", "(I)V"⟩, 22) := ⟨⟨by decide +kernel, by decide +kernel⟩, List.mem_of_getElem? (i := 410) (by decide +kernel), List.mem_of_getElem? (i := 533) (by decide +kernel), List.mem_of_getElem? (i := 534) (by decide +kernel)⟩
theorem lw_p22 : lw_okq (⟨"LayoutOptimizerModel", "joinOne", "()Z"⟩, 22) := ⟨⟨by decide +kernel, by decide +kernel⟩, List.mem_of_getElem? (i := 410) (by decide +kernel), List.mem_of_getElem? (i := 537) (by decide +kernel), List.mem_of_getElem? (i := 538) (by decide +kernel)⟩
theorem lw_p23 : lw_okq (⟨"LayoutOptimizerModel", "size", "(I)I"⟩, 22) := ⟨⟨by decide +kernel, by decide +kernel⟩, List.mem_of_getElem? (i := 410) (by decide +kernel), List.mem_of_getElem? (i := 541) (by decide +kernel), List.mem_of_getElem? (i := 542) (by decide +kernel)⟩
theorem lw_p24 : lw_okq (⟨"LayoutOptimizerModel", "putOrder", "(I)V"⟩, 22) := ⟨⟨by decide +kernel, by decide +kernel⟩, List.mem_of_getElem? (i := 410) (by decide +kernel), List.mem_of_getElem? (i := 545) (by decide +kernel), List.mem_of_getElem? (i := 546) (by decide +kernel)⟩
theorem lw_p25 : lw_okq (⟨"LayoutOptimizerModel", "before", "(II)Z"⟩, 22) := ⟨⟨by decide +kernel, by decide +kernel⟩, List.mem_of_getElem? (i := 410) (by decide +kernel), List.mem_of_getElem? (i := 549) (by decide +kernel), List.mem_of_getElem? (i := 550) (by decide +kernel)⟩
theorem lw_p26 : lw_okq (⟨"LayoutOptimizerModel", "head", "(I)I"⟩, 22) := ⟨⟨by decide +kernel, by decide +kernel⟩, List.mem_of_getElem? (i := 410) (by decide +kernel), List.mem_of_getElem? (i := 553) (by decide +kernel), List.mem_of_getElem? (i := 554) (by decide +kernel)⟩
theorem lw_p27 : lw_okq (⟨"LayoutOptimizerModel", "isCold", "(I)Z"⟩, 22) := ⟨⟨by decide +kernel, by decide +kernel⟩, List.mem_of_getElem? (i := 410) (by decide +kernel), List.mem_of_getElem? (i := 557) (by decide +kernel), List.mem_of_getElem? (i := 558) (by decide +kernel)⟩
theorem lw_p28 : lw_okq (⟨"LayoutOptimizerModel", "sum", "(IZ)J"⟩, 22) := ⟨⟨by decide +kernel, by decide +kernel⟩, List.mem_of_getElem? (i := 410) (by decide +kernel), List.mem_of_getElem? (i := 561) (by decide +kernel), List.mem_of_getElem? (i := 562) (by decide +kernel)⟩
theorem lw_p29 : lw_okq (⟨"LayoutOptimizerModel", "branchesOf", "(II)V"⟩, 22) := ⟨⟨by decide +kernel, by decide +kernel⟩, List.mem_of_getElem? (i := 410) (by decide +kernel), List.mem_of_getElem? (i := 565) (by decide +kernel), List.mem_of_getElem? (i := 566) (by decide +kernel)⟩
theorem lw_p30 : lw_okq (⟨"LayoutOptimizerModel", "lengthen", "()Z"⟩, 22) := ⟨⟨by decide +kernel, by decide +kernel⟩, List.mem_of_getElem? (i := 410) (by decide +kernel), List.mem_of_getElem? (i := 569) (by decide +kernel), List.mem_of_getElem? (i := 570) (by decide +kernel)⟩
theorem lw_p31 : lw_okq (⟨"LayoutOptimizerModel", "addressOf", "(I)I"⟩, 22) := ⟨⟨by decide +kernel, by decide +kernel⟩, List.mem_of_getElem? (i := 410) (by decide +kernel), List.mem_of_getElem? (i := 573) (by decide +kernel), List.mem_of_getElem? (i := 574) (by decide +kernel)⟩
def lw_privs_2 : List (MethodName × Nat) := [(⟨"LayoutOptimizerModel", "give", "(IIII)I"⟩, 22), (⟨"LayoutOptimizerModel", "no", "(I)Z"⟩, 22), (⟨"LayoutOptimizerModel", "entry", "(I)I"⟩, 22), (⟨"LayoutOptimizerModel", "warmer", "(II)I"⟩, 22), (⟨"LayoutOptimizerModel", "edge", "(III)I"⟩, 22), (⟨"LayoutOptimizerModel", "makeChains", "(I)V"⟩, 22), (⟨"LayoutOptimizerModel", "joinOne", "()Z"⟩, 22), (⟨"LayoutOptimizerModel", "size", "(I)I"⟩, 22), (⟨"LayoutOptimizerModel", "putOrder", "(I)V"⟩, 22), (⟨"LayoutOptimizerModel", "before", "(II)Z"⟩, 22), (⟨"LayoutOptimizerModel", "head", "(I)I"⟩, 22), (⟨"LayoutOptimizerModel", "isCold", "(I)Z"⟩, 22), (⟨"LayoutOptimizerModel", "sum", "(IZ)J"⟩, 22), (⟨"LayoutOptimizerModel", "branchesOf", "(II)V"⟩, 22), (⟨"LayoutOptimizerModel", "lengthen", "()Z"⟩, 22), (⟨"LayoutOptimizerModel", "addressOf", "(I)I"⟩, 22)]
theorem lw_r2 : ∀ q ∈ lw_privs_2, lw_okq q := List.forall_mem_cons.mpr ⟨lw_p16, List.forall_mem_cons.mpr ⟨lw_p17, List.forall_mem_cons.mpr ⟨lw_p18, List.forall_mem_cons.mpr ⟨lw_p19, List.forall_mem_cons.mpr ⟨lw_p20, List.forall_mem_cons.mpr ⟨lw_p21, List.forall_mem_cons.mpr ⟨lw_p22, List.forall_mem_cons.mpr ⟨lw_p23, List.forall_mem_cons.mpr ⟨lw_p24, List.forall_mem_cons.mpr ⟨lw_p25, List.forall_mem_cons.mpr ⟨lw_p26, List.forall_mem_cons.mpr ⟨lw_p27, List.forall_mem_cons.mpr ⟨lw_p28, List.forall_mem_cons.mpr ⟨lw_p29, List.forall_mem_cons.mpr ⟨lw_p30, List.forall_mem_cons.mpr ⟨lw_p31, fun _ h => absurd h List.not_mem_nil⟩⟩⟩⟩⟩⟩⟩⟩⟩⟩⟩⟩⟩⟩⟩⟩
theorem lw_p32 : lw_okq (⟨"LayoutOptimizerModel", "units", "(I)I"⟩, 22) := ⟨⟨by decide +kernel, by decide +kernel⟩, List.mem_of_getElem? (i := 410) (by decide +kernel), List.mem_of_getElem? (i := 577) (by decide +kernel), List.mem_of_getElem? (i := 578) (by decide +kernel)⟩
theorem lw_p33 : lw_okq (⟨"LayoutOptimizerModel", "total", "()I"⟩, 22) := ⟨⟨by decide +kernel, by decide +kernel⟩, List.mem_of_getElem? (i := 410) (by decide +kernel), List.mem_of_getElem? (i := 581) (by decide +kernel), List.mem_of_getElem? (i := 582) (by decide +kernel)⟩
theorem lw_p34 : lw_okq (⟨"LayoutOptimizerModel", "noBranch", "(II)Z"⟩, 22) := ⟨⟨by decide +kernel, by decide +kernel⟩, List.mem_of_getElem? (i := 410) (by decide +kernel), List.mem_of_getElem? (i := 597) (by decide +kernel), List.mem_of_getElem? (i := 598) (by decide +kernel)⟩
theorem lw_p35 : lw_okq (⟨"LayoutOptimizerModel", "leaving", "(II)I"⟩, 22) := ⟨⟨by decide +kernel, by decide +kernel⟩, List.mem_of_getElem? (i := 410) (by decide +kernel), List.mem_of_getElem? (i := 609) (by decide +kernel), List.mem_of_getElem? (i := 610) (by decide +kernel)⟩
def lw_privs_3 : List (MethodName × Nat) := [(⟨"LayoutOptimizerModel", "units", "(I)I"⟩, 22), (⟨"LayoutOptimizerModel", "total", "()I"⟩, 22), (⟨"LayoutOptimizerModel", "noBranch", "(II)Z"⟩, 22), (⟨"LayoutOptimizerModel", "leaving", "(II)I"⟩, 22)]
theorem lw_r3 : ∀ q ∈ lw_privs_3, lw_okq q := List.forall_mem_cons.mpr ⟨lw_p32, List.forall_mem_cons.mpr ⟨lw_p33, List.forall_mem_cons.mpr ⟨lw_p34, List.forall_mem_cons.mpr ⟨lw_p35, fun _ h => absurd h List.not_mem_nil⟩⟩⟩⟩
def lw_privs : List (MethodName × Nat) := lw_privs_1 ++ (lw_privs_2 ++ (lw_privs_3))
def lw_tbl : List Cond := k2_sels lw_privs ++ tables_1
theorem lw_privs_ok : ∀ q ∈ lw_privs, lw_okq q := by
  show ∀ q ∈ lw_privs_1 ++ (lw_privs_2 ++ (lw_privs_3)), lw_okq q
  exact List.forall_mem_append.mpr ⟨lw_r1, List.forall_mem_append.mpr ⟨lw_r2, lw_r3⟩⟩
end
section
def R_L : String := "LayoutOptimizer"
def T_L : u_T := fun k => match k with
  | 0 => ("LayoutOptimizer", "range", "I", true)
  | 1 => ("LayoutOptimizer", "graph", "LLayoutOptimizer$Graph;", true)
  | 2 => ("LayoutOptimizer", "counts", "LLayoutOptimizer$Counts;", true)
  | 3 => ("LayoutOptimizer", "trail", "LLayoutOptimizer$Trail;", true)
  | 4 => ("LayoutOptimizer", "placing", "LLayoutOptimizer$Placing;", true)
  | 5 => ("LayoutOptimizer", "code", "LLayoutOptimizer$Code;", true)
  | _ => ("LayoutOptimizer", "laidOut", "Z", false)
def ty_L : Nat → FieldType := fun k => match k with
  | 0 => .int
  | 1 => .object "LayoutOptimizer$Graph"
  | 2 => .object "LayoutOptimizer$Counts"
  | 3 => .object "LayoutOptimizer$Trail"
  | 4 => .object "LayoutOptimizer$Placing"
  | 5 => .object "LayoutOptimizer$Code"
  | _ => .boolean
theorem nm_L : ∀ a, a < 7 → ∀ b, b < 7 → a ≠ b → (T_L a).2.1 ≠ (T_L b).2.1 := by decide +kernel
theorem tok_L : ∀ k, k < 7 → parseFieldDescriptor (T_L k).2.2.1 = some (ty_L k) := by decide +kernel
def R_G : String := "LayoutOptimizer$Graph"
def T_G : u_T := fun k => match k with
  | 0 => ("LayoutOptimizer$Graph", "function", "[I", true)
  | 1 => ("LayoutOptimizer$Graph", "body", "[I", true)
  | 2 => ("LayoutOptimizer$Graph", "end", "[I", true)
  | 3 => ("LayoutOptimizer$Graph", "to", "[I", true)
  | 4 => ("LayoutOptimizer$Graph", "entry", "[I", true)
  | _ => ("LayoutOptimizer$Graph", "size", "I", false)
def ty_G : Nat → FieldType := fun k => match k with
  | 0 => .array .int
  | 1 => .array .int
  | 2 => .array .int
  | 3 => .array .int
  | 4 => .array .int
  | _ => .int
theorem nm_G : ∀ a, a < 6 → ∀ b, b < 6 → a ≠ b → (T_G a).2.1 ≠ (T_G b).2.1 := by decide +kernel
theorem tok_G : ∀ k, k < 6 → parseFieldDescriptor (T_G k).2.2.1 = some (ty_G k) := by decide +kernel
def R_N : String := "LayoutOptimizer$Counts"
def T_N : u_T := fun k => match k with
  | 0 => ("LayoutOptimizer$Counts", "ofBlock", "[I", true)
  | _ => ("LayoutOptimizer$Counts", "ofEdge", "[I", true)
def ty_N : Nat → FieldType := fun k => match k with
  | 0 => .array .int
  | _ => .array .int
theorem nm_N : ∀ a, a < 2 → ∀ b, b < 2 → a ≠ b → (T_N a).2.1 ≠ (T_N b).2.1 := by decide +kernel
theorem tok_N : ∀ k, k < 2 → parseFieldDescriptor (T_N k).2.2.1 = some (ty_N k) := by decide +kernel
def R_T : String := "LayoutOptimizer$Trail"
def T_T : u_T := fun k => match k with
  | 0 => ("LayoutOptimizer$Trail", "blocks", "[I", true)
  | 1 => ("LayoutOptimizer$Trail", "edges", "[I", true)
  | _ => ("LayoutOptimizer$Trail", "size", "I", false)
def ty_T : Nat → FieldType := fun k => match k with
  | 0 => .array .int
  | 1 => .array .int
  | _ => .int
theorem nm_T : ∀ a, a < 3 → ∀ b, b < 3 → a ≠ b → (T_T a).2.1 ≠ (T_T b).2.1 := by decide +kernel
theorem tok_T : ∀ k, k < 3 → parseFieldDescriptor (T_T k).2.2.1 = some (ty_T k) := by decide +kernel
def R_P : String := "LayoutOptimizer$Placing"
def T_P : u_T := fun k => match k with
  | 0 => ("LayoutOptimizer$Placing", "order", "[I", true)
  | 1 => ("LayoutOptimizer$Placing", "chains", "I", false)
  | 2 => ("LayoutOptimizer$Placing", "coldBlocks", "I", false)
  | 3 => ("LayoutOptimizer$Placing", "edges", "[I", true)
  | 4 => ("LayoutOptimizer$Placing", "heads", "[I", true)
  | 5 => ("LayoutOptimizer$Placing", "first", "[I", true)
  | 6 => ("LayoutOptimizer$Placing", "behind", "[I", true)
  | 7 => ("LayoutOptimizer$Placing", "heatSum", "[I", true)
  | _ => ("LayoutOptimizer$Placing", "bodySum", "[I", true)
def ty_P : Nat → FieldType := fun k => match k with
  | 0 => .array .int
  | 1 => .int
  | 2 => .int
  | 3 => .array .int
  | 4 => .array .int
  | 5 => .array .int
  | 6 => .array .int
  | 7 => .array .int
  | _ => .array .int
theorem nm_P : ∀ a, a < 9 → ∀ b, b < 9 → a ≠ b → (T_P a).2.1 ≠ (T_P b).2.1 := by decide +kernel
theorem tok_P : ∀ k, k < 9 → parseFieldDescriptor (T_P k).2.2.1 = some (ty_P k) := by decide +kernel
def R_C : String := "LayoutOptimizer$Code"
def T_C : u_T := fun k => match k with
  | 0 => ("LayoutOptimizer$Code", "start", "[I", true)
  | 1 => ("LayoutOptimizer$Code", "goal", "[I", true)
  | 2 => ("LayoutOptimizer$Code", "units", "[I", true)
  | 3 => ("LayoutOptimizer$Code", "turned", "[Z", true)
  | 4 => ("LayoutOptimizer$Code", "length", "I", false)
  | 5 => ("LayoutOptimizer$Code", "branches", "I", false)
  | _ => ("LayoutOptimizer$Code", "longOnes", "I", false)
def ty_C : Nat → FieldType := fun k => match k with
  | 0 => .array .int
  | 1 => .array .int
  | 2 => .array .int
  | 3 => .array .boolean
  | 4 => .int
  | 5 => .int
  | _ => .int
theorem nm_C : ∀ a, a < 7 → ∀ b, b < 7 → a ≠ b → (T_C a).2.1 ≠ (T_C b).2.1 := by decide +kernel
theorem tok_C : ∀ k, k < 7 → parseFieldDescriptor (T_C k).2.2.1 = some (ty_C k) := by decide +kernel
def R_M : String := "LayoutOptimizerModel"
def T_M : u_T := fun k => match k with
  | 0 => ("LayoutOptimizerModel", "range", "I", true)
  | 1 => ("LayoutOptimizerModel", "blocks", "I", false)
  | 2 => ("LayoutOptimizerModel", "edges", "I", false)
  | 3 => ("LayoutOptimizerModel", "cold", "I", false)
  | 4 => ("LayoutOptimizerModel", "chains", "I", false)
  | 5 => ("LayoutOptimizerModel", "made", "Z", false)
  | 6 => ("LayoutOptimizerModel", "function", "[I", true)
  | 7 => ("LayoutOptimizerModel", "body", "[I", true)
  | 8 => ("LayoutOptimizerModel", "end", "[I", true)
  | 9 => ("LayoutOptimizerModel", "to", "[I", true)
  | 10 => ("LayoutOptimizerModel", "heat", "[I", true)
  | 11 => ("LayoutOptimizerModel", "edgeHeat", "[I", true)
  | 12 => ("LayoutOptimizerModel", "chain", "[I", true)
  | 13 => ("LayoutOptimizerModel", "place", "[I", true)
  | 14 => ("LayoutOptimizerModel", "taken", "[Z", true)
  | 15 => ("LayoutOptimizerModel", "placed", "[Z", true)
  | 16 => ("LayoutOptimizerModel", "order", "[I", true)
  | 17 => ("LayoutOptimizerModel", "branches", "[I", true)
  | 18 => ("LayoutOptimizerModel", "target", "[I", true)
  | 19 => ("LayoutOptimizerModel", "length", "[I", true)
  | 20 => ("LayoutOptimizerModel", "turned", "[Z", true)
  | _ => ("LayoutOptimizerModel", "grows", "[Z", true)
def ty_M : Nat → FieldType := fun k => match k with
  | 0 => .int
  | 1 => .int
  | 2 => .int
  | 3 => .int
  | 4 => .int
  | 5 => .boolean
  | 6 => .array .int
  | 7 => .array .int
  | 8 => .array .int
  | 9 => .array .int
  | 10 => .array .int
  | 11 => .array .int
  | 12 => .array .int
  | 13 => .array .int
  | 14 => .array .boolean
  | 15 => .array .boolean
  | 16 => .array .int
  | 17 => .array .int
  | 18 => .array .int
  | 19 => .array .int
  | 20 => .array .boolean
  | _ => .array .boolean
theorem nm_M : ∀ a, a < 22 → ∀ b, b < 22 → a ≠ b → (T_M a).2.1 ≠ (T_M b).2.1 := by decide +kernel
theorem tok_M : ∀ k, k < 22 → parseFieldDescriptor (T_M k).2.2.1 = some (ty_M k) := by decide +kernel
def R_W : String := "LayoutOptimizerLaw"
def R_A : String := "java/util/Arrays"
abbrev vwCl : List vw_C := [(R_L, T_L, 7), (R_G, T_G, 6), (R_N, T_N, 2), (R_T, T_T, 3), (R_P, T_P, 9), (R_C, T_C, 7), (R_M, T_M, 22)]
def av_N : List Cond := [Cond.methodLinkNest R_L 31 ⟨R_N, "<init>", "()V"⟩ R_L, Cond.methodLinkNest R_L 38 ⟨R_T, "<init>", "()V"⟩ R_L, Cond.methodLinkNest R_L 45 ⟨R_P, "<init>", "()V"⟩ R_L, Cond.methodLinkNest R_L 52 ⟨R_C, "<init>", "()V"⟩ R_L]
theorem av_N_in : ∀ w ∈ av_N, w ∈ lw_tbl := by decide +kernel
theorem av_N_on : ∀ w ∈ av_N, w.onTables = true := by decide +kernel
theorem av_N_warm : ∀ w ∈ av_N, ∀ (s U : State), s.WarmedH U.vm → va_Nw w s → va_Nw w U := by
  intro w hw s U hW hZ
  simp only [av_N, List.mem_cons, List.not_mem_nil, or_false] at hw
  rcases hw with rfl | rfl | rfl | rfl <;> exact va_Nw.warmM hW hZ
abbrev m_L_init : MethodName × ByteArray × Nat × Option FieldType := (⟨R_L, "<init>", "(I)V"⟩, prog_1_method_1_code, 2, none)
abbrev m_G_init : MethodName × ByteArray × Nat × Option FieldType := (⟨R_G, "<init>", "()V"⟩, prog_4_method_1_code, 1, none)
abbrev m_A_fill : MethodName × ByteArray × Nat × Option FieldType := (⟨R_A, "fill", "([II)V"⟩, prog_10_method_103_code, 4, none)
abbrev m_N_init : MethodName × ByteArray × Nat × Option FieldType := (⟨R_N, "<init>", "()V"⟩, prog_3_method_1_code, 1, none)
abbrev m_T_init : MethodName × ByteArray × Nat × Option FieldType := (⟨R_T, "<init>", "()V"⟩, prog_6_method_1_code, 1, none)
abbrev m_P_init : MethodName × ByteArray × Nat × Option FieldType := (⟨R_P, "<init>", "()V"⟩, prog_5_method_1_code, 1, none)
abbrev m_C_init : MethodName × ByteArray × Nat × Option FieldType := (⟨R_C, "<init>", "()V"⟩, prog_2_method_1_code, 1, none)
abbrev m_L_block : MethodName × ByteArray × Nat × Option FieldType := (⟨R_L, "block", "(II)I"⟩, prog_1_method_2_code, 3, (some .int))
abbrev m_G_add : MethodName × ByteArray × Nat × Option FieldType := (⟨R_G, "add", "(II)I"⟩, prog_4_method_2_code, 4, (some .int))
abbrev m_G_setEnd : MethodName × ByteArray × Nat × Option FieldType := (⟨R_G, "setEnd", "(IIII)V"⟩, prog_4_method_3_code, 5, none)
abbrev m_L_jump : MethodName × ByteArray × Nat × Option FieldType := (⟨R_L, "jump", "(II)I"⟩, prog_1_method_3_code, 3, (some .int))
abbrev m_G_canLead : MethodName × ByteArray × Nat × Option FieldType := (⟨R_G, "canLead", "(II)Z"⟩, prog_4_method_7_code, 3, (some .boolean))
abbrev m_G_has : MethodName × ByteArray × Nat × Option FieldType := (⟨R_G, "has", "(I)Z"⟩, prog_4_method_4_code, 2, (some .boolean))
abbrev m_N_clearEdges : MethodName × ByteArray × Nat × Option FieldType := (⟨R_N, "clearEdges", "(I)V"⟩, prog_3_method_5_code, 2, none)
abbrev m_L_test : MethodName × ByteArray × Nat × Option FieldType := (⟨R_L, "test", "(III)I"⟩, prog_1_method_4_code, 4, (some .int))
abbrev m_L_walk : MethodName × ByteArray × Nat × Option FieldType := (⟨R_L, "walk", "(II)I"⟩, prog_1_method_5_code, 3, (some .int))
abbrev m_G_hasEntry : MethodName × ByteArray × Nat × Option FieldType := (⟨R_G, "hasEntry", "(I)Z"⟩, prog_4_method_6_code, 2, (some .boolean))
abbrev m_T_follow : MethodName × ByteArray × Nat × Option FieldType := (⟨R_T, "follow", "(LLayoutOptimizer$Graph;II)V"⟩, prog_6_method_2_code, 7, none)
abbrev m_T_holdsAt : MethodName × ByteArray × Nat × Option FieldType := (⟨R_T, "holdsAt", "(II)Z"⟩, prog_6_method_3_code, 2, (some .boolean))
abbrev m_N_addTrail : MethodName × ByteArray × Nat × Option FieldType := (⟨R_N, "addTrail", "(LLayoutOptimizer$Trail;)V"⟩, prog_3_method_4_code, 3, none)
abbrev m_N_addToBlock : MethodName × ByteArray × Nat × Option FieldType := (⟨R_N, "addToBlock", "(II)V"⟩, prog_3_method_2_code, 3, none)
abbrev m_N_addToEdge : MethodName × ByteArray × Nat × Option FieldType := (⟨R_N, "addToEdge", "(II)V"⟩, prog_3_method_3_code, 3, none)
abbrev m_L_heat : MethodName × ByteArray × Nat × Option FieldType := (⟨R_L, "heat", "(III)I"⟩, prog_1_method_6_code, 5, (some .int))
abbrev m_G_hasEdge : MethodName × ByteArray × Nat × Option FieldType := (⟨R_G, "hasEdge", "(II)Z"⟩, prog_4_method_5_code, 3, (some .boolean))
abbrev m_L_cool : MethodName × ByteArray × Nat × Option FieldType := (⟨R_L, "cool", "()I"⟩, prog_1_method_7_code, 1, (some .int))
abbrev m_N_clear : MethodName × ByteArray × Nat × Option FieldType := (⟨R_N, "clear", "()V"⟩, prog_3_method_6_code, 1, none)
abbrev m_L_layout : MethodName × ByteArray × Nat × Option FieldType := (⟨R_L, "layout", "(I)I"⟩, prog_1_method_8_code, 2, (some .int))
abbrev m_P_placeByNumber : MethodName × ByteArray × Nat × Option FieldType := (⟨R_P, "placeByNumber", "(LLayoutOptimizer$Graph;)V"⟩, prog_5_method_2_code, 3, none)
abbrev m_P_placeByChains : MethodName × ByteArray × Nat × Option FieldType := (⟨R_P, "placeByChains", "(LLayoutOptimizer$Graph;LLayoutOptimizer$Counts;)V"⟩, prog_5_method_3_code, 5, none)
abbrev m_P_startChains : MethodName × ByteArray × Nat × Option FieldType := (⟨R_P, "startChains", "(LLayoutOptimizer$Graph;LLayoutOptimizer$Counts;)V"⟩, prog_5_method_4_code, 4, none)
abbrev m_P_sortEdges : MethodName × ByteArray × Nat × Option FieldType := (⟨R_P, "sortEdges", "(LLayoutOptimizer$Graph;LLayoutOptimizer$Counts;)I"⟩, prog_5_method_5_code, 6, (some .int))
abbrev m_P_mayJoin : MethodName × ByteArray × Nat × Option FieldType := (⟨R_P, "mayJoin", "(LLayoutOptimizer$Graph;LLayoutOptimizer$Counts;I)Z"⟩, prog_5_method_6_code, 3, (some .boolean))
abbrev m_P_joinAlong : MethodName × ByteArray × Nat × Option FieldType := (⟨R_P, "joinAlong", "(LLayoutOptimizer$Graph;II)V"⟩, prog_5_method_7_code, 6, none)
abbrev m_G_isEntry : MethodName × ByteArray × Nat × Option FieldType := (⟨R_G, "isEntry", "(I)Z"⟩, prog_4_method_8_code, 2, (some .boolean))
abbrev m_P_sortHeads : MethodName × ByteArray × Nat × Option FieldType := (⟨R_P, "sortHeads", "(LLayoutOptimizer$Graph;)V"⟩, prog_5_method_8_code, 4, none)
abbrev m_P_comesBefore : MethodName × ByteArray × Nat × Option FieldType := (⟨R_P, "comesBefore", "(LLayoutOptimizer$Graph;II)Z"⟩, prog_5_method_9_code, 8, (some .boolean))
abbrev m_P_isCold : MethodName × ByteArray × Nat × Option FieldType := (⟨R_P, "isCold", "(LLayoutOptimizer$Graph;I)Z"⟩, prog_5_method_10_code, 3, (some .boolean))
abbrev m_P_writeOrder : MethodName × ByteArray × Nat × Option FieldType := (⟨R_P, "writeOrder", "(LLayoutOptimizer$Graph;)V"⟩, prog_5_method_11_code, 6, none)
abbrev m_C_lay : MethodName × ByteArray × Nat × Option FieldType := (⟨R_C, "lay", "(LLayoutOptimizer$Graph;[II)V"⟩, prog_2_method_2_code, 5, none)
abbrev m_C_chooseBranches : MethodName × ByteArray × Nat × Option FieldType := (⟨R_C, "chooseBranches", "(LLayoutOptimizer$Graph;II)V"⟩, prog_2_method_3_code, 6, none)
abbrev m_C_clearBranches : MethodName × ByteArray × Nat × Option FieldType := (⟨R_C, "clearBranches", "(I)V"⟩, prog_2_method_4_code, 3, none)
abbrev m_C_putBranch : MethodName × ByteArray × Nat × Option FieldType := (⟨R_C, "putBranch", "(II)V"⟩, prog_2_method_5_code, 3, none)
abbrev m_C_measure : MethodName × ByteArray × Nat × Option FieldType := (⟨R_C, "measure", "(LLayoutOptimizer$Graph;[I)V"⟩, prog_2_method_6_code, 5, none)
abbrev m_C_lengthen : MethodName × ByteArray × Nat × Option FieldType := (⟨R_C, "lengthen", "(LLayoutOptimizer$Graph;I)Z"⟩, prog_2_method_7_code, 7, (some .boolean))
abbrev m_C_lengthenOne : MethodName × ByteArray × Nat × Option FieldType := (⟨R_C, "lengthenOne", "(III)Z"⟩, prog_2_method_8_code, 4, (some .boolean))
abbrev m_L_at : MethodName × ByteArray × Nat × Option FieldType := (⟨R_L, "at", "(I)I"⟩, prog_1_method_9_code, 2, (some .int))
abbrev m_L_address : MethodName × ByteArray × Nat × Option FieldType := (⟨R_L, "address", "(I)I"⟩, prog_1_method_10_code, 2, (some .int))
abbrev m_L_branch : MethodName × ByteArray × Nat × Option FieldType := (⟨R_L, "branch", "(II)I"⟩, prog_1_method_11_code, 3, (some .int))
abbrev m_L_hasBranch : MethodName × ByteArray × Nat × Option FieldType := (⟨R_L, "hasBranch", "(II)Z"⟩, prog_1_method_17_code, 3, (some .boolean))
abbrev m_L_target : MethodName × ByteArray × Nat × Option FieldType := (⟨R_L, "target", "(II)I"⟩, prog_1_method_12_code, 3, (some .int))
abbrev m_L_cost : MethodName × ByteArray × Nat × Option FieldType := (⟨R_L, "cost", "(II)I"⟩, prog_1_method_13_code, 6, (some .int))
abbrev m_C_costOfLeaving : MethodName × ByteArray × Nat × Option FieldType := (⟨R_C, "costOfLeaving", "(IIZ)I"⟩, prog_2_method_9_code, 6, (some .int))
abbrev m_C_longExtra : MethodName × ByteArray × Nat × Option FieldType := (⟨R_C, "longExtra", "(I)I"⟩, prog_2_method_10_code, 2, (some .int))
abbrev m_L_heatOf : MethodName × ByteArray × Nat × Option FieldType := (⟨R_L, "heatOf", "(II)I"⟩, prog_1_method_14_code, 3, (some .int))
abbrev m_L_count : MethodName × ByteArray × Nat × Option FieldType := (⟨R_L, "count", "(I)I"⟩, prog_1_method_15_code, 2, (some .int))
abbrev m_L_countOfLayout : MethodName × ByteArray × Nat × Option FieldType := (⟨R_L, "countOfLayout", "(I)I"⟩, prog_1_method_16_code, 2, (some .int))
abbrev m_W_cell : MethodName × ByteArray × Nat × Option FieldType := (⟨R_W, "cell", "([II)I"⟩, method_2_code, 2, (some .int))
abbrev m_M_init : MethodName × ByteArray × Nat × Option FieldType := (⟨R_M, "<init>", "(I)V"⟩, prog_8_method_1_code, 2, none)
abbrev m_M_block : MethodName × ByteArray × Nat × Option FieldType := (⟨R_M, "block", "(II)I"⟩, prog_8_method_4_code, 3, (some .int))
abbrev m_M_jump : MethodName × ByteArray × Nat × Option FieldType := (⟨R_M, "jump", "(II)I"⟩, prog_8_method_5_code, 3, (some .int))
abbrev m_M_give : MethodName × ByteArray × Nat × Option FieldType := (⟨R_M, "give", "(IIII)I"⟩, prog_8_method_7_code, 5, (some .int))
abbrev m_M_no : MethodName × ByteArray × Nat × Option FieldType := (⟨R_M, "no", "(I)Z"⟩, prog_8_method_2_code, 2, (some .boolean))
abbrev m_M_test : MethodName × ByteArray × Nat × Option FieldType := (⟨R_M, "test", "(III)I"⟩, prog_8_method_6_code, 4, (some .int))
abbrev m_M_walk : MethodName × ByteArray × Nat × Option FieldType := (⟨R_M, "walk", "(II)I"⟩, prog_8_method_10_code, 7, (some .int))
abbrev m_M_entry : MethodName × ByteArray × Nat × Option FieldType := (⟨R_M, "entry", "(I)I"⟩, prog_8_method_3_code, 3, (some .int))
abbrev m_M_warmer : MethodName × ByteArray × Nat × Option FieldType := (⟨R_M, "warmer", "(II)I"⟩, prog_8_method_8_code, 3, (some .int))
abbrev m_M_edge : MethodName × ByteArray × Nat × Option FieldType := (⟨R_M, "edge", "(III)I"⟩, prog_8_method_9_code, 4, (some .int))
abbrev m_M_heat : MethodName × ByteArray × Nat × Option FieldType := (⟨R_M, "heat", "(III)I"⟩, prog_8_method_11_code, 5, (some .int))
abbrev m_M_cool : MethodName × ByteArray × Nat × Option FieldType := (⟨R_M, "cool", "()I"⟩, prog_8_method_12_code, 2, (some .int))
abbrev m_M_layout : MethodName × ByteArray × Nat × Option FieldType := (⟨R_M, "layout", "(I)I"⟩, prog_8_method_26_code, 3, (some .int))
abbrev m_M_makeChains : MethodName × ByteArray × Nat × Option FieldType := (⟨R_M, "makeChains", "(I)V"⟩, prog_8_method_15_code, 3, none)
abbrev m_M_joinOne : MethodName × ByteArray × Nat × Option FieldType := (⟨R_M, "joinOne", "()Z"⟩, prog_8_method_14_code, 8, (some .boolean))
abbrev m_M_size : MethodName × ByteArray × Nat × Option FieldType := (⟨R_M, "size", "(I)I"⟩, prog_8_method_13_code, 4, (some .int))
abbrev m_M_putOrder : MethodName × ByteArray × Nat × Option FieldType := (⟨R_M, "putOrder", "(I)V"⟩, prog_8_method_20_code, 6, none)
abbrev m_M_before : MethodName × ByteArray × Nat × Option FieldType := (⟨R_M, "before", "(II)Z"⟩, prog_8_method_19_code, 11, (some .boolean))
abbrev m_M_head : MethodName × ByteArray × Nat × Option FieldType := (⟨R_M, "head", "(I)I"⟩, prog_8_method_17_code, 3, (some .int))
abbrev m_M_isCold : MethodName × ByteArray × Nat × Option FieldType := (⟨R_M, "isCold", "(I)Z"⟩, prog_8_method_16_code, 3, (some .boolean))
abbrev m_M_sum : MethodName × ByteArray × Nat × Option FieldType := (⟨R_M, "sum", "(IZ)J"⟩, prog_8_method_18_code, 6, (some .long))
abbrev m_M_branchesOf : MethodName × ByteArray × Nat × Option FieldType := (⟨R_M, "branchesOf", "(II)V"⟩, prog_8_method_21_code, 5, none)
abbrev m_M_lengthen : MethodName × ByteArray × Nat × Option FieldType := (⟨R_M, "lengthen", "()Z"⟩, prog_8_method_24_code, 6, (some .boolean))
abbrev m_M_addressOf : MethodName × ByteArray × Nat × Option FieldType := (⟨R_M, "addressOf", "(I)I"⟩, prog_8_method_23_code, 4, (some .int))
abbrev m_M_units : MethodName × ByteArray × Nat × Option FieldType := (⟨R_M, "units", "(I)I"⟩, prog_8_method_22_code, 4, (some .int))
abbrev m_M_total : MethodName × ByteArray × Nat × Option FieldType := (⟨R_M, "total", "()I"⟩, prog_8_method_25_code, 3, (some .int))
abbrev m_M_at : MethodName × ByteArray × Nat × Option FieldType := (⟨R_M, "at", "(I)I"⟩, prog_8_method_27_code, 2, (some .int))
abbrev m_M_address : MethodName × ByteArray × Nat × Option FieldType := (⟨R_M, "address", "(I)I"⟩, prog_8_method_28_code, 2, (some .int))
abbrev m_M_branch : MethodName × ByteArray × Nat × Option FieldType := (⟨R_M, "branch", "(II)I"⟩, prog_8_method_30_code, 3, (some .int))
abbrev m_M_noBranch : MethodName × ByteArray × Nat × Option FieldType := (⟨R_M, "noBranch", "(II)Z"⟩, prog_8_method_29_code, 3, (some .boolean))
abbrev m_M_target : MethodName × ByteArray × Nat × Option FieldType := (⟨R_M, "target", "(II)I"⟩, prog_8_method_31_code, 3, (some .int))
abbrev m_M_cost : MethodName × ByteArray × Nat × Option FieldType := (⟨R_M, "cost", "(II)I"⟩, prog_8_method_33_code, 8, (some .int))
abbrev m_M_leaving : MethodName × ByteArray × Nat × Option FieldType := (⟨R_M, "leaving", "(II)I"⟩, prog_8_method_32_code, 5, (some .int))
abbrev m_M_heatOf : MethodName × ByteArray × Nat × Option FieldType := (⟨R_M, "heatOf", "(II)I"⟩, prog_8_method_34_code, 3, (some .int))
abbrev m_M_count : MethodName × ByteArray × Nat × Option FieldType := (⟨R_M, "count", "(I)I"⟩, prog_8_method_35_code, 6, (some .int))
abbrev m_W_law : MethodName × ByteArray × Nat × Option FieldType := (⟨R_W, "law", "([I)Z"⟩, code, 4, (some .boolean))
end
section
/-! THE ABSTRACT MACHINE. Values are mathematical: an int is an Int, a reference is the place of a cell in a list, a long is an Int; an array's contents are a function of Int. av_Rn says: from this pc, these locals, this stack and these cells the method comes to an end where Φ holds of its answer and its cells. Each rule rn_.. is an instruction. -/
abbrev av_V : Type := Int ⊕ Option Nat ⊕ Int ⊕ Unit
abbrev vI (z : Int) : av_V := .inl z
abbrev vR (k : Nat) : av_V := .inr (.inl (some k))
abbrev vN : av_V := .inr (.inl none)
abbrev vG (z : Int) : av_V := .inr (.inr (.inl z))
abbrev vS : av_V := .inr (.inr (.inr ()))
abbrev av_C : Type := (Nat × Nat × (Int → Int)) ⊕ (Nat × List av_V)
abbrev av_H : Type := List av_C
abbrev av_L : Type := List (Option av_V)
abbrev av_M : Type := MethodName × ByteArray × Nat × Option FieldType
abbrev av_sc : Type := Nat × (Int → Int)
def av_in (z : Int) : Prop := -2147483648 ≤ z ∧ z < 2147483648
def av_tv (b : Nat) (ad : Nat → Nat) : av_V → Value
  | .inl z => .int (Int32.ofInt z)
  | .inr (.inl none) => .null
  | .inr (.inl (some k)) => .ref (ad k)
  | .inr (.inr (.inl z)) => .long (Int64.ofInt z)
  | .inr (.inr (.inr _)) => .ref b
def av_cat : av_V → Nat
  | .inr (.inr (.inl _)) => 2
  | _ => 1
theorem av_cat_tv (b : Nat) (ad : Nat → Nat) (v : av_V) : (av_tv b ad v).category = av_cat v := by
  rcases v with z | (_ | k) | z | u <;> rfl
def av_tc (b : Nat) (ad : Nat → Nat) (ty : Nat → ClassId) : av_C → va_E
  | .inl a => .inl (ty a.1, a.2.1, .inl (fun j => Int32.ofInt (a.2.2 (j : Int))))
  | .inr o => .inr (o.1, o.2.map (av_tv b ad))
def av_tw (b : Nat) (ad : Nat → Nat) (ty : Nat → ClassId) (h : av_H) : va_W := h.mapIdx (fun i c => (ad i, av_tc b ad ty c))
theorem av_tw_at {b : Nat} {ad : Nat → Nat} {ty : Nat → ClassId} {h : av_H} {k : Nat} {c : av_C} (hk : h[k]? = some c) : (av_tw b ad ty h)[k]? = some (ad k, av_tc b ad ty c) := by
  simp [av_tw, List.getElem?_mapIdx, hk]
theorem av_tw_set {b : Nat} {ad : Nat → Nat} {ty : Nat → ClassId} {h : av_H} {k : Nat} {c : av_C} : (av_tw b ad ty h).set k (ad k, av_tc b ad ty c) = av_tw b ad ty (h.set k c) := by
  simp [av_tw, List.mapIdx_set]
/-- the references in it are places below n -/
def av_scv (n : Nat) : av_V → Bool
  | .inr (.inl (some k)) => decide (k < n)
  | _ => true
def av_scc (n : Nat) : av_C → Bool
  | .inl _ => true
  | .inr o => o.2.all (av_scv n)
def av_scl (n : Nat) : Option av_V → Bool
  | some v => av_scv n v
  | none => true
def av_ok (lv : av_L) (st : List av_V) (h : av_H) : Bool := lv.all (av_scl h.length) && st.all (av_scv h.length) && h.all (av_scc h.length)
theorem av_tv_ext {b : Nat} {ad ad' : Nat → Nat} {n : Nat} {v : av_V} (hs : av_scv n v = true) (he : ∀ i, i < n → ad' i = ad i) : av_tv b ad' v = av_tv b ad v := by
  rcases v with z | (_ | k) | z | u
  · rfl
  · rfl
  · show Value.ref (ad' k) = Value.ref (ad k)
    rw [he k (by simpa [av_scv] using hs)]
  · rfl
  · rfl
theorem av_tc_ext {b : Nat} {ad ad' : Nat → Nat} {ty : Nat → ClassId} {n : Nat} {c : av_C} (hs : av_scc n c = true) (he : ∀ i, i < n → ad' i = ad i) : av_tc b ad' ty c = av_tc b ad ty c := by
  rcases c with a | o
  · rfl
  · show Sum.inr (o.1, o.2.map (av_tv b ad')) = Sum.inr (o.1, o.2.map (av_tv b ad))
    rw [List.map_congr_left (fun v hv => av_tv_ext (List.all_eq_true.mp hs v hv) he)]
theorem av_ts_ext {b : Nat} {ad ad' : Nat → Nat} {n : Nat} {st : List av_V} (hs : st.all (av_scv n) = true) (he : ∀ i, i < n → ad' i = ad i) : st.map (av_tv b ad') = st.map (av_tv b ad) :=
  List.map_congr_left (fun v hv => av_tv_ext (List.all_eq_true.mp hs v hv) he)
theorem av_tw_ext {b : Nat} {ad ad' : Nat → Nat} {ty : Nat → ClassId} {n : Nat} {h : av_H} (hl : h.length ≤ n) (hs : h.all (av_scc n) = true) (he : ∀ i, i < n → ad' i = ad i) : av_tw b ad' ty h = av_tw b ad ty h := by
  refine List.ext_getElem? fun i => ?_
  simp only [av_tw, List.getElem?_mapIdx]
  cases hi : h[i]? with
  | none => rfl
  | some c =>
    have h1 : i < h.length := (List.getElem?_eq_some_iff.mp hi).1
    simp only [Option.map_some]
    rw [he i (Nat.lt_of_lt_of_le h1 hl), av_tc_ext (List.all_eq_true.mp hs c (List.mem_of_getElem? hi)) he]
/-- the locals, by their places -/
def av_tl (b : Nat) (ad : Nat → Nat) (lv : av_L) : List (Nat × Value) := lv.zipIdx.filterMap (fun q => q.1.map (fun v => (q.2, av_tv b ad v)))
theorem av_tl_mem {b : Nat} {ad : Nat → Nat} {lv : av_L} {i : Nat} {w : Value} : (i, w) ∈ av_tl b ad lv ↔ ∃ v, lv[i]? = some (some v) ∧ w = av_tv b ad v := by
  simp only [av_tl, List.mem_filterMap]
  constructor
  · rintro ⟨⟨o, j⟩, hm, he⟩
    have hm := List.mem_zipIdx_iff_getElem?.mp hm
    cases o with
    | none => simp at he
    | some v =>
      simp only [Option.map_some, Option.some.injEq, Prod.mk.injEq] at he
      obtain ⟨rfl, rfl⟩ := he
      exact ⟨v, hm, rfl⟩
  · rintro ⟨v, hv, rfl⟩
    exact ⟨(some v, i), List.mem_zipIdx_iff_getElem?.mpr hv, rfl⟩
def av_hs (b : Nat) (ad : Nat → Nat) (ls : Array Slot) (nL : Nat) (lv : av_L) : Prop := lv_has ls nL (av_tl b ad lv)
theorem av_hs_at {b : Nat} {ad : Nat → Nat} {ls : Array Slot} {nL : Nat} {lv : av_L} (h : av_hs b ad ls nL lv) {i : Nat} {v : av_V} (hv : lv[i]? = some (some v)) : ls[i]? = some (.val (av_tv b ad v)) :=
  h.2.2 (i, av_tv b ad v) (av_tl_mem.mpr ⟨v, hv, rfl⟩)
theorem av_hs_sub {b : Nat} {ad : Nat → Nat} {ls : Array Slot} {nL : Nat} {l : List (Nat × Value)} {lv : av_L} (h : lv_has ls nL l) (hs : ∀ i v, lv[i]? = some (some v) → (i, av_tv b ad v) ∈ l) : av_hs b ad ls nL lv := by
  refine ⟨h.1, h.2.1, fun q hq => ?_⟩
  obtain ⟨i, w⟩ := q
  obtain ⟨v, hv, rfl⟩ := av_tl_mem.mp hq
  exact h.2.2 _ (hs i v hv)
theorem av_tl_ext {b : Nat} {ad ad' : Nat → Nat} {n : Nat} {lv : av_L} (hs : lv.all (av_scl n) = true) (he : ∀ i, i < n → ad' i = ad i) : ∀ (i : Nat) (v : av_V), lv[i]? = some (some v) → av_tv b ad' v = av_tv b ad v :=
  fun _ v hv => av_tv_ext (show av_scl n (some v) = true from List.all_eq_true.mp hs (some v) (List.mem_of_getElem? hv)) he
/-- the place before isn't a long's -/
def av_nl (lv : av_L) : Nat → Bool
  | 0 => true
  | i + 1 => match lv[i]? with
    | some (some v) => av_cat v == 1
    | _ => true
theorem av_st1 {b : Nat} {ad : Nat → Nat} {ls : Array Slot} {nL : Nat} {lv : av_L} {i : Nat} {v : av_V} (hnl : av_nl lv i = true)
    (h : lv_has ls nL ((i, av_tv b ad v) :: (av_tl b ad lv).filter (fun q => !(q.1 == i) && !(q.1 + 1 == i && q.2.category == 2)))) : av_hs b ad ls nL (lv.set i (some v)) := by
  refine av_hs_sub h fun j w hw => ?_
  rw [List.getElem?_set] at hw
  by_cases hij : i = j
  · subst hij
    simp only [if_true] at hw
    split at hw
    · cases hw; exact List.mem_cons_self
    · cases hw
  · simp only [hij, if_false] at hw
    refine List.mem_cons_of_mem _ (List.mem_filter.mpr ⟨av_tl_mem.mpr ⟨w, hw, rfl⟩, ?_⟩)
    have h1 : ¬ j = i := fun q => hij q.symm
    simp only [av_cat_tv]
    by_cases h2 : j + 1 = i
    · subst h2
      have h3 : (av_cat w == 1) = true := by simpa [av_nl, hw] using hnl
      have h4 : av_cat w = 1 := by simpa using h3
      simp [h4]
    · simp [h1, h2]
theorem av_st2 {b : Nat} {ad : Nat → Nat} {ls : Array Slot} {nL : Nat} {lv : av_L} {i : Nat} {v : av_V} (hnl : av_nl lv i = true)
    (h : lv_has ls nL ((i, av_tv b ad v) :: (av_tl b ad lv).filter (fun q => !(q.1 == i) && (!(q.1 == i + 1) && !(q.1 + 1 == i && q.2.category == 2))))) : av_hs b ad ls nL ((lv.set i (some v)).set (i + 1) none) := by
  refine av_hs_sub h fun j w hw => ?_
  rw [List.getElem?_set] at hw
  by_cases h0 : i + 1 = j
  · subst h0
    simp only [if_true] at hw
    split at hw <;> cases hw
  simp only [h0, if_false] at hw
  rw [List.getElem?_set] at hw
  by_cases hij : i = j
  · subst hij
    simp only [if_true] at hw
    split at hw
    · cases hw; exact List.mem_cons_self
    · cases hw
  · simp only [hij, if_false] at hw
    refine List.mem_cons_of_mem _ (List.mem_filter.mpr ⟨av_tl_mem.mpr ⟨w, hw, rfl⟩, ?_⟩)
    have h1 : ¬ j = i := fun q => hij q.symm
    have h5 : ¬ j = i + 1 := fun q => h0 q.symm
    simp only [av_cat_tv]
    by_cases h2 : j + 1 = i
    · subst h2
      have h3 : (av_cat w == 1) = true := by simpa [av_nl, hw] using hnl
      have h4 : av_cat w = 1 := by simpa using h3
      simp [h4]; omega
    · simp [h1, h2, h5]
-- ints
theorem av_lt {x y : Int} (hx : av_in x) (hy : av_in y) : Int32.ofInt x < Int32.ofInt y ↔ x < y := by
  rw [Int32.lt_iff_toInt_lt, Int32.toInt_ofInt_of_le (by have := hx.1; omega) (by have := hx.2; omega), Int32.toInt_ofInt_of_le (by have := hy.1; omega) (by have := hy.2; omega)]
theorem av_le {x y : Int} (hx : av_in x) (hy : av_in y) : Int32.ofInt x ≤ Int32.ofInt y ↔ x ≤ y := by
  rw [Int32.le_iff_toInt_le, Int32.toInt_ofInt_of_le (by have := hx.1; omega) (by have := hx.2; omega), Int32.toInt_ofInt_of_le (by have := hy.1; omega) (by have := hy.2; omega)]
theorem av_eq {x y : Int} (hx : av_in x) (hy : av_in y) : Int32.ofInt x = Int32.ofInt y ↔ x = y := by
  rw [← Int32.toInt_inj, Int32.toInt_ofInt_of_le (by have := hx.1; omega) (by have := hx.2; omega), Int32.toInt_ofInt_of_le (by have := hy.1; omega) (by have := hy.2; omega)]
theorem av_in0 : av_in 0 := ⟨by decide, by decide⟩
theorem av_ix {i : Int} {n : Nat} (h0 : 0 ≤ i) (hn : i < (n : Int)) (hi : av_in i) : vp_in (Int32.ofInt i) n := by
  rw [vp_in_iff, Int32.toInt_ofInt_of_le (by have := hi.1; omega) (by have := hi.2; omega)]
  exact ⟨h0, hn⟩
theorem av_cl {i : Int} (h0 : 0 ≤ i) (hi : av_in i) : (((Int32.ofInt i).toNatClampNeg : Nat) : Int) = i := by
  rw [Int32.toNatClampNeg_ofInt_of_le (by have := hi.1; omega) (by have := hi.2; omega)]
  exact Int.toNat_of_nonneg h0
/-- an array with one place changed -/
def uI (f : Int → Int) (i z : Int) : Int → Int := fun j => if j = i then z else f j
theorem av_uI {f : Int → Int} {i z : Int} (h0 : 0 ≤ i) (hi : av_in i) : upd (fun j : Nat => Int32.ofInt (f (j : Int))) (Int32.ofInt i).toNatClampNeg (Int32.ofInt z) = fun j : Nat => Int32.ofInt (uI f i z (j : Int)) := by
  funext j
  have hc := av_cl h0 hi
  by_cases hj : j = (Int32.ofInt i).toNatClampNeg
  · subst hj
    simp [upd, uI, hc]
  · have : ¬ (j : Int) = i := fun q => hj (by omega)
    simp [upd, uI, hj, this]
theorem av_div {x y : Int} (hx : av_in x) (hy : av_in y) : Int32.ofInt (x.tdiv y) = Int32.ofInt x / Int32.ofInt y :=
  Int32.ofInt_tdiv hx.1 (Int.le_of_lt_add_one hx.2) hy.1 (Int.le_of_lt_add_one hy.2)
theorem av_mod {x y : Int} : x - x.tdiv y * y = x.tmod y := by
  rw [Int.tmod_def, Int.mul_comm]
def av_iL (z : Int) : Prop := -9223372036854775808 ≤ z ∧ z < 9223372036854775808
theorem av_lcmp {x y : Int} (hx : av_iL x) (hy : av_iL y) : lg_cmp (Int64.ofInt x) (Int64.ofInt y) = Int32.ofInt (if y < x then 1 else if x = y then 0 else -1) := by
  have ex : (Int64.ofInt x).toInt = x := Int64.toInt_ofInt_of_le (by have := hx.1; omega) (by have := hx.2; omega)
  have ey : (Int64.ofInt y).toInt = y := Int64.toInt_ofInt_of_le (by have := hy.1; omega) (by have := hy.2; omega)
  have h1 : Int64.ofInt y < Int64.ofInt x ↔ y < x := by rw [Int64.lt_iff_toInt_lt, ex, ey]
  have h2 : Int64.ofInt x = Int64.ofInt y ↔ x = y := by rw [← Int64.toInt_inj, ex, ey]
  unfold lg_cmp
  by_cases c1 : y < x
  · rw [if_pos (h1.mpr c1), if_pos c1]; rfl
  · rw [if_neg (fun q => c1 (h1.mp q)), if_neg c1]
    by_cases c2 : x = y
    · rw [if_pos (h2.mpr c2), if_pos c2]; rfl
    · rw [if_neg (fun q => c2 (h2.mp q)), if_neg c2]; rfl
end
section
/-- the words that every method may use -/
def av_T : List Cond := lw_tbl.filter goodWord
def av_ws (M : av_M) : List Cond := Cond.code M.1 M.2.1 M.2.2.1 M.2.2.2 :: av_T
def av_tys (ty : Nat → ClassId) : List (ClassId × FieldType) := [(ty 0, .int), (ty 1, .boolean)]
/-- what stays through a method's run -/
def av_X (sc : av_sc) (M : av_M) (d : Nat) (p : Program) (R : Room) (s : State) (m : MethodId) (args : Array Value) (meth : Method) (c : Code) (D : va_G) (ty : Nat → ClassId) (A : Nat → Prop) (b mc ms : Nat) : Prop :=
  (p.tables.exec = Jvm.exec ∧ c.code = M.2.1 ∧ c.maxLocals = M.2.2.1 ∧ s.vm.findClass M.1.cls = some m.cls ∧ (M.1.name = "<init>" → meth.name = "<init>")) ∧ (∀ w ∈ av_T, w.before args s = true) ∧ (∀ w ∈ av_N, va_Nw w s) ∧ va_K D vwCl (av_tys ty) s ∧ (∀ q, s.heap.size ≤ q → A q) ∧ (d ≤ R.frames ∧ d * 40 ≤ R.locals ∧ mc ≤ R.cells ∧ ms ≤ R.slots) ∧ (va_X b sc.1 (fun j => Int32.ofInt (sc.2 (j : Int))) s s.heap ∧ b < s.heap.size ∧ ¬ A b)
/-- the cells -/
def av_G (al : Bool) (n0 : Nat) (D : va_G) (ty : Nat → ClassId) (A : Nat → Prop) (b : Nat) (ad0 ad : Nat → Nat) (s : State) (H : Heap) (locs : List Loc) (h : av_H) : Prop :=
  (n0 ≤ h.length ∧ (al = false → ad = ad0) ∧ ∀ i, i < n0 → ad i = ad0 i) ∧ va_P D vwCl (av_tw b ad ty h) H ∧ va_D A (av_tw b ad ty h) ∧ va_S A s.heap H locs
/-- the return instruction that fits the answer -/
def av_rt (M : av_M) (pc : Nat) : Option av_V → Prop
  | none => decode M.2.1 pc = .ok (.return_, 1) ∧ M.2.2.2 = none
  | some (.inl z) => decode M.2.1 pc = .ok (.ireturn, 1) ∧ (M.2.2.2 = some .int ∨ (M.2.2.2 = some .boolean ∧ (z = 0 ∨ z = 1)))
  | some (.inr (.inr (.inl _))) => decode M.2.1 pc = .ok (.lreturn, 1) ∧ M.2.2.2 = some .long
  | some _ => False
def av_HR (M : av_M) (al : Bool) (n0 : Nat) (Φ : Option av_V → av_H → Prop) (p : Program) (l : Launch) (e : Env) (R : Room) (s : State) (m : MethodId) (args : Array Value) (below : List Frame) (meth : Method) (c : Code) (D : va_G) (ty : Nat → ClassId) (A : Nat → Prop) (b : Nat) (ad0 : Nat → Nat) (mc ms : Nat) (Q : State → Prop) : Prop :=
  ∀ (ad : Nat → Nat) (H : Heap) (locs : List Loc) (ls : Array Slot) (cells slots pc : Nat) (r : Option av_V) (h : av_H), Φ r h → av_G al n0 D ty A b ad0 ad s H locs h → cells ≤ mc → slots ≤ ms → av_rt M pc r →
    W p l e R s m args below meth c H locs cells slots Q (F0 m pc ls (r.map (av_tv b ad)).toList)
/-- from here the method comes to an end with Φ -/
def av_Rn (sc : av_sc) (M : av_M) (d : Nat) (al : Bool) (n0 bc bs pc : Nat) (lv : av_L) (st : List av_V) (h : av_H) (Φ : Option av_V → av_H → Prop) : Prop :=
  ∀ (p : Program) (l : Launch) (e : Env) (R : Room) (s : State) (m : MethodId) (args : Array Value) (below : List Frame) (meth : Method) (c : Code) (D : va_G) (ty : Nat → ClassId) (A : Nat → Prop) (b : Nat) (ad0 : Nat → Nat) (mc ms : Nat) (Q : State → Prop),
    av_X sc M d p R s m args meth c D ty A b mc ms → av_HR M al n0 Φ p l e R s m args below meth c D ty A b ad0 mc ms Q →
    ∀ (ad : Nat → Nat) (H : Heap) (locs : List Loc) (ls : Array Slot) (cells slots : Nat), av_G al n0 D ty A b ad0 ad s H locs h → av_hs b ad ls M.2.2.1 lv → cells + bc ≤ mc → slots + bs ≤ ms →
      W p l e R s m args below meth c H locs cells slots Q (F0 m pc ls (st.map (av_tv b ad)))
/-- a method's start, and its end -/
def av_Pc (sc : av_sc) (D : va_G) (ty : Nat → ClassId) (b : Nat) (ad : Nat → Nat) (sz : Nat) (as : List av_V) (h : av_H) : Array Value → State → Prop :=
  va_Pc (as.map (av_tv b ad)) (fun U => U.heap.size = sz ∧ va_P D vwCl (av_tw b ad ty h) U.heap ∧ va_K D vwCl (av_tys ty) U ∧ va_D (fun _ => True) (av_tw b ad ty h) ∧ (∀ w ∈ av_N, va_Nw w U) ∧ va_X b sc.1 (fun j => Int32.ofInt (sc.2 (j : Int))) U U.heap ∧ b < sz ∧ ¬ va_A (av_tw b ad ty h) sz b)
def av_Q (al : Bool) (n0 : Nat) (D : va_G) (ty : Nat → ClassId) (b : Nat) (ad : Nat → Nat) (Φ : Option av_V → av_H → Prop) (A : Nat → Prop) : Array Value → State → Outcome → State → Prop := fun _ st oc t =>
  (∃ (r : Option av_V) (h : av_H) (ad' : Nat → Nat), oc = .returned (r.map (av_tv b ad')) ∧ Φ r h ∧ (n0 ≤ h.length ∧ (al = false → ad' = ad) ∧ ∀ i, i < n0 → ad' i = ad i) ∧ va_P D vwCl (av_tw b ad' ty h) t.heap ∧ va_D A (av_tw b ad' ty h)) ∧ va_F A st t
/-- a method's contract -/
def av_Ev (sc : av_sc) (M : av_M) (d : Nat) (al : Bool) (mc ms : Nat) (as : List av_V) (h : av_H) (Φ : Option av_V → av_H → Prop) : Prop :=
  ∀ (l : Launch) (D : va_G) (ty : Nat → ClassId) (b : Nat) (ad : Nat → Nat) (sz : Nat), Met l M.1 (av_ws M) { frames := d, cells := mc, slots := ms, locals := d * 40 }
    (av_Pc sc D ty b ad sz as h) (av_Q al h.length D ty b ad Φ (va_A (av_tw b ad ty h) sz)) mc ms (va_A (av_tw b ad ty h) sz)
theorem av_args : ∀ (vs : List Value) (k : Nat), (∀ v ∈ vs, v.category = 1) → ∀ (i : Nat) (v : Value), vs[i]? = some v → (k + i, v) ∈ lv_args k vs := by
  intro vs
  induction vs with
  | nil => intro k _ i v h; simp at h
  | cons a vs ih =>
    intro k hc i v h
    have ha : ¬ a.category = 2 := by rw [hc a List.mem_cons_self]; decide
    cases i with
    | zero =>
      simp only [List.getElem?_cons_zero, Option.some.injEq] at h
      subst h
      exact List.mem_cons_self
    | succ i =>
      simp only [List.getElem?_cons_succ] at h
      have h1 := ih (k + 1) (fun v hv => hc v (List.mem_cons_of_mem _ hv)) i v h
      simp only [lv_args, if_neg ha]
      rw [show k + (i + 1) = k + 1 + i by omega]
      exact List.mem_cons_of_mem _ h1
theorem av_sl : ∀ (vs : List Value), (∀ v ∈ vs, v.category = 1) → (lg_sl vs).length = vs.length := by
  intro vs
  induction vs with
  | nil => intro _; rfl
  | cons a vs ih =>
    intro hc
    have ha : ¬ a.category = 2 := by rw [hc a List.mem_cons_self]; decide
    have h1 := ih (fun v hv => hc v (List.mem_cons_of_mem _ hv))
    simp only [lg_sl, List.flatMap_cons, if_neg ha, List.length_append, List.length_cons, List.length_nil] at h1 ⊢
    omega
theorem av_ents {as : List av_V} {n : Nat} {lv : av_L} (hlv : as.map some ++ List.replicate n none = lv) {i : Nat} {v : av_V} (h : lv[i]? = some (some v)) : as[i]? = some v := by
  subst hlv
  by_cases hi : i < as.length
  · rw [List.getElem?_append_left (by simpa using hi), List.getElem?_map] at h
    cases hq : as[i]? with
    | none => rw [hq] at h; cases h
    | some w => rw [hq] at h; simpa using h
  · rw [List.getElem?_append_right (by simpa using Nat.le_of_not_lt hi)] at h
    have := List.mem_of_getElem? h
    simp at this
set_option maxHeartbeats 1000000 in
/-- a contract out of a run from the entry -/
theorem av_ev {sc : av_sc} {M : av_M} {d mc ms : Nat} {al : Bool} {as : List av_V} {h : av_H} {Φ : Option av_V → av_H → Prop} (hy : plainName M.1.cls = true) (hc : as.all (fun v => av_cat v == 1) = true) (hn : as.length ≤ M.2.2.1) {lv : av_L} (hlv : as.map some ++ List.replicate (M.2.2.1 - as.length) none = lv)
    (k : av_Rn sc M d al h.length mc ms 0 lv [] h Φ) : av_Ev sc M d al mc ms as h Φ := by
  intro l D ty b ad sz
  have hcat : ∀ v ∈ as.map (av_tv b ad), v.category = 1 := by
    intro v hv
    obtain ⟨w, hw, rfl⟩ := List.mem_map.mp hv
    rw [av_cat_tv]
    simpa using List.all_eq_true.mp hc w hw
  have hlen : (lg_sl (as.map (av_tv b ad))).length ≤ M.2.2.1 := by rw [av_sl _ hcat, List.length_map]; exact hn
  refine Met.ofW (cc := M.2.1) (maxL := M.2.2.1) (ret := M.2.2.2) hy rfl ?_
  intro p e s m args below meth c s₁ B hml hv
  obtain ⟨rfl, hsz, hP, hK, hD0, hN, hX, hbl, hbA⟩ := hv
  subst hsz
  have hx := B.exec
  have hb := B.bytes
  have hr := B.returns
  have hlocks := B.notSynchronized
  have hts := atoms_spec (ws := av_ws M) B.pre
  have hown : s.vm.findClass M.1.cls = some m.cls := findClass_of_methodNamed B.named
  have hD := hD0.self (sz := s.heap.size)
  rw [lg_entry_eq]
  have hl := lv_entry (as.map (av_tv b ad)) (n := M.2.2.1) hlen
  refine k p l e _ s m _ below meth c D ty (va_A (av_tw b ad ty h) s.heap.size) b ad mc ms _ ?_ ?_ ad s.heap [] _ 0 0 ⟨⟨Nat.le_refl _, fun _ => rfl, fun _ _ => rfl⟩, hP, hD, va_S.rf⟩ (av_hs_sub hl fun i v hv => ?_) (by omega) (by omega)
  · exact ⟨⟨hx, hb, hml, hown, fun hi => (name_of_methodNamed B.named B.method).1.trans hi⟩, fun w hw => hts w (List.mem_cons_of_mem _ hw), hN, hK, fun q hq => Or.inr hq, ⟨Nat.le_refl _, Nat.le_refl _, Nat.le_refl _, Nat.le_refl _⟩, hX, hbl, hbA⟩
  · intro ad' H' locs' ls' cells' slots' pc' r h' hΦ hG hc1 hs1 hrt
    obtain ⟨g1, g2, g3, g4⟩ := hG
    refine W.widen (k := mc) (n := ms) hc1 hs1 ?_
    rcases r with _ | (z | (_ | q) | z | u)
    · exact W.vret hx hb (hr.trans hrt.2) (fun t ht hW => ⟨⟨none, h', ad', rfl, hΦ, g1, by rw [ht]; exact g2, g3⟩, g4.F ht⟩) g4.2.2 hrt.1 hlocks
    · obtain ⟨hd, hty | ⟨hty, hz⟩⟩ := hrt
      · exact W.iret (v := Int32.ofInt z) hx hb (hr.trans hty) (fun t ht hW => ⟨⟨some (vI z), h', ad', rfl, hΦ, g1, by rw [ht]; exact g2, g3⟩, g4.F ht⟩) g4.2.2 hd hlocks
      · refine W.zret (v := Int32.ofInt z) (ty := .boolean) hx hb (hr.trans hty) ?_ (fun t ht hW => ⟨⟨some (vI z), h', ad', rfl, hΦ, g1, by rw [ht]; exact g2, g3⟩, g4.F ht⟩) g4.2.2 hd hlocks
        rcases hz with rfl | rfl <;> rfl
    · exact hrt.elim
    · exact hrt.elim
    · exact W.lret (v := Int64.ofInt z) hx hb (hr.trans hrt.2) (fun t ht hW => ⟨⟨some (vG z), h', ad', rfl, hΦ, g1, by rw [ht]; exact g2, g3⟩, g4.F ht⟩) g4.2.2 hrt.1 hlocks
    · exact hrt.elim
  · have h1 := av_ents hlv hv
    have h2 := av_args (as.map (av_tv b ad)) 0 hcat i (av_tv b ad v) (by rw [List.getElem?_map, h1]; rfl)
    simpa using h2
/-- a wider end -/
theorem av_Rn.mono {sc : av_sc} {M : av_M} {d n0 bc bs pc : Nat} {al : Bool} {lv : av_L} {st : List av_V} {h : av_H} {Φ Ψ : Option av_V → av_H → Prop} (hr : av_Rn sc M d al n0 bc bs pc lv st h Φ) (hi : ∀ r h, Φ r h → Ψ r h) : av_Rn sc M d al n0 bc bs pc lv st h Ψ := by
  intro p l e R s m args below meth c D ty A b ad0 mc ms Q X HR
  exact hr p l e R s m args below meth c D ty A b ad0 mc ms Q X (fun ad H locs ls cells slots pc r h hΦ => HR ad H locs ls cells slots pc r h (hi r h hΦ))
end
section
section
variable {sc : av_sc} {M : av_M} {d n0 bc bs pc : Nat} {al : Bool} {lv : av_L} {st : List av_V} {h : av_H} {Φ : Option av_V → av_H → Prop}
theorem rn_iconst (pc' : Nat) {n : Int} (hd : decode M.2.1 pc = .ok (.iconst n, 1)) (hp : pc + 1 = pc')  (k : av_Rn sc M d al n0 bc bs pc' lv (vI n :: st) h Φ) : av_Rn sc M d al n0 bc bs pc lv (st) h Φ := by
  subst hp
  intro p l e R s m args below meth c D ty A b ad0 mc ms Q X HR ad H locs ls cells slots G L hc hs
  have k := k p l e R s m args below meth c D ty A b ad0 mc ms Q X HR ad H locs ls cells slots G L hc hs
  exact lv_iconst X.1.1 X.1.2.1 hd rfl k
theorem rn_bipush (pc' : Nat) {n : Int} (hd : decode M.2.1 pc = .ok (.bipush n, 2)) (hp : pc + 2 = pc') (hv : (Int8.ofInt n).toInt32 = Int32.ofInt n) (k : av_Rn sc M d al n0 bc bs pc' lv (vI n :: st) h Φ) : av_Rn sc M d al n0 bc bs pc lv (st) h Φ := by
  subst hp
  intro p l e R s m args below meth c D ty A b ad0 mc ms Q X HR ad H locs ls cells slots G L hc hs
  have k := k p l e R s m args below meth c D ty A b ad0 mc ms Q X HR ad H locs ls cells slots G L hc hs
  exact lv_bipush X.1.1 X.1.2.1 hd hv k
theorem rn_sipush (pc' : Nat) {n : Int} (hd : decode M.2.1 pc = .ok (.sipush n, 3)) (hp : pc + 3 = pc') (hv : (Int16.ofInt n).toInt32 = Int32.ofInt n) (k : av_Rn sc M d al n0 bc bs pc' lv (vI n :: st) h Φ) : av_Rn sc M d al n0 bc bs pc lv (st) h Φ := by
  subst hp
  intro p l e R s m args below meth c D ty A b ad0 mc ms Q X HR ad H locs ls cells slots G L hc hs
  have k := k p l e R s m args below meth c D ty A b ad0 mc ms Q X HR ad H locs ls cells slots G L hc hs
  exact lv_sipush X.1.1 X.1.2.1 hd hv k
theorem rn_ldc (pc' : Nat) {i : Nat} {v : Int32} (hd : decode M.2.1 pc = .ok (.ldc i, 2)) (hp : pc + 2 = pc') (n : Int) (hw : Cond.constant M.1.cls i v ∈ av_T) (hv : v = Int32.ofInt n) (k : av_Rn sc M d al n0 bc bs pc' lv (vI n :: st) h Φ) : av_Rn sc M d al n0 bc bs pc lv (st) h Φ := by
  subst hp
  intro p l e R s m args below meth c D ty A b ad0 mc ms Q X HR ad H locs ls cells slots G L hc hs
  have k := k p l e R s m args below meth c D ty A b ad0 mc ms Q X HR ad H locs ls cells slots G L hc hs
  exact lv_ldc X.1.1 X.1.2.1 X.1.2.2.2.1 (X.2.1 _ hw) hd (hv ▸ k)
theorem rn_iload_n (pc' : Nat) {i : Fin 4} {z : Int} (hd : decode M.2.1 pc = .ok (.iload_n i, 1)) (hp : pc + 1 = pc') (hv : lv[(i : Nat)]? = some (some (vI z))) (k : av_Rn sc M d al n0 bc bs pc' lv (vI z :: st) h Φ) : av_Rn sc M d al n0 bc bs pc lv (st) h Φ := by
  subst hp
  intro p l e R s m args below meth c D ty A b ad0 mc ms Q X HR ad H locs ls cells slots G L hc hs
  have k := k p l e R s m args below meth c D ty A b ad0 mc ms Q X HR ad H locs ls cells slots G L hc hs
  exact lv_iload_n X.1.1 X.1.2.1 hd rfl (av_hs_at L hv) k
theorem rn_iload (pc' : Nat) {i : Nat} {z : Int} (hd : decode M.2.1 pc = .ok (.iload i, 2)) (hp : pc + 2 = pc') (hv : lv[i]? = some (some (vI z))) (k : av_Rn sc M d al n0 bc bs pc' lv (vI z :: st) h Φ) : av_Rn sc M d al n0 bc bs pc lv (st) h Φ := by
  subst hp
  intro p l e R s m args below meth c D ty A b ad0 mc ms Q X HR ad H locs ls cells slots G L hc hs
  have k := k p l e R s m args below meth c D ty A b ad0 mc ms Q X HR ad H locs ls cells slots G L hc hs
  exact lv_iload X.1.1 X.1.2.1 hd (av_hs_at L hv) k
theorem rn_aload_n (pc' : Nat) {i : Fin 4} {q : Nat} (hd : decode M.2.1 pc = .ok (.aload_n i, 1)) (hp : pc + 1 = pc') (hv : lv[(i : Nat)]? = some (some (vR q))) (k : av_Rn sc M d al n0 bc bs pc' lv (vR q :: st) h Φ) : av_Rn sc M d al n0 bc bs pc lv (st) h Φ := by
  subst hp
  intro p l e R s m args below meth c D ty A b ad0 mc ms Q X HR ad H locs ls cells slots G L hc hs
  have k := k p l e R s m args below meth c D ty A b ad0 mc ms Q X HR ad H locs ls cells slots G L hc hs
  exact lv_aload_n X.1.1 X.1.2.1 hd rfl (av_hs_at L hv) k
theorem rn_aload (pc' : Nat) {i : Nat} {q : Nat} (hd : decode M.2.1 pc = .ok (.aload i, 2)) (hp : pc + 2 = pc') (hv : lv[i]? = some (some (vR q))) (k : av_Rn sc M d al n0 bc bs pc' lv (vR q :: st) h Φ) : av_Rn sc M d al n0 bc bs pc lv (st) h Φ := by
  subst hp
  intro p l e R s m args below meth c D ty A b ad0 mc ms Q X HR ad H locs ls cells slots G L hc hs
  have k := k p l e R s m args below meth c D ty A b ad0 mc ms Q X HR ad H locs ls cells slots G L hc hs
  exact lv_aload X.1.1 X.1.2.1 hd (av_hs_at L hv) k
theorem rn_aload_nS (pc' : Nat) {i : Fin 4} (hd : decode M.2.1 pc = .ok (.aload_n i, 1)) (hp : pc + 1 = pc') (hv : lv[(i : Nat)]? = some (some vS)) (k : av_Rn sc M d al n0 bc bs pc' lv (vS :: st) h Φ) : av_Rn sc M d al n0 bc bs pc lv (st) h Φ := by
  subst hp
  intro p l e R s m args below meth c D ty A b ad0 mc ms Q X HR ad H locs ls cells slots G L hc hs
  have k := k p l e R s m args below meth c D ty A b ad0 mc ms Q X HR ad H locs ls cells slots G L hc hs
  exact lv_aload_n X.1.1 X.1.2.1 hd rfl (av_hs_at L hv) k
theorem rn_lload_n (pc' : Nat) {i : Fin 4} {z : Int} (hd : decode M.2.1 pc = .ok (.lload_n i, 1)) (hp : pc + 1 = pc') (hv : lv[(i : Nat)]? = some (some (vG z))) (k : av_Rn sc M d al n0 bc bs pc' lv (vG z :: st) h Φ) : av_Rn sc M d al n0 bc bs pc lv (st) h Φ := by
  subst hp
  intro p l e R s m args below meth c D ty A b ad0 mc ms Q X HR ad H locs ls cells slots G L hc hs
  have k := k p l e R s m args below meth c D ty A b ad0 mc ms Q X HR ad H locs ls cells slots G L hc hs
  exact lv_lload_n X.1.1 X.1.2.1 hd rfl (av_hs_at L hv) k
theorem rn_lload (pc' : Nat) {i : Nat} {z : Int} (hd : decode M.2.1 pc = .ok (.lload i, 2)) (hp : pc + 2 = pc') (hv : lv[i]? = some (some (vG z))) (k : av_Rn sc M d al n0 bc bs pc' lv (vG z :: st) h Φ) : av_Rn sc M d al n0 bc bs pc lv (st) h Φ := by
  subst hp
  intro p l e R s m args below meth c D ty A b ad0 mc ms Q X HR ad H locs ls cells slots G L hc hs
  have k := k p l e R s m args below meth c D ty A b ad0 mc ms Q X HR ad H locs ls cells slots G L hc hs
  exact lv_lload X.1.1 X.1.2.1 hd (av_hs_at L hv) k
theorem rn_istore_n (pc' : Nat) {i : Fin 4} {z : Int} {lv' : av_L} (hd : decode M.2.1 pc = .ok (.istore_n i, 1)) (hp : pc + 1 = pc') (hn : (i : Nat) < M.2.2.1) (hnl : av_nl lv (i : Nat) = true) (hl : (lv.set (i : Nat) (some (vI z))) = lv') (k : av_Rn sc M d al n0 bc bs pc' lv' (st) h Φ) : av_Rn sc M d al n0 bc bs pc lv (vI z :: st) h Φ := by
  subst hp; subst hl
  intro p l e R s m args below meth c D ty A b ad0 mc ms Q X HR ad H locs ls cells slots G L hc hs
  exact lv_istore_n X.1.1 X.1.2.1 hd rfl L hn rfl (fun ls' L' => k p l e R s m args below meth c D ty A b ad0 mc ms Q X HR ad H locs ls' cells slots G (av_st1 hnl L') hc hs)
theorem rn_istore (pc' : Nat) {i : Nat} {z : Int} {lv' : av_L} (hd : decode M.2.1 pc = .ok (.istore i, 2)) (hp : pc + 2 = pc') (hn : i < M.2.2.1) (hnl : av_nl lv i = true) (hl : (lv.set i (some (vI z))) = lv') (k : av_Rn sc M d al n0 bc bs pc' lv' (st) h Φ) : av_Rn sc M d al n0 bc bs pc lv (vI z :: st) h Φ := by
  subst hp; subst hl
  intro p l e R s m args below meth c D ty A b ad0 mc ms Q X HR ad H locs ls cells slots G L hc hs
  exact lv_istore X.1.1 X.1.2.1 hd  L hn rfl (fun ls' L' => k p l e R s m args below meth c D ty A b ad0 mc ms Q X HR ad H locs ls' cells slots G (av_st1 hnl L') hc hs)
theorem rn_astore_n (pc' : Nat) {i : Fin 4} {q : Nat} {lv' : av_L} (hd : decode M.2.1 pc = .ok (.astore_n i, 1)) (hp : pc + 1 = pc') (hn : (i : Nat) < M.2.2.1) (hnl : av_nl lv (i : Nat) = true) (hl : (lv.set (i : Nat) (some (vR q))) = lv') (k : av_Rn sc M d al n0 bc bs pc' lv' (st) h Φ) : av_Rn sc M d al n0 bc bs pc lv (vR q :: st) h Φ := by
  subst hp; subst hl
  intro p l e R s m args below meth c D ty A b ad0 mc ms Q X HR ad H locs ls cells slots G L hc hs
  exact lv_astore_n X.1.1 X.1.2.1 hd rfl L hn rfl (fun ls' L' => k p l e R s m args below meth c D ty A b ad0 mc ms Q X HR ad H locs ls' cells slots G (av_st1 hnl L') hc hs)
theorem rn_astore (pc' : Nat) {i : Nat} {q : Nat} {lv' : av_L} (hd : decode M.2.1 pc = .ok (.astore i, 2)) (hp : pc + 2 = pc') (hn : i < M.2.2.1) (hnl : av_nl lv i = true) (hl : (lv.set i (some (vR q))) = lv') (k : av_Rn sc M d al n0 bc bs pc' lv' (st) h Φ) : av_Rn sc M d al n0 bc bs pc lv (vR q :: st) h Φ := by
  subst hp; subst hl
  intro p l e R s m args below meth c D ty A b ad0 mc ms Q X HR ad H locs ls cells slots G L hc hs
  exact lv_astore X.1.1 X.1.2.1 hd  L hn rfl (fun ls' L' => k p l e R s m args below meth c D ty A b ad0 mc ms Q X HR ad H locs ls' cells slots G (av_st1 hnl L') hc hs)
theorem rn_lstore_n (pc' : Nat) {i : Fin 4} {z : Int} {lv' : av_L} (hd : decode M.2.1 pc = .ok (.lstore_n i, 1)) (hp : pc + 1 = pc') (hn : (i : Nat) + 1 < M.2.2.1) (hnl : av_nl lv (i : Nat) = true) (hl : ((lv.set (i : Nat) (some (vG z))).set ((i : Nat) + 1) none) = lv') (k : av_Rn sc M d al n0 bc bs pc' lv' (st) h Φ) : av_Rn sc M d al n0 bc bs pc lv (vG z :: st) h Φ := by
  subst hp; subst hl
  intro p l e R s m args below meth c D ty A b ad0 mc ms Q X HR ad H locs ls cells slots G L hc hs
  exact lv_lstore_n X.1.1 X.1.2.1 hd rfl L hn rfl (fun ls' L' => k p l e R s m args below meth c D ty A b ad0 mc ms Q X HR ad H locs ls' cells slots G (av_st2 hnl L') hc hs)
theorem rn_lstore (pc' : Nat) {i : Nat} {z : Int} {lv' : av_L} (hd : decode M.2.1 pc = .ok (.lstore i, 2)) (hp : pc + 2 = pc') (hn : i + 1 < M.2.2.1) (hnl : av_nl lv i = true) (hl : ((lv.set i (some (vG z))).set (i + 1) none) = lv') (k : av_Rn sc M d al n0 bc bs pc' lv' (st) h Φ) : av_Rn sc M d al n0 bc bs pc lv (vG z :: st) h Φ := by
  subst hp; subst hl
  intro p l e R s m args below meth c D ty A b ad0 mc ms Q X HR ad H locs ls cells slots G L hc hs
  exact lv_lstore X.1.1 X.1.2.1 hd  L hn rfl (fun ls' L' => k p l e R s m args below meth c D ty A b ad0 mc ms Q X HR ad H locs ls' cells slots G (av_st2 hnl L') hc hs)
theorem rn_iinc (pc' : Nat) {i : Nat} {n z : Int} {lv' : av_L} (hd : decode M.2.1 pc = .ok (.iinc i n, 3)) (hp : pc + 3 = pc') (hv : lv[i]? = some (some (vI z))) (hn : i < M.2.2.1) (hnl : av_nl lv i = true) (hl : lv.set i (some (vI (z + n))) = lv') (k : av_Rn sc M d al n0 bc bs pc' lv' (st) h Φ) : av_Rn sc M d al n0 bc bs pc lv (st) h Φ := by
  subst hp; subst hl
  intro p l e R s m args below meth c D ty A b ad0 mc ms Q X HR ad H locs ls cells slots G L hc hs
  obtain ⟨j, hj⟩ := List.getElem?_of_mem (av_tl_mem.mpr ⟨vI z, hv, rfl⟩ : (i, av_tv b ad (vI z)) ∈ av_tl b ad lv)
  exact lv_iinc (k := j) X.1.1 X.1.2.1 hd L hj (v := Int32.ofInt (z + n)) (Int32.ofInt_add z n).symm hn rfl (fun ls' L' => k p l e R s m args below meth c D ty A b ad0 mc ms Q X HR ad H locs ls' cells slots G (av_st1 (v := vI (z + n)) hnl L') hc hs)
theorem rn_iadd (pc' : Nat) {x y : Int} (hd : decode M.2.1 pc = .ok (.iadd, 1)) (hp : pc + 1 = pc')  (k : av_Rn sc M d al n0 bc bs pc' lv (vI (x + y) :: st) h Φ) : av_Rn sc M d al n0 bc bs pc lv (vI y :: vI x :: st) h Φ := by
  subst hp
  intro p l e R s m args below meth c D ty A b ad0 mc ms Q X HR ad H locs ls cells slots G L hc hs
  have k := k p l e R s m args below meth c D ty A b ad0 mc ms Q X HR ad H locs ls cells slots G L hc hs
  exact lv_iadd X.1.1 X.1.2.1 hd (by rw [← Int32.ofInt_add]; exact k)
theorem rn_isub (pc' : Nat) {x y : Int} (hd : decode M.2.1 pc = .ok (.isub, 1)) (hp : pc + 1 = pc')  (k : av_Rn sc M d al n0 bc bs pc' lv (vI (x - y) :: st) h Φ) : av_Rn sc M d al n0 bc bs pc lv (vI y :: vI x :: st) h Φ := by
  subst hp
  intro p l e R s m args below meth c D ty A b ad0 mc ms Q X HR ad H locs ls cells slots G L hc hs
  have k := k p l e R s m args below meth c D ty A b ad0 mc ms Q X HR ad H locs ls cells slots G L hc hs
  exact lv_isub X.1.1 X.1.2.1 hd (by rw [← Int32.ofInt_sub]; exact k)
theorem rn_imul (pc' : Nat) {x y : Int} (hd : decode M.2.1 pc = .ok (.imul, 1)) (hp : pc + 1 = pc')  (k : av_Rn sc M d al n0 bc bs pc' lv (vI (x * y) :: st) h Φ) : av_Rn sc M d al n0 bc bs pc lv (vI y :: vI x :: st) h Φ := by
  subst hp
  intro p l e R s m args below meth c D ty A b ad0 mc ms Q X HR ad H locs ls cells slots G L hc hs
  have k := k p l e R s m args below meth c D ty A b ad0 mc ms Q X HR ad H locs ls cells slots G L hc hs
  exact lv_imul X.1.1 X.1.2.1 hd (by rw [← Int32.ofInt_mul]; exact k)
theorem rn_ineg (pc' : Nat) {x : Int} (hd : decode M.2.1 pc = .ok (.ineg, 1)) (hp : pc + 1 = pc')  (k : av_Rn sc M d al n0 bc bs pc' lv (vI (-x) :: st) h Φ) : av_Rn sc M d al n0 bc bs pc lv (vI x :: st) h Φ := by
  subst hp
  intro p l e R s m args below meth c D ty A b ad0 mc ms Q X HR ad H locs ls cells slots G L hc hs
  have k := k p l e R s m args below meth c D ty A b ad0 mc ms Q X HR ad H locs ls cells slots G L hc hs
  exact lv_ineg X.1.1 X.1.2.1 hd (by rw [← Int32.ofInt_neg]; exact k)
theorem rn_idiv (pc' : Nat) {x y : Int} (hd : decode M.2.1 pc = .ok (.idiv, 1)) (hp : pc + 1 = pc') (hx : av_in x) (hy : av_in y) (hy0 : y ≠ 0) (k : av_Rn sc M d al n0 bc bs pc' lv (vI (x.tdiv y) :: st) h Φ) : av_Rn sc M d al n0 bc bs pc lv (vI y :: vI x :: st) h Φ := by
  subst hp
  intro p l e R s m args below meth c D ty A b ad0 mc ms Q X HR ad H locs ls cells slots G L hc hs
  have k := k p l e R s m args below meth c D ty A b ad0 mc ms Q X HR ad H locs ls cells slots G L hc hs
  exact lv_idiv X.1.1 X.1.2.1 hd (fun q => hy0 ((av_eq hy av_in0).mp q)) (by rw [← av_div hx hy]; exact k)
theorem rn_irem (pc' : Nat) {x y : Int} (hd : decode M.2.1 pc = .ok (.irem, 1)) (hp : pc + 1 = pc') (hx : av_in x) (hy : av_in y) (hy0 : y ≠ 0) (k : av_Rn sc M d al n0 bc bs pc' lv (vI (x.tmod y) :: st) h Φ) : av_Rn sc M d al n0 bc bs pc lv (vI y :: vI x :: st) h Φ := by
  subst hp
  intro p l e R s m args below meth c D ty A b ad0 mc ms Q X HR ad H locs ls cells slots G L hc hs
  have k := k p l e R s m args below meth c D ty A b ad0 mc ms Q X HR ad H locs ls cells slots G L hc hs
  exact lv_irem X.1.1 X.1.2.1 hd (fun q => hy0 ((av_eq hy av_in0).mp q)) (by rw [← av_div hx hy, ← Int32.ofInt_mul, ← Int32.ofInt_sub, av_mod]; exact k)
theorem rn_iand (pc' : Nat) {x y : Int} (hd : decode M.2.1 pc = .ok (.iand, 1)) (hp : pc + 1 = pc') (z : Int) (hz : Int32.ofInt x &&& Int32.ofInt y = Int32.ofInt z) (k : av_Rn sc M d al n0 bc bs pc' lv (vI z :: st) h Φ) : av_Rn sc M d al n0 bc bs pc lv (vI y :: vI x :: st) h Φ := by
  subst hp
  intro p l e R s m args below meth c D ty A b ad0 mc ms Q X HR ad H locs ls cells slots G L hc hs
  have k := k p l e R s m args below meth c D ty A b ad0 mc ms Q X HR ad H locs ls cells slots G L hc hs
  exact lv_iand X.1.1 X.1.2.1 hd (by rw [hz]; exact k)
theorem rn_ior (pc' : Nat) {x y : Int} (hd : decode M.2.1 pc = .ok (.ior, 1)) (hp : pc + 1 = pc') (z : Int) (hz : Int32.ofInt x ||| Int32.ofInt y = Int32.ofInt z) (k : av_Rn sc M d al n0 bc bs pc' lv (vI z :: st) h Φ) : av_Rn sc M d al n0 bc bs pc lv (vI y :: vI x :: st) h Φ := by
  subst hp
  intro p l e R s m args below meth c D ty A b ad0 mc ms Q X HR ad H locs ls cells slots G L hc hs
  have k := k p l e R s m args below meth c D ty A b ad0 mc ms Q X HR ad H locs ls cells slots G L hc hs
  exact lv_ior X.1.1 X.1.2.1 hd (by rw [hz]; exact k)
theorem rn_iushr (pc' : Nat) {x y : Int} (hd : decode M.2.1 pc = .ok (.iushr, 1)) (hp : pc + 1 = pc') (z : Int) (hz : ((Int32.ofInt x).toUInt32 >>> ((Int32.ofInt y).toUInt32 &&& Int32.toUInt32 31)).toInt32 = Int32.ofInt z) (k : av_Rn sc M d al n0 bc bs pc' lv (vI z :: st) h Φ) : av_Rn sc M d al n0 bc bs pc lv (vI y :: vI x :: st) h Φ := by
  subst hp
  intro p l e R s m args below meth c D ty A b ad0 mc ms Q X HR ad H locs ls cells slots G L hc hs
  have k := k p l e R s m args below meth c D ty A b ad0 mc ms Q X HR ad H locs ls cells slots G L hc hs
  exact lv_iushr X.1.1 X.1.2.1 hd hz k
theorem rn_i2l (pc' : Nat) {x : Int} (hd : decode M.2.1 pc = .ok (.i2l, 1)) (hp : pc + 1 = pc') (hx : av_in x) (k : av_Rn sc M d al n0 bc bs pc' lv (vG x :: st) h Φ) : av_Rn sc M d al n0 bc bs pc lv (vI x :: st) h Φ := by
  subst hp
  intro p l e R s m args below meth c D ty A b ad0 mc ms Q X HR ad H locs ls cells slots G L hc hs
  have k := k p l e R s m args below meth c D ty A b ad0 mc ms Q X HR ad H locs ls cells slots G L hc hs
  exact lv_i2l X.1.1 X.1.2.1 hd (Int32.toInt64_ofInt hx.1 (Int.le_of_lt_add_one hx.2)) k
theorem rn_lmul (pc' : Nat) {x y : Int} (hd : decode M.2.1 pc = .ok (.lmul, 1)) (hp : pc + 1 = pc')  (k : av_Rn sc M d al n0 bc bs pc' lv (vG (x * y) :: st) h Φ) : av_Rn sc M d al n0 bc bs pc lv (vG y :: vG x :: st) h Φ := by
  subst hp
  intro p l e R s m args below meth c D ty A b ad0 mc ms Q X HR ad H locs ls cells slots G L hc hs
  have k := k p l e R s m args below meth c D ty A b ad0 mc ms Q X HR ad H locs ls cells slots G L hc hs
  exact lv_lmul X.1.1 X.1.2.1 hd (by rw [← Int64.ofInt_mul]; exact k)
theorem rn_ladd (pc' : Nat) {x y : Int} (hd : decode M.2.1 pc = .ok (.ladd, 1)) (hp : pc + 1 = pc')  (k : av_Rn sc M d al n0 bc bs pc' lv (vG (x + y) :: st) h Φ) : av_Rn sc M d al n0 bc bs pc lv (vG y :: vG x :: st) h Φ := by
  subst hp
  intro p l e R s m args below meth c D ty A b ad0 mc ms Q X HR ad H locs ls cells slots G L hc hs
  have k := k p l e R s m args below meth c D ty A b ad0 mc ms Q X HR ad H locs ls cells slots G L hc hs
  exact lv_ladd X.1.1 X.1.2.1 hd (by rw [← Int64.ofInt_add]; exact k)
theorem rn_lconst0 (pc' : Nat)  (hd : decode M.2.1 pc = .ok (.lconst 0, 1)) (hp : pc + 1 = pc')  (k : av_Rn sc M d al n0 bc bs pc' lv (vG 0 :: st) h Φ) : av_Rn sc M d al n0 bc bs pc lv (st) h Φ := by
  subst hp
  intro p l e R s m args below meth c D ty A b ad0 mc ms Q X HR ad H locs ls cells slots G L hc hs
  have k := k p l e R s m args below meth c D ty A b ad0 mc ms Q X HR ad H locs ls cells slots G L hc hs
  exact lv_lconst (v := Int64.ofInt 0) X.1.1 X.1.2.1 hd rfl k
theorem rn_lcmp (pc' : Nat) {x y : Int} (hd : decode M.2.1 pc = .ok (.lcmp, 1)) (hp : pc + 1 = pc') (hx : av_iL x) (hy : av_iL y) (k : av_Rn sc M d al n0 bc bs pc' lv (vI (if y < x then 1 else if x = y then 0 else -1) :: st) h Φ) : av_Rn sc M d al n0 bc bs pc lv (vG y :: vG x :: st) h Φ := by
  subst hp
  intro p l e R s m args below meth c D ty A b ad0 mc ms Q X HR ad H locs ls cells slots G L hc hs
  have k := k p l e R s m args below meth c D ty A b ad0 mc ms Q X HR ad H locs ls cells slots G L hc hs
  exact W.lcmp X.1.1 X.1.2.1 hd (by rw [av_lcmp hx hy]; exact k)
theorem rn_dup (pc' : Nat) {v : av_V} (hd : decode M.2.1 pc = .ok (.dup, 1)) (hp : pc + 1 = pc') (hv : av_cat v = 1) (k : av_Rn sc M d al n0 bc bs pc' lv (v :: v :: st) h Φ) : av_Rn sc M d al n0 bc bs pc lv (v :: st) h Φ := by
  subst hp
  intro p l e R s m args below meth c D ty A b ad0 mc ms Q X HR ad H locs ls cells slots G L hc hs
  have k := k p l e R s m args below meth c D ty A b ad0 mc ms Q X HR ad H locs ls cells slots G L hc hs
  exact lv_dup X.1.1 X.1.2.1 hd ((av_cat_tv _ _ _).trans hv) k
theorem rn_pop (pc' : Nat) {v : av_V} (hd : decode M.2.1 pc = .ok (.pop, 1)) (hp : pc + 1 = pc') (hv : av_cat v = 1) (k : av_Rn sc M d al n0 bc bs pc' lv (st) h Φ) : av_Rn sc M d al n0 bc bs pc lv (v :: st) h Φ := by
  subst hp
  intro p l e R s m args below meth c D ty A b ad0 mc ms Q X HR ad H locs ls cells slots G L hc hs
  have k := k p l e R s m args below meth c D ty A b ad0 mc ms Q X HR ad H locs ls cells slots G L hc hs
  exact lv_pop X.1.1 X.1.2.1 hd ((av_cat_tv _ _ _).trans hv) k
theorem rn_dup_x1 (pc' : Nat) {v v2 : av_V} (hd : decode M.2.1 pc = .ok (.dup_x1, 1)) (hp : pc + 1 = pc') (hv : av_cat v = 1) (hv2 : av_cat v2 = 1) (k : av_Rn sc M d al n0 bc bs pc' lv (v :: v2 :: v :: st) h Φ) : av_Rn sc M d al n0 bc bs pc lv (v :: v2 :: st) h Φ := by
  subst hp
  intro p l e R s m args below meth c D ty A b ad0 mc ms Q X HR ad H locs ls cells slots G L hc hs
  have k := k p l e R s m args below meth c D ty A b ad0 mc ms Q X HR ad H locs ls cells slots G L hc hs
  exact lv_dup_x1 X.1.1 X.1.2.1 hd ((av_cat_tv _ _ _).trans hv) ((av_cat_tv _ _ _).trans hv2) k
theorem rn_dup_x2 (pc' : Nat) {v v2 v3 : av_V} (hd : decode M.2.1 pc = .ok (.dup_x2, 1)) (hp : pc + 1 = pc') (hv : av_cat v = 1) (hv2 : av_cat v2 = 1) (hv3 : av_cat v3 = 1) (k : av_Rn sc M d al n0 bc bs pc' lv (v :: v2 :: v3 :: v :: st) h Φ) : av_Rn sc M d al n0 bc bs pc lv (v :: v2 :: v3 :: st) h Φ := by
  subst hp
  intro p l e R s m args below meth c D ty A b ad0 mc ms Q X HR ad H locs ls cells slots G L hc hs
  have k := k p l e R s m args below meth c D ty A b ad0 mc ms Q X HR ad H locs ls cells slots G L hc hs
  exact lv_dup_x2 X.1.1 X.1.2.1 hd ((av_cat_tv _ _ _).trans hv) ((av_cat_tv _ _ _).trans hv2) ((av_cat_tv _ _ _).trans hv3) k
theorem rn_dup2 (pc' : Nat) {v v2 : av_V} (hd : decode M.2.1 pc = .ok (.dup2, 1)) (hp : pc + 1 = pc') (hv : av_cat v = 1) (hv2 : av_cat v2 = 1) (k : av_Rn sc M d al n0 bc bs pc' lv (v :: v2 :: v :: v2 :: st) h Φ) : av_Rn sc M d al n0 bc bs pc lv (v :: v2 :: st) h Φ := by
  subst hp
  intro p l e R s m args below meth c D ty A b ad0 mc ms Q X HR ad H locs ls cells slots G L hc hs
  have k := k p l e R s m args below meth c D ty A b ad0 mc ms Q X HR ad H locs ls cells slots G L hc hs
  exact lv_dup2_11 X.1.1 X.1.2.1 hd ((av_cat_tv _ _ _).trans hv) ((av_cat_tv _ _ _).trans hv2) k
theorem rn_goto (tgt : Nat) {off : Int} (hd : decode M.2.1 pc = .ok (.goto off, 3)) (ht : (pc : Int) + off = (tgt : Int)) (k : av_Rn sc M d al n0 bc bs tgt lv (st) h Φ) : av_Rn sc M d al n0 bc bs pc lv (st) h Φ := by
  intro p l e R s m args below meth c D ty A b ad0 mc ms Q X HR ad H locs ls cells slots G L hc hs
  exact lv_goto X.1.1 X.1.2.1 hd ht (k p l e R s m args below meth c D ty A b ad0 mc ms Q X HR ad H locs ls cells slots G L hc hs)
theorem rn_icmp_eq (tgt pc' : Nat) {off : Int} {x y : Int} (hd : decode M.2.1 pc = .ok (.if_icmp .eq off, 3)) (ht : (pc : Int) + off = (tgt : Int)) (hp : pc + 3 = pc') (hx : av_in x) (hy : av_in y) (kt : x = y → av_Rn sc M d al n0 bc bs tgt lv (st) h Φ) (kf : ¬ x = y → av_Rn sc M d al n0 bc bs pc' lv (st) h Φ) : av_Rn sc M d al n0 bc bs pc lv (vI y :: vI x :: st) h Φ := by
  subst hp
  intro p l e R s m args below meth c D ty A b ad0 mc ms Q X HR ad H locs ls cells slots G L hc hs
  exact lv_icmp_eq X.1.1 X.1.2.1 hd ht (fun q => kt ((av_eq hx hy).mp q) p l e R s m args below meth c D ty A b ad0 mc ms Q X HR ad H locs ls cells slots G L hc hs) (fun q => kf (fun z => q ((av_eq hx hy).mpr z)) p l e R s m args below meth c D ty A b ad0 mc ms Q X HR ad H locs ls cells slots G L hc hs)
theorem rn_if_eq (tgt pc' : Nat) {off : Int} {x : Int} (hd : decode M.2.1 pc = .ok (.ifCond .eq off, 3)) (ht : (pc : Int) + off = (tgt : Int)) (hp : pc + 3 = pc') (hx : av_in x) (kt : x = 0 → av_Rn sc M d al n0 bc bs tgt lv (st) h Φ) (kf : ¬ x = 0 → av_Rn sc M d al n0 bc bs pc' lv (st) h Φ) : av_Rn sc M d al n0 bc bs pc lv (vI x :: st) h Φ := by
  subst hp
  intro p l e R s m args below meth c D ty A b ad0 mc ms Q X HR ad H locs ls cells slots G L hc hs
  exact lv_if_eq X.1.1 X.1.2.1 hd ht (fun q => kt ((av_eq hx av_in0).mp q) p l e R s m args below meth c D ty A b ad0 mc ms Q X HR ad H locs ls cells slots G L hc hs) (fun q => kf (fun z => q ((av_eq hx av_in0).mpr z)) p l e R s m args below meth c D ty A b ad0 mc ms Q X HR ad H locs ls cells slots G L hc hs)
theorem rn_icmp_ne (tgt pc' : Nat) {off : Int} {x y : Int} (hd : decode M.2.1 pc = .ok (.if_icmp .ne off, 3)) (ht : (pc : Int) + off = (tgt : Int)) (hp : pc + 3 = pc') (hx : av_in x) (hy : av_in y) (kt : ¬ x = y → av_Rn sc M d al n0 bc bs tgt lv (st) h Φ) (kf : x = y → av_Rn sc M d al n0 bc bs pc' lv (st) h Φ) : av_Rn sc M d al n0 bc bs pc lv (vI y :: vI x :: st) h Φ := by
  subst hp
  intro p l e R s m args below meth c D ty A b ad0 mc ms Q X HR ad H locs ls cells slots G L hc hs
  exact lv_icmp_ne X.1.1 X.1.2.1 hd ht (fun q => kt (fun z => q ((av_eq hx hy).mpr z)) p l e R s m args below meth c D ty A b ad0 mc ms Q X HR ad H locs ls cells slots G L hc hs) (fun q => kf ((av_eq hx hy).mp q) p l e R s m args below meth c D ty A b ad0 mc ms Q X HR ad H locs ls cells slots G L hc hs)
theorem rn_if_ne (tgt pc' : Nat) {off : Int} {x : Int} (hd : decode M.2.1 pc = .ok (.ifCond .ne off, 3)) (ht : (pc : Int) + off = (tgt : Int)) (hp : pc + 3 = pc') (hx : av_in x) (kt : ¬ x = 0 → av_Rn sc M d al n0 bc bs tgt lv (st) h Φ) (kf : x = 0 → av_Rn sc M d al n0 bc bs pc' lv (st) h Φ) : av_Rn sc M d al n0 bc bs pc lv (vI x :: st) h Φ := by
  subst hp
  intro p l e R s m args below meth c D ty A b ad0 mc ms Q X HR ad H locs ls cells slots G L hc hs
  exact lv_if_ne X.1.1 X.1.2.1 hd ht (fun q => kt (fun z => q ((av_eq hx av_in0).mpr z)) p l e R s m args below meth c D ty A b ad0 mc ms Q X HR ad H locs ls cells slots G L hc hs) (fun q => kf ((av_eq hx av_in0).mp q) p l e R s m args below meth c D ty A b ad0 mc ms Q X HR ad H locs ls cells slots G L hc hs)
theorem rn_icmp_lt (tgt pc' : Nat) {off : Int} {x y : Int} (hd : decode M.2.1 pc = .ok (.if_icmp .lt off, 3)) (ht : (pc : Int) + off = (tgt : Int)) (hp : pc + 3 = pc') (hx : av_in x) (hy : av_in y) (kt : x < y → av_Rn sc M d al n0 bc bs tgt lv (st) h Φ) (kf : y ≤ x → av_Rn sc M d al n0 bc bs pc' lv (st) h Φ) : av_Rn sc M d al n0 bc bs pc lv (vI y :: vI x :: st) h Φ := by
  subst hp
  intro p l e R s m args below meth c D ty A b ad0 mc ms Q X HR ad H locs ls cells slots G L hc hs
  exact lv_icmp_lt X.1.1 X.1.2.1 hd ht (fun q => kt ((av_lt hx hy).mp q) p l e R s m args below meth c D ty A b ad0 mc ms Q X HR ad H locs ls cells slots G L hc hs) (fun q => kf (Int.not_lt.mp (fun z => q ((av_lt hx hy).mpr z))) p l e R s m args below meth c D ty A b ad0 mc ms Q X HR ad H locs ls cells slots G L hc hs)
theorem rn_if_lt (tgt pc' : Nat) {off : Int} {x : Int} (hd : decode M.2.1 pc = .ok (.ifCond .lt off, 3)) (ht : (pc : Int) + off = (tgt : Int)) (hp : pc + 3 = pc') (hx : av_in x) (kt : x < 0 → av_Rn sc M d al n0 bc bs tgt lv (st) h Φ) (kf : 0 ≤ x → av_Rn sc M d al n0 bc bs pc' lv (st) h Φ) : av_Rn sc M d al n0 bc bs pc lv (vI x :: st) h Φ := by
  subst hp
  intro p l e R s m args below meth c D ty A b ad0 mc ms Q X HR ad H locs ls cells slots G L hc hs
  exact lv_if_lt X.1.1 X.1.2.1 hd ht (fun q => kt ((av_lt hx av_in0).mp q) p l e R s m args below meth c D ty A b ad0 mc ms Q X HR ad H locs ls cells slots G L hc hs) (fun q => kf (Int.not_lt.mp (fun z => q ((av_lt hx av_in0).mpr z))) p l e R s m args below meth c D ty A b ad0 mc ms Q X HR ad H locs ls cells slots G L hc hs)
theorem rn_icmp_ge (tgt pc' : Nat) {off : Int} {x y : Int} (hd : decode M.2.1 pc = .ok (.if_icmp .ge off, 3)) (ht : (pc : Int) + off = (tgt : Int)) (hp : pc + 3 = pc') (hx : av_in x) (hy : av_in y) (kt : y ≤ x → av_Rn sc M d al n0 bc bs tgt lv (st) h Φ) (kf : x < y → av_Rn sc M d al n0 bc bs pc' lv (st) h Φ) : av_Rn sc M d al n0 bc bs pc lv (vI y :: vI x :: st) h Φ := by
  subst hp
  intro p l e R s m args below meth c D ty A b ad0 mc ms Q X HR ad H locs ls cells slots G L hc hs
  exact lv_icmp_ge X.1.1 X.1.2.1 hd ht (fun q => kt ((av_le hy hx).mp q) p l e R s m args below meth c D ty A b ad0 mc ms Q X HR ad H locs ls cells slots G L hc hs) (fun q => kf (Int.not_le.mp (fun z => q ((av_le hy hx).mpr z))) p l e R s m args below meth c D ty A b ad0 mc ms Q X HR ad H locs ls cells slots G L hc hs)
theorem rn_if_ge (tgt pc' : Nat) {off : Int} {x : Int} (hd : decode M.2.1 pc = .ok (.ifCond .ge off, 3)) (ht : (pc : Int) + off = (tgt : Int)) (hp : pc + 3 = pc') (hx : av_in x) (kt : 0 ≤ x → av_Rn sc M d al n0 bc bs tgt lv (st) h Φ) (kf : x < 0 → av_Rn sc M d al n0 bc bs pc' lv (st) h Φ) : av_Rn sc M d al n0 bc bs pc lv (vI x :: st) h Φ := by
  subst hp
  intro p l e R s m args below meth c D ty A b ad0 mc ms Q X HR ad H locs ls cells slots G L hc hs
  exact lv_if_ge X.1.1 X.1.2.1 hd ht (fun q => kt ((av_le av_in0 hx).mp q) p l e R s m args below meth c D ty A b ad0 mc ms Q X HR ad H locs ls cells slots G L hc hs) (fun q => kf (Int.not_le.mp (fun z => q ((av_le av_in0 hx).mpr z))) p l e R s m args below meth c D ty A b ad0 mc ms Q X HR ad H locs ls cells slots G L hc hs)
theorem rn_icmp_gt (tgt pc' : Nat) {off : Int} {x y : Int} (hd : decode M.2.1 pc = .ok (.if_icmp .gt off, 3)) (ht : (pc : Int) + off = (tgt : Int)) (hp : pc + 3 = pc') (hx : av_in x) (hy : av_in y) (kt : y < x → av_Rn sc M d al n0 bc bs tgt lv (st) h Φ) (kf : x ≤ y → av_Rn sc M d al n0 bc bs pc' lv (st) h Φ) : av_Rn sc M d al n0 bc bs pc lv (vI y :: vI x :: st) h Φ := by
  subst hp
  intro p l e R s m args below meth c D ty A b ad0 mc ms Q X HR ad H locs ls cells slots G L hc hs
  exact lv_icmp_gt X.1.1 X.1.2.1 hd ht (fun q => kt ((av_lt hy hx).mp q) p l e R s m args below meth c D ty A b ad0 mc ms Q X HR ad H locs ls cells slots G L hc hs) (fun q => kf (Int.not_lt.mp (fun z => q ((av_lt hy hx).mpr z))) p l e R s m args below meth c D ty A b ad0 mc ms Q X HR ad H locs ls cells slots G L hc hs)
theorem rn_if_gt (tgt pc' : Nat) {off : Int} {x : Int} (hd : decode M.2.1 pc = .ok (.ifCond .gt off, 3)) (ht : (pc : Int) + off = (tgt : Int)) (hp : pc + 3 = pc') (hx : av_in x) (kt : 0 < x → av_Rn sc M d al n0 bc bs tgt lv (st) h Φ) (kf : x ≤ 0 → av_Rn sc M d al n0 bc bs pc' lv (st) h Φ) : av_Rn sc M d al n0 bc bs pc lv (vI x :: st) h Φ := by
  subst hp
  intro p l e R s m args below meth c D ty A b ad0 mc ms Q X HR ad H locs ls cells slots G L hc hs
  exact lv_if_gt X.1.1 X.1.2.1 hd ht (fun q => kt ((av_lt av_in0 hx).mp q) p l e R s m args below meth c D ty A b ad0 mc ms Q X HR ad H locs ls cells slots G L hc hs) (fun q => kf (Int.not_lt.mp (fun z => q ((av_lt av_in0 hx).mpr z))) p l e R s m args below meth c D ty A b ad0 mc ms Q X HR ad H locs ls cells slots G L hc hs)
theorem rn_icmp_le (tgt pc' : Nat) {off : Int} {x y : Int} (hd : decode M.2.1 pc = .ok (.if_icmp .le off, 3)) (ht : (pc : Int) + off = (tgt : Int)) (hp : pc + 3 = pc') (hx : av_in x) (hy : av_in y) (kt : x ≤ y → av_Rn sc M d al n0 bc bs tgt lv (st) h Φ) (kf : y < x → av_Rn sc M d al n0 bc bs pc' lv (st) h Φ) : av_Rn sc M d al n0 bc bs pc lv (vI y :: vI x :: st) h Φ := by
  subst hp
  intro p l e R s m args below meth c D ty A b ad0 mc ms Q X HR ad H locs ls cells slots G L hc hs
  exact lv_icmp_le X.1.1 X.1.2.1 hd ht (fun q => kt ((av_le hx hy).mp q) p l e R s m args below meth c D ty A b ad0 mc ms Q X HR ad H locs ls cells slots G L hc hs) (fun q => kf (Int.not_le.mp (fun z => q ((av_le hx hy).mpr z))) p l e R s m args below meth c D ty A b ad0 mc ms Q X HR ad H locs ls cells slots G L hc hs)
theorem rn_if_le (tgt pc' : Nat) {off : Int} {x : Int} (hd : decode M.2.1 pc = .ok (.ifCond .le off, 3)) (ht : (pc : Int) + off = (tgt : Int)) (hp : pc + 3 = pc') (hx : av_in x) (kt : x ≤ 0 → av_Rn sc M d al n0 bc bs tgt lv (st) h Φ) (kf : 0 < x → av_Rn sc M d al n0 bc bs pc' lv (st) h Φ) : av_Rn sc M d al n0 bc bs pc lv (vI x :: st) h Φ := by
  subst hp
  intro p l e R s m args below meth c D ty A b ad0 mc ms Q X HR ad H locs ls cells slots G L hc hs
  exact lv_if_le X.1.1 X.1.2.1 hd ht (fun q => kt ((av_le hx av_in0).mp q) p l e R s m args below meth c D ty A b ad0 mc ms Q X HR ad H locs ls cells slots G L hc hs) (fun q => kf (Int.not_le.mp (fun z => q ((av_le hx av_in0).mpr z))) p l e R s m args below meth c D ty A b ad0 mc ms Q X HR ad H locs ls cells slots G L hc hs)
theorem rn_ireturn {z : Int} (hd : decode M.2.1 pc = .ok (.ireturn, 1)) (hr : M.2.2.2 = some .int ∨ (M.2.2.2 = some .boolean ∧ (z = 0 ∨ z = 1))) (k : Φ (some (vI z)) h) : av_Rn sc M d al n0 bc bs pc lv ([vI z]) h Φ := by
  intro p l e R s m args below meth c D ty A b ad0 mc ms Q X HR ad H locs ls cells slots G L hc hs
  exact HR ad H locs ls cells slots pc (some (vI z)) h k G (by omega) (by omega) ⟨hd, hr⟩
theorem rn_return (hd : decode M.2.1 pc = .ok (.return_, 1)) (hr : M.2.2.2 = none) (k : Φ none h) : av_Rn sc M d al n0 bc bs pc lv ([]) h Φ := by
  intro p l e R s m args below meth c D ty A b ad0 mc ms Q X HR ad H locs ls cells slots G L hc hs
  exact HR ad H locs ls cells slots pc none h k G (by omega) (by omega) ⟨hd, hr⟩
theorem rn_lreturn {z : Int} (hd : decode M.2.1 pc = .ok (.lreturn, 1)) (hr : M.2.2.2 = some .long) (k : Φ (some (vG z)) h) : av_Rn sc M d al n0 bc bs pc lv ([vG z]) h Φ := by
  intro p l e R s m args below meth c D ty A b ad0 mc ms Q X HR ad H locs ls cells slots G L hc hs
  exact HR ad H locs ls cells slots pc (some (vG z)) h k G (by omega) (by omega) ⟨hd, hr⟩
theorem rn_drop (lv' : av_L) (hs0 : ∀ (i : Nat) (v : av_V), lv'[i]? = some (some v) → lv[i]? = some (some v)) (k : av_Rn sc M d al n0 bc bs pc lv' st h Φ) : av_Rn sc M d al n0 bc bs pc lv st h Φ := by
  intro p l e R s m args below meth c D ty A b ad0 mc ms Q X HR ad H locs ls cells slots G L hc hs
  exact k p l e R s m args below meth c D ty A b ad0 mc ms Q X HR ad H locs ls cells slots G (av_hs_sub L fun i v hv => av_tl_mem.mpr ⟨v, hs0 i v hv, rfl⟩) hc hs
end
end
section
/-- a field that can be read: class cls links it at idx: field f of objects of class ci -/
def av_fd (cls : String) (idx ci f : Nat) : Prop := ∃ (C : String) (T : u_T) (N : Nat), vwCl[ci]? = some (C, T, N) ∧ f < N ∧ (∀ w ∈ u_ws C T N, w ∈ av_T) ∧ Cond.fieldLink cls idx (T f).1 (T f).2.1 (T f).2.2.1 ∈ av_T
/-- a field that can be written: of type ty; final ones in the class's own constructors -/
def av_fp (cls : String) (idx ci f : Nat) (fin : Bool) (ty : FieldType) : Prop := ∃ (C : String) (T : u_T) (N : Nat) (tyf : Nat → FieldType), vwCl[ci]? = some (C, T, N) ∧ f < N ∧ (∀ w ∈ u_ws C T N, w ∈ av_T) ∧ Cond.fieldLink cls idx (T f).1 (T f).2.1 (T f).2.2.1 ∈ av_T ∧ (∀ k, k < N → parseFieldDescriptor (T k).2.2.1 = some (tyf k)) ∧ (∀ a, a < N → ∀ b, b < N → a ≠ b → (T a).2.1 ≠ (T b).2.1) ∧ (T f).2.2.2 = fin ∧ parseFieldDescriptor (T f).2.2.1 = some ty ∧ (T f).1 = cls
def av_fit (ty : FieldType) (v : av_V) : Prop := ∀ (b : Nat) (ad : Nat → Nat), narrow ty (av_tv b ad v) = av_tv b ad v ∧ fits ty (av_tv b ad v) = true
theorem av_fitI {z : Int} : av_fit .int (vI z) := fun _ _ => ⟨rfl, rfl⟩
theorem av_fitZ {z : Int} (hz : z = 0 ∨ z = 1) : av_fit .boolean (vI z) := fun _ _ => by rcases hz with rfl | rfl <;> exact ⟨rfl, rfl⟩
theorem av_fitO {C : String} {k : Nat} : av_fit (.object C) (vR k) := fun _ _ => ⟨rfl, rfl⟩
theorem av_fitA {t : FieldType} {k : Nat} : av_fit (.array t) (vR k) := fun _ _ => ⟨rfl, rfl⟩
section
variable {sc : av_sc} {M : av_M} {d n0 bc bs pc : Nat} {al : Bool} {lv : av_L} {st : List av_V} {h : av_H} {Φ : Option av_V → av_H → Prop}
theorem rn_getfield (pc' : Nat) {idx ci f q : Nat} {fs : List av_V} {v : av_V} (hd : decode M.2.1 pc = .ok (.getfield idx, 3)) (hp : pc + 3 = pc') (hf : av_fd M.1.cls idx ci f) (hk : h[q]? = some (.inr (ci, fs))) (hv : fs[f]? = some v) (k : av_Rn sc M d al n0 bc bs pc' lv (v :: st) h Φ) : av_Rn sc M d al n0 bc bs pc lv (vR q :: st) h Φ := by
  subst hp
  intro p l e R s m args below meth c D ty A b ad0 mc ms Q X HR ad H locs ls cells slots G L hc hs
  obtain ⟨C, T, N, h1, h2, h3, h4⟩ := hf
  exact va_get (ci := ci) (v := av_tv b ad v) X.1.1 X.1.2.1 X.2.1 h3 X.1.2.2.2.1 X.2.2.2.1 G.2.1 q (av_tw_at hk) h1 f h2 (X.2.1 _ h4) (fun _ h => h) (by rw [List.getElem?_map, hv]; rfl) hd (k p l e R s m args below meth c D ty A b ad0 mc ms Q X HR ad H locs ls cells slots G L hc hs)
theorem av_tw_put {b : Nat} {ad : Nat → Nat} {ty : Nat → ClassId} {ci q f : Nat} {fs : List av_V} {v : av_V} : (av_tw b ad ty h).set q (ad q, .inr (ci, (fs.map (av_tv b ad)).set f (av_tv b ad v))) = av_tw b ad ty (h.set q (.inr (ci, fs.set f v))) := by
  rw [← av_tw_set]
  simp only [av_tc, List.map_set]
theorem rn_putfield (pc' : Nat) {idx ci f q : Nat} {fs : List av_V} {v : av_V} {h' : av_H} {ty1 : FieldType} (hd : decode M.2.1 pc = .ok (.putfield idx, 3)) (hp : pc + 3 = pc') (hf : av_fp M.1.cls idx ci f false ty1) (hk : h[q]? = some (.inr (ci, fs))) (hl : f < fs.length) (hfit : av_fit ty1 v) (hh : h.set q (.inr (ci, fs.set f v)) = h') (k : av_Rn sc M d al n0 bc bs pc' lv st h' Φ) : av_Rn sc M d al n0 bc bs pc lv (v :: vR q :: st) h Φ := by
  subst hp; subst hh
  intro p l e R s m args below meth c D ty A b ad0 mc ms Q X HR ad H locs ls cells slots G L hc hs
  obtain ⟨C, T, N, tyf, h1, h2, h3, h4, h5, h6, h7, h8, -⟩ := hf
  refine va_put (ci := ci) (v := av_tv b ad v) (ty := ty1) X.1.1 X.1.2.1 X.2.1 h3 tyf h5 h6 X.1.2.2.2.1 X.2.2.2.1 G.2.1 G.2.2.1 G.2.2.2 q (av_tw_at hk) h1 f h2 (X.2.1 _ h4) (fun _ h => h) h7 h8 (hfit b ad).1 (hfit b ad).2 (by rw [List.length_map]; exact hl) hd (fun H1 locs1 hP hD hS => ?_)
  rw [av_tw_put] at hP hD
  exact k p l e R s m args below meth c D ty A b ad0 mc ms Q X HR ad H1 locs1 ls cells slots ⟨⟨by rw [List.length_set]; exact G.1.1, G.1.2⟩, hP, hD, hS⟩ L hc hs
theorem rn_putfinal (pc' : Nat) {idx ci f q : Nat} {fs : List av_V} {v : av_V} {h' : av_H} {ty1 : FieldType} (hd : decode M.2.1 pc = .ok (.putfield idx, 3)) (hp : pc + 3 = pc') (hf : av_fp M.1.cls idx ci f true ty1) (hi : M.1.name = "<init>") (hk : h[q]? = some (.inr (ci, fs))) (hl : f < fs.length) (hfit : av_fit ty1 v) (hh : h.set q (.inr (ci, fs.set f v)) = h') (k : av_Rn sc M d al n0 bc bs pc' lv st h' Φ) : av_Rn sc M d al n0 bc bs pc lv (v :: vR q :: st) h Φ := by
  subst hp; subst hh
  intro p l e R s m args below meth c D ty A b ad0 mc ms Q X HR ad H locs ls cells slots G L hc hs
  obtain ⟨C, T, N, tyf, h1, h2, h3, h4, h5, h6, h7, h8, h9⟩ := hf
  refine va_putF (ci := ci) (v := av_tv b ad v) (ty := ty1) X.1.1 X.1.2.1 X.2.1 h3 tyf h5 h6 X.1.2.2.2.1 X.2.2.2.1 G.2.1 G.2.2.1 G.2.2.2 q (av_tw_at hk) h1 f h2 (X.2.1 _ h4) (fun _ h => h) h7 (X.1.2.2.2.2 hi) h9 h8 (hfit b ad).1 (hfit b ad).2 (by rw [List.length_map]; exact hl) hd (fun H1 locs1 hP hD hS => ?_)
  rw [av_tw_put] at hP hD
  exact k p l e R s m args below meth c D ty A b ad0 mc ms Q X HR ad H1 locs1 ls cells slots ⟨⟨by rw [List.length_set]; exact G.1.1, G.1.2⟩, hP, hD, hS⟩ L hc hs
theorem av_ii {i : Int} {n : Nat} (h0 : 0 ≤ i) (h1 : i < (n : Int)) (hn : n ≤ 2147483648) : av_in i := ⟨by omega, by omega⟩
theorem rn_iaload (pc' : Nat) {q n : Nat} {f : Int → Int} {i : Int} (hd : decode M.2.1 pc = .ok (.iaload, 1)) (hp : pc + 1 = pc') (hk : h[q]? = some (.inl (0, n, f))) (hn : n ≤ 2147483648) (h0 : 0 ≤ i) (h1 : i < (n : Int)) (k : av_Rn sc M d al n0 bc bs pc' lv (vI (f i) :: st) h Φ) : av_Rn sc M d al n0 bc bs pc lv (vI i :: vR q :: st) h Φ := by
  subst hp
  intro p l e R s m args below meth c D ty A b ad0 mc ms Q X HR ad H locs ls cells slots G L hc hs
  have hi := av_ii h0 h1 hn
  have k := k p l e R s m args below meth c D ty A b ad0 mc ms Q X HR ad H locs ls cells slots G L hc hs
  refine va_iald X.1.1 X.1.2.1 X.2.2.2.1 G.2.1 q 0 (av_tw_at hk) rfl (av_ix h0 h1 hi) hd ?_
  show W p l e R s m args below meth c H locs cells slots Q (F0 m (pc + 1) ls (.int (Int32.ofInt (f (((Int32.ofInt i).toNatClampNeg : Nat) : Int))) :: st.map (av_tv b ad)))
  rw [av_cl h0 hi]
  exact k
theorem rn_baload (pc' : Nat) {q n : Nat} {f : Int → Int} {i : Int} (hd : decode M.2.1 pc = .ok (.baload, 1)) (hp : pc + 1 = pc') (hk : h[q]? = some (.inl (1, n, f))) (hn : n ≤ 2147483648) (h0 : 0 ≤ i) (h1 : i < (n : Int)) (k : av_Rn sc M d al n0 bc bs pc' lv (vI (f i) :: st) h Φ) : av_Rn sc M d al n0 bc bs pc lv (vI i :: vR q :: st) h Φ := by
  subst hp
  intro p l e R s m args below meth c D ty A b ad0 mc ms Q X HR ad H locs ls cells slots G L hc hs
  have hi := av_ii h0 h1 hn
  have k := k p l e R s m args below meth c D ty A b ad0 mc ms Q X HR ad H locs ls cells slots G L hc hs
  refine va_zald X.1.1 X.1.2.1 X.2.2.2.1 G.2.1 q 1 (av_tw_at hk) rfl (av_ix h0 h1 hi) hd ?_
  show W p l e R s m args below meth c H locs cells slots Q (F0 m (pc + 1) ls (.int (Int32.ofInt (f (((Int32.ofInt i).toNatClampNeg : Nat) : Int))) :: st.map (av_tv b ad)))
  rw [av_cl h0 hi]
  exact k
theorem av_tw_ast {b : Nat} {ad : Nat → Nat} {ty : Nat → ClassId} {t n q : Nat} {f : Int → Int} {i z : Int} (h0 : 0 ≤ i) (hi : av_in i) : (av_tw b ad ty h).set q (ad q, .inl (ty t, n, .inl (upd (fun j : Nat => Int32.ofInt (f (j : Int))) (Int32.ofInt i).toNatClampNeg (Int32.ofInt z)))) = av_tw b ad ty (h.set q (.inl (t, n, uI f i z))) := by
  rw [← av_tw_set, av_uI h0 hi]
  rfl
theorem rn_iastore (pc' : Nat) {q n : Nat} {f : Int → Int} {i z : Int} {h' : av_H} (hd : decode M.2.1 pc = .ok (.iastore, 1)) (hp : pc + 1 = pc') (hk : h[q]? = some (.inl (0, n, f))) (hn : n ≤ 2147483648) (h0 : 0 ≤ i) (h1 : i < (n : Int)) (hh : h.set q (.inl (0, n, uI f i z)) = h') (k : av_Rn sc M d al n0 bc bs pc' lv st h' Φ) : av_Rn sc M d al n0 bc bs pc lv (vI z :: vI i :: vR q :: st) h Φ := by
  subst hp; subst hh
  intro p l e R s m args below meth c D ty A b ad0 mc ms Q X HR ad H locs ls cells slots G L hc hs
  have hi := av_ii h0 h1 hn
  refine va_iast X.1.1 X.1.2.1 X.2.2.2.1 G.2.1 G.2.2.1 G.2.2.2 q 0 (av_tw_at hk) rfl (av_ix h0 h1 hi) hd (fun H1 locs1 hP hD hS => ?_)
  have e2 := av_tw_ast (h := h) (b := b) (ad := ad) (ty := ty) (t := 0) (n := n) (q := q) (f := f) (z := z) h0 hi
  rw [e2] at hP hD
  exact k p l e R s m args below meth c D ty A b ad0 mc ms Q X HR ad H1 locs1 ls cells slots ⟨⟨by rw [List.length_set]; exact G.1.1, G.1.2⟩, hP, hD, hS⟩ L hc hs
theorem rn_bastore (pc' : Nat) {q n : Nat} {f : Int → Int} {i z : Int} {h' : av_H} (hd : decode M.2.1 pc = .ok (.bastore, 1)) (hp : pc + 1 = pc') (hk : h[q]? = some (.inl (1, n, f))) (hn : n ≤ 2147483648) (h0 : 0 ≤ i) (h1 : i < (n : Int)) (hz : z = 0 ∨ z = 1) (hh : h.set q (.inl (1, n, uI f i z)) = h') (k : av_Rn sc M d al n0 bc bs pc' lv st h' Φ) : av_Rn sc M d al n0 bc bs pc lv (vI z :: vI i :: vR q :: st) h Φ := by
  subst hp; subst hh
  intro p l e R s m args below meth c D ty A b ad0 mc ms Q X HR ad H locs ls cells slots G L hc hs
  have hi := av_ii h0 h1 hn
  refine va_zast X.1.1 X.1.2.1 X.2.2.2.1 G.2.1 G.2.2.1 G.2.2.2 q 1 (av_tw_at hk) rfl (av_ix h0 h1 hi) hd (fun H1 locs1 hP hD hS => ?_)
  have ez : vp_nar .boolean (Int32.ofInt z) = Int32.ofInt z := by rcases hz with rfl | rfl <;> rfl
  rw [ez] at hP hD
  have e2 := av_tw_ast (h := h) (b := b) (ad := ad) (ty := ty) (t := 1) (n := n) (q := q) (f := f) (z := z) h0 hi
  rw [e2] at hP hD
  exact k p l e R s m args below meth c D ty A b ad0 mc ms Q X HR ad H1 locs1 ls cells slots ⟨⟨by rw [List.length_set]; exact G.1.1, G.1.2⟩, hP, hD, hS⟩ L hc hs
theorem rn_alen (pc' : Nat) {q t n : Nat} {f : Int → Int} (hd : decode M.2.1 pc = .ok (.arraylength, 1)) (hp : pc + 1 = pc') (hk : h[q]? = some (.inl (t, n, f))) (ht : t < 2) (k : av_Rn sc M d al n0 bc bs pc' lv (vI (n : Int) :: st) h Φ) : av_Rn sc M d al n0 bc bs pc lv (vR q :: st) h Φ := by
  subst hp
  intro p l e R s m args below meth c D ty A b ad0 mc ms Q X HR ad H locs ls cells slots G L hc hs
  have k := k p l e R s m args below meth c D ty A b ad0 mc ms Q X HR ad H locs ls cells slots G L hc hs
  rcases (show t = 0 ∨ t = 1 by omega) with rfl | rfl
  · exact va_alen X.1.1 X.1.2.1 X.2.2.2.1 G.2.1 q 0 (av_tw_at hk) rfl (v := Int32.ofInt (n : Int)) Int32.ofInt_eq_ofNat.symm hd k
  · exact va_alen X.1.1 X.1.2.1 X.2.2.2.1 G.2.1 q 1 (av_tw_at hk) rfl (v := Int32.ofInt (n : Int)) Int32.ofInt_eq_ofNat.symm hd k
/-- the script -/
theorem rn_ialoadS (pc' : Nat) {i : Int} (hd : decode M.2.1 pc = .ok (.iaload, 1)) (hp : pc + 1 = pc') (hn : sc.1 ≤ 2147483648) (h0 : 0 ≤ i) (h1 : i < (sc.1 : Int)) (k : av_Rn sc M d al n0 bc bs pc' lv (vI (sc.2 i) :: st) h Φ) : av_Rn sc M d al n0 bc bs pc lv (vI i :: vS :: st) h Φ := by
  subst hp
  intro p l e R s m args below meth c D ty A b ad0 mc ms Q X HR ad H locs ls cells slots G L hc hs
  have hi := av_ii h0 h1 hn
  have k := k p l e R s m args below meth c D ty A b ad0 mc ms Q X HR ad H locs ls cells slots G L hc hs
  refine va_sld X.1.1 X.1.2.1 X.2.2.2.2.2.2.1 X.2.2.2.2.2.2.2.1 X.2.2.2.2.2.2.2.2 G.2.2.2 (av_ix h0 h1 hi) hd ?_
  show W p l e R s m args below meth c H locs cells slots Q (F0 m (pc + 1) ls (.int (Int32.ofInt (sc.2 (((Int32.ofInt i).toNatClampNeg : Nat) : Int))) :: st.map (av_tv b ad)))
  rw [av_cl h0 hi]
  exact k
theorem rn_alenS (pc' : Nat) (hd : decode M.2.1 pc = .ok (.arraylength, 1)) (hp : pc + 1 = pc') (k : av_Rn sc M d al n0 bc bs pc' lv (vI (sc.1 : Int) :: st) h Φ) : av_Rn sc M d al n0 bc bs pc lv (vS :: st) h Φ := by
  subst hp
  intro p l e R s m args below meth c D ty A b ad0 mc ms Q X HR ad H locs ls cells slots G L hc hs
  have k := k p l e R s m args below meth c D ty A b ad0 mc ms Q X HR ad H locs ls cells slots G L hc hs
  refine va_slen X.1.1 X.1.2.1 X.2.2.2.2.2.2.1 X.2.2.2.2.2.2.2.1 X.2.2.2.2.2.2.2.2 G.2.2.2 hd ?_
  rw [← Int32.ofInt_eq_ofNat]
  exact k
/-- an array's contents behind its end don't matter -/
theorem rn_arr {q t n : Nat} {f g : Int → Int} (hk : h[q]? = some (.inl (t, n, f))) (he : ∀ j : Int, 0 ≤ j → j < (n : Int) → f j = g j) (k : av_Rn sc M d al n0 bc bs pc lv st (h.set q (.inl (t, n, g))) Φ) : av_Rn sc M d al n0 bc bs pc lv st h Φ := by
  intro p l e R s m args below meth c D ty A b ad0 mc ms Q X HR ad H locs ls cells slots G L hc hs
  have hq : q < h.length := (List.getElem?_eq_some_iff.mp hk).1
  have e1 : ∀ (j : Nat) (x : Nat × va_E), (av_tw b ad ty (h.set q (.inl (t, n, g))))[j]? = some x → ∃ y, (av_tw b ad ty h)[j]? = some (x.1, y) ∧ ∀ H : Heap, va_at D vwCl (x.1, y) H → va_at D vwCl x H := by
    intro j x hx
    simp only [av_tw, List.getElem?_mapIdx, List.getElem?_set] at hx ⊢
    by_cases hj : q = j
    · subst hj
      simp only [if_true, if_pos hq, Option.map_some, Option.some.injEq] at hx
      subst hx
      refine ⟨_, by rw [hk]; rfl, fun H hH => ?_⟩
      show H[ad q]? = some (vp_cell (ty t) (n, .inl (fun j => Int32.ofInt (g (j : Int)))))
      have hH : H[ad q]? = some (vp_cell (ty t) (n, .inl (fun j => Int32.ofInt (f (j : Int))))) := hH
      rw [hH, vp_cell_i, vp_cell_i]
      simp only [arrV]
      congr 2
      refine Array.ext (by simp) fun i h1 h2 => ?_
      simp only [Array.getElem_ofFn]
      rw [he (i : Int) (by omega) (by have : i < n := by simpa using h1
                                      omega)]
    · simp only [if_neg hj] at hx
      exact ⟨x.2, hx, fun H hH => hH⟩
  refine k p l e R s m args below meth c D ty A b ad0 mc ms Q X HR ad H locs ls cells slots ⟨⟨by rw [List.length_set]; exact G.1.1, G.1.2⟩, fun j x hx => ?_, ⟨fun i j x y hx hy hxy => ?_, fun j x hx => ?_⟩, G.2.2.2⟩ L hc hs
  · obtain ⟨y, hy, hz⟩ := e1 j x hx
    exact hz H (G.2.1 j _ hy)
  · obtain ⟨x', hx', -⟩ := e1 i x hx
    obtain ⟨y', hy', -⟩ := e1 j y hy
    exact G.2.2.1.1 i j _ _ hx' hy' hxy
  · obtain ⟨y, hy, -⟩ := e1 j x hx
    exact G.2.2.1.2 j (x.1, y) hy
end
end
section
/-- what a call of y at idx in class cls needs of the tables -/
def av_cw (cls : String) (idx : Nat) (y : av_M) (n : Nat) : Prop := Cond.code y.1 y.2.1 y.2.2.1 y.2.2.2 ∈ av_T ∧ Cond.methodLink cls idx y.1 ∈ av_T ∧ Cond.initialized y.1.cls ∈ av_T ∧ (y.1.cls ≠ "java/lang/invoke/MethodHandle" ∧ y.1.cls ≠ "java/lang/invoke/VarHandle") ∧ (parseMethodDescriptor y.1.desc).map (fun d => d.parameters.length) = some n ∧ y.2.2.1 ≤ 21
def av_cwV (cls : String) (idx : Nat) (y : av_M) (n ci : Nat) : Prop := av_cw cls idx y n ∧ Cond.instanceMethod y.1 ∈ av_T ∧ Cond.selects y.1.cls y.1 y.1 ∈ av_T ∧ ∃ (T : u_T) (N : Nat), vwCl[ci]? = some (y.1.cls, T, N)
def av_cwS (cls : String) (idx : Nat) (y : av_M) (n : Nat) : Prop := av_cw cls idx y n ∧ Cond.static y.1 ∈ av_T
def av_cwI (cls : String) (idx : Nat) (y : av_M) (n : Nat) : Prop := av_cw cls idx y n ∧ y.1.name = "<init>" ∧ Cond.instanceMethod y.1 ∈ av_T ∧ y.2.2.2 = none
def av_cwN (cls : String) (idx : Nat) (y : av_M) (n : Nat) : Prop := Cond.code y.1 y.2.1 y.2.2.1 y.2.2.2 ∈ av_T ∧ (∃ host, Cond.methodLinkNest cls idx y.1 host ∈ av_N) ∧ Cond.initialized y.1.cls ∈ av_T ∧ (y.1.cls ≠ "java/lang/invoke/MethodHandle" ∧ y.1.cls ≠ "java/lang/invoke/VarHandle") ∧ (parseMethodDescriptor y.1.desc).map (fun d => d.parameters.length) = some n ∧ y.2.2.1 ≤ 21 ∧ y.1.name = "<init>" ∧ Cond.instanceMethod y.1 ∈ av_T ∧ y.2.2.2 = none
theorem av_good {y : av_M} (hc : Cond.code y.1 y.2.1 y.2.2.1 y.2.2.2 ∈ av_T) : GoodIn av_T (av_ws y) := by
  intro w hw
  rcases List.mem_cons.mp hw with rfl | h
  · exact ⟨hc, Or.inl rfl⟩
  · exact ⟨h, good_of_word (List.mem_filter.mp h).2⟩
theorem av_blind {sc : av_sc} {D : va_G} {ty : Nat → ClassId} {b sz : Nat} {ad : Nat → Nat} {as : List av_V} {h : av_H} : FrameBlind (av_Pc sc D ty b ad sz as h) := by
  intro a U g mk q
  obtain ⟨q0, q1, qP, qK, qD, qN, qX, qb, qA⟩ := q
  exact ⟨q0, q1, qP, va_K.moved (u := U) (U := U.calling g mk a) (Vm.Alike.refl U.vm) qK, qD, fun w hw => va_Nw.same (u := U) (U := U.calling g mk a) (av_N_on w hw) rfl (qN w hw), va_X.moved (u := U) (U := U.calling g mk a) (Vm.Alike.refl U.vm) qX, qb, qA⟩
theorem av_sub {A : Nat → Prop} {s : State} {H : Heap} {locs : List Loc} {w : va_W} (hA : ∀ q, s.heap.size ≤ q → A q) (hD : va_D A w) (hS : va_S A s.heap H locs) : ∀ q, va_A w H.size q → A q := by
  intro q h
  rcases h with ⟨k, e, h⟩ | h
  · exact hD.2 k (q, e) h
  · exact hA q (Nat.le_trans hS.1 h)
section
variable {sc : av_sc} {M : av_M} {d n0 bc bs pc : Nat} {al : Bool} {lv : av_L} {st : List av_V} {h : av_H} {Φ : Option av_V → av_H → Prop}
/-- the callee's start, in the caller's heap -/
theorem av_pre {p : Program} {R : Room} {s : State} {m : MethodId} {args : Array Value} {meth : Method} {c : Code} {D : va_G} {ty : Nat → ClassId} {A : Nat → Prop} {b mc ms : Nat} {ad0 ad : Nat → Nat} {H : Heap} {locs : List Loc} (X : av_X sc M d p R s m args meth c D ty A b mc ms) (G : av_G al n0 D ty A b ad0 ad s H locs h) (as : List av_V) :
    ∀ U : State, U.heap = H → s.WarmedH U.vm → av_Pc sc D ty b ad H.size as h (as.map (av_tv b ad)).toArray U := by
  intro U hU hW
  obtain ⟨-, -, hN, hK, hA, -, hX, hbl, hbA⟩ := X
  refine ⟨rfl, by rw [hU], by rw [hU]; exact G.2.1, va_K.moved hW.alike hK, G.2.2.1.weaken (fun _ _ _ _ => trivial), fun w hw => av_N_warm w hw s U hW (hN w hw), ?_, Nat.lt_of_lt_of_le hbl G.2.2.2.1, fun q => hbA (av_sub hA G.2.2.1 G.2.2.2 b q)⟩
  rw [hU]
  exact (va_X.moved hW.alike hX).kept (G.2.2.2.2.1 b hbl hbA)
/-- behind a call -/
theorem av_back {p : Program} {l : Launch} {e : Env} {R : Room} {s : State} {m : MethodId} {args : Array Value} {below : List Frame} {meth : Method} {c : Code} {D : va_G} {ty : Nat → ClassId} {A : Nat → Prop} {b mc ms : Nat} {ad0 ad : Nat → Nat} {H : Heap} {locs : List Loc} {Q : State → Prop} {ls : Array Slot} {cells slots c1 s1 : Nat} {al' : Bool} {Ψ : Option av_V → av_H → Prop} {st0 : List Value} {a : Array Value}
    (X : av_X sc M d p R s m args meth c D ty A b mc ms) (HR : av_HR M al n0 Φ p l e R s m args below meth c D ty A b ad0 mc ms Q) (G : av_G al n0 D ty A b ad0 ad s H locs h) (L : av_hs b ad ls M.2.2.1 lv) (hc : cells + (bc + c1) ≤ mc) (hs : slots + (bs + s1) ≤ ms)
    (hr : va_Run p l e R s m args below meth c H locs cells slots c1 s1 (F0 m pc ls st0) (st.map (av_tv b ad)) (av_Q al' h.length D ty b ad Ψ (va_A (av_tw b ad ty h) H.size) a) (va_A (av_tw b ad ty h) H.size))
    (ha : al' = false ∨ (al = true ∧ av_ok lv st h = true))
    (kk : ∀ r h', Ψ r h' → av_Rn sc M d al n0 bc bs (pc + 3) lv (r.toList ++ st) h' Φ) : W p l e R s m args below meth c H locs cells slots Q (F0 m pc ls st0) := by
  intro T hT XX
  obtain ⟨v, st₀, t, T', L', h0, X', hL, e1, e2, ⟨⟨r, h1, ad1, hv, hΨ, ⟨g1, g2, g3⟩, hP1, hD1⟩, hz, hk⟩, stp⟩ := hr T hT XX
  have hv : v = r.map (av_tv b ad1) := by simpa using hv
  subst hv
  rw [h0] at hz hk
  have hsub := av_sub X.2.2.2.2.1 G.2.2.1 G.2.2.2
  have hS : va_S A s.heap T'.heap (locs ++ L') := ⟨Nat.le_trans G.2.2.2.1 (by rw [e1]; exact hz), fun q h1 h2 => by
      rw [e1, hk q (Nat.lt_of_lt_of_le h1 G.2.2.2.1) (fun z => h2 (hsub q z))]; exact G.2.2.2.2.1 q h1 h2, fun q hq => by
      rcases List.mem_append.mp hq with h | h
      · exact G.2.2.2.2.2 q h
      · exact hsub _ (hL q h)⟩
  have hst : st.map (av_tv b ad1) = st.map (av_tv b ad) ∧ av_hs b ad1 ls M.2.2.1 lv ∧ (al = false → ad1 = ad0) := by
    rcases ha with ha | ⟨ha, hok⟩
    · have := g2 ha
      subst this
      exact ⟨rfl, L, G.1.2.1⟩
    · simp only [av_ok, Bool.and_eq_true] at hok
      refine ⟨av_ts_ext hok.1.2 g3, av_hs_sub L fun i v hv => ?_, fun q => by rw [ha] at q; cases q⟩
      rw [av_tl_ext hok.1.1 g3 i v hv]
      exact av_tl_mem.mpr ⟨v, hv, rfl⟩
  have K := kk r h1 hΨ p l e R s m args below meth c D ty A b ad0 mc ms Q X HR ad1 T'.heap (locs ++ L') ls (cells + c1) (slots + s1)
    ⟨⟨Nat.le_trans G.1.1 g1, hst.2.2, fun i hi => (g3 i (Nat.lt_of_lt_of_le hi G.1.1)).trans (G.1.2.2 i hi)⟩, by rw [e1]; exact hP1, hD1.weaken (fun k q _ h => hsub q.1 h), hS⟩ hst.2.1 (by omega) (by omega)
  have e3 : (r.toList ++ st).map (av_tv b ad1) = (r.map (av_tv b ad1)).toList ++ st.map (av_tv b ad) := by
    rw [List.map_append, hst.1]
    cases r <;> rfl
  rw [e3] at K
  obtain ⟨t2, a1, b1⟩ := K T' rfl X'
  exact ⟨t2, stp t2 a1, b1⟩
theorem av_callB {p : Program} {R : Room} {s : State} {m : MethodId} {args : Array Value} {meth : Method} {c : Code} {D : va_G} {ty : Nat → ClassId} {A : Nat → Prop} {b mc ms idx n c1 s1 : Nat} {y : av_M} (X : av_X sc M (d + 1) p R s m args meth c D ty A b mc ms) (hw : av_cw M.1.cls idx y n) :
    CallB R s args M.1.cls idx y.1 y.2.1 y.2.2.1 y.2.2.2 (av_ws y) { frames := d, cells := c1, slots := s1, locals := d * 40 } c1 s1 n := by
  obtain ⟨h1, h2, h3, h4, h5, h6⟩ := hw
  obtain ⟨-, hts, -, -, -, ⟨r1, r2, -, -⟩, -⟩ := X
  refine ⟨rfl, rfl, r1, ?_, pay_in hts (av_good h1), List.mem_cons_self, hts _ h1, hts _ h3, h4, fun sig h => ?_, hts _ h2⟩
  · show 8 + (y.2.2.1 + 11) + d * 40 ≤ R.locals
    omega
  · rw [h] at h5
    exact (Option.some.inj h5).symm
theorem av_callN {p : Program} {R : Room} {s : State} {m : MethodId} {args : Array Value} {meth : Method} {c : Code} {D : va_G} {ty : Nat → ClassId} {A : Nat → Prop} {b mc ms idx n c1 s1 : Nat} {y : av_M} (X : av_X sc M (d + 1) p R s m args meth c D ty A b mc ms) (hw : av_cwN M.1.cls idx y n) :
    ∃ host, va_CN R s args M.1.cls idx y.1 host y.2.1 y.2.2.1 none (av_ws y) { frames := d, cells := c1, slots := s1, locals := d * 40 } c1 s1 n ∧ y.1.name = "<init>" ∧ (Cond.instanceMethod y.1).before args s = true := by
  obtain ⟨h1, ⟨host, h2⟩, h3, h4, h5, h6, h7, h8, h9⟩ := hw
  obtain ⟨-, hts, hN, -, -, ⟨r1, r2, -, -⟩, -⟩ := X
  rw [← h9]
  refine ⟨host, ⟨⟨rfl, rfl, r1, ?_, pay_in hts (av_good h1), List.mem_cons_self⟩, hts _ h1, hts _ h3, h4, fun sig h => ?_, va_Nw.use (av_N_on _ h2) (hN _ h2)⟩, h7, hts _ h8⟩
  · show 8 + (y.2.2.1 + 11) + d * 40 ≤ R.locals
    omega
  · rw [h] at h5
    exact (Option.some.inj h5).symm
theorem av_mr {b : Nat} {ad : Nat → Nat} (st : List av_V) (h : (st.map av_cat).sum ≤ 8) : ((st.map (av_tv b ad)).map fun v => v.category).sum ≤ 8 := by
  rw [List.map_map, show ((fun v : Value => v.category) ∘ av_tv b ad) = av_cat from funext fun v => av_cat_tv b ad v]
  exact h
set_option maxHeartbeats 1000000 in
theorem rn_callV (pc' : Nat) {idx ci q c1 s1 n : Nat} {y : av_M} {al' : Bool} {as fs : List av_V} {stk : List av_V} {Ψ : Option av_V → av_H → Prop} (hd : decode M.2.1 pc = .ok (.invokevirtual idx, 3)) (hp : pc + 3 = pc') (hw : av_cwV M.1.cls idx y n ci) (hk : h[q]? = some (.inr (ci, fs))) (hn : as.length = n) (hst : stk = as.reverse ++ vR q :: st) (hm : (st.map av_cat).sum ≤ 8) (hE : av_Ev sc y d al' c1 s1 (vR q :: as) h Ψ)
    (ha : al' = false ∨ (al = true ∧ av_ok lv st h = true)) (kk : ∀ r h', Ψ r h' → av_Rn sc M (d + 1) al n0 bc bs pc' lv (r.toList ++ st) h' Φ) : av_Rn sc M (d + 1) al n0 (bc + c1) (bs + s1) pc lv stk h Φ := by
  subst hp; subst hst
  intro p l e R s m args below meth c D ty A b ad0 mc ms Q X HR ad H locs ls cells slots G L hc hs
  obtain ⟨hw0, h1, h2, T, N, h3⟩ := hw
  have hP := av_pre X G (vR q :: as)
  refine av_back X HR G L hc hs (va_runV (nL := M.2.2.1) (b := ad q) (As := as.map (av_tv b ad)) (C := y.1.cls) ⟨X.1.1, X.1.2.1, X.1.2.2.1, X.1.2.2.2.1, X.2.1⟩ (hE l D ty b ad H.size) ⟨av_callB X hw0, X.2.1 _ h1, X.2.1 _ h2⟩ ⟨av_blind, va_recv X.2.2.2.1 G.2.1 h3 (av_tw_at hk), hP⟩ rfl ((List.length_map ..).trans hn) L.1 ?_ (lv_room (av_mr st hm)) hd ⟨?_, ?_⟩) ha kk
  · show ((as.reverse ++ vR q :: st).map (av_tv b ad)) = _
    rw [List.map_append, List.map_reverse]; rfl
  · have := X.2.2.2.2.2.1.2.2.1; omega
  · have := X.2.2.2.2.2.1.2.2.2; omega
set_option maxHeartbeats 1000000 in
theorem rn_callS (pc' : Nat) {idx c1 s1 n : Nat} {y : av_M} {al' : Bool} {as : List av_V} {stk : List av_V} {Ψ : Option av_V → av_H → Prop} (hd : decode M.2.1 pc = .ok (.invokestatic idx, 3)) (hp : pc + 3 = pc') (hw : av_cwS M.1.cls idx y n) (hn : as.length = n) (hst : stk = as.reverse ++ st) (hm : (st.map av_cat).sum ≤ 8) (hE : av_Ev sc y d al' c1 s1 as h Ψ)
    (ha : al' = false ∨ (al = true ∧ av_ok lv st h = true)) (kk : ∀ r h', Ψ r h' → av_Rn sc M (d + 1) al n0 bc bs pc' lv (r.toList ++ st) h' Φ) : av_Rn sc M (d + 1) al n0 (bc + c1) (bs + s1) pc lv stk h Φ := by
  subst hp; subst hst
  intro p l e R s m args below meth c D ty A b ad0 mc ms Q X HR ad H locs ls cells slots G L hc hs
  obtain ⟨hw0, h1⟩ := hw
  have hP := av_pre X G as
  refine av_back X HR G L hc hs (va_runS (nL := M.2.2.1) (As := as.map (av_tv b ad)) ⟨X.1.1, X.1.2.1, X.1.2.2.1, X.1.2.2.2.1, X.2.1⟩ (hE l D ty b ad H.size) ⟨av_callB X hw0, X.2.1 _ h1⟩ ⟨av_blind, hP⟩ rfl ((List.length_map ..).trans hn) L.1 ?_ (lv_room (av_mr st hm)) hd ⟨?_, ?_⟩) ha kk
  · show ((as.reverse ++ st).map (av_tv b ad)) = _
    rw [List.map_append, List.map_reverse]
  · have := X.2.2.2.2.2.1.2.2.1; omega
  · have := X.2.2.2.2.2.1.2.2.2; omega
set_option maxHeartbeats 1000000 in
theorem rn_callI (pc' : Nat) {idx q c1 s1 n : Nat} {y : av_M} {al' : Bool} {as : List av_V} {stk : List av_V} {Ψ : Option av_V → av_H → Prop} (hd : decode M.2.1 pc = .ok (.invokespecial idx, 3)) (hp : pc + 3 = pc') (hw : av_cwI M.1.cls idx y n) (hn : as.length = n) (hst : stk = as.reverse ++ vR q :: st) (hm : (st.map av_cat).sum ≤ 8) (hE : av_Ev sc y d al' c1 s1 (vR q :: as) h Ψ)
    (ha : al' = false ∨ (al = true ∧ av_ok lv st h = true)) (kk : ∀ r h', Ψ r h' → av_Rn sc M (d + 1) al n0 bc bs pc' lv (r.toList ++ st) h' Φ) : av_Rn sc M (d + 1) al n0 (bc + c1) (bs + s1) pc lv stk h Φ := by
  subst hp; subst hst
  intro p l e R s m args below meth c D ty A b ad0 mc ms Q X HR ad H locs ls cells slots G L hc hs
  obtain ⟨hw0, h1, h2, h3⟩ := hw
  have hP := av_pre X G (vR q :: as)
  have hB := av_callB (c1 := c1) (s1 := s1) X hw0
  rw [h3] at hB
  refine av_back X HR G L hc hs (va_runI (nL := M.2.2.1) (b := ad q) (As := as.map (av_tv b ad)) ⟨X.1.1, X.1.2.1, X.1.2.2.1, X.1.2.2.2.1, X.2.1⟩ (hE l D ty b ad H.size) ⟨hB, h1, X.2.1 _ h2⟩ ⟨av_blind, hP⟩ rfl ((List.length_map ..).trans hn) L.1 ?_ (lv_room (av_mr st hm)) hd ⟨?_, ?_⟩) ha kk
  · show ((as.reverse ++ vR q :: st).map (av_tv b ad)) = _
    rw [List.map_append, List.map_reverse]; rfl
  · have := X.2.2.2.2.2.1.2.2.1; omega
  · have := X.2.2.2.2.2.1.2.2.2; omega
set_option maxHeartbeats 1000000 in
theorem rn_callN (pc' : Nat) {idx q c1 s1 n : Nat} {y : av_M} {al' : Bool} {as : List av_V} {stk : List av_V} {Ψ : Option av_V → av_H → Prop} (hd : decode M.2.1 pc = .ok (.invokespecial idx, 3)) (hp : pc + 3 = pc') (hw : av_cwN M.1.cls idx y n) (hn : as.length = n) (hst : stk = as.reverse ++ vR q :: st) (hm : (st.map av_cat).sum ≤ 8) (hE : av_Ev sc y d al' c1 s1 (vR q :: as) h Ψ)
    (ha : al' = false ∨ (al = true ∧ av_ok lv st h = true)) (kk : ∀ r h', Ψ r h' → av_Rn sc M (d + 1) al n0 bc bs pc' lv (r.toList ++ st) h' Φ) : av_Rn sc M (d + 1) al n0 (bc + c1) (bs + s1) pc lv stk h Φ := by
  subst hp; subst hst
  intro p l e R s m args below meth c D ty A b ad0 mc ms Q X HR ad H locs ls cells slots G L hc hs
  have hP := av_pre X G (vR q :: as)
  obtain ⟨host, hB⟩ := av_callN (c1 := c1) (s1 := s1) X hw
  refine av_back X HR G L hc hs (va_runIN (nL := M.2.2.1) (b := ad q) (As := as.map (av_tv b ad)) ⟨X.1.1, X.1.2.1, X.1.2.2.1, X.1.2.2.2.1, X.2.1⟩ (hE l D ty b ad H.size) hB ⟨av_blind, hP⟩ rfl ((List.length_map ..).trans hn) L.1 ?_ (lv_room (av_mr st hm)) hd ⟨?_, ?_⟩) ha kk
  · show ((as.reverse ++ vR q :: st).map (av_tv b ad)) = _
    rw [List.map_append, List.map_reverse]; rfl
  · have := X.2.2.2.2.2.1.2.2.1; omega
  · have := X.2.2.2.2.2.1.2.2.2; omega
end
end
section
/-- a class whose objects can be made at idx in class cls; fs: a new one's fields -/
def av_nw (cls : String) (idx ci : Nat) (fs : List av_V) : Prop := ∃ (C : String) (T : u_T) (tyf : Nat → FieldType), vwCl[ci]? = some (C, T, fs.length) ∧ (∀ w ∈ u_ws C T fs.length, w ∈ av_T) ∧ (∀ k, k < fs.length → parseFieldDescriptor (T k).2.2.1 = some (tyf k)) ∧ Cond.classLink cls idx C ∈ av_T ∧ Cond.instantiable C fs.length ∈ av_T ∧ Cond.initialized C ∈ av_T ∧ (∀ j, j < fs.length → defaultValue (tyf j) = vp_V (fs.map (av_tv 0 id)) j) ∧ fs.all (av_scv 0) = true
section
variable {sc : av_sc} {M : av_M} {d n0 bc bs pc : Nat} {al : Bool} {lv : av_L} {st : List av_V} {h : av_H} {Φ : Option av_V → av_H → Prop}
/-- the addresses with one more -/
def av_up (ad : Nat → Nat) (n q : Nat) : Nat → Nat := fun i => if i = n then q else ad i
theorem av_up_old {ad : Nat → Nat} {n q i : Nat} (h : i < n) : av_up ad n q i = ad i := if_neg (Nat.ne_of_lt h)
theorem av_sc0 {b : Nat} {ad ad' : Nat → Nat} {v : av_V} (hs : av_scv 0 v = true) : av_tv b ad v = av_tv b ad' v := (av_tv_ext hs (fun i hi => absurd hi (Nat.not_lt_zero i))).symm
def av_ns : av_V → Bool
  | .inr (.inr (.inr _)) => false
  | _ => true
theorem av_sc0b {b b' : Nat} {ad ad' : Nat → Nat} {v : av_V} (hs : av_scv 0 v = true) (hv : av_ns v = true) : av_tv b ad v = av_tv b' ad' v := by
  rcases v with z | (_ | k) | z | u
  · rfl
  · rfl
  · simp [av_scv] at hs
  · rfl
  · cases hv
theorem av_tw_push {b : Nat} {ad : Nat → Nat} {ty : Nat → ClassId} {q : Nat} {c : av_C} (hs : h.all (av_scc h.length) = true) (hc : av_scc h.length c = true) : av_tw b ad ty h ++ [(q, av_tc b ad ty c)] = av_tw b (av_up ad h.length q) ty (h ++ [c]) := by
  have e1 : av_tw b (av_up ad h.length q) ty (h ++ [c]) = av_tw b (av_up ad h.length q) ty h ++ [(av_up ad h.length q h.length, av_tc b (av_up ad h.length q) ty c)] := by
    simp [av_tw, List.mapIdx_concat]
  rw [e1, av_tw_ext (Nat.le_refl _) hs (fun i hi => av_up_old hi), av_tc_ext hc (fun i hi => av_up_old hi)]
  simp [av_up]
theorem av_push {p : Program} {l : Launch} {e : Env} {R : Room} {s : State} {m : MethodId} {args : Array Value} {below : List Frame} {meth : Method} {c : Code} {D : va_G} {ty : Nat → ClassId} {A : Nat → Prop} {b mc ms : Nat} {ad0 ad : Nat → Nat} {H H1 : Heap} {locs : List Loc} {Q : State → Prop} {ls : Array Slot} {cells slots q pc' : Nat} {x : av_C}
    (X : av_X sc M d p R s m args meth c D ty A b mc ms) (HR : av_HR M al n0 Φ p l e R s m args below meth c D ty A b ad0 mc ms Q) (hal : al = true) (G : av_G al n0 D ty A b ad0 ad s H locs h) (L : av_hs b ad ls M.2.2.1 lv) (hc : cells + bc ≤ mc) (hs : slots + bs ≤ ms) (hok : av_ok lv st h = true) (hx : av_scc h.length x = true)
    (hP : va_P D vwCl (av_tw b ad ty h ++ [(q, av_tc b ad ty x)]) H1) (hD : va_D A (av_tw b ad ty h ++ [(q, av_tc b ad ty x)])) (hS : va_S A s.heap H1 locs)
    (k : av_Rn sc M d al n0 bc bs pc' lv (vR h.length :: st) (h ++ [x]) Φ) : W p l e R s m args below meth c H1 locs cells slots Q (F0 m pc' ls (.ref q :: st.map (av_tv b ad))) := by
  simp only [av_ok, Bool.and_eq_true] at hok
  rw [av_tw_push hok.2 hx] at hP hD
  have K := k p l e R s m args below meth c D ty A b ad0 mc ms Q X HR (av_up ad h.length q) H1 locs ls cells slots ⟨⟨by rw [List.length_append]; exact Nat.le_trans G.1.1 (Nat.le_add_right _ _), (fun q => absurd (hal.symm.trans q) (by decide)), fun i hi => (av_up_old (Nat.lt_of_lt_of_le hi G.1.1)).trans (G.1.2.2 i hi)⟩, hP, hD, hS⟩
    (av_hs_sub L fun i v hv => by rw [av_tl_ext hok.1.1 (fun i hi => av_up_old hi) i v hv]; exact av_tl_mem.mpr ⟨v, hv, rfl⟩) hc hs
  have e3 : (vR h.length :: st).map (av_tv b (av_up ad h.length q)) = .ref q :: st.map (av_tv b ad) := by
    rw [List.map_cons, av_ts_ext hok.1.2 (fun i hi => av_up_old hi)]
    simp [av_tv, av_up]
  rw [e3] at K
  exact K
theorem av_nameI {s : State} {D : va_G} {ty : Nat → ClassId} {cA : ClassId} (hK : va_K D vwCl (av_tys ty) s) (hK2 : va_K D vwCl (av_tys ty ++ [(cA, .int)]) s) : cA = ty 0 := by
  have h1 : s.vm.findClass ("[" ++ FieldType.int.toString) = some (ty 0) := (hK.2 0 _ rfl).2
  have h2 : s.vm.findClass ("[" ++ FieldType.int.toString) = some cA := (hK2.2 2 (cA, .int) rfl).2
  exact Option.some.inj (h2.symm.trans h1)
theorem av_nameZ {s : State} {D : va_G} {ty : Nat → ClassId} {cA : ClassId} (hK : va_K D vwCl (av_tys ty) s) (hK2 : va_K D vwCl (av_tys ty ++ [(cA, .boolean)]) s) : cA = ty 1 := by
  have h1 : s.vm.findClass ("[" ++ FieldType.boolean.toString) = some (ty 1) := (hK.2 1 _ rfl).2
  have h2 : s.vm.findClass ("[" ++ FieldType.boolean.toString) = some cA := (hK2.2 2 (cA, .boolean) rfl).2
  exact Option.some.inj (h2.symm.trans h1)
theorem rn_newI (pc' : Nat) {z : Int} {at1 : ArrayType} (N : Nat) (hd : decode M.2.1 pc = .ok (.newarray at1, 2)) (hty : newarray.typeOf at1 = .int) (hp : pc + 2 = pc') (harr : Cond.arrayClass .int ∈ av_T) (hz : z = (N : Int)) (hN : N ≤ 100000000) (hal : al = true) (hok : av_ok lv st h = true) {h' : av_H} (hh : h ++ [.inl (0, N, fun _ => 0)] = h') (k : av_Rn sc M d al n0 bc bs pc' lv (vR h.length :: st) h' Φ) : av_Rn sc M d al n0 (bc + 1) (bs + N) pc lv (vI z :: st) h Φ := by
  subst hp; subst hh; subst hz
  intro p l e R s m args below meth c D ty A b ad0 mc ms Q X HR ad H locs ls cells slots G L hc hs
  have hin : av_in (N : Int) := ⟨by omega, by omega⟩
  have r1 := X.2.2.2.2.2.1.2.2.1
  have r2 := X.2.2.2.2.2.1.2.2.2
  refine va_newa (ty := .int) (N' := N) (a0 := (N, .inl (fun _ => Int32.ofInt 0))) X.1.1 X.1.2.1 (hty ▸ X.2.1 _ harr) hty X.2.2.2.1 G.2.1 G.2.2.1 G.2.2.2 X.2.2.2.2.1 (fun cA => rfl) (fun q => ?_) ?_ ?_ ?_ ?_ hd (fun q cA H1 hK2 hP hD hS => ?_)
  · have := (av_lt hin av_in0).mp q; omega
  · have := av_cl (i := (N : Int)) (by omega) hin; omega
  · show N * 4 ≤ 536870912; omega
  · omega
  · omega
  · rw [av_nameI X.2.2.2.1 hK2] at hP hD
    exact av_push (x := .inl (0, N, fun _ => 0)) X HR hal G L (by omega) (by omega) hok rfl hP hD hS k
theorem rn_newZ (pc' : Nat) {z : Int} {at1 : ArrayType} (N : Nat) (hd : decode M.2.1 pc = .ok (.newarray at1, 2)) (hty : newarray.typeOf at1 = .boolean) (hp : pc + 2 = pc') (harr : Cond.arrayClass .boolean ∈ av_T) (hz : z = (N : Int)) (hN : N ≤ 100000000) (hal : al = true) (hok : av_ok lv st h = true) {h' : av_H} (hh : h ++ [.inl (1, N, fun _ => 0)] = h') (k : av_Rn sc M d al n0 bc bs pc' lv (vR h.length :: st) h' Φ) : av_Rn sc M d al n0 (bc + 1) (bs + N) pc lv (vI z :: st) h Φ := by
  subst hp; subst hh; subst hz
  intro p l e R s m args below meth c D ty A b ad0 mc ms Q X HR ad H locs ls cells slots G L hc hs
  have hin : av_in (N : Int) := ⟨by omega, by omega⟩
  have r1 := X.2.2.2.2.2.1.2.2.1
  have r2 := X.2.2.2.2.2.1.2.2.2
  refine va_newa (ty := .boolean) (N' := N) (a0 := (N, .inl (fun _ => Int32.ofInt 0))) X.1.1 X.1.2.1 (hty ▸ X.2.1 _ harr) hty X.2.2.2.1 G.2.1 G.2.2.1 G.2.2.2 X.2.2.2.2.1 (fun cA => rfl) (fun q => ?_) ?_ ?_ ?_ ?_ hd (fun q cA H1 hK2 hP hD hS => ?_)
  · have := (av_lt hin av_in0).mp q; omega
  · have := av_cl (i := (N : Int)) (by omega) hin; omega
  · show N * 1 ≤ 536870912; omega
  · omega
  · omega
  · rw [av_nameZ X.2.2.2.1 hK2] at hP hD
    exact av_push (x := .inl (1, N, fun _ => 0)) X HR hal G L (by omega) (by omega) hok rfl hP hD hS k
theorem rn_new (pc' : Nat) {idx ci : Nat} {fs : List av_V} (hd : decode M.2.1 pc = .ok (.new idx, 3)) (hp : pc + 3 = pc') (hw : av_nw M.1.cls idx ci fs) (hvs : fs.all av_ns = true) (hal : al = true) (hok : av_ok lv st h = true) {h' : av_H} (hh : h ++ [.inr (ci, fs)] = h') (k : av_Rn sc M d al n0 bc bs pc' lv (vR h.length :: st) h' Φ) : av_Rn sc M d al n0 (bc + 1) (bs + fs.length) pc lv st h Φ := by
  subst hp; subst hh
  intro p l e R s m args below meth c D ty A b ad0 mc ms Q X HR ad H locs ls cells slots G L hc hs
  obtain ⟨C, T, tyf, w1, w2, w3, w4, w5, w6, w7, w8⟩ := hw
  have r1 := X.2.2.2.2.2.1.2.2.1
  have r2 := X.2.2.2.2.2.1.2.2.2
  have e1 : fs.map (av_tv b ad) = fs.map (av_tv 0 id) := List.map_congr_left fun v hv => av_sc0b (List.all_eq_true.mp w8 v hv) (List.all_eq_true.mp hvs v hv)
  refine va_new (ci := ci) (fs := fs.map (av_tv b ad)) (N := fs.length) X.1.1 X.1.2.1 X.2.1 w2 tyf w3 X.1.2.2.2.1 (X.2.1 _ w4) (X.2.1 _ w5) (X.2.1 _ w6) X.2.2.2.1 G.2.1 G.2.2.1 G.2.2.2 X.2.2.2.2.1 w1 (by rw [e1]; exact w7) (by omega) (by omega) hd (fun q H1 hP hD hS => ?_)
  refine av_push (x := .inr (ci, fs)) X HR hal G L (by omega) (by omega) hok ?_ hP hD hS k
  refine List.all_eq_true.mpr fun v hv => ?_
  have h0 := List.all_eq_true.mp w8 v hv
  rcases v with z | (_ | k) | z | u
  · rfl
  · rfl
  · simp [av_scv] at h0
  · rfl
  · rfl
theorem rn_objInit (pc' : Nat) {idx q : Nat} (hd : decode M.2.1 pc = .ok (.invokespecial idx, 3)) (hp : pc + 3 = pc') (hw : Cond.methodLink M.1.cls idx objectInit ∈ av_T ∧ Cond.instanceMethod objectInit ∈ av_T ∧ Cond.code objectInit ⟨#[0xb1]⟩ 1 none ∈ av_T) (hm : (st.map av_cat).sum ≤ 8) (k : av_Rn sc M (d + 1) al n0 bc bs pc' lv st h Φ) : av_Rn sc M (d + 1) al n0 bc bs pc lv (vR q :: st) h Φ := by
  subst hp
  intro p l e R s m args below meth c D ty A b ad0 mc ms Q X HR ad H locs ls cells slots G L hc hs
  have r1 := X.2.2.2.2.2.1.1
  have r2 := X.2.2.2.2.2.1.2.1
  have hm2 := av_mr (b := b) (ad := ad) st hm
  refine W.objInit X.1.1 X.1.2.1 X.1.2.2.2.1 (X.2.1 _ hw.1) (X.2.1 _ hw.2.1) (X.2.1 _ hw.2.2) rfl (L.1.trans X.1.2.2.1.symm) rfl hd (by omega) ?_ (k p l e R s m args below meth c D ty A b ad0 mc ms Q X HR ad H locs ls cells slots G L hc hs)
  show 2 * 0 + _ + 12 ≤ R.locals
  omega
/-- Math -/
def av_cwM (cls : String) (idx : Nat) (y : MethodName) (bytes : ByteArray) (n : Nat) : Prop := Cond.methodLink cls idx y ∈ av_T ∧ Cond.static y ∈ av_T ∧ Cond.initialized "java/lang/Math" ∈ av_T ∧ Cond.code y bytes n (some .int) ∈ av_T
theorem rn_max (pc' : Nat) {idx : Nat} {x y : Int} (hd : decode M.2.1 pc = .ok (.invokestatic idx, 3)) (hp : pc + 3 = pc') (hw : av_cwM M.1.cls idx Lib.Math.max.name Lib.Math.max.code 2) (hm : (st.map av_cat).sum ≤ 8) (hx : av_in x) (hy : av_in y) (k : av_Rn sc M (d + 1) al n0 bc bs pc' lv (vI (if x < y then y else x) :: st) h Φ) : av_Rn sc M (d + 1) al n0 bc bs pc lv (vI y :: vI x :: st) h Φ := by
  subst hp
  intro p l e R s m args below meth c D ty A b ad0 mc ms Q X HR ad H locs ls cells slots G L hc hs
  obtain ⟨-, -, -, -, -, ⟨r1, r2, r3, r4⟩, -⟩ := id X
  have hm2 := av_mr (b := b) (ad := ad) st hm
  have k := k p l e R s m args below meth c D ty A b ad0 mc ms Q X HR ad H locs ls cells slots G L hc hs
  refine va_mmax X.1.1 X.1.2.1 (X.1.2.2.1.trans L.1.symm) X.1.2.2.2.1 (X.2.1 _ hw.1) (X.2.1 _ hw.2.1) (X.2.1 _ hw.2.2.1) (X.2.1 _ hw.2.2.2) (by omega) (by omega) (by omega) (by omega) hd ?_
  have e2 : (if Int32.ofInt x < Int32.ofInt y then Int32.ofInt y else Int32.ofInt x) = Int32.ofInt (if x < y then y else x) := by
    by_cases q : x < y
    · rw [if_pos q, if_pos ((av_lt hx hy).mpr q)]
    · rw [if_neg q, if_neg (fun z => q ((av_lt hx hy).mp z))]
  rw [e2]
  exact k
theorem rn_min (pc' : Nat) {idx : Nat} {x y : Int} (hd : decode M.2.1 pc = .ok (.invokestatic idx, 3)) (hp : pc + 3 = pc') (hw : av_cwM M.1.cls idx Lib.Math.min.name Lib.Math.min.code 2) (hm : (st.map av_cat).sum ≤ 8) (hx : av_in x) (hy : av_in y) (k : av_Rn sc M (d + 1) al n0 bc bs pc' lv (vI (if y < x then y else x) :: st) h Φ) : av_Rn sc M (d + 1) al n0 bc bs pc lv (vI y :: vI x :: st) h Φ := by
  subst hp
  intro p l e R s m args below meth c D ty A b ad0 mc ms Q X HR ad H locs ls cells slots G L hc hs
  obtain ⟨-, -, -, -, -, ⟨r1, r2, r3, r4⟩, -⟩ := id X
  have hm2 := av_mr (b := b) (ad := ad) st hm
  have k := k p l e R s m args below meth c D ty A b ad0 mc ms Q X HR ad H locs ls cells slots G L hc hs
  refine va_mmin X.1.1 X.1.2.1 (X.1.2.2.1.trans L.1.symm) X.1.2.2.2.1 (X.2.1 _ hw.1) (X.2.1 _ hw.2.1) (X.2.1 _ hw.2.2.1) (X.2.1 _ hw.2.2.2) (by omega) (by omega) (by omega) (by omega) hd ?_
  have e2 : (if Int32.ofInt y < Int32.ofInt x then Int32.ofInt y else Int32.ofInt x) = Int32.ofInt (if y < x then y else x) := by
    by_cases q : y < x
    · rw [if_pos q, if_pos ((av_lt hy hx).mpr q)]
    · rw [if_neg q, if_neg (fun z => q ((av_lt hy hx).mp z))]
  rw [e2]
  exact k
theorem rn_abs (pc' : Nat) {idx : Nat} {x : Int} (hd : decode M.2.1 pc = .ok (.invokestatic idx, 3)) (hp : pc + 3 = pc') (hw : av_cwM M.1.cls idx Lib.Math.abs.name Lib.Math.abs.code 1) (hm : (st.map av_cat).sum ≤ 8) (hx : av_in x) (k : av_Rn sc M (d + 1) al n0 bc bs pc' lv (vI (if 0 ≤ x then x else 0 - x) :: st) h Φ) : av_Rn sc M (d + 1) al n0 bc bs pc lv (vI x :: st) h Φ := by
  subst hp
  intro p l e R s m args below meth c D ty A b ad0 mc ms Q X HR ad H locs ls cells slots G L hc hs
  obtain ⟨-, -, -, -, -, ⟨r1, r2, r3, r4⟩, -⟩ := id X
  have hm2 := av_mr (b := b) (ad := ad) st hm
  have k := k p l e R s m args below meth c D ty A b ad0 mc ms Q X HR ad H locs ls cells slots G L hc hs
  refine va_mabs X.1.1 X.1.2.1 (X.1.2.2.1.trans L.1.symm) X.1.2.2.2.1 (X.2.1 _ hw.1) (X.2.1 _ hw.2.1) (X.2.1 _ hw.2.2.1) (X.2.1 _ hw.2.2.2) (by omega) (by omega) (by omega) (by omega) hd ?_
  have e2 : (if 0 ≤ Int32.ofInt x then Int32.ofInt x else 0 - Int32.ofInt x) = Int32.ofInt (if 0 ≤ x then x else 0 - x) := by
    have h0 : ((0 : Int32) ≤ Int32.ofInt x) ↔ 0 ≤ x := av_le (x := 0) av_in0 hx
    by_cases q : 0 ≤ x
    · rw [if_pos q, if_pos (h0.mpr q)]
    · rw [if_neg q, if_neg (fun z => q (h0.mp z)), Int32.ofInt_sub]; rfl
  rw [e2]
  exact k
theorem rn_tabOut (tgt : Nat) {dflt lo hi : Int} {offs : Array Int} {len : Nat} {x : Int} (hd : decode M.2.1 pc = .ok (.tableswitch dflt lo hi offs, len)) (hx : av_in x) (h1 : x < lo ∨ hi < x) (ht : (pc : Int) + dflt = (tgt : Int)) (k : av_Rn sc M d al n0 bc bs tgt lv st h Φ) : av_Rn sc M d al n0 bc bs pc lv (vI x :: st) h Φ := by
  intro p l e R s m args below meth c D ty A b ad0 mc ms Q X HR ad H locs ls cells slots G L hc hs
  have ex : (Int32.ofInt x).toInt = x := Int32.toInt_ofInt_of_le (by have := hx.1; omega) (by have := hx.2; omega)
  exact lv_tableOut X.1.1 X.1.2.1 hd (by rw [ex]; exact h1) ht (k p l e R s m args below meth c D ty A b ad0 mc ms Q X HR ad H locs ls cells slots G L hc hs)
theorem rn_tabIn (tgt : Nat) {dflt lo hi off : Int} {offs : Array Int} {len : Nat} {x : Int} (hd : decode M.2.1 pc = .ok (.tableswitch dflt lo hi offs, len)) (hx : av_in x) (h1 : ¬ x < lo) (h2 : ¬ hi < x) (ho : offs[(x - lo).toNat]? = some off) (ht : (pc : Int) + off = (tgt : Int)) (k : av_Rn sc M d al n0 bc bs tgt lv st h Φ) : av_Rn sc M d al n0 bc bs pc lv (vI x :: st) h Φ := by
  intro p l e R s m args below meth c D ty A b ad0 mc ms Q X HR ad H locs ls cells slots G L hc hs
  have ex : (Int32.ofInt x).toInt = x := Int32.toInt_ofInt_of_le (by have := hx.1; omega) (by have := hx.2; omega)
  exact lv_tableIn X.1.1 X.1.2.1 hd (by rw [ex]; exact h1) (by rw [ex]; exact h2) (by rw [ex]; exact ho) ht (k p l e R s m args below meth c D ty A b ad0 mc ms Q X HR ad H locs ls cells slots G L hc hs)
end
end
section
def bz (P : Prop) [Decidable P] : Int := if P then 1 else 0
theorem bz_t {P : Prop} [Decidable P] (h : P) : bz P = 1 := if_pos h
theorem bz_f {P : Prop} [Decidable P] (h : ¬ P) : bz P = 0 := if_neg h
theorem bz_01 {P : Prop} [Decidable P] : bz P = 0 ∨ bz P = 1 := by
  by_cases h : P
  · exact Or.inr (bz_t h)
  · exact Or.inl (bz_f h)
theorem bz_in {P : Prop} [Decidable P] : av_in (bz P) := by
  rcases bz_01 (P := P) with h | h <;> rw [h] <;> exact ⟨by decide, by decide⟩
theorem bz_iff {P : Prop} [Decidable P] : bz P = 1 ↔ P := by
  by_cases h : P
  · simp [bz, h]
  · simp [bz, h]
section
variable {sc : av_sc} {M : av_M} {d n0 bc bs pc : Nat} {al : Bool} {lv : av_L} {st : List av_V} {h : av_H} {Φ : Option av_V → av_H → Prop}
theorem rn_ifB_eq (tgt pc' : Nat) {off : Int} {P : Prop} [Decidable P] (hd : decode M.2.1 pc = .ok (.ifCond .eq off, 3)) (ht : (pc : Int) + off = (tgt : Int)) (hp : pc + 3 = pc') (kt : ¬ P → av_Rn sc M d al n0 bc bs tgt lv st h Φ) (kf : P → av_Rn sc M d al n0 bc bs pc' lv st h Φ) : av_Rn sc M d al n0 bc bs pc lv (vI (bz P) :: st) h Φ :=
  rn_if_eq tgt pc' hd ht hp bz_in (fun q => kt (fun z => by rw [bz_t z] at q; cases q)) (fun q => kf (by
    by_cases z : P
    · exact z
    · exact absurd (bz_f z) q))
theorem rn_ifB_ne (tgt pc' : Nat) {off : Int} {P : Prop} [Decidable P] (hd : decode M.2.1 pc = .ok (.ifCond .ne off, 3)) (ht : (pc : Int) + off = (tgt : Int)) (hp : pc + 3 = pc') (kt : P → av_Rn sc M d al n0 bc bs tgt lv st h Φ) (kf : ¬ P → av_Rn sc M d al n0 bc bs pc' lv st h Φ) : av_Rn sc M d al n0 bc bs pc lv (vI (bz P) :: st) h Φ :=
  rn_if_ne tgt pc' hd ht hp bz_in (fun q => kt (by
    by_cases z : P
    · exact z
    · exact absurd (bz_f z) q)) (fun q => kf (fun z => by rw [bz_t z] at q; cases q))
theorem rn_icmp_same_ne (tgt pc' : Nat) {off : Int} {x : Int} (hd : decode M.2.1 pc = .ok (.if_icmp .ne off, 3)) (hp : pc + 3 = pc') (ht : (pc : Int) + off = (tgt : Int)) (kf : av_Rn sc M d al n0 bc bs pc' lv st h Φ) : av_Rn sc M d al n0 bc bs pc lv (vI x :: vI x :: st) h Φ := by
  subst hp
  intro p l e R s m args below meth c D ty A b ad0 mc ms Q X HR ad H locs ls cells slots G L hc hs
  exact lv_icmp_ne X.1.1 X.1.2.1 hd ht (fun q => absurd rfl q) (fun q => kf p l e R s m args below meth c D ty A b ad0 mc ms Q X HR ad H locs ls cells slots G L hc hs)
theorem rn_icmp_same_eq (tgt : Nat) {off : Int} {x : Int} (hd : decode M.2.1 pc = .ok (.if_icmp .eq off, 3)) (ht : (pc : Int) + off = (tgt : Int)) (kt : av_Rn sc M d al n0 bc bs tgt lv st h Φ) : av_Rn sc M d al n0 bc bs pc lv (vI x :: vI x :: st) h Φ := by
  intro p l e R s m args below meth c D ty A b ad0 mc ms Q X HR ad H locs ls cells slots G L hc hs
  exact lv_icmp_eq X.1.1 X.1.2.1 hd ht (fun q => kt p l e R s m args below meth c D ty A b ad0 mc ms Q X HR ad H locs ls cells slots G L hc hs) (fun q => absurd rfl q)
theorem rn_callV0 (pc' : Nat) {idx ci q : Nat} {fs : List av_V} {y : av_M}  {Ψ : Option av_V → av_H → Prop} (hd : decode M.2.1 pc = .ok (.invokevirtual idx, 3)) (hp : pc + 3 = pc') (hw : av_cwV M.1.cls idx y 0 ci) (hk : h[q]? = some (.inr (ci, fs))) (hm : (st.map av_cat).sum ≤ 8) (hE : av_Ev sc y d false 0 0 [vR q] h Ψ) (kk : ∀ r h', Ψ r h' → av_Rn sc M (d + 1) al n0 bc bs pc' lv (r.toList ++ st) h' Φ) : av_Rn sc M (d + 1) al n0 bc bs pc lv (vR q :: st) h Φ :=
  rn_callV (as := []) pc' hd hp hw hk rfl rfl hm hE (Or.inl rfl) kk
theorem rn_callV0A (pc' : Nat) {idx ci q c1 s1 : Nat} {fs : List av_V} {y : av_M}  {Ψ : Option av_V → av_H → Prop} (hd : decode M.2.1 pc = .ok (.invokevirtual idx, 3)) (hp : pc + 3 = pc') (hw : av_cwV M.1.cls idx y 0 ci) (hk : h[q]? = some (.inr (ci, fs))) (hm : (st.map av_cat).sum ≤ 8) (hE : av_Ev sc y d true c1 s1 [vR q] h Ψ) (hal : al = true) (hok : av_ok lv st h = true) (kk : ∀ r h', Ψ r h' → av_Rn sc M (d + 1) al n0 bc bs pc' lv (r.toList ++ st) h' Φ) : av_Rn sc M (d + 1) al n0 (bc + c1) (bs + s1) pc lv (vR q :: st) h Φ :=
  rn_callV (as := []) pc' hd hp hw hk rfl rfl hm hE (Or.inr ⟨hal, hok⟩) kk
theorem rn_callV1 (pc' : Nat) {idx ci q : Nat} {fs : List av_V} {y : av_M} {a1 : av_V} {Ψ : Option av_V → av_H → Prop} (hd : decode M.2.1 pc = .ok (.invokevirtual idx, 3)) (hp : pc + 3 = pc') (hw : av_cwV M.1.cls idx y 1 ci) (hk : h[q]? = some (.inr (ci, fs))) (hm : (st.map av_cat).sum ≤ 8) (hE : av_Ev sc y d false 0 0 [vR q, a1] h Ψ) (kk : ∀ r h', Ψ r h' → av_Rn sc M (d + 1) al n0 bc bs pc' lv (r.toList ++ st) h' Φ) : av_Rn sc M (d + 1) al n0 bc bs pc lv (a1 :: vR q :: st) h Φ :=
  rn_callV (as := [a1]) pc' hd hp hw hk rfl rfl hm hE (Or.inl rfl) kk
theorem rn_callV1A (pc' : Nat) {idx ci q c1 s1 : Nat} {fs : List av_V} {y : av_M} {a1 : av_V} {Ψ : Option av_V → av_H → Prop} (hd : decode M.2.1 pc = .ok (.invokevirtual idx, 3)) (hp : pc + 3 = pc') (hw : av_cwV M.1.cls idx y 1 ci) (hk : h[q]? = some (.inr (ci, fs))) (hm : (st.map av_cat).sum ≤ 8) (hE : av_Ev sc y d true c1 s1 [vR q, a1] h Ψ) (hal : al = true) (hok : av_ok lv st h = true) (kk : ∀ r h', Ψ r h' → av_Rn sc M (d + 1) al n0 bc bs pc' lv (r.toList ++ st) h' Φ) : av_Rn sc M (d + 1) al n0 (bc + c1) (bs + s1) pc lv (a1 :: vR q :: st) h Φ :=
  rn_callV (as := [a1]) pc' hd hp hw hk rfl rfl hm hE (Or.inr ⟨hal, hok⟩) kk
theorem rn_callV2 (pc' : Nat) {idx ci q : Nat} {fs : List av_V} {y : av_M} {a1 a2 : av_V} {Ψ : Option av_V → av_H → Prop} (hd : decode M.2.1 pc = .ok (.invokevirtual idx, 3)) (hp : pc + 3 = pc') (hw : av_cwV M.1.cls idx y 2 ci) (hk : h[q]? = some (.inr (ci, fs))) (hm : (st.map av_cat).sum ≤ 8) (hE : av_Ev sc y d false 0 0 [vR q, a1, a2] h Ψ) (kk : ∀ r h', Ψ r h' → av_Rn sc M (d + 1) al n0 bc bs pc' lv (r.toList ++ st) h' Φ) : av_Rn sc M (d + 1) al n0 bc bs pc lv (a2 :: a1 :: vR q :: st) h Φ :=
  rn_callV (as := [a1, a2]) pc' hd hp hw hk rfl rfl hm hE (Or.inl rfl) kk
theorem rn_callV2A (pc' : Nat) {idx ci q c1 s1 : Nat} {fs : List av_V} {y : av_M} {a1 a2 : av_V} {Ψ : Option av_V → av_H → Prop} (hd : decode M.2.1 pc = .ok (.invokevirtual idx, 3)) (hp : pc + 3 = pc') (hw : av_cwV M.1.cls idx y 2 ci) (hk : h[q]? = some (.inr (ci, fs))) (hm : (st.map av_cat).sum ≤ 8) (hE : av_Ev sc y d true c1 s1 [vR q, a1, a2] h Ψ) (hal : al = true) (hok : av_ok lv st h = true) (kk : ∀ r h', Ψ r h' → av_Rn sc M (d + 1) al n0 bc bs pc' lv (r.toList ++ st) h' Φ) : av_Rn sc M (d + 1) al n0 (bc + c1) (bs + s1) pc lv (a2 :: a1 :: vR q :: st) h Φ :=
  rn_callV (as := [a1, a2]) pc' hd hp hw hk rfl rfl hm hE (Or.inr ⟨hal, hok⟩) kk
theorem rn_callV3 (pc' : Nat) {idx ci q : Nat} {fs : List av_V} {y : av_M} {a1 a2 a3 : av_V} {Ψ : Option av_V → av_H → Prop} (hd : decode M.2.1 pc = .ok (.invokevirtual idx, 3)) (hp : pc + 3 = pc') (hw : av_cwV M.1.cls idx y 3 ci) (hk : h[q]? = some (.inr (ci, fs))) (hm : (st.map av_cat).sum ≤ 8) (hE : av_Ev sc y d false 0 0 [vR q, a1, a2, a3] h Ψ) (kk : ∀ r h', Ψ r h' → av_Rn sc M (d + 1) al n0 bc bs pc' lv (r.toList ++ st) h' Φ) : av_Rn sc M (d + 1) al n0 bc bs pc lv (a3 :: a2 :: a1 :: vR q :: st) h Φ :=
  rn_callV (as := [a1, a2, a3]) pc' hd hp hw hk rfl rfl hm hE (Or.inl rfl) kk
theorem rn_callV3A (pc' : Nat) {idx ci q c1 s1 : Nat} {fs : List av_V} {y : av_M} {a1 a2 a3 : av_V} {Ψ : Option av_V → av_H → Prop} (hd : decode M.2.1 pc = .ok (.invokevirtual idx, 3)) (hp : pc + 3 = pc') (hw : av_cwV M.1.cls idx y 3 ci) (hk : h[q]? = some (.inr (ci, fs))) (hm : (st.map av_cat).sum ≤ 8) (hE : av_Ev sc y d true c1 s1 [vR q, a1, a2, a3] h Ψ) (hal : al = true) (hok : av_ok lv st h = true) (kk : ∀ r h', Ψ r h' → av_Rn sc M (d + 1) al n0 bc bs pc' lv (r.toList ++ st) h' Φ) : av_Rn sc M (d + 1) al n0 (bc + c1) (bs + s1) pc lv (a3 :: a2 :: a1 :: vR q :: st) h Φ :=
  rn_callV (as := [a1, a2, a3]) pc' hd hp hw hk rfl rfl hm hE (Or.inr ⟨hal, hok⟩) kk
theorem rn_callV4 (pc' : Nat) {idx ci q : Nat} {fs : List av_V} {y : av_M} {a1 a2 a3 a4 : av_V} {Ψ : Option av_V → av_H → Prop} (hd : decode M.2.1 pc = .ok (.invokevirtual idx, 3)) (hp : pc + 3 = pc') (hw : av_cwV M.1.cls idx y 4 ci) (hk : h[q]? = some (.inr (ci, fs))) (hm : (st.map av_cat).sum ≤ 8) (hE : av_Ev sc y d false 0 0 [vR q, a1, a2, a3, a4] h Ψ) (kk : ∀ r h', Ψ r h' → av_Rn sc M (d + 1) al n0 bc bs pc' lv (r.toList ++ st) h' Φ) : av_Rn sc M (d + 1) al n0 bc bs pc lv (a4 :: a3 :: a2 :: a1 :: vR q :: st) h Φ :=
  rn_callV (as := [a1, a2, a3, a4]) pc' hd hp hw hk rfl rfl hm hE (Or.inl rfl) kk
theorem rn_callV4A (pc' : Nat) {idx ci q c1 s1 : Nat} {fs : List av_V} {y : av_M} {a1 a2 a3 a4 : av_V} {Ψ : Option av_V → av_H → Prop} (hd : decode M.2.1 pc = .ok (.invokevirtual idx, 3)) (hp : pc + 3 = pc') (hw : av_cwV M.1.cls idx y 4 ci) (hk : h[q]? = some (.inr (ci, fs))) (hm : (st.map av_cat).sum ≤ 8) (hE : av_Ev sc y d true c1 s1 [vR q, a1, a2, a3, a4] h Ψ) (hal : al = true) (hok : av_ok lv st h = true) (kk : ∀ r h', Ψ r h' → av_Rn sc M (d + 1) al n0 bc bs pc' lv (r.toList ++ st) h' Φ) : av_Rn sc M (d + 1) al n0 (bc + c1) (bs + s1) pc lv (a4 :: a3 :: a2 :: a1 :: vR q :: st) h Φ :=
  rn_callV (as := [a1, a2, a3, a4]) pc' hd hp hw hk rfl rfl hm hE (Or.inr ⟨hal, hok⟩) kk
theorem rn_callV5 (pc' : Nat) {idx ci q : Nat} {fs : List av_V} {y : av_M} {a1 a2 a3 a4 a5 : av_V} {Ψ : Option av_V → av_H → Prop} (hd : decode M.2.1 pc = .ok (.invokevirtual idx, 3)) (hp : pc + 3 = pc') (hw : av_cwV M.1.cls idx y 5 ci) (hk : h[q]? = some (.inr (ci, fs))) (hm : (st.map av_cat).sum ≤ 8) (hE : av_Ev sc y d false 0 0 [vR q, a1, a2, a3, a4, a5] h Ψ) (kk : ∀ r h', Ψ r h' → av_Rn sc M (d + 1) al n0 bc bs pc' lv (r.toList ++ st) h' Φ) : av_Rn sc M (d + 1) al n0 bc bs pc lv (a5 :: a4 :: a3 :: a2 :: a1 :: vR q :: st) h Φ :=
  rn_callV (as := [a1, a2, a3, a4, a5]) pc' hd hp hw hk rfl rfl hm hE (Or.inl rfl) kk
theorem rn_callV5A (pc' : Nat) {idx ci q c1 s1 : Nat} {fs : List av_V} {y : av_M} {a1 a2 a3 a4 a5 : av_V} {Ψ : Option av_V → av_H → Prop} (hd : decode M.2.1 pc = .ok (.invokevirtual idx, 3)) (hp : pc + 3 = pc') (hw : av_cwV M.1.cls idx y 5 ci) (hk : h[q]? = some (.inr (ci, fs))) (hm : (st.map av_cat).sum ≤ 8) (hE : av_Ev sc y d true c1 s1 [vR q, a1, a2, a3, a4, a5] h Ψ) (hal : al = true) (hok : av_ok lv st h = true) (kk : ∀ r h', Ψ r h' → av_Rn sc M (d + 1) al n0 bc bs pc' lv (r.toList ++ st) h' Φ) : av_Rn sc M (d + 1) al n0 (bc + c1) (bs + s1) pc lv (a5 :: a4 :: a3 :: a2 :: a1 :: vR q :: st) h Φ :=
  rn_callV (as := [a1, a2, a3, a4, a5]) pc' hd hp hw hk rfl rfl hm hE (Or.inr ⟨hal, hok⟩) kk
theorem rn_callS0 (pc' : Nat) {idx : Nat} {y : av_M}  {Ψ : Option av_V → av_H → Prop} (hd : decode M.2.1 pc = .ok (.invokestatic idx, 3)) (hp : pc + 3 = pc') (hw : av_cwS M.1.cls idx y 0) (hm : (st.map av_cat).sum ≤ 8) (hE : av_Ev sc y d false 0 0 [] h Ψ) (kk : ∀ r h', Ψ r h' → av_Rn sc M (d + 1) al n0 bc bs pc' lv (r.toList ++ st) h' Φ) : av_Rn sc M (d + 1) al n0 bc bs pc lv (st) h Φ :=
  rn_callS (as := []) pc' hd hp hw rfl rfl hm hE (Or.inl rfl) kk
theorem rn_callS0A (pc' : Nat) {idx c1 s1 : Nat} {y : av_M}  {Ψ : Option av_V → av_H → Prop} (hd : decode M.2.1 pc = .ok (.invokestatic idx, 3)) (hp : pc + 3 = pc') (hw : av_cwS M.1.cls idx y 0) (hm : (st.map av_cat).sum ≤ 8) (hE : av_Ev sc y d true c1 s1 [] h Ψ) (hal : al = true) (hok : av_ok lv st h = true) (kk : ∀ r h', Ψ r h' → av_Rn sc M (d + 1) al n0 bc bs pc' lv (r.toList ++ st) h' Φ) : av_Rn sc M (d + 1) al n0 (bc + c1) (bs + s1) pc lv (st) h Φ :=
  rn_callS (as := []) pc' hd hp hw rfl rfl hm hE (Or.inr ⟨hal, hok⟩) kk
theorem rn_callS1 (pc' : Nat) {idx : Nat} {y : av_M} {a1 : av_V} {Ψ : Option av_V → av_H → Prop} (hd : decode M.2.1 pc = .ok (.invokestatic idx, 3)) (hp : pc + 3 = pc') (hw : av_cwS M.1.cls idx y 1) (hm : (st.map av_cat).sum ≤ 8) (hE : av_Ev sc y d false 0 0 [a1] h Ψ) (kk : ∀ r h', Ψ r h' → av_Rn sc M (d + 1) al n0 bc bs pc' lv (r.toList ++ st) h' Φ) : av_Rn sc M (d + 1) al n0 bc bs pc lv (a1 :: st) h Φ :=
  rn_callS (as := [a1]) pc' hd hp hw rfl rfl hm hE (Or.inl rfl) kk
theorem rn_callS1A (pc' : Nat) {idx c1 s1 : Nat} {y : av_M} {a1 : av_V} {Ψ : Option av_V → av_H → Prop} (hd : decode M.2.1 pc = .ok (.invokestatic idx, 3)) (hp : pc + 3 = pc') (hw : av_cwS M.1.cls idx y 1) (hm : (st.map av_cat).sum ≤ 8) (hE : av_Ev sc y d true c1 s1 [a1] h Ψ) (hal : al = true) (hok : av_ok lv st h = true) (kk : ∀ r h', Ψ r h' → av_Rn sc M (d + 1) al n0 bc bs pc' lv (r.toList ++ st) h' Φ) : av_Rn sc M (d + 1) al n0 (bc + c1) (bs + s1) pc lv (a1 :: st) h Φ :=
  rn_callS (as := [a1]) pc' hd hp hw rfl rfl hm hE (Or.inr ⟨hal, hok⟩) kk
theorem rn_callS2 (pc' : Nat) {idx : Nat} {y : av_M} {a1 a2 : av_V} {Ψ : Option av_V → av_H → Prop} (hd : decode M.2.1 pc = .ok (.invokestatic idx, 3)) (hp : pc + 3 = pc') (hw : av_cwS M.1.cls idx y 2) (hm : (st.map av_cat).sum ≤ 8) (hE : av_Ev sc y d false 0 0 [a1, a2] h Ψ) (kk : ∀ r h', Ψ r h' → av_Rn sc M (d + 1) al n0 bc bs pc' lv (r.toList ++ st) h' Φ) : av_Rn sc M (d + 1) al n0 bc bs pc lv (a2 :: a1 :: st) h Φ :=
  rn_callS (as := [a1, a2]) pc' hd hp hw rfl rfl hm hE (Or.inl rfl) kk
theorem rn_callS2A (pc' : Nat) {idx c1 s1 : Nat} {y : av_M} {a1 a2 : av_V} {Ψ : Option av_V → av_H → Prop} (hd : decode M.2.1 pc = .ok (.invokestatic idx, 3)) (hp : pc + 3 = pc') (hw : av_cwS M.1.cls idx y 2) (hm : (st.map av_cat).sum ≤ 8) (hE : av_Ev sc y d true c1 s1 [a1, a2] h Ψ) (hal : al = true) (hok : av_ok lv st h = true) (kk : ∀ r h', Ψ r h' → av_Rn sc M (d + 1) al n0 bc bs pc' lv (r.toList ++ st) h' Φ) : av_Rn sc M (d + 1) al n0 (bc + c1) (bs + s1) pc lv (a2 :: a1 :: st) h Φ :=
  rn_callS (as := [a1, a2]) pc' hd hp hw rfl rfl hm hE (Or.inr ⟨hal, hok⟩) kk
theorem rn_callS3 (pc' : Nat) {idx : Nat} {y : av_M} {a1 a2 a3 : av_V} {Ψ : Option av_V → av_H → Prop} (hd : decode M.2.1 pc = .ok (.invokestatic idx, 3)) (hp : pc + 3 = pc') (hw : av_cwS M.1.cls idx y 3) (hm : (st.map av_cat).sum ≤ 8) (hE : av_Ev sc y d false 0 0 [a1, a2, a3] h Ψ) (kk : ∀ r h', Ψ r h' → av_Rn sc M (d + 1) al n0 bc bs pc' lv (r.toList ++ st) h' Φ) : av_Rn sc M (d + 1) al n0 bc bs pc lv (a3 :: a2 :: a1 :: st) h Φ :=
  rn_callS (as := [a1, a2, a3]) pc' hd hp hw rfl rfl hm hE (Or.inl rfl) kk
theorem rn_callS3A (pc' : Nat) {idx c1 s1 : Nat} {y : av_M} {a1 a2 a3 : av_V} {Ψ : Option av_V → av_H → Prop} (hd : decode M.2.1 pc = .ok (.invokestatic idx, 3)) (hp : pc + 3 = pc') (hw : av_cwS M.1.cls idx y 3) (hm : (st.map av_cat).sum ≤ 8) (hE : av_Ev sc y d true c1 s1 [a1, a2, a3] h Ψ) (hal : al = true) (hok : av_ok lv st h = true) (kk : ∀ r h', Ψ r h' → av_Rn sc M (d + 1) al n0 bc bs pc' lv (r.toList ++ st) h' Φ) : av_Rn sc M (d + 1) al n0 (bc + c1) (bs + s1) pc lv (a3 :: a2 :: a1 :: st) h Φ :=
  rn_callS (as := [a1, a2, a3]) pc' hd hp hw rfl rfl hm hE (Or.inr ⟨hal, hok⟩) kk
theorem rn_callS4 (pc' : Nat) {idx : Nat} {y : av_M} {a1 a2 a3 a4 : av_V} {Ψ : Option av_V → av_H → Prop} (hd : decode M.2.1 pc = .ok (.invokestatic idx, 3)) (hp : pc + 3 = pc') (hw : av_cwS M.1.cls idx y 4) (hm : (st.map av_cat).sum ≤ 8) (hE : av_Ev sc y d false 0 0 [a1, a2, a3, a4] h Ψ) (kk : ∀ r h', Ψ r h' → av_Rn sc M (d + 1) al n0 bc bs pc' lv (r.toList ++ st) h' Φ) : av_Rn sc M (d + 1) al n0 bc bs pc lv (a4 :: a3 :: a2 :: a1 :: st) h Φ :=
  rn_callS (as := [a1, a2, a3, a4]) pc' hd hp hw rfl rfl hm hE (Or.inl rfl) kk
theorem rn_callS4A (pc' : Nat) {idx c1 s1 : Nat} {y : av_M} {a1 a2 a3 a4 : av_V} {Ψ : Option av_V → av_H → Prop} (hd : decode M.2.1 pc = .ok (.invokestatic idx, 3)) (hp : pc + 3 = pc') (hw : av_cwS M.1.cls idx y 4) (hm : (st.map av_cat).sum ≤ 8) (hE : av_Ev sc y d true c1 s1 [a1, a2, a3, a4] h Ψ) (hal : al = true) (hok : av_ok lv st h = true) (kk : ∀ r h', Ψ r h' → av_Rn sc M (d + 1) al n0 bc bs pc' lv (r.toList ++ st) h' Φ) : av_Rn sc M (d + 1) al n0 (bc + c1) (bs + s1) pc lv (a4 :: a3 :: a2 :: a1 :: st) h Φ :=
  rn_callS (as := [a1, a2, a3, a4]) pc' hd hp hw rfl rfl hm hE (Or.inr ⟨hal, hok⟩) kk
theorem rn_callS5 (pc' : Nat) {idx : Nat} {y : av_M} {a1 a2 a3 a4 a5 : av_V} {Ψ : Option av_V → av_H → Prop} (hd : decode M.2.1 pc = .ok (.invokestatic idx, 3)) (hp : pc + 3 = pc') (hw : av_cwS M.1.cls idx y 5) (hm : (st.map av_cat).sum ≤ 8) (hE : av_Ev sc y d false 0 0 [a1, a2, a3, a4, a5] h Ψ) (kk : ∀ r h', Ψ r h' → av_Rn sc M (d + 1) al n0 bc bs pc' lv (r.toList ++ st) h' Φ) : av_Rn sc M (d + 1) al n0 bc bs pc lv (a5 :: a4 :: a3 :: a2 :: a1 :: st) h Φ :=
  rn_callS (as := [a1, a2, a3, a4, a5]) pc' hd hp hw rfl rfl hm hE (Or.inl rfl) kk
theorem rn_callS5A (pc' : Nat) {idx c1 s1 : Nat} {y : av_M} {a1 a2 a3 a4 a5 : av_V} {Ψ : Option av_V → av_H → Prop} (hd : decode M.2.1 pc = .ok (.invokestatic idx, 3)) (hp : pc + 3 = pc') (hw : av_cwS M.1.cls idx y 5) (hm : (st.map av_cat).sum ≤ 8) (hE : av_Ev sc y d true c1 s1 [a1, a2, a3, a4, a5] h Ψ) (hal : al = true) (hok : av_ok lv st h = true) (kk : ∀ r h', Ψ r h' → av_Rn sc M (d + 1) al n0 bc bs pc' lv (r.toList ++ st) h' Φ) : av_Rn sc M (d + 1) al n0 (bc + c1) (bs + s1) pc lv (a5 :: a4 :: a3 :: a2 :: a1 :: st) h Φ :=
  rn_callS (as := [a1, a2, a3, a4, a5]) pc' hd hp hw rfl rfl hm hE (Or.inr ⟨hal, hok⟩) kk
theorem rn_callI0 (pc' : Nat) {idx q : Nat} {y : av_M}  {Ψ : Option av_V → av_H → Prop} (hd : decode M.2.1 pc = .ok (.invokespecial idx, 3)) (hp : pc + 3 = pc') (hw : av_cwI M.1.cls idx y 0) (hm : (st.map av_cat).sum ≤ 8) (hE : av_Ev sc y d false 0 0 [vR q] h Ψ) (kk : ∀ r h', Ψ r h' → av_Rn sc M (d + 1) al n0 bc bs pc' lv (r.toList ++ st) h' Φ) : av_Rn sc M (d + 1) al n0 bc bs pc lv (vR q :: st) h Φ :=
  rn_callI (as := []) pc' hd hp hw rfl rfl hm hE (Or.inl rfl) kk
theorem rn_callI0A (pc' : Nat) {idx q c1 s1 : Nat} {y : av_M}  {Ψ : Option av_V → av_H → Prop} (hd : decode M.2.1 pc = .ok (.invokespecial idx, 3)) (hp : pc + 3 = pc') (hw : av_cwI M.1.cls idx y 0) (hm : (st.map av_cat).sum ≤ 8) (hE : av_Ev sc y d true c1 s1 [vR q] h Ψ) (hal : al = true) (hok : av_ok lv st h = true) (kk : ∀ r h', Ψ r h' → av_Rn sc M (d + 1) al n0 bc bs pc' lv (r.toList ++ st) h' Φ) : av_Rn sc M (d + 1) al n0 (bc + c1) (bs + s1) pc lv (vR q :: st) h Φ :=
  rn_callI (as := []) pc' hd hp hw rfl rfl hm hE (Or.inr ⟨hal, hok⟩) kk
theorem rn_callI1 (pc' : Nat) {idx q : Nat} {y : av_M} {a1 : av_V} {Ψ : Option av_V → av_H → Prop} (hd : decode M.2.1 pc = .ok (.invokespecial idx, 3)) (hp : pc + 3 = pc') (hw : av_cwI M.1.cls idx y 1) (hm : (st.map av_cat).sum ≤ 8) (hE : av_Ev sc y d false 0 0 [vR q, a1] h Ψ) (kk : ∀ r h', Ψ r h' → av_Rn sc M (d + 1) al n0 bc bs pc' lv (r.toList ++ st) h' Φ) : av_Rn sc M (d + 1) al n0 bc bs pc lv (a1 :: vR q :: st) h Φ :=
  rn_callI (as := [a1]) pc' hd hp hw rfl rfl hm hE (Or.inl rfl) kk
theorem rn_callI1A (pc' : Nat) {idx q c1 s1 : Nat} {y : av_M} {a1 : av_V} {Ψ : Option av_V → av_H → Prop} (hd : decode M.2.1 pc = .ok (.invokespecial idx, 3)) (hp : pc + 3 = pc') (hw : av_cwI M.1.cls idx y 1) (hm : (st.map av_cat).sum ≤ 8) (hE : av_Ev sc y d true c1 s1 [vR q, a1] h Ψ) (hal : al = true) (hok : av_ok lv st h = true) (kk : ∀ r h', Ψ r h' → av_Rn sc M (d + 1) al n0 bc bs pc' lv (r.toList ++ st) h' Φ) : av_Rn sc M (d + 1) al n0 (bc + c1) (bs + s1) pc lv (a1 :: vR q :: st) h Φ :=
  rn_callI (as := [a1]) pc' hd hp hw rfl rfl hm hE (Or.inr ⟨hal, hok⟩) kk
theorem rn_callI2 (pc' : Nat) {idx q : Nat} {y : av_M} {a1 a2 : av_V} {Ψ : Option av_V → av_H → Prop} (hd : decode M.2.1 pc = .ok (.invokespecial idx, 3)) (hp : pc + 3 = pc') (hw : av_cwI M.1.cls idx y 2) (hm : (st.map av_cat).sum ≤ 8) (hE : av_Ev sc y d false 0 0 [vR q, a1, a2] h Ψ) (kk : ∀ r h', Ψ r h' → av_Rn sc M (d + 1) al n0 bc bs pc' lv (r.toList ++ st) h' Φ) : av_Rn sc M (d + 1) al n0 bc bs pc lv (a2 :: a1 :: vR q :: st) h Φ :=
  rn_callI (as := [a1, a2]) pc' hd hp hw rfl rfl hm hE (Or.inl rfl) kk
theorem rn_callI2A (pc' : Nat) {idx q c1 s1 : Nat} {y : av_M} {a1 a2 : av_V} {Ψ : Option av_V → av_H → Prop} (hd : decode M.2.1 pc = .ok (.invokespecial idx, 3)) (hp : pc + 3 = pc') (hw : av_cwI M.1.cls idx y 2) (hm : (st.map av_cat).sum ≤ 8) (hE : av_Ev sc y d true c1 s1 [vR q, a1, a2] h Ψ) (hal : al = true) (hok : av_ok lv st h = true) (kk : ∀ r h', Ψ r h' → av_Rn sc M (d + 1) al n0 bc bs pc' lv (r.toList ++ st) h' Φ) : av_Rn sc M (d + 1) al n0 (bc + c1) (bs + s1) pc lv (a2 :: a1 :: vR q :: st) h Φ :=
  rn_callI (as := [a1, a2]) pc' hd hp hw rfl rfl hm hE (Or.inr ⟨hal, hok⟩) kk
theorem rn_callI3 (pc' : Nat) {idx q : Nat} {y : av_M} {a1 a2 a3 : av_V} {Ψ : Option av_V → av_H → Prop} (hd : decode M.2.1 pc = .ok (.invokespecial idx, 3)) (hp : pc + 3 = pc') (hw : av_cwI M.1.cls idx y 3) (hm : (st.map av_cat).sum ≤ 8) (hE : av_Ev sc y d false 0 0 [vR q, a1, a2, a3] h Ψ) (kk : ∀ r h', Ψ r h' → av_Rn sc M (d + 1) al n0 bc bs pc' lv (r.toList ++ st) h' Φ) : av_Rn sc M (d + 1) al n0 bc bs pc lv (a3 :: a2 :: a1 :: vR q :: st) h Φ :=
  rn_callI (as := [a1, a2, a3]) pc' hd hp hw rfl rfl hm hE (Or.inl rfl) kk
theorem rn_callI3A (pc' : Nat) {idx q c1 s1 : Nat} {y : av_M} {a1 a2 a3 : av_V} {Ψ : Option av_V → av_H → Prop} (hd : decode M.2.1 pc = .ok (.invokespecial idx, 3)) (hp : pc + 3 = pc') (hw : av_cwI M.1.cls idx y 3) (hm : (st.map av_cat).sum ≤ 8) (hE : av_Ev sc y d true c1 s1 [vR q, a1, a2, a3] h Ψ) (hal : al = true) (hok : av_ok lv st h = true) (kk : ∀ r h', Ψ r h' → av_Rn sc M (d + 1) al n0 bc bs pc' lv (r.toList ++ st) h' Φ) : av_Rn sc M (d + 1) al n0 (bc + c1) (bs + s1) pc lv (a3 :: a2 :: a1 :: vR q :: st) h Φ :=
  rn_callI (as := [a1, a2, a3]) pc' hd hp hw rfl rfl hm hE (Or.inr ⟨hal, hok⟩) kk
theorem rn_callI4 (pc' : Nat) {idx q : Nat} {y : av_M} {a1 a2 a3 a4 : av_V} {Ψ : Option av_V → av_H → Prop} (hd : decode M.2.1 pc = .ok (.invokespecial idx, 3)) (hp : pc + 3 = pc') (hw : av_cwI M.1.cls idx y 4) (hm : (st.map av_cat).sum ≤ 8) (hE : av_Ev sc y d false 0 0 [vR q, a1, a2, a3, a4] h Ψ) (kk : ∀ r h', Ψ r h' → av_Rn sc M (d + 1) al n0 bc bs pc' lv (r.toList ++ st) h' Φ) : av_Rn sc M (d + 1) al n0 bc bs pc lv (a4 :: a3 :: a2 :: a1 :: vR q :: st) h Φ :=
  rn_callI (as := [a1, a2, a3, a4]) pc' hd hp hw rfl rfl hm hE (Or.inl rfl) kk
theorem rn_callI4A (pc' : Nat) {idx q c1 s1 : Nat} {y : av_M} {a1 a2 a3 a4 : av_V} {Ψ : Option av_V → av_H → Prop} (hd : decode M.2.1 pc = .ok (.invokespecial idx, 3)) (hp : pc + 3 = pc') (hw : av_cwI M.1.cls idx y 4) (hm : (st.map av_cat).sum ≤ 8) (hE : av_Ev sc y d true c1 s1 [vR q, a1, a2, a3, a4] h Ψ) (hal : al = true) (hok : av_ok lv st h = true) (kk : ∀ r h', Ψ r h' → av_Rn sc M (d + 1) al n0 bc bs pc' lv (r.toList ++ st) h' Φ) : av_Rn sc M (d + 1) al n0 (bc + c1) (bs + s1) pc lv (a4 :: a3 :: a2 :: a1 :: vR q :: st) h Φ :=
  rn_callI (as := [a1, a2, a3, a4]) pc' hd hp hw rfl rfl hm hE (Or.inr ⟨hal, hok⟩) kk
theorem rn_callI5 (pc' : Nat) {idx q : Nat} {y : av_M} {a1 a2 a3 a4 a5 : av_V} {Ψ : Option av_V → av_H → Prop} (hd : decode M.2.1 pc = .ok (.invokespecial idx, 3)) (hp : pc + 3 = pc') (hw : av_cwI M.1.cls idx y 5) (hm : (st.map av_cat).sum ≤ 8) (hE : av_Ev sc y d false 0 0 [vR q, a1, a2, a3, a4, a5] h Ψ) (kk : ∀ r h', Ψ r h' → av_Rn sc M (d + 1) al n0 bc bs pc' lv (r.toList ++ st) h' Φ) : av_Rn sc M (d + 1) al n0 bc bs pc lv (a5 :: a4 :: a3 :: a2 :: a1 :: vR q :: st) h Φ :=
  rn_callI (as := [a1, a2, a3, a4, a5]) pc' hd hp hw rfl rfl hm hE (Or.inl rfl) kk
theorem rn_callI5A (pc' : Nat) {idx q c1 s1 : Nat} {y : av_M} {a1 a2 a3 a4 a5 : av_V} {Ψ : Option av_V → av_H → Prop} (hd : decode M.2.1 pc = .ok (.invokespecial idx, 3)) (hp : pc + 3 = pc') (hw : av_cwI M.1.cls idx y 5) (hm : (st.map av_cat).sum ≤ 8) (hE : av_Ev sc y d true c1 s1 [vR q, a1, a2, a3, a4, a5] h Ψ) (hal : al = true) (hok : av_ok lv st h = true) (kk : ∀ r h', Ψ r h' → av_Rn sc M (d + 1) al n0 bc bs pc' lv (r.toList ++ st) h' Φ) : av_Rn sc M (d + 1) al n0 (bc + c1) (bs + s1) pc lv (a5 :: a4 :: a3 :: a2 :: a1 :: vR q :: st) h Φ :=
  rn_callI (as := [a1, a2, a3, a4, a5]) pc' hd hp hw rfl rfl hm hE (Or.inr ⟨hal, hok⟩) kk
theorem rn_callN0 (pc' : Nat) {idx q : Nat} {y : av_M}  {Ψ : Option av_V → av_H → Prop} (hd : decode M.2.1 pc = .ok (.invokespecial idx, 3)) (hp : pc + 3 = pc') (hw : av_cwN M.1.cls idx y 0) (hm : (st.map av_cat).sum ≤ 8) (hE : av_Ev sc y d false 0 0 [vR q] h Ψ) (kk : ∀ r h', Ψ r h' → av_Rn sc M (d + 1) al n0 bc bs pc' lv (r.toList ++ st) h' Φ) : av_Rn sc M (d + 1) al n0 bc bs pc lv (vR q :: st) h Φ :=
  rn_callN (as := []) pc' hd hp hw rfl rfl hm hE (Or.inl rfl) kk
theorem rn_callN0A (pc' : Nat) {idx q c1 s1 : Nat} {y : av_M}  {Ψ : Option av_V → av_H → Prop} (hd : decode M.2.1 pc = .ok (.invokespecial idx, 3)) (hp : pc + 3 = pc') (hw : av_cwN M.1.cls idx y 0) (hm : (st.map av_cat).sum ≤ 8) (hE : av_Ev sc y d true c1 s1 [vR q] h Ψ) (hal : al = true) (hok : av_ok lv st h = true) (kk : ∀ r h', Ψ r h' → av_Rn sc M (d + 1) al n0 bc bs pc' lv (r.toList ++ st) h' Φ) : av_Rn sc M (d + 1) al n0 (bc + c1) (bs + s1) pc lv (vR q :: st) h Φ :=
  rn_callN (as := []) pc' hd hp hw rfl rfl hm hE (Or.inr ⟨hal, hok⟩) kk
theorem rn_callN1 (pc' : Nat) {idx q : Nat} {y : av_M} {a1 : av_V} {Ψ : Option av_V → av_H → Prop} (hd : decode M.2.1 pc = .ok (.invokespecial idx, 3)) (hp : pc + 3 = pc') (hw : av_cwN M.1.cls idx y 1) (hm : (st.map av_cat).sum ≤ 8) (hE : av_Ev sc y d false 0 0 [vR q, a1] h Ψ) (kk : ∀ r h', Ψ r h' → av_Rn sc M (d + 1) al n0 bc bs pc' lv (r.toList ++ st) h' Φ) : av_Rn sc M (d + 1) al n0 bc bs pc lv (a1 :: vR q :: st) h Φ :=
  rn_callN (as := [a1]) pc' hd hp hw rfl rfl hm hE (Or.inl rfl) kk
theorem rn_callN1A (pc' : Nat) {idx q c1 s1 : Nat} {y : av_M} {a1 : av_V} {Ψ : Option av_V → av_H → Prop} (hd : decode M.2.1 pc = .ok (.invokespecial idx, 3)) (hp : pc + 3 = pc') (hw : av_cwN M.1.cls idx y 1) (hm : (st.map av_cat).sum ≤ 8) (hE : av_Ev sc y d true c1 s1 [vR q, a1] h Ψ) (hal : al = true) (hok : av_ok lv st h = true) (kk : ∀ r h', Ψ r h' → av_Rn sc M (d + 1) al n0 bc bs pc' lv (r.toList ++ st) h' Φ) : av_Rn sc M (d + 1) al n0 (bc + c1) (bs + s1) pc lv (a1 :: vR q :: st) h Φ :=
  rn_callN (as := [a1]) pc' hd hp hw rfl rfl hm hE (Or.inr ⟨hal, hok⟩) kk
theorem rn_callN2 (pc' : Nat) {idx q : Nat} {y : av_M} {a1 a2 : av_V} {Ψ : Option av_V → av_H → Prop} (hd : decode M.2.1 pc = .ok (.invokespecial idx, 3)) (hp : pc + 3 = pc') (hw : av_cwN M.1.cls idx y 2) (hm : (st.map av_cat).sum ≤ 8) (hE : av_Ev sc y d false 0 0 [vR q, a1, a2] h Ψ) (kk : ∀ r h', Ψ r h' → av_Rn sc M (d + 1) al n0 bc bs pc' lv (r.toList ++ st) h' Φ) : av_Rn sc M (d + 1) al n0 bc bs pc lv (a2 :: a1 :: vR q :: st) h Φ :=
  rn_callN (as := [a1, a2]) pc' hd hp hw rfl rfl hm hE (Or.inl rfl) kk
theorem rn_callN2A (pc' : Nat) {idx q c1 s1 : Nat} {y : av_M} {a1 a2 : av_V} {Ψ : Option av_V → av_H → Prop} (hd : decode M.2.1 pc = .ok (.invokespecial idx, 3)) (hp : pc + 3 = pc') (hw : av_cwN M.1.cls idx y 2) (hm : (st.map av_cat).sum ≤ 8) (hE : av_Ev sc y d true c1 s1 [vR q, a1, a2] h Ψ) (hal : al = true) (hok : av_ok lv st h = true) (kk : ∀ r h', Ψ r h' → av_Rn sc M (d + 1) al n0 bc bs pc' lv (r.toList ++ st) h' Φ) : av_Rn sc M (d + 1) al n0 (bc + c1) (bs + s1) pc lv (a2 :: a1 :: vR q :: st) h Φ :=
  rn_callN (as := [a1, a2]) pc' hd hp hw rfl rfl hm hE (Or.inr ⟨hal, hok⟩) kk
theorem rn_callN3 (pc' : Nat) {idx q : Nat} {y : av_M} {a1 a2 a3 : av_V} {Ψ : Option av_V → av_H → Prop} (hd : decode M.2.1 pc = .ok (.invokespecial idx, 3)) (hp : pc + 3 = pc') (hw : av_cwN M.1.cls idx y 3) (hm : (st.map av_cat).sum ≤ 8) (hE : av_Ev sc y d false 0 0 [vR q, a1, a2, a3] h Ψ) (kk : ∀ r h', Ψ r h' → av_Rn sc M (d + 1) al n0 bc bs pc' lv (r.toList ++ st) h' Φ) : av_Rn sc M (d + 1) al n0 bc bs pc lv (a3 :: a2 :: a1 :: vR q :: st) h Φ :=
  rn_callN (as := [a1, a2, a3]) pc' hd hp hw rfl rfl hm hE (Or.inl rfl) kk
theorem rn_callN3A (pc' : Nat) {idx q c1 s1 : Nat} {y : av_M} {a1 a2 a3 : av_V} {Ψ : Option av_V → av_H → Prop} (hd : decode M.2.1 pc = .ok (.invokespecial idx, 3)) (hp : pc + 3 = pc') (hw : av_cwN M.1.cls idx y 3) (hm : (st.map av_cat).sum ≤ 8) (hE : av_Ev sc y d true c1 s1 [vR q, a1, a2, a3] h Ψ) (hal : al = true) (hok : av_ok lv st h = true) (kk : ∀ r h', Ψ r h' → av_Rn sc M (d + 1) al n0 bc bs pc' lv (r.toList ++ st) h' Φ) : av_Rn sc M (d + 1) al n0 (bc + c1) (bs + s1) pc lv (a3 :: a2 :: a1 :: vR q :: st) h Φ :=
  rn_callN (as := [a1, a2, a3]) pc' hd hp hw rfl rfl hm hE (Or.inr ⟨hal, hok⟩) kk
theorem rn_callN4 (pc' : Nat) {idx q : Nat} {y : av_M} {a1 a2 a3 a4 : av_V} {Ψ : Option av_V → av_H → Prop} (hd : decode M.2.1 pc = .ok (.invokespecial idx, 3)) (hp : pc + 3 = pc') (hw : av_cwN M.1.cls idx y 4) (hm : (st.map av_cat).sum ≤ 8) (hE : av_Ev sc y d false 0 0 [vR q, a1, a2, a3, a4] h Ψ) (kk : ∀ r h', Ψ r h' → av_Rn sc M (d + 1) al n0 bc bs pc' lv (r.toList ++ st) h' Φ) : av_Rn sc M (d + 1) al n0 bc bs pc lv (a4 :: a3 :: a2 :: a1 :: vR q :: st) h Φ :=
  rn_callN (as := [a1, a2, a3, a4]) pc' hd hp hw rfl rfl hm hE (Or.inl rfl) kk
theorem rn_callN4A (pc' : Nat) {idx q c1 s1 : Nat} {y : av_M} {a1 a2 a3 a4 : av_V} {Ψ : Option av_V → av_H → Prop} (hd : decode M.2.1 pc = .ok (.invokespecial idx, 3)) (hp : pc + 3 = pc') (hw : av_cwN M.1.cls idx y 4) (hm : (st.map av_cat).sum ≤ 8) (hE : av_Ev sc y d true c1 s1 [vR q, a1, a2, a3, a4] h Ψ) (hal : al = true) (hok : av_ok lv st h = true) (kk : ∀ r h', Ψ r h' → av_Rn sc M (d + 1) al n0 bc bs pc' lv (r.toList ++ st) h' Φ) : av_Rn sc M (d + 1) al n0 (bc + c1) (bs + s1) pc lv (a4 :: a3 :: a2 :: a1 :: vR q :: st) h Φ :=
  rn_callN (as := [a1, a2, a3, a4]) pc' hd hp hw rfl rfl hm hE (Or.inr ⟨hal, hok⟩) kk
theorem rn_callN5 (pc' : Nat) {idx q : Nat} {y : av_M} {a1 a2 a3 a4 a5 : av_V} {Ψ : Option av_V → av_H → Prop} (hd : decode M.2.1 pc = .ok (.invokespecial idx, 3)) (hp : pc + 3 = pc') (hw : av_cwN M.1.cls idx y 5) (hm : (st.map av_cat).sum ≤ 8) (hE : av_Ev sc y d false 0 0 [vR q, a1, a2, a3, a4, a5] h Ψ) (kk : ∀ r h', Ψ r h' → av_Rn sc M (d + 1) al n0 bc bs pc' lv (r.toList ++ st) h' Φ) : av_Rn sc M (d + 1) al n0 bc bs pc lv (a5 :: a4 :: a3 :: a2 :: a1 :: vR q :: st) h Φ :=
  rn_callN (as := [a1, a2, a3, a4, a5]) pc' hd hp hw rfl rfl hm hE (Or.inl rfl) kk
theorem rn_callN5A (pc' : Nat) {idx q c1 s1 : Nat} {y : av_M} {a1 a2 a3 a4 a5 : av_V} {Ψ : Option av_V → av_H → Prop} (hd : decode M.2.1 pc = .ok (.invokespecial idx, 3)) (hp : pc + 3 = pc') (hw : av_cwN M.1.cls idx y 5) (hm : (st.map av_cat).sum ≤ 8) (hE : av_Ev sc y d true c1 s1 [vR q, a1, a2, a3, a4, a5] h Ψ) (hal : al = true) (hok : av_ok lv st h = true) (kk : ∀ r h', Ψ r h' → av_Rn sc M (d + 1) al n0 bc bs pc' lv (r.toList ++ st) h' Φ) : av_Rn sc M (d + 1) al n0 (bc + c1) (bs + s1) pc lv (a5 :: a4 :: a3 :: a2 :: a1 :: vR q :: st) h Φ :=
  rn_callN (as := [a1, a2, a3, a4, a5]) pc' hd hp hw rfl rfl hm hE (Or.inr ⟨hal, hok⟩) kk
end
end
