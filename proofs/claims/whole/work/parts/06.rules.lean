section
variable {sc : av_sc} {M : av_M} {d n0 bc bs pc : Nat} {al : Bool} {lv : av_L} {st : List av_V} {h : av_H} {Φ : Option av_V → av_H → Prop}
theorem rn_iconst (pc' : Nat) {n : Int} (hd : decode M.2.1 pc = .ok (.iconst n, 1)) (hp : pc + 1 = pc')  (k : av_Rn sc M d al n0 bc bs pc' lv (vI n :: st) h Φ) : av_Rn sc M d al n0 bc bs pc lv (st) h Φ := by
  subst hp
  intro p l e R s m args below meth c D ty A b ad0 mc ms Q X HR ad H locs ls cells slots G L hc hs
  have k := k p l e R s m args below meth c D ty A b ad0 mc ms Q X HR ad H locs ls cells slots G L hc hs
  exact lv_iconst X.1.1 X.1.2.1 hd rfl k
theorem rn_bipush (pc' : Nat) {n : Int} (hd : decode M.2.1 pc = .ok (.bipush n, 2)) (hp : pc + 2 = pc') (hv : (Int8.ofInt n).toInt32 = Int32.ofInt n) (k : av_Rn sc M d al n0 bc bs pc' lv (vI n :: st) h Φ) : av_Rn sc M d al n0 bc bs pc lv (st) h Φ := by
  subst hp
  intro p l e R s m args below meth c D ty A b ad0 mc ms Q X HR ad H locs ls cells slots G L hc hs
  have k := k p l e R s m args below meth c D ty A b ad0 mc ms Q X HR ad H locs ls cells slots G L hc hs
  exact lv_bipush X.1.1 X.1.2.1 hd hv k
theorem rn_sipush (pc' : Nat) {n : Int} (hd : decode M.2.1 pc = .ok (.sipush n, 3)) (hp : pc + 3 = pc') (hv : (Int16.ofInt n).toInt32 = Int32.ofInt n) (k : av_Rn sc M d al n0 bc bs pc' lv (vI n :: st) h Φ) : av_Rn sc M d al n0 bc bs pc lv (st) h Φ := by
  subst hp
  intro p l e R s m args below meth c D ty A b ad0 mc ms Q X HR ad H locs ls cells slots G L hc hs
  have k := k p l e R s m args below meth c D ty A b ad0 mc ms Q X HR ad H locs ls cells slots G L hc hs
  exact lv_sipush X.1.1 X.1.2.1 hd hv k
theorem rn_ldc (pc' : Nat) {i : Nat} {v : Int32} (hd : decode M.2.1 pc = .ok (.ldc i, 2)) (hp : pc + 2 = pc') (n : Int) (hw : Cond.constant M.1.cls i v ∈ av_T) (hv : v = Int32.ofInt n) (k : av_Rn sc M d al n0 bc bs pc' lv (vI n :: st) h Φ) : av_Rn sc M d al n0 bc bs pc lv (st) h Φ := by
  subst hp
  intro p l e R s m args below meth c D ty A b ad0 mc ms Q X HR ad H locs ls cells slots G L hc hs
  have k := k p l e R s m args below meth c D ty A b ad0 mc ms Q X HR ad H locs ls cells slots G L hc hs
  exact lv_ldc X.1.1 X.1.2.1 X.1.2.2.2.1 (X.2.1 _ hw) hd (hv ▸ k)
theorem rn_iload_n (pc' : Nat) {i : Fin 4} {z : Int} (hd : decode M.2.1 pc = .ok (.iload_n i, 1)) (hp : pc + 1 = pc') (hv : lv[(i : Nat)]? = some (some (vI z))) (k : av_Rn sc M d al n0 bc bs pc' lv (vI z :: st) h Φ) : av_Rn sc M d al n0 bc bs pc lv (st) h Φ := by
  subst hp
  intro p l e R s m args below meth c D ty A b ad0 mc ms Q X HR ad H locs ls cells slots G L hc hs
  have k := k p l e R s m args below meth c D ty A b ad0 mc ms Q X HR ad H locs ls cells slots G L hc hs
  exact lv_iload_n X.1.1 X.1.2.1 hd rfl (av_hs_at L hv) k
theorem rn_iload (pc' : Nat) {i : Nat} {z : Int} (hd : decode M.2.1 pc = .ok (.iload i, 2)) (hp : pc + 2 = pc') (hv : lv[i]? = some (some (vI z))) (k : av_Rn sc M d al n0 bc bs pc' lv (vI z :: st) h Φ) : av_Rn sc M d al n0 bc bs pc lv (st) h Φ := by
  subst hp
  intro p l e R s m args below meth c D ty A b ad0 mc ms Q X HR ad H locs ls cells slots G L hc hs
  have k := k p l e R s m args below meth c D ty A b ad0 mc ms Q X HR ad H locs ls cells slots G L hc hs
  exact lv_iload X.1.1 X.1.2.1 hd (av_hs_at L hv) k
theorem rn_aload_n (pc' : Nat) {i : Fin 4} {q : Nat} (hd : decode M.2.1 pc = .ok (.aload_n i, 1)) (hp : pc + 1 = pc') (hv : lv[(i : Nat)]? = some (some (vR q))) (k : av_Rn sc M d al n0 bc bs pc' lv (vR q :: st) h Φ) : av_Rn sc M d al n0 bc bs pc lv (st) h Φ := by
  subst hp
  intro p l e R s m args below meth c D ty A b ad0 mc ms Q X HR ad H locs ls cells slots G L hc hs
  have k := k p l e R s m args below meth c D ty A b ad0 mc ms Q X HR ad H locs ls cells slots G L hc hs
  exact lv_aload_n X.1.1 X.1.2.1 hd rfl (av_hs_at L hv) k
theorem rn_aload (pc' : Nat) {i : Nat} {q : Nat} (hd : decode M.2.1 pc = .ok (.aload i, 2)) (hp : pc + 2 = pc') (hv : lv[i]? = some (some (vR q))) (k : av_Rn sc M d al n0 bc bs pc' lv (vR q :: st) h Φ) : av_Rn sc M d al n0 bc bs pc lv (st) h Φ := by
  subst hp
  intro p l e R s m args below meth c D ty A b ad0 mc ms Q X HR ad H locs ls cells slots G L hc hs
  have k := k p l e R s m args below meth c D ty A b ad0 mc ms Q X HR ad H locs ls cells slots G L hc hs
  exact lv_aload X.1.1 X.1.2.1 hd (av_hs_at L hv) k
theorem rn_aload_nS (pc' : Nat) {i : Fin 4} (hd : decode M.2.1 pc = .ok (.aload_n i, 1)) (hp : pc + 1 = pc') (hv : lv[(i : Nat)]? = some (some vS)) (k : av_Rn sc M d al n0 bc bs pc' lv (vS :: st) h Φ) : av_Rn sc M d al n0 bc bs pc lv (st) h Φ := by
  subst hp
  intro p l e R s m args below meth c D ty A b ad0 mc ms Q X HR ad H locs ls cells slots G L hc hs
  have k := k p l e R s m args below meth c D ty A b ad0 mc ms Q X HR ad H locs ls cells slots G L hc hs
  exact lv_aload_n X.1.1 X.1.2.1 hd rfl (av_hs_at L hv) k
theorem rn_lload_n (pc' : Nat) {i : Fin 4} {z : Int} (hd : decode M.2.1 pc = .ok (.lload_n i, 1)) (hp : pc + 1 = pc') (hv : lv[(i : Nat)]? = some (some (vG z))) (k : av_Rn sc M d al n0 bc bs pc' lv (vG z :: st) h Φ) : av_Rn sc M d al n0 bc bs pc lv (st) h Φ := by
  subst hp
  intro p l e R s m args below meth c D ty A b ad0 mc ms Q X HR ad H locs ls cells slots G L hc hs
  have k := k p l e R s m args below meth c D ty A b ad0 mc ms Q X HR ad H locs ls cells slots G L hc hs
  exact lv_lload_n X.1.1 X.1.2.1 hd rfl (av_hs_at L hv) k
theorem rn_lload (pc' : Nat) {i : Nat} {z : Int} (hd : decode M.2.1 pc = .ok (.lload i, 2)) (hp : pc + 2 = pc') (hv : lv[i]? = some (some (vG z))) (k : av_Rn sc M d al n0 bc bs pc' lv (vG z :: st) h Φ) : av_Rn sc M d al n0 bc bs pc lv (st) h Φ := by
  subst hp
  intro p l e R s m args below meth c D ty A b ad0 mc ms Q X HR ad H locs ls cells slots G L hc hs
  have k := k p l e R s m args below meth c D ty A b ad0 mc ms Q X HR ad H locs ls cells slots G L hc hs
  exact lv_lload X.1.1 X.1.2.1 hd (av_hs_at L hv) k
theorem rn_istore_n (pc' : Nat) {i : Fin 4} {z : Int} {lv' : av_L} (hd : decode M.2.1 pc = .ok (.istore_n i, 1)) (hp : pc + 1 = pc') (hn : (i : Nat) < M.2.2.1) (hnl : av_nl lv (i : Nat) = true) (hl : (lv.set (i : Nat) (some (vI z))) = lv') (k : av_Rn sc M d al n0 bc bs pc' lv' (st) h Φ) : av_Rn sc M d al n0 bc bs pc lv (vI z :: st) h Φ := by
  subst hp; subst hl
  intro p l e R s m args below meth c D ty A b ad0 mc ms Q X HR ad H locs ls cells slots G L hc hs
  exact lv_istore_n X.1.1 X.1.2.1 hd rfl L hn rfl (fun ls' L' => k p l e R s m args below meth c D ty A b ad0 mc ms Q X HR ad H locs ls' cells slots G (av_st1 hnl L') hc hs)
theorem rn_istore (pc' : Nat) {i : Nat} {z : Int} {lv' : av_L} (hd : decode M.2.1 pc = .ok (.istore i, 2)) (hp : pc + 2 = pc') (hn : i < M.2.2.1) (hnl : av_nl lv i = true) (hl : (lv.set i (some (vI z))) = lv') (k : av_Rn sc M d al n0 bc bs pc' lv' (st) h Φ) : av_Rn sc M d al n0 bc bs pc lv (vI z :: st) h Φ := by
  subst hp; subst hl
  intro p l e R s m args below meth c D ty A b ad0 mc ms Q X HR ad H locs ls cells slots G L hc hs
  exact lv_istore X.1.1 X.1.2.1 hd  L hn rfl (fun ls' L' => k p l e R s m args below meth c D ty A b ad0 mc ms Q X HR ad H locs ls' cells slots G (av_st1 hnl L') hc hs)
theorem rn_astore_n (pc' : Nat) {i : Fin 4} {q : Nat} {lv' : av_L} (hd : decode M.2.1 pc = .ok (.astore_n i, 1)) (hp : pc + 1 = pc') (hn : (i : Nat) < M.2.2.1) (hnl : av_nl lv (i : Nat) = true) (hl : (lv.set (i : Nat) (some (vR q))) = lv') (k : av_Rn sc M d al n0 bc bs pc' lv' (st) h Φ) : av_Rn sc M d al n0 bc bs pc lv (vR q :: st) h Φ := by
  subst hp; subst hl
  intro p l e R s m args below meth c D ty A b ad0 mc ms Q X HR ad H locs ls cells slots G L hc hs
  exact lv_astore_n X.1.1 X.1.2.1 hd rfl L hn rfl (fun ls' L' => k p l e R s m args below meth c D ty A b ad0 mc ms Q X HR ad H locs ls' cells slots G (av_st1 hnl L') hc hs)
theorem rn_astore (pc' : Nat) {i : Nat} {q : Nat} {lv' : av_L} (hd : decode M.2.1 pc = .ok (.astore i, 2)) (hp : pc + 2 = pc') (hn : i < M.2.2.1) (hnl : av_nl lv i = true) (hl : (lv.set i (some (vR q))) = lv') (k : av_Rn sc M d al n0 bc bs pc' lv' (st) h Φ) : av_Rn sc M d al n0 bc bs pc lv (vR q :: st) h Φ := by
  subst hp; subst hl
  intro p l e R s m args below meth c D ty A b ad0 mc ms Q X HR ad H locs ls cells slots G L hc hs
  exact lv_astore X.1.1 X.1.2.1 hd  L hn rfl (fun ls' L' => k p l e R s m args below meth c D ty A b ad0 mc ms Q X HR ad H locs ls' cells slots G (av_st1 hnl L') hc hs)
theorem rn_lstore_n (pc' : Nat) {i : Fin 4} {z : Int} {lv' : av_L} (hd : decode M.2.1 pc = .ok (.lstore_n i, 1)) (hp : pc + 1 = pc') (hn : (i : Nat) + 1 < M.2.2.1) (hnl : av_nl lv (i : Nat) = true) (hl : ((lv.set (i : Nat) (some (vG z))).set ((i : Nat) + 1) none) = lv') (k : av_Rn sc M d al n0 bc bs pc' lv' (st) h Φ) : av_Rn sc M d al n0 bc bs pc lv (vG z :: st) h Φ := by
  subst hp; subst hl
  intro p l e R s m args below meth c D ty A b ad0 mc ms Q X HR ad H locs ls cells slots G L hc hs
  exact lv_lstore_n X.1.1 X.1.2.1 hd rfl L hn rfl (fun ls' L' => k p l e R s m args below meth c D ty A b ad0 mc ms Q X HR ad H locs ls' cells slots G (av_st2 hnl L') hc hs)
theorem rn_lstore (pc' : Nat) {i : Nat} {z : Int} {lv' : av_L} (hd : decode M.2.1 pc = .ok (.lstore i, 2)) (hp : pc + 2 = pc') (hn : i + 1 < M.2.2.1) (hnl : av_nl lv i = true) (hl : ((lv.set i (some (vG z))).set (i + 1) none) = lv') (k : av_Rn sc M d al n0 bc bs pc' lv' (st) h Φ) : av_Rn sc M d al n0 bc bs pc lv (vG z :: st) h Φ := by
  subst hp; subst hl
  intro p l e R s m args below meth c D ty A b ad0 mc ms Q X HR ad H locs ls cells slots G L hc hs
  exact lv_lstore X.1.1 X.1.2.1 hd  L hn rfl (fun ls' L' => k p l e R s m args below meth c D ty A b ad0 mc ms Q X HR ad H locs ls' cells slots G (av_st2 hnl L') hc hs)
theorem rn_iinc (pc' : Nat) {i : Nat} {n z : Int} {lv' : av_L} (hd : decode M.2.1 pc = .ok (.iinc i n, 3)) (hp : pc + 3 = pc') (hv : lv[i]? = some (some (vI z))) (hn : i < M.2.2.1) (hnl : av_nl lv i = true) (hl : lv.set i (some (vI (z + n))) = lv') (k : av_Rn sc M d al n0 bc bs pc' lv' (st) h Φ) : av_Rn sc M d al n0 bc bs pc lv (st) h Φ := by
  subst hp; subst hl
  intro p l e R s m args below meth c D ty A b ad0 mc ms Q X HR ad H locs ls cells slots G L hc hs
  obtain ⟨j, hj⟩ := List.getElem?_of_mem (av_tl_mem.mpr ⟨vI z, hv, rfl⟩ : (i, av_tv b ad (vI z)) ∈ av_tl b ad lv)
  exact lv_iinc (k := j) X.1.1 X.1.2.1 hd L hj (v := Int32.ofInt (z + n)) (Int32.ofInt_add z n).symm hn rfl (fun ls' L' => k p l e R s m args below meth c D ty A b ad0 mc ms Q X HR ad H locs ls' cells slots G (av_st1 (v := vI (z + n)) hnl L') hc hs)
theorem rn_iadd (pc' : Nat) {x y : Int} (hd : decode M.2.1 pc = .ok (.iadd, 1)) (hp : pc + 1 = pc')  (k : av_Rn sc M d al n0 bc bs pc' lv (vI (x + y) :: st) h Φ) : av_Rn sc M d al n0 bc bs pc lv (vI y :: vI x :: st) h Φ := by
  subst hp
  intro p l e R s m args below meth c D ty A b ad0 mc ms Q X HR ad H locs ls cells slots G L hc hs
  have k := k p l e R s m args below meth c D ty A b ad0 mc ms Q X HR ad H locs ls cells slots G L hc hs
  exact lv_iadd X.1.1 X.1.2.1 hd (by rw [← Int32.ofInt_add]; exact k)
theorem rn_isub (pc' : Nat) {x y : Int} (hd : decode M.2.1 pc = .ok (.isub, 1)) (hp : pc + 1 = pc')  (k : av_Rn sc M d al n0 bc bs pc' lv (vI (x - y) :: st) h Φ) : av_Rn sc M d al n0 bc bs pc lv (vI y :: vI x :: st) h Φ := by
  subst hp
  intro p l e R s m args below meth c D ty A b ad0 mc ms Q X HR ad H locs ls cells slots G L hc hs
  have k := k p l e R s m args below meth c D ty A b ad0 mc ms Q X HR ad H locs ls cells slots G L hc hs
  exact lv_isub X.1.1 X.1.2.1 hd (by rw [← Int32.ofInt_sub]; exact k)
theorem rn_imul (pc' : Nat) {x y : Int} (hd : decode M.2.1 pc = .ok (.imul, 1)) (hp : pc + 1 = pc')  (k : av_Rn sc M d al n0 bc bs pc' lv (vI (x * y) :: st) h Φ) : av_Rn sc M d al n0 bc bs pc lv (vI y :: vI x :: st) h Φ := by
  subst hp
  intro p l e R s m args below meth c D ty A b ad0 mc ms Q X HR ad H locs ls cells slots G L hc hs
  have k := k p l e R s m args below meth c D ty A b ad0 mc ms Q X HR ad H locs ls cells slots G L hc hs
  exact lv_imul X.1.1 X.1.2.1 hd (by rw [← Int32.ofInt_mul]; exact k)
theorem rn_ineg (pc' : Nat) {x : Int} (hd : decode M.2.1 pc = .ok (.ineg, 1)) (hp : pc + 1 = pc')  (k : av_Rn sc M d al n0 bc bs pc' lv (vI (-x) :: st) h Φ) : av_Rn sc M d al n0 bc bs pc lv (vI x :: st) h Φ := by
  subst hp
  intro p l e R s m args below meth c D ty A b ad0 mc ms Q X HR ad H locs ls cells slots G L hc hs
  have k := k p l e R s m args below meth c D ty A b ad0 mc ms Q X HR ad H locs ls cells slots G L hc hs
  exact lv_ineg X.1.1 X.1.2.1 hd (by rw [← Int32.ofInt_neg]; exact k)
theorem rn_idiv (pc' : Nat) {x y : Int} (hd : decode M.2.1 pc = .ok (.idiv, 1)) (hp : pc + 1 = pc') (hx : av_in x) (hy : av_in y) (hy0 : y ≠ 0) (k : av_Rn sc M d al n0 bc bs pc' lv (vI (x.tdiv y) :: st) h Φ) : av_Rn sc M d al n0 bc bs pc lv (vI y :: vI x :: st) h Φ := by
  subst hp
  intro p l e R s m args below meth c D ty A b ad0 mc ms Q X HR ad H locs ls cells slots G L hc hs
  have k := k p l e R s m args below meth c D ty A b ad0 mc ms Q X HR ad H locs ls cells slots G L hc hs
  exact lv_idiv X.1.1 X.1.2.1 hd (fun q => hy0 ((av_eq hy av_in0).mp q)) (by rw [← av_div hx hy]; exact k)
theorem rn_irem (pc' : Nat) {x y : Int} (hd : decode M.2.1 pc = .ok (.irem, 1)) (hp : pc + 1 = pc') (hx : av_in x) (hy : av_in y) (hy0 : y ≠ 0) (k : av_Rn sc M d al n0 bc bs pc' lv (vI (x.tmod y) :: st) h Φ) : av_Rn sc M d al n0 bc bs pc lv (vI y :: vI x :: st) h Φ := by
  subst hp
  intro p l e R s m args below meth c D ty A b ad0 mc ms Q X HR ad H locs ls cells slots G L hc hs
  have k := k p l e R s m args below meth c D ty A b ad0 mc ms Q X HR ad H locs ls cells slots G L hc hs
  exact lv_irem X.1.1 X.1.2.1 hd (fun q => hy0 ((av_eq hy av_in0).mp q)) (by rw [← av_div hx hy, ← Int32.ofInt_mul, ← Int32.ofInt_sub, av_mod]; exact k)
theorem rn_iand (pc' : Nat) {x y : Int} (hd : decode M.2.1 pc = .ok (.iand, 1)) (hp : pc + 1 = pc') (z : Int) (hz : Int32.ofInt x &&& Int32.ofInt y = Int32.ofInt z) (k : av_Rn sc M d al n0 bc bs pc' lv (vI z :: st) h Φ) : av_Rn sc M d al n0 bc bs pc lv (vI y :: vI x :: st) h Φ := by
  subst hp
  intro p l e R s m args below meth c D ty A b ad0 mc ms Q X HR ad H locs ls cells slots G L hc hs
  have k := k p l e R s m args below meth c D ty A b ad0 mc ms Q X HR ad H locs ls cells slots G L hc hs
  exact lv_iand X.1.1 X.1.2.1 hd (by rw [hz]; exact k)
theorem rn_ior (pc' : Nat) {x y : Int} (hd : decode M.2.1 pc = .ok (.ior, 1)) (hp : pc + 1 = pc') (z : Int) (hz : Int32.ofInt x ||| Int32.ofInt y = Int32.ofInt z) (k : av_Rn sc M d al n0 bc bs pc' lv (vI z :: st) h Φ) : av_Rn sc M d al n0 bc bs pc lv (vI y :: vI x :: st) h Φ := by
  subst hp
  intro p l e R s m args below meth c D ty A b ad0 mc ms Q X HR ad H locs ls cells slots G L hc hs
  have k := k p l e R s m args below meth c D ty A b ad0 mc ms Q X HR ad H locs ls cells slots G L hc hs
  exact lv_ior X.1.1 X.1.2.1 hd (by rw [hz]; exact k)
theorem rn_iushr (pc' : Nat) {x y : Int} (hd : decode M.2.1 pc = .ok (.iushr, 1)) (hp : pc + 1 = pc') (z : Int) (hz : ((Int32.ofInt x).toUInt32 >>> ((Int32.ofInt y).toUInt32 &&& Int32.toUInt32 31)).toInt32 = Int32.ofInt z) (k : av_Rn sc M d al n0 bc bs pc' lv (vI z :: st) h Φ) : av_Rn sc M d al n0 bc bs pc lv (vI y :: vI x :: st) h Φ := by
  subst hp
  intro p l e R s m args below meth c D ty A b ad0 mc ms Q X HR ad H locs ls cells slots G L hc hs
  have k := k p l e R s m args below meth c D ty A b ad0 mc ms Q X HR ad H locs ls cells slots G L hc hs
  exact lv_iushr X.1.1 X.1.2.1 hd hz k
theorem rn_i2l (pc' : Nat) {x : Int} (hd : decode M.2.1 pc = .ok (.i2l, 1)) (hp : pc + 1 = pc') (hx : av_in x) (k : av_Rn sc M d al n0 bc bs pc' lv (vG x :: st) h Φ) : av_Rn sc M d al n0 bc bs pc lv (vI x :: st) h Φ := by
  subst hp
  intro p l e R s m args below meth c D ty A b ad0 mc ms Q X HR ad H locs ls cells slots G L hc hs
  have k := k p l e R s m args below meth c D ty A b ad0 mc ms Q X HR ad H locs ls cells slots G L hc hs
  exact lv_i2l X.1.1 X.1.2.1 hd (Int32.toInt64_ofInt hx.1 (Int.le_of_lt_add_one hx.2)) k
theorem rn_lmul (pc' : Nat) {x y : Int} (hd : decode M.2.1 pc = .ok (.lmul, 1)) (hp : pc + 1 = pc')  (k : av_Rn sc M d al n0 bc bs pc' lv (vG (x * y) :: st) h Φ) : av_Rn sc M d al n0 bc bs pc lv (vG y :: vG x :: st) h Φ := by
  subst hp
  intro p l e R s m args below meth c D ty A b ad0 mc ms Q X HR ad H locs ls cells slots G L hc hs
  have k := k p l e R s m args below meth c D ty A b ad0 mc ms Q X HR ad H locs ls cells slots G L hc hs
  exact lv_lmul X.1.1 X.1.2.1 hd (by rw [← Int64.ofInt_mul]; exact k)
theorem rn_ladd (pc' : Nat) {x y : Int} (hd : decode M.2.1 pc = .ok (.ladd, 1)) (hp : pc + 1 = pc')  (k : av_Rn sc M d al n0 bc bs pc' lv (vG (x + y) :: st) h Φ) : av_Rn sc M d al n0 bc bs pc lv (vG y :: vG x :: st) h Φ := by
  subst hp
  intro p l e R s m args below meth c D ty A b ad0 mc ms Q X HR ad H locs ls cells slots G L hc hs
  have k := k p l e R s m args below meth c D ty A b ad0 mc ms Q X HR ad H locs ls cells slots G L hc hs
  exact lv_ladd X.1.1 X.1.2.1 hd (by rw [← Int64.ofInt_add]; exact k)
theorem rn_lconst0 (pc' : Nat)  (hd : decode M.2.1 pc = .ok (.lconst 0, 1)) (hp : pc + 1 = pc')  (k : av_Rn sc M d al n0 bc bs pc' lv (vG 0 :: st) h Φ) : av_Rn sc M d al n0 bc bs pc lv (st) h Φ := by
  subst hp
  intro p l e R s m args below meth c D ty A b ad0 mc ms Q X HR ad H locs ls cells slots G L hc hs
  have k := k p l e R s m args below meth c D ty A b ad0 mc ms Q X HR ad H locs ls cells slots G L hc hs
  exact lv_lconst (v := Int64.ofInt 0) X.1.1 X.1.2.1 hd rfl k
theorem rn_lcmp (pc' : Nat) {x y : Int} (hd : decode M.2.1 pc = .ok (.lcmp, 1)) (hp : pc + 1 = pc') (hx : av_iL x) (hy : av_iL y) (k : av_Rn sc M d al n0 bc bs pc' lv (vI (if y < x then 1 else if x = y then 0 else -1) :: st) h Φ) : av_Rn sc M d al n0 bc bs pc lv (vG y :: vG x :: st) h Φ := by
  subst hp
  intro p l e R s m args below meth c D ty A b ad0 mc ms Q X HR ad H locs ls cells slots G L hc hs
  have k := k p l e R s m args below meth c D ty A b ad0 mc ms Q X HR ad H locs ls cells slots G L hc hs
  exact W.lcmp X.1.1 X.1.2.1 hd (by rw [av_lcmp hx hy]; exact k)
theorem rn_dup (pc' : Nat) {v : av_V} (hd : decode M.2.1 pc = .ok (.dup, 1)) (hp : pc + 1 = pc') (hv : av_cat v = 1) (k : av_Rn sc M d al n0 bc bs pc' lv (v :: v :: st) h Φ) : av_Rn sc M d al n0 bc bs pc lv (v :: st) h Φ := by
  subst hp
  intro p l e R s m args below meth c D ty A b ad0 mc ms Q X HR ad H locs ls cells slots G L hc hs
  have k := k p l e R s m args below meth c D ty A b ad0 mc ms Q X HR ad H locs ls cells slots G L hc hs
  exact lv_dup X.1.1 X.1.2.1 hd ((av_cat_tv _ _ _).trans hv) k
theorem rn_pop (pc' : Nat) {v : av_V} (hd : decode M.2.1 pc = .ok (.pop, 1)) (hp : pc + 1 = pc') (hv : av_cat v = 1) (k : av_Rn sc M d al n0 bc bs pc' lv (st) h Φ) : av_Rn sc M d al n0 bc bs pc lv (v :: st) h Φ := by
  subst hp
  intro p l e R s m args below meth c D ty A b ad0 mc ms Q X HR ad H locs ls cells slots G L hc hs
  have k := k p l e R s m args below meth c D ty A b ad0 mc ms Q X HR ad H locs ls cells slots G L hc hs
  exact lv_pop X.1.1 X.1.2.1 hd ((av_cat_tv _ _ _).trans hv) k
theorem rn_dup_x1 (pc' : Nat) {v v2 : av_V} (hd : decode M.2.1 pc = .ok (.dup_x1, 1)) (hp : pc + 1 = pc') (hv : av_cat v = 1) (hv2 : av_cat v2 = 1) (k : av_Rn sc M d al n0 bc bs pc' lv (v :: v2 :: v :: st) h Φ) : av_Rn sc M d al n0 bc bs pc lv (v :: v2 :: st) h Φ := by
  subst hp
  intro p l e R s m args below meth c D ty A b ad0 mc ms Q X HR ad H locs ls cells slots G L hc hs
  have k := k p l e R s m args below meth c D ty A b ad0 mc ms Q X HR ad H locs ls cells slots G L hc hs
  exact lv_dup_x1 X.1.1 X.1.2.1 hd ((av_cat_tv _ _ _).trans hv) ((av_cat_tv _ _ _).trans hv2) k
theorem rn_dup_x2 (pc' : Nat) {v v2 v3 : av_V} (hd : decode M.2.1 pc = .ok (.dup_x2, 1)) (hp : pc + 1 = pc') (hv : av_cat v = 1) (hv2 : av_cat v2 = 1) (hv3 : av_cat v3 = 1) (k : av_Rn sc M d al n0 bc bs pc' lv (v :: v2 :: v3 :: v :: st) h Φ) : av_Rn sc M d al n0 bc bs pc lv (v :: v2 :: v3 :: st) h Φ := by
  subst hp
  intro p l e R s m args below meth c D ty A b ad0 mc ms Q X HR ad H locs ls cells slots G L hc hs
  have k := k p l e R s m args below meth c D ty A b ad0 mc ms Q X HR ad H locs ls cells slots G L hc hs
  exact lv_dup_x2 X.1.1 X.1.2.1 hd ((av_cat_tv _ _ _).trans hv) ((av_cat_tv _ _ _).trans hv2) ((av_cat_tv _ _ _).trans hv3) k
theorem rn_dup2 (pc' : Nat) {v v2 : av_V} (hd : decode M.2.1 pc = .ok (.dup2, 1)) (hp : pc + 1 = pc') (hv : av_cat v = 1) (hv2 : av_cat v2 = 1) (k : av_Rn sc M d al n0 bc bs pc' lv (v :: v2 :: v :: v2 :: st) h Φ) : av_Rn sc M d al n0 bc bs pc lv (v :: v2 :: st) h Φ := by
  subst hp
  intro p l e R s m args below meth c D ty A b ad0 mc ms Q X HR ad H locs ls cells slots G L hc hs
  have k := k p l e R s m args below meth c D ty A b ad0 mc ms Q X HR ad H locs ls cells slots G L hc hs
  exact lv_dup2_11 X.1.1 X.1.2.1 hd ((av_cat_tv _ _ _).trans hv) ((av_cat_tv _ _ _).trans hv2) k
theorem rn_goto (tgt : Nat) {off : Int} (hd : decode M.2.1 pc = .ok (.goto off, 3)) (ht : (pc : Int) + off = (tgt : Int)) (k : av_Rn sc M d al n0 bc bs tgt lv (st) h Φ) : av_Rn sc M d al n0 bc bs pc lv (st) h Φ := by
  intro p l e R s m args below meth c D ty A b ad0 mc ms Q X HR ad H locs ls cells slots G L hc hs
  exact lv_goto X.1.1 X.1.2.1 hd ht (k p l e R s m args below meth c D ty A b ad0 mc ms Q X HR ad H locs ls cells slots G L hc hs)
theorem rn_icmp_eq (tgt pc' : Nat) {off : Int} {x y : Int} (hd : decode M.2.1 pc = .ok (.if_icmp .eq off, 3)) (ht : (pc : Int) + off = (tgt : Int)) (hp : pc + 3 = pc') (hx : av_in x) (hy : av_in y) (kt : x = y → av_Rn sc M d al n0 bc bs tgt lv (st) h Φ) (kf : ¬ x = y → av_Rn sc M d al n0 bc bs pc' lv (st) h Φ) : av_Rn sc M d al n0 bc bs pc lv (vI y :: vI x :: st) h Φ := by
  subst hp
  intro p l e R s m args below meth c D ty A b ad0 mc ms Q X HR ad H locs ls cells slots G L hc hs
  exact lv_icmp_eq X.1.1 X.1.2.1 hd ht (fun q => kt ((av_eq hx hy).mp q) p l e R s m args below meth c D ty A b ad0 mc ms Q X HR ad H locs ls cells slots G L hc hs) (fun q => kf (fun z => q ((av_eq hx hy).mpr z)) p l e R s m args below meth c D ty A b ad0 mc ms Q X HR ad H locs ls cells slots G L hc hs)
theorem rn_if_eq (tgt pc' : Nat) {off : Int} {x : Int} (hd : decode M.2.1 pc = .ok (.ifCond .eq off, 3)) (ht : (pc : Int) + off = (tgt : Int)) (hp : pc + 3 = pc') (hx : av_in x) (kt : x = 0 → av_Rn sc M d al n0 bc bs tgt lv (st) h Φ) (kf : ¬ x = 0 → av_Rn sc M d al n0 bc bs pc' lv (st) h Φ) : av_Rn sc M d al n0 bc bs pc lv (vI x :: st) h Φ := by
  subst hp
  intro p l e R s m args below meth c D ty A b ad0 mc ms Q X HR ad H locs ls cells slots G L hc hs
  exact lv_if_eq X.1.1 X.1.2.1 hd ht (fun q => kt ((av_eq hx av_in0).mp q) p l e R s m args below meth c D ty A b ad0 mc ms Q X HR ad H locs ls cells slots G L hc hs) (fun q => kf (fun z => q ((av_eq hx av_in0).mpr z)) p l e R s m args below meth c D ty A b ad0 mc ms Q X HR ad H locs ls cells slots G L hc hs)
theorem rn_icmp_ne (tgt pc' : Nat) {off : Int} {x y : Int} (hd : decode M.2.1 pc = .ok (.if_icmp .ne off, 3)) (ht : (pc : Int) + off = (tgt : Int)) (hp : pc + 3 = pc') (hx : av_in x) (hy : av_in y) (kt : ¬ x = y → av_Rn sc M d al n0 bc bs tgt lv (st) h Φ) (kf : x = y → av_Rn sc M d al n0 bc bs pc' lv (st) h Φ) : av_Rn sc M d al n0 bc bs pc lv (vI y :: vI x :: st) h Φ := by
  subst hp
  intro p l e R s m args below meth c D ty A b ad0 mc ms Q X HR ad H locs ls cells slots G L hc hs
  exact lv_icmp_ne X.1.1 X.1.2.1 hd ht (fun q => kt (fun z => q ((av_eq hx hy).mpr z)) p l e R s m args below meth c D ty A b ad0 mc ms Q X HR ad H locs ls cells slots G L hc hs) (fun q => kf ((av_eq hx hy).mp q) p l e R s m args below meth c D ty A b ad0 mc ms Q X HR ad H locs ls cells slots G L hc hs)
theorem rn_if_ne (tgt pc' : Nat) {off : Int} {x : Int} (hd : decode M.2.1 pc = .ok (.ifCond .ne off, 3)) (ht : (pc : Int) + off = (tgt : Int)) (hp : pc + 3 = pc') (hx : av_in x) (kt : ¬ x = 0 → av_Rn sc M d al n0 bc bs tgt lv (st) h Φ) (kf : x = 0 → av_Rn sc M d al n0 bc bs pc' lv (st) h Φ) : av_Rn sc M d al n0 bc bs pc lv (vI x :: st) h Φ := by
  subst hp
  intro p l e R s m args below meth c D ty A b ad0 mc ms Q X HR ad H locs ls cells slots G L hc hs
  exact lv_if_ne X.1.1 X.1.2.1 hd ht (fun q => kt (fun z => q ((av_eq hx av_in0).mpr z)) p l e R s m args below meth c D ty A b ad0 mc ms Q X HR ad H locs ls cells slots G L hc hs) (fun q => kf ((av_eq hx av_in0).mp q) p l e R s m args below meth c D ty A b ad0 mc ms Q X HR ad H locs ls cells slots G L hc hs)
theorem rn_icmp_lt (tgt pc' : Nat) {off : Int} {x y : Int} (hd : decode M.2.1 pc = .ok (.if_icmp .lt off, 3)) (ht : (pc : Int) + off = (tgt : Int)) (hp : pc + 3 = pc') (hx : av_in x) (hy : av_in y) (kt : x < y → av_Rn sc M d al n0 bc bs tgt lv (st) h Φ) (kf : y ≤ x → av_Rn sc M d al n0 bc bs pc' lv (st) h Φ) : av_Rn sc M d al n0 bc bs pc lv (vI y :: vI x :: st) h Φ := by
  subst hp
  intro p l e R s m args below meth c D ty A b ad0 mc ms Q X HR ad H locs ls cells slots G L hc hs
  exact lv_icmp_lt X.1.1 X.1.2.1 hd ht (fun q => kt ((av_lt hx hy).mp q) p l e R s m args below meth c D ty A b ad0 mc ms Q X HR ad H locs ls cells slots G L hc hs) (fun q => kf (Int.not_lt.mp (fun z => q ((av_lt hx hy).mpr z))) p l e R s m args below meth c D ty A b ad0 mc ms Q X HR ad H locs ls cells slots G L hc hs)
theorem rn_if_lt (tgt pc' : Nat) {off : Int} {x : Int} (hd : decode M.2.1 pc = .ok (.ifCond .lt off, 3)) (ht : (pc : Int) + off = (tgt : Int)) (hp : pc + 3 = pc') (hx : av_in x) (kt : x < 0 → av_Rn sc M d al n0 bc bs tgt lv (st) h Φ) (kf : 0 ≤ x → av_Rn sc M d al n0 bc bs pc' lv (st) h Φ) : av_Rn sc M d al n0 bc bs pc lv (vI x :: st) h Φ := by
  subst hp
  intro p l e R s m args below meth c D ty A b ad0 mc ms Q X HR ad H locs ls cells slots G L hc hs
  exact lv_if_lt X.1.1 X.1.2.1 hd ht (fun q => kt ((av_lt hx av_in0).mp q) p l e R s m args below meth c D ty A b ad0 mc ms Q X HR ad H locs ls cells slots G L hc hs) (fun q => kf (Int.not_lt.mp (fun z => q ((av_lt hx av_in0).mpr z))) p l e R s m args below meth c D ty A b ad0 mc ms Q X HR ad H locs ls cells slots G L hc hs)
theorem rn_icmp_ge (tgt pc' : Nat) {off : Int} {x y : Int} (hd : decode M.2.1 pc = .ok (.if_icmp .ge off, 3)) (ht : (pc : Int) + off = (tgt : Int)) (hp : pc + 3 = pc') (hx : av_in x) (hy : av_in y) (kt : y ≤ x → av_Rn sc M d al n0 bc bs tgt lv (st) h Φ) (kf : x < y → av_Rn sc M d al n0 bc bs pc' lv (st) h Φ) : av_Rn sc M d al n0 bc bs pc lv (vI y :: vI x :: st) h Φ := by
  subst hp
  intro p l e R s m args below meth c D ty A b ad0 mc ms Q X HR ad H locs ls cells slots G L hc hs
  exact lv_icmp_ge X.1.1 X.1.2.1 hd ht (fun q => kt ((av_le hy hx).mp q) p l e R s m args below meth c D ty A b ad0 mc ms Q X HR ad H locs ls cells slots G L hc hs) (fun q => kf (Int.not_le.mp (fun z => q ((av_le hy hx).mpr z))) p l e R s m args below meth c D ty A b ad0 mc ms Q X HR ad H locs ls cells slots G L hc hs)
theorem rn_if_ge (tgt pc' : Nat) {off : Int} {x : Int} (hd : decode M.2.1 pc = .ok (.ifCond .ge off, 3)) (ht : (pc : Int) + off = (tgt : Int)) (hp : pc + 3 = pc') (hx : av_in x) (kt : 0 ≤ x → av_Rn sc M d al n0 bc bs tgt lv (st) h Φ) (kf : x < 0 → av_Rn sc M d al n0 bc bs pc' lv (st) h Φ) : av_Rn sc M d al n0 bc bs pc lv (vI x :: st) h Φ := by
  subst hp
  intro p l e R s m args below meth c D ty A b ad0 mc ms Q X HR ad H locs ls cells slots G L hc hs
  exact lv_if_ge X.1.1 X.1.2.1 hd ht (fun q => kt ((av_le av_in0 hx).mp q) p l e R s m args below meth c D ty A b ad0 mc ms Q X HR ad H locs ls cells slots G L hc hs) (fun q => kf (Int.not_le.mp (fun z => q ((av_le av_in0 hx).mpr z))) p l e R s m args below meth c D ty A b ad0 mc ms Q X HR ad H locs ls cells slots G L hc hs)
theorem rn_icmp_gt (tgt pc' : Nat) {off : Int} {x y : Int} (hd : decode M.2.1 pc = .ok (.if_icmp .gt off, 3)) (ht : (pc : Int) + off = (tgt : Int)) (hp : pc + 3 = pc') (hx : av_in x) (hy : av_in y) (kt : y < x → av_Rn sc M d al n0 bc bs tgt lv (st) h Φ) (kf : x ≤ y → av_Rn sc M d al n0 bc bs pc' lv (st) h Φ) : av_Rn sc M d al n0 bc bs pc lv (vI y :: vI x :: st) h Φ := by
  subst hp
  intro p l e R s m args below meth c D ty A b ad0 mc ms Q X HR ad H locs ls cells slots G L hc hs
  exact lv_icmp_gt X.1.1 X.1.2.1 hd ht (fun q => kt ((av_lt hy hx).mp q) p l e R s m args below meth c D ty A b ad0 mc ms Q X HR ad H locs ls cells slots G L hc hs) (fun q => kf (Int.not_lt.mp (fun z => q ((av_lt hy hx).mpr z))) p l e R s m args below meth c D ty A b ad0 mc ms Q X HR ad H locs ls cells slots G L hc hs)
theorem rn_if_gt (tgt pc' : Nat) {off : Int} {x : Int} (hd : decode M.2.1 pc = .ok (.ifCond .gt off, 3)) (ht : (pc : Int) + off = (tgt : Int)) (hp : pc + 3 = pc') (hx : av_in x) (kt : 0 < x → av_Rn sc M d al n0 bc bs tgt lv (st) h Φ) (kf : x ≤ 0 → av_Rn sc M d al n0 bc bs pc' lv (st) h Φ) : av_Rn sc M d al n0 bc bs pc lv (vI x :: st) h Φ := by
  subst hp
  intro p l e R s m args below meth c D ty A b ad0 mc ms Q X HR ad H locs ls cells slots G L hc hs
  exact lv_if_gt X.1.1 X.1.2.1 hd ht (fun q => kt ((av_lt av_in0 hx).mp q) p l e R s m args below meth c D ty A b ad0 mc ms Q X HR ad H locs ls cells slots G L hc hs) (fun q => kf (Int.not_lt.mp (fun z => q ((av_lt av_in0 hx).mpr z))) p l e R s m args below meth c D ty A b ad0 mc ms Q X HR ad H locs ls cells slots G L hc hs)
theorem rn_icmp_le (tgt pc' : Nat) {off : Int} {x y : Int} (hd : decode M.2.1 pc = .ok (.if_icmp .le off, 3)) (ht : (pc : Int) + off = (tgt : Int)) (hp : pc + 3 = pc') (hx : av_in x) (hy : av_in y) (kt : x ≤ y → av_Rn sc M d al n0 bc bs tgt lv (st) h Φ) (kf : y < x → av_Rn sc M d al n0 bc bs pc' lv (st) h Φ) : av_Rn sc M d al n0 bc bs pc lv (vI y :: vI x :: st) h Φ := by
  subst hp
  intro p l e R s m args below meth c D ty A b ad0 mc ms Q X HR ad H locs ls cells slots G L hc hs
  exact lv_icmp_le X.1.1 X.1.2.1 hd ht (fun q => kt ((av_le hx hy).mp q) p l e R s m args below meth c D ty A b ad0 mc ms Q X HR ad H locs ls cells slots G L hc hs) (fun q => kf (Int.not_le.mp (fun z => q ((av_le hx hy).mpr z))) p l e R s m args below meth c D ty A b ad0 mc ms Q X HR ad H locs ls cells slots G L hc hs)
theorem rn_if_le (tgt pc' : Nat) {off : Int} {x : Int} (hd : decode M.2.1 pc = .ok (.ifCond .le off, 3)) (ht : (pc : Int) + off = (tgt : Int)) (hp : pc + 3 = pc') (hx : av_in x) (kt : x ≤ 0 → av_Rn sc M d al n0 bc bs tgt lv (st) h Φ) (kf : 0 < x → av_Rn sc M d al n0 bc bs pc' lv (st) h Φ) : av_Rn sc M d al n0 bc bs pc lv (vI x :: st) h Φ := by
  subst hp
  intro p l e R s m args below meth c D ty A b ad0 mc ms Q X HR ad H locs ls cells slots G L hc hs
  exact lv_if_le X.1.1 X.1.2.1 hd ht (fun q => kt ((av_le hx av_in0).mp q) p l e R s m args below meth c D ty A b ad0 mc ms Q X HR ad H locs ls cells slots G L hc hs) (fun q => kf (Int.not_le.mp (fun z => q ((av_le hx av_in0).mpr z))) p l e R s m args below meth c D ty A b ad0 mc ms Q X HR ad H locs ls cells slots G L hc hs)
theorem rn_ireturn {z : Int} (hd : decode M.2.1 pc = .ok (.ireturn, 1)) (hr : M.2.2.2 = some .int ∨ (M.2.2.2 = some .boolean ∧ (z = 0 ∨ z = 1))) (k : Φ (some (vI z)) h) : av_Rn sc M d al n0 bc bs pc lv ([vI z]) h Φ := by
  intro p l e R s m args below meth c D ty A b ad0 mc ms Q X HR ad H locs ls cells slots G L hc hs
  exact HR ad H locs ls cells slots pc (some (vI z)) h k G (by omega) (by omega) ⟨hd, hr⟩
theorem rn_return (hd : decode M.2.1 pc = .ok (.return_, 1)) (hr : M.2.2.2 = none) (k : Φ none h) : av_Rn sc M d al n0 bc bs pc lv ([]) h Φ := by
  intro p l e R s m args below meth c D ty A b ad0 mc ms Q X HR ad H locs ls cells slots G L hc hs
  exact HR ad H locs ls cells slots pc none h k G (by omega) (by omega) ⟨hd, hr⟩
theorem rn_lreturn {z : Int} (hd : decode M.2.1 pc = .ok (.lreturn, 1)) (hr : M.2.2.2 = some .long) (k : Φ (some (vG z)) h) : av_Rn sc M d al n0 bc bs pc lv ([vG z]) h Φ := by
  intro p l e R s m args below meth c D ty A b ad0 mc ms Q X HR ad H locs ls cells slots G L hc hs
  exact HR ad H locs ls cells slots pc (some (vG z)) h k G (by omega) (by omega) ⟨hd, hr⟩
theorem rn_drop (lv' : av_L) (hs0 : ∀ (i : Nat) (v : av_V), lv'[i]? = some (some v) → lv[i]? = some (some v)) (k : av_Rn sc M d al n0 bc bs pc lv' st h Φ) : av_Rn sc M d al n0 bc bs pc lv st h Φ := by
  intro p l e R s m args below meth c D ty A b ad0 mc ms Q X HR ad H locs ls cells slots G L hc hs
  exact k p l e R s m args below meth c D ty A b ad0 mc ms Q X HR ad H locs ls cells slots G (av_hs_sub L fun i v hv => av_tl_mem.mpr ⟨v, hs0 i v hv, rfl⟩) hc hs
end
