/-- a field that can be read: class cls links it at idx: field f of objects of class ci -/
def av_fd (cls : String) (idx ci f : Nat) : Prop := ∃ (C : String) (T : u_T) (N : Nat), vwCl[ci]? = some (C, T, N) ∧ f < N ∧ (∀ w ∈ u_ws C T N, w ∈ av_T) ∧ Cond.fieldLink cls idx (T f).1 (T f).2.1 (T f).2.2.1 ∈ av_T
/-- a field that can be written: of type ty; final ones in the class's own constructors -/
def av_fp (cls : String) (idx ci f : Nat) (fin : Bool) (ty : FieldType) : Prop := ∃ (C : String) (T : u_T) (N : Nat) (tyf : Nat → FieldType), vwCl[ci]? = some (C, T, N) ∧ f < N ∧ (∀ w ∈ u_ws C T N, w ∈ av_T) ∧ Cond.fieldLink cls idx (T f).1 (T f).2.1 (T f).2.2.1 ∈ av_T ∧ (∀ k, k < N → parseFieldDescriptor (T k).2.2.1 = some (tyf k)) ∧ (∀ a, a < N → ∀ b, b < N → a ≠ b → (T a).2.1 ≠ (T b).2.1) ∧ (T f).2.2.2 = fin ∧ parseFieldDescriptor (T f).2.2.1 = some ty ∧ (T f).1 = cls
def av_fit (ty : FieldType) (v : av_V) : Prop := ∀ (b : Nat) (ad : Nat → Nat), narrow ty (av_tv b ad v) = av_tv b ad v ∧ fits ty (av_tv b ad v) = true
theorem av_fitI {z : Int} : av_fit .int (vI z) := fun _ _ => ⟨rfl, rfl⟩
theorem av_fitZ {z : Int} (hz : z = 0 ∨ z = 1) : av_fit .boolean (vI z) := fun _ _ => by rcases hz with rfl | rfl <;> exact ⟨rfl, rfl⟩
theorem av_fitO {C : String} {k : Nat} : av_fit (.object C) (vR k) := fun _ _ => ⟨rfl, rfl⟩
theorem av_fitA {t : FieldType} {k : Nat} : av_fit (.array t) (vR k) := fun _ _ => ⟨rfl, rfl⟩
section
variable {sc : av_sc} {M : av_M} {d n0 bc bs pc : Nat} {al : Bool} {lv : av_L} {st : List av_V} {h : av_H} {Φ : Option av_V → av_H → Prop}
theorem rn_getfield (pc' : Nat) {idx ci f q : Nat} {fs : List av_V} {v : av_V} (hd : decode M.2.1 pc = .ok (.getfield idx, 3)) (hp : pc + 3 = pc') (hf : av_fd M.1.cls idx ci f) (hk : h[q]? = some (.inr (ci, fs))) (hv : fs[f]? = some v) (k : av_Rn sc M d al n0 bc bs pc' lv (v :: st) h Φ) : av_Rn sc M d al n0 bc bs pc lv (vR q :: st) h Φ := by
  subst hp
  intro p l e R s m args below meth c D ty A b ad0 mc ms Q X HR ad H locs ls cells slots G L hc hs
  obtain ⟨C, T, N, h1, h2, h3, h4⟩ := hf
  exact va_get (ci := ci) (v := av_tv b ad v) X.1.1 X.1.2.1 X.2.1 h3 X.1.2.2.2.1 X.2.2.2.1 G.2.1 q (av_tw_at hk) h1 f h2 (X.2.1 _ h4) (fun _ h => h) (by rw [List.getElem?_map, hv]; rfl) hd (k p l e R s m args below meth c D ty A b ad0 mc ms Q X HR ad H locs ls cells slots G L hc hs)
theorem av_tw_put {b : Nat} {ad : Nat → Nat} {ty : Nat → ClassId} {ci q f : Nat} {fs : List av_V} {v : av_V} : (av_tw b ad ty h).set q (ad q, .inr (ci, (fs.map (av_tv b ad)).set f (av_tv b ad v))) = av_tw b ad ty (h.set q (.inr (ci, fs.set f v))) := by
  rw [← av_tw_set]
  simp only [av_tc, List.map_set]
theorem rn_putfield (pc' : Nat) {idx ci f q : Nat} {fs : List av_V} {v : av_V} {h' : av_H} {ty1 : FieldType} (hd : decode M.2.1 pc = .ok (.putfield idx, 3)) (hp : pc + 3 = pc') (hf : av_fp M.1.cls idx ci f false ty1) (hk : h[q]? = some (.inr (ci, fs))) (hl : f < fs.length) (hfit : av_fit ty1 v) (hh : h.set q (.inr (ci, fs.set f v)) = h') (k : av_Rn sc M d al n0 bc bs pc' lv st h' Φ) : av_Rn sc M d al n0 bc bs pc lv (v :: vR q :: st) h Φ := by
  subst hp; subst hh
  intro p l e R s m args below meth c D ty A b ad0 mc ms Q X HR ad H locs ls cells slots G L hc hs
  obtain ⟨C, T, N, tyf, h1, h2, h3, h4, h5, h6, h7, h8, -⟩ := hf
  refine va_put (ci := ci) (v := av_tv b ad v) (ty := ty1) X.1.1 X.1.2.1 X.2.1 h3 tyf h5 h6 X.1.2.2.2.1 X.2.2.2.1 G.2.1 G.2.2.1 G.2.2.2 q (av_tw_at hk) h1 f h2 (X.2.1 _ h4) (fun _ h => h) h7 h8 (hfit b ad).1 (hfit b ad).2 (by rw [List.length_map]; exact hl) hd (fun H1 locs1 hP hD hS => ?_)
  rw [av_tw_put] at hP hD
  exact k p l e R s m args below meth c D ty A b ad0 mc ms Q X HR ad H1 locs1 ls cells slots ⟨⟨by rw [List.length_set]; exact G.1.1, G.1.2⟩, hP, hD, hS⟩ L hc hs
theorem rn_putfinal (pc' : Nat) {idx ci f q : Nat} {fs : List av_V} {v : av_V} {h' : av_H} {ty1 : FieldType} (hd : decode M.2.1 pc = .ok (.putfield idx, 3)) (hp : pc + 3 = pc') (hf : av_fp M.1.cls idx ci f true ty1) (hi : M.1.name = "<init>") (hk : h[q]? = some (.inr (ci, fs))) (hl : f < fs.length) (hfit : av_fit ty1 v) (hh : h.set q (.inr (ci, fs.set f v)) = h') (k : av_Rn sc M d al n0 bc bs pc' lv st h' Φ) : av_Rn sc M d al n0 bc bs pc lv (v :: vR q :: st) h Φ := by
  subst hp; subst hh
  intro p l e R s m args below meth c D ty A b ad0 mc ms Q X HR ad H locs ls cells slots G L hc hs
  obtain ⟨C, T, N, tyf, h1, h2, h3, h4, h5, h6, h7, h8, h9⟩ := hf
  refine va_putF (ci := ci) (v := av_tv b ad v) (ty := ty1) X.1.1 X.1.2.1 X.2.1 h3 tyf h5 h6 X.1.2.2.2.1 X.2.2.2.1 G.2.1 G.2.2.1 G.2.2.2 q (av_tw_at hk) h1 f h2 (X.2.1 _ h4) (fun _ h => h) h7 (X.1.2.2.2.2 hi) h9 h8 (hfit b ad).1 (hfit b ad).2 (by rw [List.length_map]; exact hl) hd (fun H1 locs1 hP hD hS => ?_)
  rw [av_tw_put] at hP hD
  exact k p l e R s m args below meth c D ty A b ad0 mc ms Q X HR ad H1 locs1 ls cells slots ⟨⟨by rw [List.length_set]; exact G.1.1, G.1.2⟩, hP, hD, hS⟩ L hc hs
theorem av_ii {i : Int} {n : Nat} (h0 : 0 ≤ i) (h1 : i < (n : Int)) (hn : n ≤ 2147483648) : av_in i := ⟨by omega, by omega⟩
theorem rn_iaload (pc' : Nat) {q n : Nat} {f : Int → Int} {i : Int} (hd : decode M.2.1 pc = .ok (.iaload, 1)) (hp : pc + 1 = pc') (hk : h[q]? = some (.inl (0, n, f))) (hn : n ≤ 2147483648) (h0 : 0 ≤ i) (h1 : i < (n : Int)) (k : av_Rn sc M d al n0 bc bs pc' lv (vI (f i) :: st) h Φ) : av_Rn sc M d al n0 bc bs pc lv (vI i :: vR q :: st) h Φ := by
  subst hp
  intro p l e R s m args below meth c D ty A b ad0 mc ms Q X HR ad H locs ls cells slots G L hc hs
  have hi := av_ii h0 h1 hn
  have k := k p l e R s m args below meth c D ty A b ad0 mc ms Q X HR ad H locs ls cells slots G L hc hs
  refine va_iald X.1.1 X.1.2.1 X.2.2.2.1 G.2.1 q 0 (av_tw_at hk) rfl (av_ix h0 h1 hi) hd ?_
  show W p l e R s m args below meth c H locs cells slots Q (F0 m (pc + 1) ls (.int (Int32.ofInt (f (((Int32.ofInt i).toNatClampNeg : Nat) : Int))) :: st.map (av_tv b ad)))
  rw [av_cl h0 hi]
  exact k
theorem rn_baload (pc' : Nat) {q n : Nat} {f : Int → Int} {i : Int} (hd : decode M.2.1 pc = .ok (.baload, 1)) (hp : pc + 1 = pc') (hk : h[q]? = some (.inl (1, n, f))) (hn : n ≤ 2147483648) (h0 : 0 ≤ i) (h1 : i < (n : Int)) (k : av_Rn sc M d al n0 bc bs pc' lv (vI (f i) :: st) h Φ) : av_Rn sc M d al n0 bc bs pc lv (vI i :: vR q :: st) h Φ := by
  subst hp
  intro p l e R s m args below meth c D ty A b ad0 mc ms Q X HR ad H locs ls cells slots G L hc hs
  have hi := av_ii h0 h1 hn
  have k := k p l e R s m args below meth c D ty A b ad0 mc ms Q X HR ad H locs ls cells slots G L hc hs
  refine va_zald X.1.1 X.1.2.1 X.2.2.2.1 G.2.1 q 1 (av_tw_at hk) rfl (av_ix h0 h1 hi) hd ?_
  show W p l e R s m args below meth c H locs cells slots Q (F0 m (pc + 1) ls (.int (Int32.ofInt (f (((Int32.ofInt i).toNatClampNeg : Nat) : Int))) :: st.map (av_tv b ad)))
  rw [av_cl h0 hi]
  exact k
theorem av_tw_ast {b : Nat} {ad : Nat → Nat} {ty : Nat → ClassId} {t n q : Nat} {f : Int → Int} {i z : Int} (h0 : 0 ≤ i) (hi : av_in i) : (av_tw b ad ty h).set q (ad q, .inl (ty t, n, .inl (upd (fun j : Nat => Int32.ofInt (f (j : Int))) (Int32.ofInt i).toNatClampNeg (Int32.ofInt z)))) = av_tw b ad ty (h.set q (.inl (t, n, uI f i z))) := by
  rw [← av_tw_set, av_uI h0 hi]
  rfl
theorem rn_iastore (pc' : Nat) {q n : Nat} {f : Int → Int} {i z : Int} {h' : av_H} (hd : decode M.2.1 pc = .ok (.iastore, 1)) (hp : pc + 1 = pc') (hk : h[q]? = some (.inl (0, n, f))) (hn : n ≤ 2147483648) (h0 : 0 ≤ i) (h1 : i < (n : Int)) (hh : h.set q (.inl (0, n, uI f i z)) = h') (k : av_Rn sc M d al n0 bc bs pc' lv st h' Φ) : av_Rn sc M d al n0 bc bs pc lv (vI z :: vI i :: vR q :: st) h Φ := by
  subst hp; subst hh
  intro p l e R s m args below meth c D ty A b ad0 mc ms Q X HR ad H locs ls cells slots G L hc hs
  have hi := av_ii h0 h1 hn
  refine va_iast X.1.1 X.1.2.1 X.2.2.2.1 G.2.1 G.2.2.1 G.2.2.2 q 0 (av_tw_at hk) rfl (av_ix h0 h1 hi) hd (fun H1 locs1 hP hD hS => ?_)
  have e2 := av_tw_ast (h := h) (b := b) (ad := ad) (ty := ty) (t := 0) (n := n) (q := q) (f := f) (z := z) h0 hi
  rw [e2] at hP hD
  exact k p l e R s m args below meth c D ty A b ad0 mc ms Q X HR ad H1 locs1 ls cells slots ⟨⟨by rw [List.length_set]; exact G.1.1, G.1.2⟩, hP, hD, hS⟩ L hc hs
theorem rn_bastore (pc' : Nat) {q n : Nat} {f : Int → Int} {i z : Int} {h' : av_H} (hd : decode M.2.1 pc = .ok (.bastore, 1)) (hp : pc + 1 = pc') (hk : h[q]? = some (.inl (1, n, f))) (hn : n ≤ 2147483648) (h0 : 0 ≤ i) (h1 : i < (n : Int)) (hz : z = 0 ∨ z = 1) (hh : h.set q (.inl (1, n, uI f i z)) = h') (k : av_Rn sc M d al n0 bc bs pc' lv st h' Φ) : av_Rn sc M d al n0 bc bs pc lv (vI z :: vI i :: vR q :: st) h Φ := by
  subst hp; subst hh
  intro p l e R s m args below meth c D ty A b ad0 mc ms Q X HR ad H locs ls cells slots G L hc hs
  have hi := av_ii h0 h1 hn
  refine va_zast X.1.1 X.1.2.1 X.2.2.2.1 G.2.1 G.2.2.1 G.2.2.2 q 1 (av_tw_at hk) rfl (av_ix h0 h1 hi) hd (fun H1 locs1 hP hD hS => ?_)
  have ez : vp_nar .boolean (Int32.ofInt z) = Int32.ofInt z := by rcases hz with rfl | rfl <;> rfl
  rw [ez] at hP hD
  have e2 := av_tw_ast (h := h) (b := b) (ad := ad) (ty := ty) (t := 1) (n := n) (q := q) (f := f) (z := z) h0 hi
  rw [e2] at hP hD
  exact k p l e R s m args below meth c D ty A b ad0 mc ms Q X HR ad H1 locs1 ls cells slots ⟨⟨by rw [List.length_set]; exact G.1.1, G.1.2⟩, hP, hD, hS⟩ L hc hs
theorem rn_alen (pc' : Nat) {q t n : Nat} {f : Int → Int} (hd : decode M.2.1 pc = .ok (.arraylength, 1)) (hp : pc + 1 = pc') (hk : h[q]? = some (.inl (t, n, f))) (ht : t < 2) (k : av_Rn sc M d al n0 bc bs pc' lv (vI (n : Int) :: st) h Φ) : av_Rn sc M d al n0 bc bs pc lv (vR q :: st) h Φ := by
  subst hp
  intro p l e R s m args below meth c D ty A b ad0 mc ms Q X HR ad H locs ls cells slots G L hc hs
  have k := k p l e R s m args below meth c D ty A b ad0 mc ms Q X HR ad H locs ls cells slots G L hc hs
  rcases (show t = 0 ∨ t = 1 by omega) with rfl | rfl
  · exact va_alen X.1.1 X.1.2.1 X.2.2.2.1 G.2.1 q 0 (av_tw_at hk) rfl (v := Int32.ofInt (n : Int)) Int32.ofInt_eq_ofNat.symm hd k
  · exact va_alen X.1.1 X.1.2.1 X.2.2.2.1 G.2.1 q 1 (av_tw_at hk) rfl (v := Int32.ofInt (n : Int)) Int32.ofInt_eq_ofNat.symm hd k
/-- the script -/
theorem rn_ialoadS (pc' : Nat) {i : Int} (hd : decode M.2.1 pc = .ok (.iaload, 1)) (hp : pc + 1 = pc') (hn : sc.1 ≤ 2147483648) (h0 : 0 ≤ i) (h1 : i < (sc.1 : Int)) (k : av_Rn sc M d al n0 bc bs pc' lv (vI (sc.2 i) :: st) h Φ) : av_Rn sc M d al n0 bc bs pc lv (vI i :: vS :: st) h Φ := by
  subst hp
  intro p l e R s m args below meth c D ty A b ad0 mc ms Q X HR ad H locs ls cells slots G L hc hs
  have hi := av_ii h0 h1 hn
  have k := k p l e R s m args below meth c D ty A b ad0 mc ms Q X HR ad H locs ls cells slots G L hc hs
  refine va_sld X.1.1 X.1.2.1 X.2.2.2.2.2.2.1 X.2.2.2.2.2.2.2.1 X.2.2.2.2.2.2.2.2 G.2.2.2 (av_ix h0 h1 hi) hd ?_
  show W p l e R s m args below meth c H locs cells slots Q (F0 m (pc + 1) ls (.int (Int32.ofInt (sc.2 (((Int32.ofInt i).toNatClampNeg : Nat) : Int))) :: st.map (av_tv b ad)))
  rw [av_cl h0 hi]
  exact k
theorem rn_alenS (pc' : Nat) (hd : decode M.2.1 pc = .ok (.arraylength, 1)) (hp : pc + 1 = pc') (k : av_Rn sc M d al n0 bc bs pc' lv (vI (sc.1 : Int) :: st) h Φ) : av_Rn sc M d al n0 bc bs pc lv (vS :: st) h Φ := by
  subst hp
  intro p l e R s m args below meth c D ty A b ad0 mc ms Q X HR ad H locs ls cells slots G L hc hs
  have k := k p l e R s m args below meth c D ty A b ad0 mc ms Q X HR ad H locs ls cells slots G L hc hs
  refine va_slen X.1.1 X.1.2.1 X.2.2.2.2.2.2.1 X.2.2.2.2.2.2.2.1 X.2.2.2.2.2.2.2.2 G.2.2.2 hd ?_
  rw [← Int32.ofInt_eq_ofNat]
  exact k
/-- an array's contents behind its end don't matter -/
theorem rn_arr {q t n : Nat} {f g : Int → Int} (hk : h[q]? = some (.inl (t, n, f))) (he : ∀ j : Int, 0 ≤ j → j < (n : Int) → f j = g j) (k : av_Rn sc M d al n0 bc bs pc lv st (h.set q (.inl (t, n, g))) Φ) : av_Rn sc M d al n0 bc bs pc lv st h Φ := by
  intro p l e R s m args below meth c D ty A b ad0 mc ms Q X HR ad H locs ls cells slots G L hc hs
  have hq : q < h.length := (List.getElem?_eq_some_iff.mp hk).1
  have e1 : ∀ (j : Nat) (x : Nat × va_E), (av_tw b ad ty (h.set q (.inl (t, n, g))))[j]? = some x → ∃ y, (av_tw b ad ty h)[j]? = some (x.1, y) ∧ ∀ H : Heap, va_at D vwCl (x.1, y) H → va_at D vwCl x H := by
    intro j x hx
    simp only [av_tw, List.getElem?_mapIdx, List.getElem?_set] at hx ⊢
    by_cases hj : q = j
    · subst hj
      simp only [if_true, if_pos hq, Option.map_some, Option.some.injEq] at hx
      subst hx
      refine ⟨_, by rw [hk]; rfl, fun H hH => ?_⟩
      show H[ad q]? = some (vp_cell (ty t) (n, .inl (fun j => Int32.ofInt (g (j : Int)))))
      have hH : H[ad q]? = some (vp_cell (ty t) (n, .inl (fun j => Int32.ofInt (f (j : Int))))) := hH
      rw [hH, vp_cell_i, vp_cell_i]
      simp only [arrV]
      congr 2
      refine Array.ext (by simp) fun i h1 h2 => ?_
      simp only [Array.getElem_ofFn]
      rw [he (i : Int) (by omega) (by have : i < n := by simpa using h1
                                      omega)]
    · simp only [if_neg hj] at hx
      exact ⟨x.2, hx, fun H hH => hH⟩
  refine k p l e R s m args below meth c D ty A b ad0 mc ms Q X HR ad H locs ls cells slots ⟨⟨by rw [List.length_set]; exact G.1.1, G.1.2⟩, fun j x hx => ?_, ⟨fun i j x y hx hy hxy => ?_, fun j x hx => ?_⟩, G.2.2.2⟩ L hc hs
  · obtain ⟨y, hy, hz⟩ := e1 j x hx
    exact hz H (G.2.1 j _ hy)
  · obtain ⟨x', hx', -⟩ := e1 i x hx
    obtain ⟨y', hy', -⟩ := e1 j y hy
    exact G.2.2.1.1 i j _ _ hx' hy' hxy
  · obtain ⟨y, hy, -⟩ := e1 j x hx
    exact G.2.2.1.2 j (x.1, y) hy
end
