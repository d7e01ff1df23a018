/-- a class whose objects can be made at idx in class cls; fs: a new one's fields -/
def av_nw (cls : String) (idx ci : Nat) (fs : List av_V) : Prop := ∃ (C : String) (T : u_T) (tyf : Nat → FieldType), vwCl[ci]? = some (C, T, fs.length) ∧ (∀ w ∈ u_ws C T fs.length, w ∈ av_T) ∧ (∀ k, k < fs.length → parseFieldDescriptor (T k).2.2.1 = some (tyf k)) ∧ Cond.classLink cls idx C ∈ av_T ∧ Cond.instantiable C fs.length ∈ av_T ∧ Cond.initialized C ∈ av_T ∧ (∀ j, j < fs.length → defaultValue (tyf j) = vp_V (fs.map (av_tv 0 id)) j) ∧ fs.all (av_scv 0) = true
section
variable {sc : av_sc} {M : av_M} {d n0 bc bs pc : Nat} {al : Bool} {lv : av_L} {st : List av_V} {h : av_H} {Φ : Option av_V → av_H → Prop}
/-- the addresses with one more -/
def av_up (ad : Nat → Nat) (n q : Nat) : Nat → Nat := fun i => if i = n then q else ad i
theorem av_up_old {ad : Nat → Nat} {n q i : Nat} (h : i < n) : av_up ad n q i = ad i := if_neg (Nat.ne_of_lt h)
theorem av_sc0 {b : Nat} {ad ad' : Nat → Nat} {v : av_V} (hs : av_scv 0 v = true) : av_tv b ad v = av_tv b ad' v := (av_tv_ext hs (fun i hi => absurd hi (Nat.not_lt_zero i))).symm
def av_ns : av_V → Bool
  | .inr (.inr (.inr _)) => false
  | _ => true
theorem av_sc0b {b b' : Nat} {ad ad' : Nat → Nat} {v : av_V} (hs : av_scv 0 v = true) (hv : av_ns v = true) : av_tv b ad v = av_tv b' ad' v := by
  rcases v with z | (_ | k) | z | u
  · rfl
  · rfl
  · simp [av_scv] at hs
  · rfl
  · cases hv
theorem av_tw_push {b : Nat} {ad : Nat → Nat} {ty : Nat → ClassId} {q : Nat} {c : av_C} (hs : h.all (av_scc h.length) = true) (hc : av_scc h.length c = true) : av_tw b ad ty h ++ [(q, av_tc b ad ty c)] = av_tw b (av_up ad h.length q) ty (h ++ [c]) := by
  have e1 : av_tw b (av_up ad h.length q) ty (h ++ [c]) = av_tw b (av_up ad h.length q) ty h ++ [(av_up ad h.length q h.length, av_tc b (av_up ad h.length q) ty c)] := by
    simp [av_tw, List.mapIdx_concat]
  rw [e1, av_tw_ext (Nat.le_refl _) hs (fun i hi => av_up_old hi), av_tc_ext hc (fun i hi => av_up_old hi)]
  simp [av_up]
theorem av_push {p : Program} {l : Launch} {e : Env} {R : Room} {s : State} {m : MethodId} {args : Array Value} {below : List Frame} {meth : Method} {c : Code} {D : va_G} {ty : Nat → ClassId} {A : Nat → Prop} {b mc ms : Nat} {ad0 ad : Nat → Nat} {H H1 : Heap} {locs : List Loc} {Q : State → Prop} {ls : Array Slot} {cells slots q pc' : Nat} {x : av_C}
    (X : av_X sc M d p R s m args meth c D ty A b mc ms) (HR : av_HR M al n0 Φ p l e R s m args below meth c D ty A b ad0 mc ms Q) (hal : al = true) (G : av_G al n0 D ty A b ad0 ad s H locs h) (L : av_hs b ad ls M.2.2.1 lv) (hc : cells + bc ≤ mc) (hs : slots + bs ≤ ms) (hok : av_ok lv st h = true) (hx : av_scc h.length x = true)
    (hP : va_P D vwCl (av_tw b ad ty h ++ [(q, av_tc b ad ty x)]) H1) (hD : va_D A (av_tw b ad ty h ++ [(q, av_tc b ad ty x)])) (hS : va_S A s.heap H1 locs)
    (k : av_Rn sc M d al n0 bc bs pc' lv (vR h.length :: st) (h ++ [x]) Φ) : W p l e R s m args below meth c H1 locs cells slots Q (F0 m pc' ls (.ref q :: st.map (av_tv b ad))) := by
  simp only [av_ok, Bool.and_eq_true] at hok
  rw [av_tw_push hok.2 hx] at hP hD
  have K := k p l e R s m args below meth c D ty A b ad0 mc ms Q X HR (av_up ad h.length q) H1 locs ls cells slots ⟨⟨by rw [List.length_append]; exact Nat.le_trans G.1.1 (Nat.le_add_right _ _), (fun q => absurd (hal.symm.trans q) (by decide)), fun i hi => (av_up_old (Nat.lt_of_lt_of_le hi G.1.1)).trans (G.1.2.2 i hi)⟩, hP, hD, hS⟩
    (av_hs_sub L fun i v hv => by rw [av_tl_ext hok.1.1 (fun i hi => av_up_old hi) i v hv]; exact av_tl_mem.mpr ⟨v, hv, rfl⟩) hc hs
  have e3 : (vR h.length :: st).map (av_tv b (av_up ad h.length q)) = .ref q :: st.map (av_tv b ad) := by
    rw [List.map_cons, av_ts_ext hok.1.2 (fun i hi => av_up_old hi)]
    simp [av_tv, av_up]
  rw [e3] at K
  exact K
theorem av_nameI {s : State} {D : va_G} {ty : Nat → ClassId} {cA : ClassId} (hK : va_K D vwCl (av_tys ty) s) (hK2 : va_K D vwCl (av_tys ty ++ [(cA, .int)]) s) : cA = ty 0 := by
  have h1 : s.vm.findClass ("[" ++ FieldType.int.toString) = some (ty 0) := (hK.2 0 _ rfl).2
  have h2 : s.vm.findClass ("[" ++ FieldType.int.toString) = some cA := (hK2.2 2 (cA, .int) rfl).2
  exact Option.some.inj (h2.symm.trans h1)
theorem av_nameZ {s : State} {D : va_G} {ty : Nat → ClassId} {cA : ClassId} (hK : va_K D vwCl (av_tys ty) s) (hK2 : va_K D vwCl (av_tys ty ++ [(cA, .boolean)]) s) : cA = ty 1 := by
  have h1 : s.vm.findClass ("[" ++ FieldType.boolean.toString) = some (ty 1) := (hK.2 1 _ rfl).2
  have h2 : s.vm.findClass ("[" ++ FieldType.boolean.toString) = some cA := (hK2.2 2 (cA, .boolean) rfl).2
  exact Option.some.inj (h2.symm.trans h1)
theorem rn_newI (pc' : Nat) {z : Int} {at1 : ArrayType} (N : Nat) (hd : decode M.2.1 pc = .ok (.newarray at1, 2)) (hty : newarray.typeOf at1 = .int) (hp : pc + 2 = pc') (harr : Cond.arrayClass .int ∈ av_T) (hz : z = (N : Int)) (hN : N ≤ 100000000) (hal : al = true) (hok : av_ok lv st h = true) {h' : av_H} (hh : h ++ [.inl (0, N, fun _ => 0)] = h') (k : av_Rn sc M d al n0 bc bs pc' lv (vR h.length :: st) h' Φ) : av_Rn sc M d al n0 (bc + 1) (bs + N) pc lv (vI z :: st) h Φ := by
  subst hp; subst hh; subst hz
  intro p l e R s m args below meth c D ty A b ad0 mc ms Q X HR ad H locs ls cells slots G L hc hs
  have hin : av_in (N : Int) := ⟨by omega, by omega⟩
  have r1 := X.2.2.2.2.2.1.2.2.1
  have r2 := X.2.2.2.2.2.1.2.2.2
  refine va_newa (ty := .int) (N' := N) (a0 := (N, .inl (fun _ => Int32.ofInt 0))) X.1.1 X.1.2.1 (hty ▸ X.2.1 _ harr) hty X.2.2.2.1 G.2.1 G.2.2.1 G.2.2.2 X.2.2.2.2.1 (fun cA => rfl) (fun q => ?_) ?_ ?_ ?_ ?_ hd (fun q cA H1 hK2 hP hD hS => ?_)
  · have := (av_lt hin av_in0).mp q; omega
  · have := av_cl (i := (N : Int)) (by omega) hin; omega
  · show N * 4 ≤ 536870912; omega
  · omega
  · omega
  · rw [av_nameI X.2.2.2.1 hK2] at hP hD
    exact av_push (x := .inl (0, N, fun _ => 0)) X HR hal G L (by omega) (by omega) hok rfl hP hD hS k
theorem rn_newZ (pc' : Nat) {z : Int} {at1 : ArrayType} (N : Nat) (hd : decode M.2.1 pc = .ok (.newarray at1, 2)) (hty : newarray.typeOf at1 = .boolean) (hp : pc + 2 = pc') (harr : Cond.arrayClass .boolean ∈ av_T) (hz : z = (N : Int)) (hN : N ≤ 100000000) (hal : al = true) (hok : av_ok lv st h = true) {h' : av_H} (hh : h ++ [.inl (1, N, fun _ => 0)] = h') (k : av_Rn sc M d al n0 bc bs pc' lv (vR h.length :: st) h' Φ) : av_Rn sc M d al n0 (bc + 1) (bs + N) pc lv (vI z :: st) h Φ := by
  subst hp; subst hh; subst hz
  intro p l e R s m args below meth c D ty A b ad0 mc ms Q X HR ad H locs ls cells slots G L hc hs
  have hin : av_in (N : Int) := ⟨by omega, by omega⟩
  have r1 := X.2.2.2.2.2.1.2.2.1
  have r2 := X.2.2.2.2.2.1.2.2.2
  refine va_newa (ty := .boolean) (N' := N) (a0 := (N, .inl (fun _ => Int32.ofInt 0))) X.1.1 X.1.2.1 (hty ▸ X.2.1 _ harr) hty X.2.2.2.1 G.2.1 G.2.2.1 G.2.2.2 X.2.2.2.2.1 (fun cA => rfl) (fun q => ?_) ?_ ?_ ?_ ?_ hd (fun q cA H1 hK2 hP hD hS => ?_)
  · have := (av_lt hin av_in0).mp q; omega
  · have := av_cl (i := (N : Int)) (by omega) hin; omega
  · show N * 1 ≤ 536870912; omega
  · omega
  · omega
  · rw [av_nameZ X.2.2.2.1 hK2] at hP hD
    exact av_push (x := .inl (1, N, fun _ => 0)) X HR hal G L (by omega) (by omega) hok rfl hP hD hS k
theorem rn_new (pc' : Nat) {idx ci : Nat} {fs : List av_V} (hd : decode M.2.1 pc = .ok (.new idx, 3)) (hp : pc + 3 = pc') (hw : av_nw M.1.cls idx ci fs) (hvs : fs.all av_ns = true) (hal : al = true) (hok : av_ok lv st h = true) {h' : av_H} (hh : h ++ [.inr (ci, fs)] = h') (k : av_Rn sc M d al n0 bc bs pc' lv (vR h.length :: st) h' Φ) : av_Rn sc M d al n0 (bc + 1) (bs + fs.length) pc lv st h Φ := by
  subst hp; subst hh
  intro p l e R s m args below meth c D ty A b ad0 mc ms Q X HR ad H locs ls cells slots G L hc hs
  obtain ⟨C, T, tyf, w1, w2, w3, w4, w5, w6, w7, w8⟩ := hw
  have r1 := X.2.2.2.2.2.1.2.2.1
  have r2 := X.2.2.2.2.2.1.2.2.2
  have e1 : fs.map (av_tv b ad) = fs.map (av_tv 0 id) := List.map_congr_left fun v hv => av_sc0b (List.all_eq_true.mp w8 v hv) (List.all_eq_true.mp hvs v hv)
  refine va_new (ci := ci) (fs := fs.map (av_tv b ad)) (N := fs.length) X.1.1 X.1.2.1 X.2.1 w2 tyf w3 X.1.2.2.2.1 (X.2.1 _ w4) (X.2.1 _ w5) (X.2.1 _ w6) X.2.2.2.1 G.2.1 G.2.2.1 G.2.2.2 X.2.2.2.2.1 w1 (by rw [e1]; exact w7) (by omega) (by omega) hd (fun q H1 hP hD hS => ?_)
  refine av_push (x := .inr (ci, fs)) X HR hal G L (by omega) (by omega) hok ?_ hP hD hS k
  refine List.all_eq_true.mpr fun v hv => ?_
  have h0 := List.all_eq_true.mp w8 v hv
  rcases v with z | (_ | k) | z | u
  · rfl
  · rfl
  · simp [av_scv] at h0
  · rfl
  · rfl
theorem rn_objInit (pc' : Nat) {idx q : Nat} (hd : decode M.2.1 pc = .ok (.invokespecial idx, 3)) (hp : pc + 3 = pc') (hw : Cond.methodLink M.1.cls idx objectInit ∈ av_T ∧ Cond.instanceMethod objectInit ∈ av_T ∧ Cond.code objectInit ⟨#[0xb1]⟩ 1 none ∈ av_T) (hm : (st.map av_cat).sum ≤ 8) (k : av_Rn sc M (d + 1) al n0 bc bs pc' lv st h Φ) : av_Rn sc M (d + 1) al n0 bc bs pc lv (vR q :: st) h Φ := by
  subst hp
  intro p l e R s m args below meth c D ty A b ad0 mc ms Q X HR ad H locs ls cells slots G L hc hs
  have r1 := X.2.2.2.2.2.1.1
  have r2 := X.2.2.2.2.2.1.2.1
  have hm2 := av_mr (b := b) (ad := ad) st hm
  refine W.objInit X.1.1 X.1.2.1 X.1.2.2.2.1 (X.2.1 _ hw.1) (X.2.1 _ hw.2.1) (X.2.1 _ hw.2.2) rfl (L.1.trans X.1.2.2.1.symm) rfl hd (by omega) ?_ (k p l e R s m args below meth c D ty A b ad0 mc ms Q X HR ad H locs ls cells slots G L hc hs)
  show 2 * 0 + _ + 12 ≤ R.locals
  omega
/-- Math -/
def av_cwM (cls : String) (idx : Nat) (y : MethodName) (bytes : ByteArray) (n : Nat) : Prop := Cond.methodLink cls idx y ∈ av_T ∧ Cond.static y ∈ av_T ∧ Cond.initialized "java/lang/Math" ∈ av_T ∧ Cond.code y bytes n (some .int) ∈ av_T
theorem rn_max (pc' : Nat) {idx : Nat} {x y : Int} (hd : decode M.2.1 pc = .ok (.invokestatic idx, 3)) (hp : pc + 3 = pc') (hw : av_cwM M.1.cls idx Lib.Math.max.name Lib.Math.max.code 2) (hm : (st.map av_cat).sum ≤ 8) (hx : av_in x) (hy : av_in y) (k : av_Rn sc M (d + 1) al n0 bc bs pc' lv (vI (if x < y then y else x) :: st) h Φ) : av_Rn sc M (d + 1) al n0 bc bs pc lv (vI y :: vI x :: st) h Φ := by
  subst hp
  intro p l e R s m args below meth c D ty A b ad0 mc ms Q X HR ad H locs ls cells slots G L hc hs
  obtain ⟨-, -, -, -, -, ⟨r1, r2, r3, r4⟩, -⟩ := id X
  have hm2 := av_mr (b := b) (ad := ad) st hm
  have k := k p l e R s m args below meth c D ty A b ad0 mc ms Q X HR ad H locs ls cells slots G L hc hs
  refine va_mmax X.1.1 X.1.2.1 (X.1.2.2.1.trans L.1.symm) X.1.2.2.2.1 (X.2.1 _ hw.1) (X.2.1 _ hw.2.1) (X.2.1 _ hw.2.2.1) (X.2.1 _ hw.2.2.2) (by omega) (by omega) (by omega) (by omega) hd ?_
  have e2 : (if Int32.ofInt x < Int32.ofInt y then Int32.ofInt y else Int32.ofInt x) = Int32.ofInt (if x < y then y else x) := by
    by_cases q : x < y
    · rw [if_pos q, if_pos ((av_lt hx hy).mpr q)]
    · rw [if_neg q, if_neg (fun z => q ((av_lt hx hy).mp z))]
  rw [e2]
  exact k
theorem rn_min (pc' : Nat) {idx : Nat} {x y : Int} (hd : decode M.2.1 pc = .ok (.invokestatic idx, 3)) (hp : pc + 3 = pc') (hw : av_cwM M.1.cls idx Lib.Math.min.name Lib.Math.min.code 2) (hm : (st.map av_cat).sum ≤ 8) (hx : av_in x) (hy : av_in y) (k : av_Rn sc M (d + 1) al n0 bc bs pc' lv (vI (if y < x then y else x) :: st) h Φ) : av_Rn sc M (d + 1) al n0 bc bs pc lv (vI y :: vI x :: st) h Φ := by
  subst hp
  intro p l e R s m args below meth c D ty A b ad0 mc ms Q X HR ad H locs ls cells slots G L hc hs
  obtain ⟨-, -, -, -, -, ⟨r1, r2, r3, r4⟩, -⟩ := id X
  have hm2 := av_mr (b := b) (ad := ad) st hm
  have k := k p l e R s m args below meth c D ty A b ad0 mc ms Q X HR ad H locs ls cells slots G L hc hs
  refine va_mmin X.1.1 X.1.2.1 (X.1.2.2.1.trans L.1.symm) X.1.2.2.2.1 (X.2.1 _ hw.1) (X.2.1 _ hw.2.1) (X.2.1 _ hw.2.2.1) (X.2.1 _ hw.2.2.2) (by omega) (by omega) (by omega) (by omega) hd ?_
  have e2 : (if Int32.ofInt y < Int32.ofInt x then Int32.ofInt y else Int32.ofInt x) = Int32.ofInt (if y < x then y else x) := by
    by_cases q : y < x
    · rw [if_pos q, if_pos ((av_lt hy hx).mpr q)]
    · rw [if_neg q, if_neg (fun z => q ((av_lt hy hx).mp z))]
  rw [e2]
  exact k
theorem rn_abs (pc' : Nat) {idx : Nat} {x : Int} (hd : decode M.2.1 pc = .ok (.invokestatic idx, 3)) (hp : pc + 3 = pc') (hw : av_cwM M.1.cls idx Lib.Math.abs.name Lib.Math.abs.code 1) (hm : (st.map av_cat).sum ≤ 8) (hx : av_in x) (k : av_Rn sc M (d + 1) al n0 bc bs pc' lv (vI (if 0 ≤ x then x else 0 - x) :: st) h Φ) : av_Rn sc M (d + 1) al n0 bc bs pc lv (vI x :: st) h Φ := by
  subst hp
  intro p l e R s m args below meth c D ty A b ad0 mc ms Q X HR ad H locs ls cells slots G L hc hs
  obtain ⟨-, -, -, -, -, ⟨r1, r2, r3, r4⟩, -⟩ := id X
  have hm2 := av_mr (b := b) (ad := ad) st hm
  have k := k p l e R s m args below meth c D ty A b ad0 mc ms Q X HR ad H locs ls cells slots G L hc hs
  refine va_mabs X.1.1 X.1.2.1 (X.1.2.2.1.trans L.1.symm) X.1.2.2.2.1 (X.2.1 _ hw.1) (X.2.1 _ hw.2.1) (X.2.1 _ hw.2.2.1) (X.2.1 _ hw.2.2.2) (by omega) (by omega) (by omega) (by omega) hd ?_
  have e2 : (if 0 ≤ Int32.ofInt x then Int32.ofInt x else 0 - Int32.ofInt x) = Int32.ofInt (if 0 ≤ x then x else 0 - x) := by
    have h0 : ((0 : Int32) ≤ Int32.ofInt x) ↔ 0 ≤ x := av_le (x := 0) av_in0 hx
    by_cases q : 0 ≤ x
    · rw [if_pos q, if_pos (h0.mpr q)]
    · rw [if_neg q, if_neg (fun z => q (h0.mp z)), Int32.ofInt_sub]; rfl
  rw [e2]
  exact k
theorem rn_tabOut (tgt : Nat) {dflt lo hi : Int} {offs : Array Int} {len : Nat} {x : Int} (hd : decode M.2.1 pc = .ok (.tableswitch dflt lo hi offs, len)) (hx : av_in x) (h1 : x < lo ∨ hi < x) (ht : (pc : Int) + dflt = (tgt : Int)) (k : av_Rn sc M d al n0 bc bs tgt lv st h Φ) : av_Rn sc M d al n0 bc bs pc lv (vI x :: st) h Φ := by
  intro p l e R s m args below meth c D ty A b ad0 mc ms Q X HR ad H locs ls cells slots G L hc hs
  have ex : (Int32.ofInt x).toInt = x := Int32.toInt_ofInt_of_le (by have := hx.1; omega) (by have := hx.2; omega)
  exact lv_tableOut X.1.1 X.1.2.1 hd (by rw [ex]; exact h1) ht (k p l e R s m args below meth c D ty A b ad0 mc ms Q X HR ad H locs ls cells slots G L hc hs)
theorem rn_tabIn (tgt : Nat) {dflt lo hi off : Int} {offs : Array Int} {len : Nat} {x : Int} (hd : decode M.2.1 pc = .ok (.tableswitch dflt lo hi offs, len)) (hx : av_in x) (h1 : ¬ x < lo) (h2 : ¬ hi < x) (ho : offs[(x - lo).toNat]? = some off) (ht : (pc : Int) + off = (tgt : Int)) (k : av_Rn sc M d al n0 bc bs tgt lv st h Φ) : av_Rn sc M d al n0 bc bs pc lv (vI x :: st) h Φ := by
  intro p l e R s m args below meth c D ty A b ad0 mc ms Q X HR ad H locs ls cells slots G L hc hs
  have ex : (Int32.ofInt x).toInt = x := Int32.toInt_ofInt_of_le (by have := hx.1; omega) (by have := hx.2; omega)
  exact lv_tableIn X.1.1 X.1.2.1 hd (by rw [ex]; exact h1) (by rw [ex]; exact h2) (by rw [ex]; exact ho) ht (k p l e R s m args below meth c D ty A b ad0 mc ms Q X HR ad H locs ls cells slots G L hc hs)
end
