/-- what a call of y at idx in class cls needs of the tables -/
def av_cw (cls : String) (idx : Nat) (y : av_M) (n : Nat) : Prop := Cond.code y.1 y.2.1 y.2.2.1 y.2.2.2 ∈ av_T ∧ Cond.methodLink cls idx y.1 ∈ av_T ∧ Cond.initialized y.1.cls ∈ av_T ∧ (y.1.cls ≠ "java/lang/invoke/MethodHandle" ∧ y.1.cls ≠ "java/lang/invoke/VarHandle") ∧ (parseMethodDescriptor y.1.desc).map (fun d => d.parameters.length) = some n ∧ y.2.2.1 ≤ 21
def av_cwV (cls : String) (idx : Nat) (y : av_M) (n ci : Nat) : Prop := av_cw cls idx y n ∧ Cond.instanceMethod y.1 ∈ av_T ∧ Cond.selects y.1.cls y.1 y.1 ∈ av_T ∧ ∃ (T : u_T) (N : Nat), vwCl[ci]? = some (y.1.cls, T, N)
def av_cwS (cls : String) (idx : Nat) (y : av_M) (n : Nat) : Prop := av_cw cls idx y n ∧ Cond.static y.1 ∈ av_T
def av_cwI (cls : String) (idx : Nat) (y : av_M) (n : Nat) : Prop := av_cw cls idx y n ∧ y.1.name = "<init>" ∧ Cond.instanceMethod y.1 ∈ av_T ∧ y.2.2.2 = none
def av_cwN (cls : String) (idx : Nat) (y : av_M) (n : Nat) : Prop := Cond.code y.1 y.2.1 y.2.2.1 y.2.2.2 ∈ av_T ∧ (∃ host, Cond.methodLinkNest cls idx y.1 host ∈ av_N) ∧ Cond.initialized y.1.cls ∈ av_T ∧ (y.1.cls ≠ "java/lang/invoke/MethodHandle" ∧ y.1.cls ≠ "java/lang/invoke/VarHandle") ∧ (parseMethodDescriptor y.1.desc).map (fun d => d.parameters.length) = some n ∧ y.2.2.1 ≤ 21 ∧ y.1.name = "<init>" ∧ Cond.instanceMethod y.1 ∈ av_T ∧ y.2.2.2 = none
theorem av_good {y : av_M} (hc : Cond.code y.1 y.2.1 y.2.2.1 y.2.2.2 ∈ av_T) : GoodIn av_T (av_ws y) := by
  intro w hw
  rcases List.mem_cons.mp hw with rfl | h
  · exact ⟨hc, Or.inl rfl⟩
  · exact ⟨h, good_of_word (List.mem_filter.mp h).2⟩
theorem av_blind {sc : av_sc} {D : va_G} {ty : Nat → ClassId} {b sz : Nat} {ad : Nat → Nat} {as : List av_V} {h : av_H} : FrameBlind (av_Pc sc D ty b ad sz as h) := by
  intro a U g mk q
  obtain ⟨q0, q1, qP, qK, qD, qN, qX, qb, qA⟩ := q
  exact ⟨q0, q1, qP, va_K.moved (u := U) (U := U.calling g mk a) (Vm.Alike.refl U.vm) qK, qD, fun w hw => va_Nw.same (u := U) (U := U.calling g mk a) (av_N_on w hw) rfl (qN w hw), va_X.moved (u := U) (U := U.calling g mk a) (Vm.Alike.refl U.vm) qX, qb, qA⟩
theorem av_sub {A : Nat → Prop} {s : State} {H : Heap} {locs : List Loc} {w : va_W} (hA : ∀ q, s.heap.size ≤ q → A q) (hD : va_D A w) (hS : va_S A s.heap H locs) : ∀ q, va_A w H.size q → A q := by
  intro q h
  rcases h with ⟨k, e, h⟩ | h
  · exact hD.2 k (q, e) h
  · exact hA q (Nat.le_trans hS.1 h)
section
variable {sc : av_sc} {M : av_M} {d n0 bc bs pc : Nat} {al : Bool} {lv : av_L} {st : List av_V} {h : av_H} {Φ : Option av_V → av_H → Prop}
/-- the callee's start, in the caller's heap -/
theorem av_pre {p : Program} {R : Room} {s : State} {m : MethodId} {args : Array Value} {meth : Method} {c : Code} {D : va_G} {ty : Nat → ClassId} {A : Nat → Prop} {b mc ms : Nat} {ad0 ad : Nat → Nat} {H : Heap} {locs : List Loc} (X : av_X sc M d p R s m args meth c D ty A b mc ms) (G : av_G al n0 D ty A b ad0 ad s H locs h) (as : List av_V) :
    ∀ U : State, U.heap = H → s.WarmedH U.vm → av_Pc sc D ty b ad H.size as h (as.map (av_tv b ad)).toArray U := by
  intro U hU hW
  obtain ⟨-, -, hN, hK, hA, -, hX, hbl, hbA⟩ := X
  refine ⟨rfl, by rw [hU], by rw [hU]; exact G.2.1, va_K.moved hW.alike hK, G.2.2.1.weaken (fun _ _ _ _ => trivial), fun w hw => av_N_warm w hw s U hW (hN w hw), ?_, Nat.lt_of_lt_of_le hbl G.2.2.2.1, fun q => hbA (av_sub hA G.2.2.1 G.2.2.2 b q)⟩
  rw [hU]
  exact (va_X.moved hW.alike hX).kept (G.2.2.2.2.1 b hbl hbA)
/-- behind a call -/
theorem av_back {p : Program} {l : Launch} {e : Env} {R : Room} {s : State} {m : MethodId} {args : Array Value} {below : List Frame} {meth : Method} {c : Code} {D : va_G} {ty : Nat → ClassId} {A : Nat → Prop} {b mc ms : Nat} {ad0 ad : Nat → Nat} {H : Heap} {locs : List Loc} {Q : State → Prop} {ls : Array Slot} {cells slots c1 s1 : Nat} {al' : Bool} {Ψ : Option av_V → av_H → Prop} {st0 : List Value} {a : Array Value}
    (X : av_X sc M d p R s m args meth c D ty A b mc ms) (HR : av_HR M al n0 Φ p l e R s m args below meth c D ty A b ad0 mc ms Q) (G : av_G al n0 D ty A b ad0 ad s H locs h) (L : av_hs b ad ls M.2.2.1 lv) (hc : cells + (bc + c1) ≤ mc) (hs : slots + (bs + s1) ≤ ms)
    (hr : va_Run p l e R s m args below meth c H locs cells slots c1 s1 (F0 m pc ls st0) (st.map (av_tv b ad)) (av_Q al' h.length D ty b ad Ψ (va_A (av_tw b ad ty h) H.size) a) (va_A (av_tw b ad ty h) H.size))
    (ha : al' = false ∨ (al = true ∧ av_ok lv st h = true))
    (kk : ∀ r h', Ψ r h' → av_Rn sc M d al n0 bc bs (pc + 3) lv (r.toList ++ st) h' Φ) : W p l e R s m args below meth c H locs cells slots Q (F0 m pc ls st0) := by
  intro T hT XX
  obtain ⟨v, st₀, t, T', L', h0, X', hL, e1, e2, ⟨⟨r, h1, ad1, hv, hΨ, ⟨g1, g2, g3⟩, hP1, hD1⟩, hz, hk⟩, stp⟩ := hr T hT XX
  have hv : v = r.map (av_tv b ad1) := by simpa using hv
  subst hv
  rw [h0] at hz hk
  have hsub := av_sub X.2.2.2.2.1 G.2.2.1 G.2.2.2
  have hS : va_S A s.heap T'.heap (locs ++ L') := ⟨Nat.le_trans G.2.2.2.1 (by rw [e1]; exact hz), fun q h1 h2 => by
      rw [e1, hk q (Nat.lt_of_lt_of_le h1 G.2.2.2.1) (fun z => h2 (hsub q z))]; exact G.2.2.2.2.1 q h1 h2, fun q hq => by
      rcases List.mem_append.mp hq with h | h
      · exact G.2.2.2.2.2 q h
      · exact hsub _ (hL q h)⟩
  have hst : st.map (av_tv b ad1) = st.map (av_tv b ad) ∧ av_hs b ad1 ls M.2.2.1 lv ∧ (al = false → ad1 = ad0) := by
    rcases ha with ha | ⟨ha, hok⟩
    · have := g2 ha
      subst this
      exact ⟨rfl, L, G.1.2.1⟩
    · simp only [av_ok, Bool.and_eq_true] at hok
      refine ⟨av_ts_ext hok.1.2 g3, av_hs_sub L fun i v hv => ?_, fun q => by rw [ha] at q; cases q⟩
      rw [av_tl_ext hok.1.1 g3 i v hv]
      exact av_tl_mem.mpr ⟨v, hv, rfl⟩
  have K := kk r h1 hΨ p l e R s m args below meth c D ty A b ad0 mc ms Q X HR ad1 T'.heap (locs ++ L') ls (cells + c1) (slots + s1)
    ⟨⟨Nat.le_trans G.1.1 g1, hst.2.2, fun i hi => (g3 i (Nat.lt_of_lt_of_le hi G.1.1)).trans (G.1.2.2 i hi)⟩, by rw [e1]; exact hP1, hD1.weaken (fun k q _ h => hsub q.1 h), hS⟩ hst.2.1 (by omega) (by omega)
  have e3 : (r.toList ++ st).map (av_tv b ad1) = (r.map (av_tv b ad1)).toList ++ st.map (av_tv b ad) := by
    rw [List.map_append, hst.1]
    cases r <;> rfl
  rw [e3] at K
  obtain ⟨t2, a1, b1⟩ := K T' rfl X'
  exact ⟨t2, stp t2 a1, b1⟩
theorem av_callB {p : Program} {R : Room} {s : State} {m : MethodId} {args : Array Value} {meth : Method} {c : Code} {D : va_G} {ty : Nat → ClassId} {A : Nat → Prop} {b mc ms idx n c1 s1 : Nat} {y : av_M} (X : av_X sc M (d + 1) p R s m args meth c D ty A b mc ms) (hw : av_cw M.1.cls idx y n) :
    CallB R s args M.1.cls idx y.1 y.2.1 y.2.2.1 y.2.2.2 (av_ws y) { frames := d, cells := c1, slots := s1, locals := d * 40 } c1 s1 n := by
  obtain ⟨h1, h2, h3, h4, h5, h6⟩ := hw
  obtain ⟨-, hts, -, -, -, ⟨r1, r2, -, -⟩, -⟩ := X
  refine ⟨rfl, rfl, r1, ?_, pay_in hts (av_good h1), List.mem_cons_self, hts _ h1, hts _ h3, h4, fun sig h => ?_, hts _ h2⟩
  · show 8 + (y.2.2.1 + 11) + d * 40 ≤ R.locals
    omega
  · rw [h] at h5
    exact (Option.some.inj h5).symm
theorem av_callN {p : Program} {R : Room} {s : State} {m : MethodId} {args : Array Value} {meth : Method} {c : Code} {D : va_G} {ty : Nat → ClassId} {A : Nat → Prop} {b mc ms idx n c1 s1 : Nat} {y : av_M} (X : av_X sc M (d + 1) p R s m args meth c D ty A b mc ms) (hw : av_cwN M.1.cls idx y n) :
    ∃ host, va_CN R s args M.1.cls idx y.1 host y.2.1 y.2.2.1 none (av_ws y) { frames := d, cells := c1, slots := s1, locals := d * 40 } c1 s1 n ∧ y.1.name = "<init>" ∧ (Cond.instanceMethod y.1).before args s = true := by
  obtain ⟨h1, ⟨host, h2⟩, h3, h4, h5, h6, h7, h8, h9⟩ := hw
  obtain ⟨-, hts, hN, -, -, ⟨r1, r2, -, -⟩, -⟩ := X
  rw [← h9]
  refine ⟨host, ⟨⟨rfl, rfl, r1, ?_, pay_in hts (av_good h1), List.mem_cons_self⟩, hts _ h1, hts _ h3, h4, fun sig h => ?_, va_Nw.use (av_N_on _ h2) (hN _ h2)⟩, h7, hts _ h8⟩
  · show 8 + (y.2.2.1 + 11) + d * 40 ≤ R.locals
    omega
  · rw [h] at h5
    exact (Option.some.inj h5).symm
theorem av_mr {b : Nat} {ad : Nat → Nat} (st : List av_V) (h : (st.map av_cat).sum ≤ 8) : ((st.map (av_tv b ad)).map fun v => v.category).sum ≤ 8 := by
  rw [List.map_map, show ((fun v : Value => v.category) ∘ av_tv b ad) = av_cat from funext fun v => av_cat_tv b ad v]
  exact h
set_option maxHeartbeats 1000000 in
theorem rn_callV (pc' : Nat) {idx ci q c1 s1 n : Nat} {y : av_M} {al' : Bool} {as fs : List av_V} {stk : List av_V} {Ψ : Option av_V → av_H → Prop} (hd : decode M.2.1 pc = .ok (.invokevirtual idx, 3)) (hp : pc + 3 = pc') (hw : av_cwV M.1.cls idx y n ci) (hk : h[q]? = some (.inr (ci, fs))) (hn : as.length = n) (hst : stk = as.reverse ++ vR q :: st) (hm : (st.map av_cat).sum ≤ 8) (hE : av_Ev sc y d al' c1 s1 (vR q :: as) h Ψ)
    (ha : al' = false ∨ (al = true ∧ av_ok lv st h = true)) (kk : ∀ r h', Ψ r h' → av_Rn sc M (d + 1) al n0 bc bs pc' lv (r.toList ++ st) h' Φ) : av_Rn sc M (d + 1) al n0 (bc + c1) (bs + s1) pc lv stk h Φ := by
  subst hp; subst hst
  intro p l e R s m args below meth c D ty A b ad0 mc ms Q X HR ad H locs ls cells slots G L hc hs
  obtain ⟨hw0, h1, h2, T, N, h3⟩ := hw
  have hP := av_pre X G (vR q :: as)
  refine av_back X HR G L hc hs (va_runV (nL := M.2.2.1) (b := ad q) (As := as.map (av_tv b ad)) (C := y.1.cls) ⟨X.1.1, X.1.2.1, X.1.2.2.1, X.1.2.2.2.1, X.2.1⟩ (hE l D ty b ad H.size) ⟨av_callB X hw0, X.2.1 _ h1, X.2.1 _ h2⟩ ⟨av_blind, va_recv X.2.2.2.1 G.2.1 h3 (av_tw_at hk), hP⟩ rfl ((List.length_map ..).trans hn) L.1 ?_ (lv_room (av_mr st hm)) hd ⟨?_, ?_⟩) ha kk
  · show ((as.reverse ++ vR q :: st).map (av_tv b ad)) = _
    rw [List.map_append, List.map_reverse]; rfl
  · have := X.2.2.2.2.2.1.2.2.1; omega
  · have := X.2.2.2.2.2.1.2.2.2; omega
set_option maxHeartbeats 1000000 in
theorem rn_callS (pc' : Nat) {idx c1 s1 n : Nat} {y : av_M} {al' : Bool} {as : List av_V} {stk : List av_V} {Ψ : Option av_V → av_H → Prop} (hd : decode M.2.1 pc = .ok (.invokestatic idx, 3)) (hp : pc + 3 = pc') (hw : av_cwS M.1.cls idx y n) (hn : as.length = n) (hst : stk = as.reverse ++ st) (hm : (st.map av_cat).sum ≤ 8) (hE : av_Ev sc y d al' c1 s1 as h Ψ)
    (ha : al' = false ∨ (al = true ∧ av_ok lv st h = true)) (kk : ∀ r h', Ψ r h' → av_Rn sc M (d + 1) al n0 bc bs pc' lv (r.toList ++ st) h' Φ) : av_Rn sc M (d + 1) al n0 (bc + c1) (bs + s1) pc lv stk h Φ := by
  subst hp; subst hst
  intro p l e R s m args below meth c D ty A b ad0 mc ms Q X HR ad H locs ls cells slots G L hc hs
  obtain ⟨hw0, h1⟩ := hw
  have hP := av_pre X G as
  refine av_back X HR G L hc hs (va_runS (nL := M.2.2.1) (As := as.map (av_tv b ad)) ⟨X.1.1, X.1.2.1, X.1.2.2.1, X.1.2.2.2.1, X.2.1⟩ (hE l D ty b ad H.size) ⟨av_callB X hw0, X.2.1 _ h1⟩ ⟨av_blind, hP⟩ rfl ((List.length_map ..).trans hn) L.1 ?_ (lv_room (av_mr st hm)) hd ⟨?_, ?_⟩) ha kk
  · show ((as.reverse ++ st).map (av_tv b ad)) = _
    rw [List.map_append, List.map_reverse]
  · have := X.2.2.2.2.2.1.2.2.1; omega
  · have := X.2.2.2.2.2.1.2.2.2; omega
set_option maxHeartbeats 1000000 in
theorem rn_callI (pc' : Nat) {idx q c1 s1 n : Nat} {y : av_M} {al' : Bool} {as : List av_V} {stk : List av_V} {Ψ : Option av_V → av_H → Prop} (hd : decode M.2.1 pc = .ok (.invokespecial idx, 3)) (hp : pc + 3 = pc') (hw : av_cwI M.1.cls idx y n) (hn : as.length = n) (hst : stk = as.reverse ++ vR q :: st) (hm : (st.map av_cat).sum ≤ 8) (hE : av_Ev sc y d al' c1 s1 (vR q :: as) h Ψ)
    (ha : al' = false ∨ (al = true ∧ av_ok lv st h = true)) (kk : ∀ r h', Ψ r h' → av_Rn sc M (d + 1) al n0 bc bs pc' lv (r.toList ++ st) h' Φ) : av_Rn sc M (d + 1) al n0 (bc + c1) (bs + s1) pc lv stk h Φ := by
  subst hp; subst hst
  intro p l e R s m args below meth c D ty A b ad0 mc ms Q X HR ad H locs ls cells slots G L hc hs
  obtain ⟨hw0, h1, h2, h3⟩ := hw
  have hP := av_pre X G (vR q :: as)
  have hB := av_callB (c1 := c1) (s1 := s1) X hw0
  rw [h3] at hB
  refine av_back X HR G L hc hs (va_runI (nL := M.2.2.1) (b := ad q) (As := as.map (av_tv b ad)) ⟨X.1.1, X.1.2.1, X.1.2.2.1, X.1.2.2.2.1, X.2.1⟩ (hE l D ty b ad H.size) ⟨hB, h1, X.2.1 _ h2⟩ ⟨av_blind, hP⟩ rfl ((List.length_map ..).trans hn) L.1 ?_ (lv_room (av_mr st hm)) hd ⟨?_, ?_⟩) ha kk
  · show ((as.reverse ++ vR q :: st).map (av_tv b ad)) = _
    rw [List.map_append, List.map_reverse]; rfl
  · have := X.2.2.2.2.2.1.2.2.1; omega
  · have := X.2.2.2.2.2.1.2.2.2; omega
set_option maxHeartbeats 1000000 in
theorem rn_callN (pc' : Nat) {idx q c1 s1 n : Nat} {y : av_M} {al' : Bool} {as : List av_V} {stk : List av_V} {Ψ : Option av_V → av_H → Prop} (hd : decode M.2.1 pc = .ok (.invokespecial idx, 3)) (hp : pc + 3 = pc') (hw : av_cwN M.1.cls idx y n) (hn : as.length = n) (hst : stk = as.reverse ++ vR q :: st) (hm : (st.map av_cat).sum ≤ 8) (hE : av_Ev sc y d al' c1 s1 (vR q :: as) h Ψ)
    (ha : al' = false ∨ (al = true ∧ av_ok lv st h = true)) (kk : ∀ r h', Ψ r h' → av_Rn sc M (d + 1) al n0 bc bs pc' lv (r.toList ++ st) h' Φ) : av_Rn sc M (d + 1) al n0 (bc + c1) (bs + s1) pc lv stk h Φ := by
  subst hp; subst hst
  intro p l e R s m args below meth c D ty A b ad0 mc ms Q X HR ad H locs ls cells slots G L hc hs
  have hP := av_pre X G (vR q :: as)
  obtain ⟨host, hB⟩ := av_callN (c1 := c1) (s1 := s1) X hw
  refine av_back X HR G L hc hs (va_runIN (nL := M.2.2.1) (b := ad q) (As := as.map (av_tv b ad)) ⟨X.1.1, X.1.2.1, X.1.2.2.1, X.1.2.2.2.1, X.2.1⟩ (hE l D ty b ad H.size) hB ⟨av_blind, hP⟩ rfl ((List.length_map ..).trans hn) L.1 ?_ (lv_room (av_mr st hm)) hd ⟨?_, ?_⟩) ha kk
  · show ((as.reverse ++ vR q :: st).map (av_tv b ad)) = _
    rw [List.map_append, List.map_reverse]; rfl
  · have := X.2.2.2.2.2.1.2.2.1; omega
  · have := X.2.2.2.2.2.1.2.2.2; omega
end
