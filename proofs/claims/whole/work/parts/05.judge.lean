/-- the words that every method may use -/
def av_T : List Cond := lw_tbl.filter goodWord
def av_ws (M : av_M) : List Cond := Cond.code M.1 M.2.1 M.2.2.1 M.2.2.2 :: av_T
def av_tys (ty : Nat → ClassId) : List (ClassId × FieldType) := [(ty 0, .int), (ty 1, .boolean)]
/-- what stays through a method's run -/
def av_X (sc : av_sc) (M : av_M) (d : Nat) (p : Program) (R : Room) (s : State) (m : MethodId) (args : Array Value) (meth : Method) (c : Code) (D : va_G) (ty : Nat → ClassId) (A : Nat → Prop) (b mc ms : Nat) : Prop :=
  (p.tables.exec = Jvm.exec ∧ c.code = M.2.1 ∧ c.maxLocals = M.2.2.1 ∧ s.vm.findClass M.1.cls = some m.cls ∧ (M.1.name = "<init>" → meth.name = "<init>")) ∧ (∀ w ∈ av_T, w.before args s = true) ∧ (∀ w ∈ av_N, va_Nw w s) ∧ va_K D vwCl (av_tys ty) s ∧ (∀ q, s.heap.size ≤ q → A q) ∧ (d ≤ R.frames ∧ d * 40 ≤ R.locals ∧ mc ≤ R.cells ∧ ms ≤ R.slots) ∧ (va_X b sc.1 (fun j => Int32.ofInt (sc.2 (j : Int))) s s.heap ∧ b < s.heap.size ∧ ¬ A b)
/-- the cells -/
def av_G (al : Bool) (n0 : Nat) (D : va_G) (ty : Nat → ClassId) (A : Nat → Prop) (b : Nat) (ad0 ad : Nat → Nat) (s : State) (H : Heap) (locs : List Loc) (h : av_H) : Prop :=
  (n0 ≤ h.length ∧ (al = false → ad = ad0) ∧ ∀ i, i < n0 → ad i = ad0 i) ∧ va_P D vwCl (av_tw b ad ty h) H ∧ va_D A (av_tw b ad ty h) ∧ va_S A s.heap H locs
/-- the return instruction that fits the answer -/
def av_rt (M : av_M) (pc : Nat) : Option av_V → Prop
  | none => decode M.2.1 pc = .ok (.return_, 1) ∧ M.2.2.2 = none
  | some (.inl z) => decode M.2.1 pc = .ok (.ireturn, 1) ∧ (M.2.2.2 = some .int ∨ (M.2.2.2 = some .boolean ∧ (z = 0 ∨ z = 1)))
  | some (.inr (.inr (.inl _))) => decode M.2.1 pc = .ok (.lreturn, 1) ∧ M.2.2.2 = some .long
  | some _ => False
def av_HR (M : av_M) (al : Bool) (n0 : Nat) (Φ : Option av_V → av_H → Prop) (p : Program) (l : Launch) (e : Env) (R : Room) (s : State) (m : MethodId) (args : Array Value) (below : List Frame) (meth : Method) (c : Code) (D : va_G) (ty : Nat → ClassId) (A : Nat → Prop) (b : Nat) (ad0 : Nat → Nat) (mc ms : Nat) (Q : State → Prop) : Prop :=
  ∀ (ad : Nat → Nat) (H : Heap) (locs : List Loc) (ls : Array Slot) (cells slots pc : Nat) (r : Option av_V) (h : av_H), Φ r h → av_G al n0 D ty A b ad0 ad s H locs h → cells ≤ mc → slots ≤ ms → av_rt M pc r →
    W p l e R s m args below meth c H locs cells slots Q (F0 m pc ls (r.map (av_tv b ad)).toList)
/-- from here the method comes to an end with Φ -/
def av_Rn (sc : av_sc) (M : av_M) (d : Nat) (al : Bool) (n0 bc bs pc : Nat) (lv : av_L) (st : List av_V) (h : av_H) (Φ : Option av_V → av_H → Prop) : Prop :=
  ∀ (p : Program) (l : Launch) (e : Env) (R : Room) (s : State) (m : MethodId) (args : Array Value) (below : List Frame) (meth : Method) (c : Code) (D : va_G) (ty : Nat → ClassId) (A : Nat → Prop) (b : Nat) (ad0 : Nat → Nat) (mc ms : Nat) (Q : State → Prop),
    av_X sc M d p R s m args meth c D ty A b mc ms → av_HR M al n0 Φ p l e R s m args below meth c D ty A b ad0 mc ms Q →
    ∀ (ad : Nat → Nat) (H : Heap) (locs : List Loc) (ls : Array Slot) (cells slots : Nat), av_G al n0 D ty A b ad0 ad s H locs h → av_hs b ad ls M.2.2.1 lv → cells + bc ≤ mc → slots + bs ≤ ms →
      W p l e R s m args below meth c H locs cells slots Q (F0 m pc ls (st.map (av_tv b ad)))
/-- a method's start, and its end -/
def av_Pc (sc : av_sc) (D : va_G) (ty : Nat → ClassId) (b : Nat) (ad : Nat → Nat) (sz : Nat) (as : List av_V) (h : av_H) : Array Value → State → Prop :=
  va_Pc (as.map (av_tv b ad)) (fun U => U.heap.size = sz ∧ va_P D vwCl (av_tw b ad ty h) U.heap ∧ va_K D vwCl (av_tys ty) U ∧ va_D (fun _ => True) (av_tw b ad ty h) ∧ (∀ w ∈ av_N, va_Nw w U) ∧ va_X b sc.1 (fun j => Int32.ofInt (sc.2 (j : Int))) U U.heap ∧ b < sz ∧ ¬ va_A (av_tw b ad ty h) sz b)
def av_Q (al : Bool) (n0 : Nat) (D : va_G) (ty : Nat → ClassId) (b : Nat) (ad : Nat → Nat) (Φ : Option av_V → av_H → Prop) (A : Nat → Prop) : Array Value → State → Outcome → State → Prop := fun _ st oc t =>
  (∃ (r : Option av_V) (h : av_H) (ad' : Nat → Nat), oc = .returned (r.map (av_tv b ad')) ∧ Φ r h ∧ (n0 ≤ h.length ∧ (al = false → ad' = ad) ∧ ∀ i, i < n0 → ad' i = ad i) ∧ va_P D vwCl (av_tw b ad' ty h) t.heap ∧ va_D A (av_tw b ad' ty h)) ∧ va_F A st t
/-- a method's contract -/
def av_Ev (sc : av_sc) (M : av_M) (d : Nat) (al : Bool) (mc ms : Nat) (as : List av_V) (h : av_H) (Φ : Option av_V → av_H → Prop) : Prop :=
  ∀ (l : Launch) (D : va_G) (ty : Nat → ClassId) (b : Nat) (ad : Nat → Nat) (sz : Nat), Met l M.1 (av_ws M) { frames := d, cells := mc, slots := ms, locals := d * 40 }
    (av_Pc sc D ty b ad sz as h) (av_Q al h.length D ty b ad Φ (va_A (av_tw b ad ty h) sz)) mc ms (va_A (av_tw b ad ty h) sz)
theorem av_args : ∀ (vs : List Value) (k : Nat), (∀ v ∈ vs, v.category = 1) → ∀ (i : Nat) (v : Value), vs[i]? = some v → (k + i, v) ∈ lv_args k vs := by
  intro vs
  induction vs with
  | nil => intro k _ i v h; simp at h
  | cons a vs ih =>
    intro k hc i v h
    have ha : ¬ a.category = 2 := by rw [hc a List.mem_cons_self]; decide
    cases i with
    | zero =>
      simp only [List.getElem?_cons_zero, Option.some.injEq] at h
      subst h
      exact List.mem_cons_self
    | succ i =>
      simp only [List.getElem?_cons_succ] at h
      have h1 := ih (k + 1) (fun v hv => hc v (List.mem_cons_of_mem _ hv)) i v h
      simp only [lv_args, if_neg ha]
      rw [show k + (i + 1) = k + 1 + i by omega]
      exact List.mem_cons_of_mem _ h1
theorem av_sl : ∀ (vs : List Value), (∀ v ∈ vs, v.category = 1) → (lg_sl vs).length = vs.length := by
  intro vs
  induction vs with
  | nil => intro _; rfl
  | cons a vs ih =>
    intro hc
    have ha : ¬ a.category = 2 := by rw [hc a List.mem_cons_self]; decide
    have h1 := ih (fun v hv => hc v (List.mem_cons_of_mem _ hv))
    simp only [lg_sl, List.flatMap_cons, if_neg ha, List.length_append, List.length_cons, List.length_nil] at h1 ⊢
    omega
theorem av_ents {as : List av_V} {n : Nat} {lv : av_L} (hlv : as.map some ++ List.replicate n none = lv) {i : Nat} {v : av_V} (h : lv[i]? = some (some v)) : as[i]? = some v := by
  subst hlv
  by_cases hi : i < as.length
  · rw [List.getElem?_append_left (by simpa using hi), List.getElem?_map] at h
    cases hq : as[i]? with
    | none => rw [hq] at h; cases h
    | some w => rw [hq] at h; simpa using h
  · rw [List.getElem?_append_right (by simpa using Nat.le_of_not_lt hi)] at h
    have := List.mem_of_getElem? h
    simp at this
set_option maxHeartbeats 1000000 in
/-- a contract out of a run from the entry -/
theorem av_ev {sc : av_sc} {M : av_M} {d mc ms : Nat} {al : Bool} {as : List av_V} {h : av_H} {Φ : Option av_V → av_H → Prop} (hy : plainName M.1.cls = true) (hc : as.all (fun v => av_cat v == 1) = true) (hn : as.length ≤ M.2.2.1) {lv : av_L} (hlv : as.map some ++ List.replicate (M.2.2.1 - as.length) none = lv)
    (k : av_Rn sc M d al h.length mc ms 0 lv [] h Φ) : av_Ev sc M d al mc ms as h Φ := by
  intro l D ty b ad sz
  have hcat : ∀ v ∈ as.map (av_tv b ad), v.category = 1 := by
    intro v hv
    obtain ⟨w, hw, rfl⟩ := List.mem_map.mp hv
    rw [av_cat_tv]
    simpa using List.all_eq_true.mp hc w hw
  have hlen : (lg_sl (as.map (av_tv b ad))).length ≤ M.2.2.1 := by rw [av_sl _ hcat, List.length_map]; exact hn
  refine Met.ofW (cc := M.2.1) (maxL := M.2.2.1) (ret := M.2.2.2) hy rfl ?_
  intro p e s m args below meth c s₁ B hml hv
  obtain ⟨rfl, hsz, hP, hK, hD0, hN, hX, hbl, hbA⟩ := hv
  subst hsz
  have hx := B.exec
  have hb := B.bytes
  have hr := B.returns
  have hlocks := B.notSynchronized
  have hts := atoms_spec (ws := av_ws M) B.pre
  have hown : s.vm.findClass M.1.cls = some m.cls := findClass_of_methodNamed B.named
  have hD := hD0.self (sz := s.heap.size)
  rw [lg_entry_eq]
  have hl := lv_entry (as.map (av_tv b ad)) (n := M.2.2.1) hlen
  refine k p l e _ s m _ below meth c D ty (va_A (av_tw b ad ty h) s.heap.size) b ad mc ms _ ?_ ?_ ad s.heap [] _ 0 0 ⟨⟨Nat.le_refl _, fun _ => rfl, fun _ _ => rfl⟩, hP, hD, va_S.rf⟩ (av_hs_sub hl fun i v hv => ?_) (by omega) (by omega)
  · exact ⟨⟨hx, hb, hml, hown, fun hi => (name_of_methodNamed B.named B.method).1.trans hi⟩, fun w hw => hts w (List.mem_cons_of_mem _ hw), hN, hK, fun q hq => Or.inr hq, ⟨Nat.le_refl _, Nat.le_refl _, Nat.le_refl _, Nat.le_refl _⟩, hX, hbl, hbA⟩
  · intro ad' H' locs' ls' cells' slots' pc' r h' hΦ hG hc1 hs1 hrt
    obtain ⟨g1, g2, g3, g4⟩ := hG
    refine W.widen (k := mc) (n := ms) hc1 hs1 ?_
    rcases r with _ | (z | (_ | q) | z | u)
    · exact W.vret hx hb (hr.trans hrt.2) (fun t ht hW => ⟨⟨none, h', ad', rfl, hΦ, g1, by rw [ht]; exact g2, g3⟩, g4.F ht⟩) g4.2.2 hrt.1 hlocks
    · obtain ⟨hd, hty | ⟨hty, hz⟩⟩ := hrt
      · exact W.iret (v := Int32.ofInt z) hx hb (hr.trans hty) (fun t ht hW => ⟨⟨some (vI z), h', ad', rfl, hΦ, g1, by rw [ht]; exact g2, g3⟩, g4.F ht⟩) g4.2.2 hd hlocks
      · refine W.zret (v := Int32.ofInt z) (ty := .boolean) hx hb (hr.trans hty) ?_ (fun t ht hW => ⟨⟨some (vI z), h', ad', rfl, hΦ, g1, by rw [ht]; exact g2, g3⟩, g4.F ht⟩) g4.2.2 hd hlocks
        rcases hz with rfl | rfl <;> rfl
    · exact hrt.elim
    · exact hrt.elim
    · exact W.lret (v := Int64.ofInt z) hx hb (hr.trans hrt.2) (fun t ht hW => ⟨⟨some (vG z), h', ad', rfl, hΦ, g1, by rw [ht]; exact g2, g3⟩, g4.F ht⟩) g4.2.2 hrt.1 hlocks
    · exact hrt.elim
  · have h1 := av_ents hlv hv
    have h2 := av_args (as.map (av_tv b ad)) 0 hcat i (av_tv b ad v) (by rw [List.getElem?_map, h1]; rfl)
    simpa using h2
/-- a wider end -/
theorem av_Rn.mono {sc : av_sc} {M : av_M} {d n0 bc bs pc : Nat} {al : Bool} {lv : av_L} {st : List av_V} {h : av_H} {Φ Ψ : Option av_V → av_H → Prop} (hr : av_Rn sc M d al n0 bc bs pc lv st h Φ) (hi : ∀ r h, Φ r h → Ψ r h) : av_Rn sc M d al n0 bc bs pc lv st h Ψ := by
  intro p l e R s m args below meth c D ty A b ad0 mc ms Q X HR
  exact hr p l e R s m args below meth c D ty A b ad0 mc ms Q X (fun ad H locs ls cells slots pc r h hΦ => HR ad H locs ls cells slots pc r h (hi r h hΦ))
