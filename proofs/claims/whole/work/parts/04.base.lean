/-! THE ABSTRACT MACHINE. Values are mathematical: an int is an Int, a reference is the place of a cell in a list, a long is an Int; an array's contents are a function of Int. av_Rn says: from this pc, these locals, this stack and these cells the method comes to an end where Φ holds of its answer and its cells. Each rule rn_.. is an instruction. -/
abbrev av_V : Type := Int ⊕ Option Nat ⊕ Int ⊕ Unit
abbrev vI (z : Int) : av_V := .inl z
abbrev vR (k : Nat) : av_V := .inr (.inl (some k))
abbrev vN : av_V := .inr (.inl none)
abbrev vG (z : Int) : av_V := .inr (.inr (.inl z))
abbrev vS : av_V := .inr (.inr (.inr ()))
abbrev av_C : Type := (Nat × Nat × (Int → Int)) ⊕ (Nat × List av_V)
abbrev av_H : Type := List av_C
abbrev av_L : Type := List (Option av_V)
abbrev av_M : Type := MethodName × ByteArray × Nat × Option FieldType
abbrev av_sc : Type := Nat × (Int → Int)
def av_in (z : Int) : Prop := -2147483648 ≤ z ∧ z < 2147483648
def av_tv (b : Nat) (ad : Nat → Nat) : av_V → Value
  | .inl z => .int (Int32.ofInt z)
  | .inr (.inl none) => .null
  | .inr (.inl (some k)) => .ref (ad k)
  | .inr (.inr (.inl z)) => .long (Int64.ofInt z)
  | .inr (.inr (.inr _)) => .ref b
def av_cat : av_V → Nat
  | .inr (.inr (.inl _)) => 2
  | _ => 1
theorem av_cat_tv (b : Nat) (ad : Nat → Nat) (v : av_V) : (av_tv b ad v).category = av_cat v := by
  rcases v with z | (_ | k) | z | u <;> rfl
def av_tc (b : Nat) (ad : Nat → Nat) (ty : Nat → ClassId) : av_C → va_E
  | .inl a => .inl (ty a.1, a.2.1, .inl (fun j => Int32.ofInt (a.2.2 (j : Int))))
  | .inr o => .inr (o.1, o.2.map (av_tv b ad))
def av_tw (b : Nat) (ad : Nat → Nat) (ty : Nat → ClassId) (h : av_H) : va_W := h.mapIdx (fun i c => (ad i, av_tc b ad ty c))
theorem av_tw_at {b : Nat} {ad : Nat → Nat} {ty : Nat → ClassId} {h : av_H} {k : Nat} {c : av_C} (hk : h[k]? = some c) : (av_tw b ad ty h)[k]? = some (ad k, av_tc b ad ty c) := by
  simp [av_tw, List.getElem?_mapIdx, hk]
theorem av_tw_set {b : Nat} {ad : Nat → Nat} {ty : Nat → ClassId} {h : av_H} {k : Nat} {c : av_C} : (av_tw b ad ty h).set k (ad k, av_tc b ad ty c) = av_tw b ad ty (h.set k c) := by
  simp [av_tw, List.mapIdx_set]
/-- the references in it are places below n -/
def av_scv (n : Nat) : av_V → Bool
  | .inr (.inl (some k)) => decide (k < n)
  | _ => true
def av_scc (n : Nat) : av_C → Bool
  | .inl _ => true
  | .inr o => o.2.all (av_scv n)
def av_scl (n : Nat) : Option av_V → Bool
  | some v => av_scv n v
  | none => true
def av_ok (lv : av_L) (st : List av_V) (h : av_H) : Bool := lv.all (av_scl h.length) && st.all (av_scv h.length) && h.all (av_scc h.length)
theorem av_tv_ext {b : Nat} {ad ad' : Nat → Nat} {n : Nat} {v : av_V} (hs : av_scv n v = true) (he : ∀ i, i < n → ad' i = ad i) : av_tv b ad' v = av_tv b ad v := by
  rcases v with z | (_ | k) | z | u
  · rfl
  · rfl
  · show Value.ref (ad' k) = Value.ref (ad k)
    rw [he k (by simpa [av_scv] using hs)]
  · rfl
  · rfl
theorem av_tc_ext {b : Nat} {ad ad' : Nat → Nat} {ty : Nat → ClassId} {n : Nat} {c : av_C} (hs : av_scc n c = true) (he : ∀ i, i < n → ad' i = ad i) : av_tc b ad' ty c = av_tc b ad ty c := by
  rcases c with a | o
  · rfl
  · show Sum.inr (o.1, o.2.map (av_tv b ad')) = Sum.inr (o.1, o.2.map (av_tv b ad))
    rw [List.map_congr_left (fun v hv => av_tv_ext (List.all_eq_true.mp hs v hv) he)]
theorem av_ts_ext {b : Nat} {ad ad' : Nat → Nat} {n : Nat} {st : List av_V} (hs : st.all (av_scv n) = true) (he : ∀ i, i < n → ad' i = ad i) : st.map (av_tv b ad') = st.map (av_tv b ad) :=
  List.map_congr_left (fun v hv => av_tv_ext (List.all_eq_true.mp hs v hv) he)
theorem av_tw_ext {b : Nat} {ad ad' : Nat → Nat} {ty : Nat → ClassId} {n : Nat} {h : av_H} (hl : h.length ≤ n) (hs : h.all (av_scc n) = true) (he : ∀ i, i < n → ad' i = ad i) : av_tw b ad' ty h = av_tw b ad ty h := by
  refine List.ext_getElem? fun i => ?_
  simp only [av_tw, List.getElem?_mapIdx]
  cases hi : h[i]? with
  | none => rfl
  | some c =>
    have h1 : i < h.length := (List.getElem?_eq_some_iff.mp hi).1
    simp only [Option.map_some]
    rw [he i (Nat.lt_of_lt_of_le h1 hl), av_tc_ext (List.all_eq_true.mp hs c (List.mem_of_getElem? hi)) he]
/-- the locals, by their places -/
def av_tl (b : Nat) (ad : Nat → Nat) (lv : av_L) : List (Nat × Value) := lv.zipIdx.filterMap (fun q => q.1.map (fun v => (q.2, av_tv b ad v)))
theorem av_tl_mem {b : Nat} {ad : Nat → Nat} {lv : av_L} {i : Nat} {w : Value} : (i, w) ∈ av_tl b ad lv ↔ ∃ v, lv[i]? = some (some v) ∧ w = av_tv b ad v := by
  simp only [av_tl, List.mem_filterMap]
  constructor
  · rintro ⟨⟨o, j⟩, hm, he⟩
    have hm := List.mem_zipIdx_iff_getElem?.mp hm
    cases o with
    | none => simp at he
    | some v =>
      simp only [Option.map_some, Option.some.injEq, Prod.mk.injEq] at he
      obtain ⟨rfl, rfl⟩ := he
      exact ⟨v, hm, rfl⟩
  · rintro ⟨v, hv, rfl⟩
    exact ⟨(some v, i), List.mem_zipIdx_iff_getElem?.mpr hv, rfl⟩
def av_hs (b : Nat) (ad : Nat → Nat) (ls : Array Slot) (nL : Nat) (lv : av_L) : Prop := lv_has ls nL (av_tl b ad lv)
theorem av_hs_at {b : Nat} {ad : Nat → Nat} {ls : Array Slot} {nL : Nat} {lv : av_L} (h : av_hs b ad ls nL lv) {i : Nat} {v : av_V} (hv : lv[i]? = some (some v)) : ls[i]? = some (.val (av_tv b ad v)) :=
  h.2.2 (i, av_tv b ad v) (av_tl_mem.mpr ⟨v, hv, rfl⟩)
theorem av_hs_sub {b : Nat} {ad : Nat → Nat} {ls : Array Slot} {nL : Nat} {l : List (Nat × Value)} {lv : av_L} (h : lv_has ls nL l) (hs : ∀ i v, lv[i]? = some (some v) → (i, av_tv b ad v) ∈ l) : av_hs b ad ls nL lv := by
  refine ⟨h.1, h.2.1, fun q hq => ?_⟩
  obtain ⟨i, w⟩ := q
  obtain ⟨v, hv, rfl⟩ := av_tl_mem.mp hq
  exact h.2.2 _ (hs i v hv)
theorem av_tl_ext {b : Nat} {ad ad' : Nat → Nat} {n : Nat} {lv : av_L} (hs : lv.all (av_scl n) = true) (he : ∀ i, i < n → ad' i = ad i) : ∀ (i : Nat) (v : av_V), lv[i]? = some (some v) → av_tv b ad' v = av_tv b ad v :=
  fun _ v hv => av_tv_ext (show av_scl n (some v) = true from List.all_eq_true.mp hs (some v) (List.mem_of_getElem? hv)) he
/-- the place before isn't a long's -/
def av_nl (lv : av_L) : Nat → Bool
  | 0 => true
  | i + 1 => match lv[i]? with
    | some (some v) => av_cat v == 1
    | _ => true
theorem av_st1 {b : Nat} {ad : Nat → Nat} {ls : Array Slot} {nL : Nat} {lv : av_L} {i : Nat} {v : av_V} (hnl : av_nl lv i = true)
    (h : lv_has ls nL ((i, av_tv b ad v) :: (av_tl b ad lv).filter (fun q => !(q.1 == i) && !(q.1 + 1 == i && q.2.category == 2)))) : av_hs b ad ls nL (lv.set i (some v)) := by
  refine av_hs_sub h fun j w hw => ?_
  rw [List.getElem?_set] at hw
  by_cases hij : i = j
  · subst hij
    simp only [if_true] at hw
    split at hw
    · cases hw; exact List.mem_cons_self
    · cases hw
  · simp only [hij, if_false] at hw
    refine List.mem_cons_of_mem _ (List.mem_filter.mpr ⟨av_tl_mem.mpr ⟨w, hw, rfl⟩, ?_⟩)
    have h1 : ¬ j = i := fun q => hij q.symm
    simp only [av_cat_tv]
    by_cases h2 : j + 1 = i
    · subst h2
      have h3 : (av_cat w == 1) = true := by simpa [av_nl, hw] using hnl
      have h4 : av_cat w = 1 := by simpa using h3
      simp [h4]
    · simp [h1, h2]
theorem av_st2 {b : Nat} {ad : Nat → Nat} {ls : Array Slot} {nL : Nat} {lv : av_L} {i : Nat} {v : av_V} (hnl : av_nl lv i = true)
    (h : lv_has ls nL ((i, av_tv b ad v) :: (av_tl b ad lv).filter (fun q => !(q.1 == i) && (!(q.1 == i + 1) && !(q.1 + 1 == i && q.2.category == 2))))) : av_hs b ad ls nL ((lv.set i (some v)).set (i + 1) none) := by
  refine av_hs_sub h fun j w hw => ?_
  rw [List.getElem?_set] at hw
  by_cases h0 : i + 1 = j
  · subst h0
    simp only [if_true] at hw
    split at hw <;> cases hw
  simp only [h0, if_false] at hw
  rw [List.getElem?_set] at hw
  by_cases hij : i = j
  · subst hij
    simp only [if_true] at hw
    split at hw
    · cases hw; exact List.mem_cons_self
    · cases hw
  · simp only [hij, if_false] at hw
    refine List.mem_cons_of_mem _ (List.mem_filter.mpr ⟨av_tl_mem.mpr ⟨w, hw, rfl⟩, ?_⟩)
    have h1 : ¬ j = i := fun q => hij q.symm
    have h5 : ¬ j = i + 1 := fun q => h0 q.symm
    simp only [av_cat_tv]
    by_cases h2 : j + 1 = i
    · subst h2
      have h3 : (av_cat w == 1) = true := by simpa [av_nl, hw] using hnl
      have h4 : av_cat w = 1 := by simpa using h3
      simp [h4]; omega
    · simp [h1, h2, h5]
-- ints
theorem av_lt {x y : Int} (hx : av_in x) (hy : av_in y) : Int32.ofInt x < Int32.ofInt y ↔ x < y := by
  rw [Int32.lt_iff_toInt_lt, Int32.toInt_ofInt_of_le (by have := hx.1; omega) (by have := hx.2; omega), Int32.toInt_ofInt_of_le (by have := hy.1; omega) (by have := hy.2; omega)]
theorem av_le {x y : Int} (hx : av_in x) (hy : av_in y) : Int32.ofInt x ≤ Int32.ofInt y ↔ x ≤ y := by
  rw [Int32.le_iff_toInt_le, Int32.toInt_ofInt_of_le (by have := hx.1; omega) (by have := hx.2; omega), Int32.toInt_ofInt_of_le (by have := hy.1; omega) (by have := hy.2; omega)]
theorem av_eq {x y : Int} (hx : av_in x) (hy : av_in y) : Int32.ofInt x = Int32.ofInt y ↔ x = y := by
  rw [← Int32.toInt_inj, Int32.toInt_ofInt_of_le (by have := hx.1; omega) (by have := hx.2; omega), Int32.toInt_ofInt_of_le (by have := hy.1; omega) (by have := hy.2; omega)]
theorem av_in0 : av_in 0 := ⟨by decide, by decide⟩
theorem av_ix {i : Int} {n : Nat} (h0 : 0 ≤ i) (hn : i < (n : Int)) (hi : av_in i) : vp_in (Int32.ofInt i) n := by
  rw [vp_in_iff, Int32.toInt_ofInt_of_le (by have := hi.1; omega) (by have := hi.2; omega)]
  exact ⟨h0, hn⟩
theorem av_cl {i : Int} (h0 : 0 ≤ i) (hi : av_in i) : (((Int32.ofInt i).toNatClampNeg : Nat) : Int) = i := by
  rw [Int32.toNatClampNeg_ofInt_of_le (by have := hi.1; omega) (by have := hi.2; omega)]
  exact Int.toNat_of_nonneg h0
/-- an array with one place changed -/
def uI (f : Int → Int) (i z : Int) : Int → Int := fun j => if j = i then z else f j
theorem av_uI {f : Int → Int} {i z : Int} (h0 : 0 ≤ i) (hi : av_in i) : upd (fun j : Nat => Int32.ofInt (f (j : Int))) (Int32.ofInt i).toNatClampNeg (Int32.ofInt z) = fun j : Nat => Int32.ofInt (uI f i z (j : Int)) := by
  funext j
  have hc := av_cl h0 hi
  by_cases hj : j = (Int32.ofInt i).toNatClampNeg
  · subst hj
    simp [upd, uI, hc]
  · have : ¬ (j : Int) = i := fun q => hj (by omega)
    simp [upd, uI, hj, this]
theorem av_div {x y : Int} (hx : av_in x) (hy : av_in y) : Int32.ofInt (x.tdiv y) = Int32.ofInt x / Int32.ofInt y :=
  Int32.ofInt_tdiv hx.1 (Int.le_of_lt_add_one hx.2) hy.1 (Int.le_of_lt_add_one hy.2)
theorem av_mod {x y : Int} : x - x.tdiv y * y = x.tmod y := by
  rw [Int.tmod_def, Int.mul_comm]
def av_iL (z : Int) : Prop := -9223372036854775808 ≤ z ∧ z < 9223372036854775808
theorem av_lcmp {x y : Int} (hx : av_iL x) (hy : av_iL y) : lg_cmp (Int64.ofInt x) (Int64.ofInt y) = Int32.ofInt (if y < x then 1 else if x = y then 0 else -1) := by
  have ex : (Int64.ofInt x).toInt = x := Int64.toInt_ofInt_of_le (by have := hx.1; omega) (by have := hx.2; omega)
  have ey : (Int64.ofInt y).toInt = y := Int64.toInt_ofInt_of_le (by have := hy.1; omega) (by have := hy.2; omega)
  have h1 : Int64.ofInt y < Int64.ofInt x ↔ y < x := by rw [Int64.lt_iff_toInt_lt, ex, ey]
  have h2 : Int64.ofInt x = Int64.ofInt y ↔ x = y := by rw [← Int64.toInt_inj, ex, ey]
  unfold lg_cmp
  by_cases c1 : y < x
  · rw [if_pos (h1.mpr c1), if_pos c1]; rfl
  · rw [if_neg (fun q => c1 (h1.mp q)), if_neg c1]
    by_cases c2 : x = y
    · rw [if_pos (h2.mpr c2), if_pos c2]; rfl
    · rw [if_neg (fun q => c2 (h2.mp q)), if_neg c2]; rfl
