section
variable {sc : av_sc} {M : av_M} {d n0 bc bs pc : Nat} {al : Bool} {lv : av_L} {st : List av_V} {h : av_H} {Φ : Option av_V → av_H → Prop}
theorem rn_ishr (pc' : Nat) {x y : Int} (hd : decode M.2.1 pc = .ok (.ishr, 1)) (hp : pc + 1 = pc') (z : Int) (hz : Int32.ofInt x >>> (Int32.ofInt y &&& 31) = Int32.ofInt z) (k : av_Rn sc M d al n0 bc bs pc' lv (vI z :: st) h Φ) : av_Rn sc M d al n0 bc bs pc lv (vI y :: vI x :: st) h Φ := by
  subst hp
  intro p l e R s m args below meth c D ty A b ad0 mc ms Q X HR ad H locs ls cells slots G L hc hs
  have k := k p l e R s m args below meth c D ty A b ad0 mc ms Q X HR ad H locs ls cells slots G L hc hs
  exact lv_ishr X.1.1 X.1.2.1 hd (by rw [hz]; exact k)
theorem rn_kill (j : Nat) {lv' : av_L} (hl : lv.set j none = lv') (k : av_Rn sc M d al n0 bc bs pc lv' st h Φ) : av_Rn sc M d al n0 bc bs pc lv st h Φ := by
  subst hl
  refine rn_drop (lv.set j none) (fun i v hv => ?_) k
  rw [List.getElem?_set] at hv
  by_cases hi : j = i
  · subst hi
    simp only [if_true] at hv
    split at hv <;> simp at hv
  · simpa [hi] using hv
end
/-- the bit that the class looks at, and the reference's -/
def btC (x i : Int) : Int := (Int32.ofInt (((Int32.ofInt x).toUInt32 >>> ((Int32.ofInt i).toUInt32 &&& Int32.toUInt32 31)).toInt32.toInt) &&& Int32.ofInt 1).toInt
def btM (x i : Int) : Int := (Int32.ofInt ((Int32.ofInt x >>> (Int32.ofInt i &&& 31)).toInt) &&& Int32.ofInt 1).toInt
theorem btC_in (x i : Int) : av_in (btC x i) := ⟨Int32.le_toInt _, Int32.toInt_lt _⟩
theorem btM_in (x i : Int) : av_in (btM x i) := ⟨Int32.le_toInt _, Int32.toInt_lt _⟩
/-- an array holds a list from s on -/
def hl (f : Int → Int) (s : Int) : List Int → Prop
  | [] => True
  | x :: r => f s = x ∧ hl f (s + 1) r
theorem hl_at {f : Int → Int} : ∀ {l : List Int} {s : Int}, hl f s l → ∀ (i : Nat) (x : Int), l[i]? = some x → f (s + (i : Int)) = x := by
  intro l
  induction l with
  | nil => intro s _ i x h; simp at h
  | cons a l ih =>
    intro s h i x hx
    cases i with
    | zero => simp at hx; subst hx; simpa using h.1
    | succ i =>
      simp only [List.getElem?_cons_succ] at hx
      have := ih h.2 i x hx
      rw [show s + ((i + 1 : Nat) : Int) = s + 1 + (i : Int) by omega]
      exact this
/-- which edge is taken, and a walk: the blocks with the edges by which they are left -/
def wE (en : Int → Int) (hd t b : Int) : Int := if en b = 2 then (if t < 32 ∧ btC hd t = 1 then 0 else 1) else 0
def wT (en : Int → Int) (t b : Int) : Int := if en b = 2 then t + 1 else t
def wk (en to : Int → Int) (hd : Int) : Nat → Int → Int → List (Int × Int)
  | 0, _, _ => []
  | k + 1, t, b => if b = -1 then [] else (b, wE en hd t b) :: wk en to hd k (wT en t b) (to (2 * b + wE en hd t b))
def tS (σ : av_S) (f g : Int → Int) (s : Int) : av_S := up (up (up σ 11 f) 12 g) 10 (uI (σ 10) 2 s)
