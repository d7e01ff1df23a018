/-! CHAINS, pure: sums over a chain, the order of chains, the blocks in their order -/
def suF (w CH : Int → Int) (c : Int) (n : Nat) : Int := sm (fun b => if CH b = c then w b else 0) n
theorem suF_congr {w w' CH CH' : Int → Int} {c : Int} {n : Nat} (h : ∀ b, 0 ≤ b → b < (n : Int) → CH b = CH' b ∧ w b = w' b) : suF w CH c n = suF w' CH' c n := sm_congr n (fun j hj => by
  obtain ⟨e1, e2⟩ := h j (by omega) (by omega)
  rw [e1, e2])
theorem suF_bd {w CH : Int → Int} {c M : Int} (hM : 0 ≤ M) : ∀ n : Nat, (∀ b, 0 ≤ b → b < (n : Int) → 0 ≤ w b ∧ w b ≤ M) → 0 ≤ suF w CH c n ∧ suF w CH c n ≤ M * (n : Int) := by
  intro n
  induction n with
  | zero => intro _; exact ⟨Int.le_refl 0, by rw [show M * ((0 : Nat) : Int) = 0 from Int.mul_zero M]; exact Int.le_refl 0⟩
  | succ n ih =>
    intro h
    have i := ih (fun b h0 h1 => h b h0 (by omega))
    have hb := h (n : Int) (by omega) (by omega)
    have e : suF w CH c (n + 1) = suF w CH c n + (if CH (n : Int) = c then w (n : Int) else 0) := rfl
    have e2 : M * ((n + 1 : Nat) : Int) = M * (n : Int) + M := by rw [show ((n + 1 : Nat) : Int) = (n : Int) + 1 by omega, Int.mul_add, Int.mul_one]
    split at e <;> omega
theorem suF_c {w CH CH' : Int → Int} {n : Nat} {c d : Int} (hcd : c ≠ d) (h : ∀ b, 0 ≤ b → b < (n : Int) → CH' b = if CH b = d then c else CH b) : suF w CH' c n = suF w CH c n + suF w CH d n := by
  unfold suF
  rw [← sm_add]
  refine sm_congr n fun j hj => ?_
  show (if CH' (j : Int) = c then w (j : Int) else 0) = (if CH (j : Int) = c then w (j : Int) else 0) + (if CH (j : Int) = d then w (j : Int) else 0)
  have e := h (j : Int) (by omega) (by omega)
  by_cases q : CH (j : Int) = d
  · rw [if_pos q] at e
    rw [if_pos e, if_pos q, if_neg (by omega)]; omega
  · rw [if_neg q] at e
    rw [if_neg q, e]; omega
theorem suF_x {w CH CH' : Int → Int} {n : Nat} {c d x : Int} (h1 : x ≠ c) (h2 : x ≠ d) (h : ∀ b, 0 ≤ b → b < (n : Int) → CH' b = if CH b = d then c else CH b) : suF w CH' x n = suF w CH x n := by
  refine sm_congr n fun j hj => ?_
  show (if CH' (j : Int) = x then w (j : Int) else 0) = (if CH (j : Int) = x then w (j : Int) else 0)
  have e := h (j : Int) (by omega) (by omega)
  by_cases q : CH (j : Int) = d
  · rw [if_pos q] at e
    rw [if_neg (by omega), if_neg (by omega)]
  · rw [if_neg q] at e
    rw [e]
/-- the sum over the chain of a single block -/
theorem suF_1 {w CH : Int → Int} {c : Int} {n : Nat} (h : ∀ b, 0 ≤ b → b < (n : Int) → CH b = b) (hc : 0 ≤ c ∧ c < (n : Int)) : suF w CH c n = w c := by
  have L : ∀ k : Nat, k ≤ n → suF w CH c k = if c < (k : Int) then w c else 0 := by
    intro k
    induction k with
    | zero => intro _; rw [if_neg (by omega)]; rfl
    | succ k ih =>
      intro hk
      have e : suF w CH c (k + 1) = suF w CH c k + (if CH (k : Int) = c then w (k : Int) else 0) := rfl
      rw [e, ih (by omega), h (k : Int) (by omega) (by omega)]
      by_cases q : c < (k : Int)
      · rw [if_pos q, if_neg (by omega), if_pos (by omega)]; omega
      · by_cases q2 : (k : Int) = c
        · rw [if_neg q, if_pos q2, if_pos (by omega), q2]; omega
        · rw [if_neg q, if_neg q2, if_neg (by omega)]; rfl
  rw [L n (Nat.le_refl n), if_pos hc.2]
/-- a sum of a chain is 0 just if all of it is 0 -/
theorem suF_zero {w CH : Int → Int} {c : Int} : ∀ n : Nat, (∀ b, 0 ≤ b → b < (n : Int) → 0 ≤ w b) → 0 ≤ suF w CH c n ∧ (suF w CH c n = 0 ↔ ∀ b, 0 ≤ b → b < (n : Int) → CH b = c → ¬ 0 < w b) := by
  intro n
  induction n with
  | zero => intro _; exact ⟨Int.le_refl 0, ⟨fun _ b h0 h1 => by omega, fun _ => rfl⟩⟩
  | succ n ih =>
    intro h
    obtain ⟨i0, i1⟩ := ih (fun b h0 h1 => h b h0 (by omega))
    have hb := h (n : Int) (by omega) (by omega)
    have e : suF w CH c (n + 1) = suF w CH c n + (if CH (n : Int) = c then w (n : Int) else 0) := rfl
    by_cases q : CH (n : Int) = c
    · rw [if_pos q] at e
      refine ⟨by omega, ⟨fun z b h0 h1 h2 => ?_, fun z => ?_⟩⟩
      · by_cases eb : b = (n : Int)
        · rw [eb]; omega
        · exact i1.mp (by omega) b h0 (by omega) h2
      · have := i1.mpr (fun b h0 h1 h2 => z b h0 (by omega) h2)
        have := z (n : Int) (by omega) (by omega) q
        omega
    · rw [if_neg q] at e
      refine ⟨by omega, ⟨fun z b h0 h1 h2 => ?_, fun z => ?_⟩⟩
      · by_cases eb : b = (n : Int)
        · rw [eb] at h2; exact absurd h2 q
        · exact i1.mp (by omega) b h0 (by omega) h2
      · have := i1.mpr (fun b h0 h1 h2 => z b h0 (by omega) h2)
        omega
/-- a chain has a block that counts -/
theorem suF_pos {w CH : Int → Int} {c : Int} {n : Nat} (h : ∀ b, 0 ≤ b → b < (n : Int) → 1 ≤ w b) {b : Int} (h0 : 0 ≤ b) (h1 : b < (n : Int)) (hb : CH b = c) : 1 ≤ suF w CH c n := by
  obtain ⟨a, z⟩ := suF_zero (w := w) (CH := CH) (c := c) n (fun b h0 h1 => by have := h b h0 h1; omega)
  have : suF w CH c n ≠ 0 := fun e => z.mp e b h0 h1 hb (by have := h b h0 h1; omega)
  omega
/-- joins on like starts are alike -/
theorem jall_congr {n : Nat} {to to' fn fn' en A : Int → Int} {s0 s1 : (Int → Int) × (Int → Int)} {m : Nat} (hs : ∀ b, 0 ≤ b → b < (n : Int) → s0.1 b = s1.1 b ∧ s0.2 b = s1.2 b) (hA : ∀ i : Nat, i < m → (0 ≤ A (i : Int) / 2 ∧ A (i : Int) / 2 < (n : Int)) ∧ (0 ≤ to (A (i : Int)) ∧ to (A (i : Int)) < (n : Int)) ∧ to' (A (i : Int)) = to (A (i : Int)) ∧ fn' (to (A (i : Int))) = fn (to (A (i : Int)))) :
    ∀ t : Nat, t ≤ m → ∀ b, 0 ≤ b → b < (n : Int) → (jall n to fn en s0 A t).1 b = (jall n to' fn' en s1 A t).1 b ∧ (jall n to fn en s0 A t).2 b = (jall n to' fn' en s1 A t).2 b := by
  intro t
  induction t with
  | zero => intro _; exact hs
  | succ t ih =>
    intro ht
    have ih := ih (by omega)
    obtain ⟨a1, a2, a3, a4⟩ := hA t (by omega)
    have e0 : jall n to fn en s0 A (t + 1) = jst n to fn en (jall n to fn en s0 A t) (A (t : Int)) := rfl
    have e1 : jall n to' fn' en s1 A (t + 1) = jst n to' fn' en (jall n to' fn' en s1 A t) (A (t : Int)) := rfl
    rw [e0, e1]
    generalize jall n to fn en s0 A t = p at ih ⊢
    generalize jall n to' fn' en s1 A t = q at ih ⊢
    generalize A (t : Int) = e at a1 a2 a3 a4 ⊢
    have x1 := ih (e / 2) a1.1 a1.2
    have y1 := ih (to e) a2.1 a2.2
    have sz : ∀ c, szF p.1 c n = szF q.1 c n := fun c => szF_congr (fun b h0 h1 => (ih b h0 h1).1) c
    have cc : jC n to fn en p.1 p.2 e ↔ jC n to' fn' en q.1 q.2 e := by
      unfold jC
      rw [a3, a4, sz, x1.1, x1.2, y1.1, y1.2]
    intro b h0 h1
    obtain ⟨b1, b2⟩ := ih b h0 h1
    by_cases c : jC n to fn en p.1 p.2 e
    · rw [jst_yes c, jst_yes (cc.mp c)]
      dsimp only
      rw [fl_in ⟨h0, h1⟩, fl_in ⟨h0, h1⟩, fl_in ⟨h0, h1⟩, fl_in ⟨h0, h1⟩, a3, sz, x1.1, y1.1, b1, b2]
      exact ⟨rfl, rfl⟩
    · rw [jst_no c, jst_no (fun w => c (cc.mpr w))]
      exact ⟨b1, b2⟩
theorem cI_congr {n : Nat} {fn : Int → Int} {E : Int → Prop} {CH PL CH' PL' : Int → Int} (h : cI n fn E CH PL) (e : ∀ b, 0 ≤ b → b < (n : Int) → CH' b = CH b ∧ PL' b = PL b) : cI n fn E CH' PL' := by
  have sz : ∀ c, szF CH' c n = szF CH c n := fun c => szF_congr (fun b h0 h1 => (e b h0 h1).1) c
  obtain ⟨a1, a2, a3⟩ := h
  refine ⟨fun b h0 h1 => ?_, fun b b' h0 h1 h2 h3 h4 h5 => ?_, fun b i h0 h1 h2 h3 => ?_⟩
  · obtain ⟨e1, e2⟩ := e b h0 h1
    rw [sz, e1, e2]; exact a1 b h0 h1
  · rw [(e b h0 h1).1, (e b' h2 h3).1] at h4
    rw [(e b h0 h1).2, (e b' h2 h3).2] at h5
    exact a2 b b' h0 h1 h2 h3 h4 h5
  · rw [sz, (e b h0 h1).1] at h3
    obtain ⟨b', hb, q1, q2⟩ := a3 b i h0 h1 h2 h3
    exact ⟨b', hb, by rw [(e b' hb.1 hb.2).1, (e b h0 h1).1]; exact q1, by rw [(e b' hb.1 hb.2).2]; exact q2⟩
/-- quotients are ordered -/
theorem q_ll {a b c p q r : Int} (hq : 0 < q) (hp : 0 < p) (hr : 0 < r) (h1 : b * p < a * q) (h2 : c * q < b * r) : c * p < a * r := by
  have x1 : b * p * r < a * q * r := Int.mul_lt_mul_of_pos_right h1 hr
  have x2 : c * q * p < b * r * p := Int.mul_lt_mul_of_pos_right h2 hp
  have e1 : b * r * p = b * p * r := by rw [Int.mul_assoc, Int.mul_comm r p, ← Int.mul_assoc]
  have e2 : c * q * p = c * p * q := by rw [Int.mul_assoc, Int.mul_comm q p, ← Int.mul_assoc]
  have e3 : a * q * r = a * r * q := by rw [Int.mul_assoc, Int.mul_comm q r, ← Int.mul_assoc]
  have x3 : c * p * q < a * r * q := by omega
  exact Int.lt_of_mul_lt_mul_right x3 (Int.le_of_lt hq)
theorem q_le {a b c p q r : Int} (hq : 0 < q) (hp : 0 < p) (hr : 0 < r) (h1 : b * p < a * q) (h2 : b * r = c * q) : c * p < a * r := by
  have x1 : b * p * r < a * q * r := Int.mul_lt_mul_of_pos_right h1 hr
  have e1 : b * r * p = b * p * r := by rw [Int.mul_assoc, Int.mul_comm r p, ← Int.mul_assoc]
  have e2 : c * q * p = c * p * q := by rw [Int.mul_assoc, Int.mul_comm q p, ← Int.mul_assoc]
  have e3 : a * q * r = a * r * q := by rw [Int.mul_assoc, Int.mul_comm q r, ← Int.mul_assoc]
  rw [h2] at e1
  have x3 : c * p * q < a * r * q := by omega
  exact Int.lt_of_mul_lt_mul_right x3 (Int.le_of_lt hq)
theorem q_el {a b c p q r : Int} (hq : 0 < q) (hp : 0 < p) (hr : 0 < r) (h1 : a * q = b * p) (h2 : c * q < b * r) : c * p < a * r := by
  have x2 : c * q * p < b * r * p := Int.mul_lt_mul_of_pos_right h2 hp
  have e1 : b * r * p = b * p * r := by rw [Int.mul_assoc, Int.mul_comm r p, ← Int.mul_assoc]
  have e2 : c * q * p = c * p * q := by rw [Int.mul_assoc, Int.mul_comm q p, ← Int.mul_assoc]
  have e3 : a * q * r = a * r * q := by rw [Int.mul_assoc, Int.mul_comm q r, ← Int.mul_assoc]
  rw [h1] at e3
  have x3 : c * p * q < a * r * q := by omega
  exact Int.lt_of_mul_lt_mul_right x3 (Int.le_of_lt hq)
theorem q_ee {a b c p q r : Int} (hq : 0 < q) (h1 : a * q = b * p) (h2 : b * r = c * q) : a * r = c * p := by
  have e1 : b * r * p = b * p * r := by rw [Int.mul_assoc, Int.mul_comm r p, ← Int.mul_assoc]
  have e2 : c * q * p = c * p * q := by rw [Int.mul_assoc, Int.mul_comm q p, ← Int.mul_assoc]
  have e3 : a * q * r = a * r * q := by rw [Int.mul_assoc, Int.mul_comm q r, ← Int.mul_assoc]
  rw [h1] at e3
  rw [h2] at e1
  have x3 : a * r * q = c * p * q := by omega
  exact Int.eq_of_mul_eq_mul_right (by omega) x3
abbrev wm (HS BS : Int → Int) (a b : Int) : Prop := HS b * BS a < HS a * BS b ∨ (HS a * BS b = HS b * BS a ∧ a < b)
theorem wm_tr {HS BS : Int → Int} {a b c : Int} (ha : 1 ≤ BS a) (hb : 1 ≤ BS b) (hc : 1 ≤ BS c) (h1 : wm HS BS a b) (h2 : wm HS BS b c) : wm HS BS a c := by
  rcases h1 with h1 | ⟨h1, o1⟩ <;> rcases h2 with h2 | ⟨h2, o2⟩
  · exact Or.inl (q_ll (by omega) (by omega) (by omega) h1 h2)
  · exact Or.inl (q_le (by omega) (by omega) (by omega) h1 h2)
  · exact Or.inl (q_el (by omega) (by omega) (by omega) h1 h2)
  · exact Or.inr ⟨q_ee (by omega) h1 h2, by omega⟩
theorem wm_to {HS BS : Int → Int} {a b : Int} (h : a ≠ b) (hn : ¬ wm HS BS a b) : wm HS BS b a := by
  rcases Int.lt_trichotomy (HS b * BS a) (HS a * BS b) with z | z | z
  · exact absurd (Or.inl z) hn
  · refine Or.inr ⟨z, ?_⟩
    rcases Int.lt_trichotomy a b with w | w | w
    · exact absurd (Or.inr ⟨z.symm, w⟩) hn
    · exact absurd w h
    · exact w
  · exact Or.inl z
theorem wm_as {HS BS : Int → Int} {a b : Int} (h1 : wm HS BS a b) (h2 : wm HS BS b a) : False := by
  unfold wm at h1 h2
  omega
/-- chains in their order: cold ones last, then by function, entries first, then by their warmth -/
abbrev lx (Ca Cb Ea Eb : Prop) (fa fb : Int) (W : Prop) : Prop := (¬ (Ca ↔ Cb) ∧ Cb) ∨ ((Ca ↔ Cb) ∧ (fa < fb ∨ (fa = fb ∧ ((¬ (Ea ↔ Eb) ∧ Ea) ∨ ((Ea ↔ Eb) ∧ W)))))
theorem lx_tr {Ca Cb Cc Ea Eb Ec Wab Wbc Wac : Prop} {fa fb fc : Int} (w : Wab → Wbc → Wac) (h1 : lx Ca Cb Ea Eb fa fb Wab) (h2 : lx Cb Cc Eb Ec fb fc Wbc) : lx Ca Cc Ea Ec fa fc Wac := by
  unfold lx at *
  grind
theorem lx_to {Ca Cb Ea Eb Wab Wba : Prop} {fa fb : Int} (w : ¬ Wab → Wba) (h1 : ¬ lx Ca Cb Ea Eb fa fb Wab) : lx Cb Ca Eb Ea fb fa Wba := by
  unfold lx at *
  grind
theorem lx_as {Ca Cb Ea Eb Wab Wba : Prop} {fa fb : Int} (w : Wab → Wba → False) (h1 : lx Ca Cb Ea Eb fa fb Wab) (h2 : lx Cb Ca Eb Ea fb fa Wba) : False := by
  unfold lx at *
  grind
theorem cbf_tr {σ : av_S} {HS BS : Int → Int} {a b c : Int} (ha : 1 ≤ BS a) (hb : 1 ≤ BS b) (hc : 1 ≤ BS c) (h1 : cbf σ HS BS a b) (h2 : cbf σ HS BS b c) : cbf σ HS BS a c := lx_tr (wm_tr ha hb hc) h1 h2
theorem cbf_to {σ : av_S} {HS BS : Int → Int} {a b : Int} (h : a ≠ b) (h1 : ¬ cbf σ HS BS a b) : cbf σ HS BS b a := lx_to (wm_to h) h1
theorem cbf_as {σ : av_S} {HS BS : Int → Int} {a b : Int} (h1 : cbf σ HS BS a b) (h2 : cbf σ HS BS b a) : False := lx_as wm_as h1 h2
