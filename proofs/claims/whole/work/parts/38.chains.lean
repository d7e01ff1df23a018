/-! CHAINS, pure: CH b the chain of b (its first block), PL b its place there -/
def szF (CH : Int → Int) (c : Int) (n : Nat) : Int := sm (fun b => bz (CH b = c)) n
def cI (n : Nat) (fn : Int → Int) (E : Int → Prop) (CH PL : Int → Int) : Prop :=
  (∀ b, 0 ≤ b → b < (n : Int) → (0 ≤ CH b ∧ CH b < (n : Int)) ∧ (0 ≤ PL b ∧ PL b < szF CH (CH b) n) ∧ (PL b = 0 ↔ CH b = b) ∧ fn (CH b) = fn b ∧ (E b → CH b = b)) ∧
  (∀ b b', 0 ≤ b → b < (n : Int) → 0 ≤ b' → b' < (n : Int) → CH b = CH b' → PL b = PL b' → b = b') ∧
  (∀ b i, 0 ≤ b → b < (n : Int) → 0 ≤ i → i < szF CH (CH b) n → ∃ b', (0 ≤ b' ∧ b' < (n : Int)) ∧ CH b' = CH b ∧ PL b' = i)
theorem szF_congr {CH CH' : Int → Int} {n : Nat} (h : ∀ b, 0 ≤ b → b < (n : Int) → CH b = CH' b) (c : Int) : szF CH c n = szF CH' c n := sm_congr n (fun j hj => by rw [h j (by omega) (by omega)])
theorem szF_0 {CH : Int → Int} {c : Int} : ∀ n : Nat, 0 ≤ szF CH c n ∧ szF CH c n ≤ (n : Int) := by
  intro n
  induction n with
  | zero => exact ⟨Int.le_refl 0, Int.le_refl 0⟩
  | succ n ih =>
    have e : szF CH c (n + 1) = szF CH c n + bz (CH (n : Int) = c) := rfl
    rcases bz_01 (P := CH (n : Int) = c) with q | q <;> omega
theorem szF_c {CH CH' : Int → Int} {n : Nat} {c d : Int} (hcd : c ≠ d) (h : ∀ b, 0 ≤ b → b < (n : Int) → CH' b = if CH b = d then c else CH b) : szF CH' c n = szF CH c n + szF CH d n := by
  unfold szF
  rw [← sm_add]
  refine sm_congr n fun j hj => ?_
  show bz (CH' (j : Int) = c) = bz (CH (j : Int) = c) + bz (CH (j : Int) = d)
  have e := h (j : Int) (by omega) (by omega)
  by_cases q : CH (j : Int) = d
  · rw [if_pos q] at e
    rw [bz_t e, bz_t q, bz_f (by omega)]; rfl
  · rw [if_neg q] at e
    rw [bz_f q, e]; omega
theorem szF_x {CH CH' : Int → Int} {n : Nat} {c d x : Int} (h1 : x ≠ c) (h2 : x ≠ d) (h : ∀ b, 0 ≤ b → b < (n : Int) → CH' b = if CH b = d then c else CH b) : szF CH' x n = szF CH x n := by
  refine sm_congr n fun j hj => ?_
  show bz (CH' (j : Int) = x) = bz (CH (j : Int) = x)
  have e := h (j : Int) (by omega) (by omega)
  by_cases q : CH (j : Int) = d
  · rw [if_pos q] at e
    rw [bz_f (by omega), bz_f (by omega)]
  · rw [if_neg q] at e
    rw [e]
theorem cI_hd {n : Nat} {fn : Int → Int} {E : Int → Prop} {CH PL : Int → Int} (h : cI n fn E CH PL) {b : Int} (h0 : 0 ≤ b) (h1 : b < (n : Int)) : CH (CH b) = CH b ∧ PL (CH b) = 0 := by
  obtain ⟨a, -, a3⟩ := h
  have q := a b h0 h1
  obtain ⟨b', hb, hc, hp⟩ := a3 b 0 h0 h1 (Int.le_refl 0) (by omega)
  have z := (a b' hb.1 hb.2).2.2.1.mp hp
  have e : b' = CH b := by omega
  rw [← e]
  exact ⟨z, hp⟩
theorem cI_start {n : Nat} {fn : Int → Int} {E : Int → Prop} {CH PL : Int → Int} (h : ∀ b, 0 ≤ b → b < (n : Int) → CH b = b ∧ PL b = 0) : cI n fn E CH PL := by
  have one : ∀ b, 0 ≤ b → b < (n : Int) → szF CH b n = 1 := by
    intro b h0 h1
    have L : ∀ k : Nat, k ≤ n → szF CH b k = bz (b < (k : Int)) := by
      intro k
      induction k with
      | zero => intro _; rw [bz_f (by omega)]; rfl
      | succ k ih =>
        intro hk
        have e : szF CH b (k + 1) = szF CH b k + bz (CH (k : Int) = b) := rfl
        rw [e, ih (by omega), (h (k : Int) (by omega) (by omega)).1]
        by_cases q : b < (k : Int)
        · rw [bz_t q, bz_f (by omega), bz_t (by omega)]; rfl
        · by_cases q2 : (k : Int) = b
          · rw [bz_f q, bz_t q2, bz_t (by omega)]; rfl
          · rw [bz_f q, bz_f q2, bz_f (by omega)]; rfl
    rw [L n (Nat.le_refl n), bz_t h1]
  refine ⟨fun b h0 h1 => ?_, fun b b' h0 h1 h2 h3 h4 h5 => ?_, fun b i h0 h1 h2 h3 => ?_⟩
  · obtain ⟨e1, e2⟩ := h b h0 h1
    rw [e1, e2, one b h0 h1]
    exact ⟨⟨h0, h1⟩, ⟨by omega, by omega⟩, ⟨fun _ => rfl, fun _ => rfl⟩, rfl, fun _ => rfl⟩
  · rw [(h b h0 h1).1, (h b' h2 h3).1] at h4; exact h4
  · rw [(h b h0 h1).1, one b h0 h1] at h3
    exact ⟨b, ⟨h0, h1⟩, rfl, by rw [(h b h0 h1).2]; omega⟩
/-- a join keeps the chains -/
theorem cI_join {n : Nat} {fn : Int → Int} {E : Int → Prop} {CH PL CH' PL' : Int → Int} {x y : Int} (h : cI n fn E CH PL) (hx : 0 ≤ x ∧ x < (n : Int)) (hy : 0 ≤ y ∧ y < (n : Int)) (h1 : PL x = szF CH (CH x) n - 1) (h2 : PL y = 0) (h3 : CH x ≠ CH y) (h4 : ¬ E y) (h5 : fn x = fn y)
    (hC : ∀ b, 0 ≤ b → b < (n : Int) → CH' b = if CH b = CH y then CH x else CH b) (hP : ∀ b, 0 ≤ b → b < (n : Int) → PL' b = if CH b = CH y then PL b + szF CH (CH x) n else PL b) : cI n fn E CH' PL' := by
  obtain ⟨a1, a2, a3⟩ := id h
  have ax := a1 x hx.1 hx.2
  have ay := a1 y hy.1 hy.2
  have sc := szF_c h3 hC
  have sd0 := szF_0 (CH := CH) (c := CH y) n
  have ey : CH y = y := ay.2.2.1.mp h2
  have hxx := cI_hd h hx.1 hx.2
  refine ⟨fun b h0 h6 => ?_, fun b b' g0 g1 g2 g3 g4 g5 => ?_, fun b i g0 g1 g2 g3 => ?_⟩
  · have ab := a1 b h0 h6
    have eC := hC b h0 h6
    have eP := hP b h0 h6
    by_cases q : CH b = CH y
    · rw [if_pos q] at eC eP
      rw [q] at ab
      refine ⟨by rw [eC]; exact ax.1, by rw [eC, eP, sc]; omega, ?_, ?_, fun z => ?_⟩
      · rw [eC, eP]
        constructor
        · intro z; omega
        · intro z
          have w : CH b = b := by rw [← z]; exact hxx.1
          omega
      · rw [eC]; omega
      · have w := ab.2.2.2.2 z
        exact absurd (show E y by rw [← ey, w]; exact z) h4
    · rw [if_neg q] at eC eP
      rw [eC, eP]
      refine ⟨ab.1, ?_, ab.2.2⟩
      by_cases q2 : CH b = CH x
      · rw [q2, sc]; rw [q2] at ab; omega
      · rw [szF_x q2 q hC]; exact ab.2.1
  · rw [hC b g0 g1, hC b' g2 g3] at g4
    rw [hP b g0 g1, hP b' g2 g3] at g5
    have ab := a1 b g0 g1
    have ab' := a1 b' g2 g3
    by_cases q : CH b = CH y
    · rw [if_pos q] at g4 g5
      by_cases q2 : CH b' = CH y
      · rw [if_pos q2] at g5
        exact a2 b b' g0 g1 g2 g3 (by omega) (by omega)
      · rw [if_neg q2] at g4 g5
        rw [← g4] at ab'
        omega
    · rw [if_neg q] at g4 g5
      by_cases q2 : CH b' = CH y
      · rw [if_pos q2] at g4 g5
        rw [g4] at ab
        omega
      · rw [if_neg q2] at g4 g5
        exact a2 b b' g0 g1 g2 g3 g4 g5
  · have ab := a1 b g0 g1
    have key : CH' b = CH x → ∃ b', (0 ≤ b' ∧ b' < (n : Int)) ∧ CH' b' = CH x ∧ PL' b' = i := by
      intro w
      rw [w, sc] at g3
      by_cases q : i < szF CH (CH x) n
      · obtain ⟨b', hb, hc, hp⟩ := a3 x i hx.1 hx.2 g2 q
        have nq : ¬ CH b' = CH y := by omega
        exact ⟨b', hb, by rw [hC b' hb.1 hb.2, if_neg nq]; exact hc, by rw [hP b' hb.1 hb.2, if_neg nq]; exact hp⟩
      · obtain ⟨b', hb, hc, hp⟩ := a3 y (i - szF CH (CH x) n) hy.1 hy.2 (by omega) (by omega)
        exact ⟨b', hb, by rw [hC b' hb.1 hb.2, if_pos hc], by rw [hP b' hb.1 hb.2, if_pos hc]; omega⟩
    by_cases q : CH b = CH y
    · have w : CH' b = CH x := by rw [hC b g0 g1, if_pos q]
      obtain ⟨b', h7, h8, h9⟩ := key w
      exact ⟨b', h7, by rw [h8, w], h9⟩
    · by_cases q2 : CH b = CH x
      · have w : CH' b = CH x := by rw [hC b g0 g1, if_neg q, q2]
        obtain ⟨b', h7, h8, h9⟩ := key w
        exact ⟨b', h7, by rw [h8, w], h9⟩
      · have w : CH' b = CH b := by rw [hC b g0 g1, if_neg q]
        rw [w, szF_x q2 q hC] at g3
        obtain ⟨b', hb, hc, hp⟩ := a3 b i g0 g1 g2 g3
        have nq : ¬ CH b' = CH y := by rw [hc]; exact q
        exact ⟨b', hb, by rw [hC b' hb.1 hb.2, if_neg nq, w]; exact hc, by rw [hP b' hb.1 hb.2, if_neg nq]; exact hp⟩
