theorem sm_add0 (n : Nat) : sm (fun _ => 0) n = 0 := by
  induction n with
  | zero => rfl
  | succ n ih => have e : sm (fun _ => (0 : Int)) (n + 1) = sm (fun _ => 0) n + 0 := rfl; omega
theorem sm_ones (n : Nat) : sm (fun _ => 1) n = (n : Int) := by
  induction n with
  | zero => rfl
  | succ n ih => have e : sm (fun _ => (1 : Int)) (n + 1) = sm (fun _ => 1) n + 1 := rfl; omega
theorem sm_swap (F : Int → Int → Int) (n : Nat) : ∀ m : Nat, sm (fun c => sm (fun b => F c b) n) m = sm (fun b => sm (fun c => F c b) m) n := by
  intro m
  induction m with
  | zero => exact (sm_add0 n).symm
  | succ m ih =>
    have e : sm (fun c => sm (fun b => F c b) n) (m + 1) = sm (fun c => sm (fun b => F c b) n) m + sm (fun b => F (m : Int) b) n := rfl
    rw [e, ih, ← sm_add]
    rfl
theorem sm_uni {P : Int → Prop} [DecidablePred P] {c : Int} : ∀ m : Nat, (∀ i, 0 ≤ i → i < (m : Int) → (P i ↔ i = c)) → 0 ≤ c → sm (fun i => bz (P i)) m = bz (c < (m : Int)) := by
  intro m
  induction m with
  | zero => intro _ h; rw [bz_f (by omega)]; rfl
  | succ m ih =>
    intro h h0
    have e : sm (fun i => bz (P i)) (m + 1) = sm (fun i => bz (P i)) m + bz (P (m : Int)) := rfl
    rw [e, ih (fun i a b => h i a (by omega)) h0]
    have w := h (m : Int) (by omega) (by omega)
    by_cases q : (m : Int) = c
    · rw [bz_t (w.mpr q), bz_f (by omega), bz_t (by omega)]; rfl
    · rw [bz_f (fun z => q (w.mp z))]
      by_cases q2 : c < (m : Int)
      · rw [bz_t q2, bz_t (by omega)]; rfl
      · rw [bz_f q2, bz_f (by omega)]; rfl
theorem sm_loc {ln : Int → Int} {p : Int} (h0 : 0 ≤ p) : ∀ m : Nat, p < sm ln m → ∃ c : Nat, c < m ∧ sm ln c ≤ p ∧ p < sm ln c + ln (c : Int) := by
  intro m
  induction m with
  | zero => intro h; exact absurd h (by show ¬ p < 0; omega)
  | succ m ih =>
    intro h
    have e : sm ln (m + 1) = sm ln m + ln (m : Int) := rfl
    by_cases q : p < sm ln m
    · obtain ⟨c, a, b⟩ := ih q; exact ⟨c, by omega, b⟩
    · exact ⟨m, by omega, by omega, by omega⟩
theorem sm_same {ln : Int → Int} {m c c' : Nat} {i i' : Int} (h : ∀ j : Nat, j < m → 1 ≤ ln (j : Int)) (hc : c < m) (hc' : c' < m) (hi : 0 ≤ i ∧ i < ln (c : Int)) (hi' : 0 ≤ i' ∧ i' < ln (c' : Int)) (e : sm ln c + i = sm ln c' + i') : c = c' := by
  have mono : ∀ a b : Nat, a < b → b < m → sm ln a + ln (a : Int) ≤ sm ln b := by
    intro a b hab hb
    have := sm_le (f := ln) b (a + 1) (by omega) (fun j hj => by have := h j (by omega); omega)
    exact this
  rcases Nat.lt_trichotomy c c' with z | z | z
  · have := mono c c' z hc'; omega
  · exact z
  · have := mono c' c z hc; omega
/-- TT: the blocks in the order of their chains HD, of lengths ln -/
def tO (n m : Nat) (CH PL HD TT ln : Int → Int) : Prop := (∀ c : Nat, c < m → 1 ≤ ln (c : Int) ∧ szF CH (HD (c : Int)) n = ln (c : Int)) ∧ sm ln m = (n : Int) ∧ (∀ (c : Nat) (i : Int), c < m → 0 ≤ i → i < ln (c : Int) → (0 ≤ TT (sm ln c + i) ∧ TT (sm ln c + i) < (n : Int)) ∧ CH (TT (sm ln c + i)) = HD (c : Int) ∧ PL (TT (sm ln c + i)) = i) ∧ (∀ (c : Nat) b, c < m → 0 ≤ b → b < (n : Int) → CH b = HD (c : Int) → (0 ≤ PL b ∧ PL b < ln (c : Int)) ∧ TT (sm ln c + PL b) = b)
theorem tO_ex {n m : Nat} {fn : Int → Int} {E : Int → Prop} {CH PL HD : Int → Int} {Rl : Int → Int → Prop} (h : cI n fn E CH PL) (hS : iS (fun b => CH b = b) Rl HD (m : Int) (n : Int)) (has : ∀ x y, (0 ≤ x ∧ x < (n : Int)) → (0 ≤ y ∧ y < (n : Int)) → Rl x y → Rl y x → False) : ∃ TT ln : Int → Int, tO n m CH PL HD TT ln := by
  obtain ⟨a1, a2, a3⟩ := id h
  obtain ⟨s1, s2, s3, s4, s5⟩ := hS
  have inj : ∀ i j, 0 ≤ i → i < (m : Int) → 0 ≤ j → j < (m : Int) → HD i = HD j → i = j := by
    intro i j i0 i1 j0 j1 e
    rcases Int.lt_trichotomy i j with z | z | z
    · have w := s3 i j i0 z j1; rw [e] at w; exact (has _ _ (s1 j j0 j1).1 (s1 j j0 j1).1 w w).elim
    · exact z
    · have w := s3 j i j0 z i1; rw [e] at w; exact (has _ _ (s1 j j0 j1).1 (s1 j j0 j1).1 w w).elim
  have hd : ∀ c : Nat, c < m → (0 ≤ HD (c : Int) ∧ HD (c : Int) < (n : Int)) ∧ CH (HD (c : Int)) = HD (c : Int) := fun c hc => s1 (c : Int) (by omega) (by omega)
  have ix : ∀ b, 0 ≤ b → b < (n : Int) → ∃ c : Nat, c < m ∧ CH b = HD (c : Int) := by
    intro b b0 b1
    have q := (a1 b b0 b1).1
    obtain ⟨i, i0, i1, i2⟩ := s2 (CH b) q.1 q.2 (cI_hd h b0 b1).1
    exact ⟨i.toNat, by omega, by rw [show ((i.toNat : Nat) : Int) = i by omega]; exact i2.symm⟩
  have l1 : ∀ c : Nat, c < m → 1 ≤ szF CH (HD (c : Int)) n := by
    intro c hc
    obtain ⟨q1, q2⟩ := hd c hc
    have := (a1 _ q1.1 q1.2).2.1
    rw [q2] at this; omega
  have hsum : sm (fun c => szF CH (HD c) n) m = (n : Int) := by
    show sm (fun c => sm (fun b => bz (CH b = HD c)) n) m = _
    rw [sm_swap (fun c b => bz (CH b = HD c)) n m]
    refine (sm_congr n (fun j hj => ?_)).trans (sm_ones n)
    obtain ⟨c, hc, e⟩ := ix (j : Int) (by omega) (by omega)
    have w := sm_uni (P := fun c => CH (j : Int) = HD c) (c := (c : Int)) m (fun i i0 i1 => ⟨fun z => inj i (c : Int) i0 i1 (by omega) (by omega) (by rw [← z, e]), fun z => by rw [z]; exact e⟩) (by omega)
    rw [bz_t (by omega)] at w
    exact w
  have ch : ∃ TT : Int → Int, ∀ p, (∃ b, (0 ≤ b ∧ b < (n : Int)) ∧ ∃ c : Nat, c < m ∧ CH b = HD (c : Int) ∧ p = sm (fun c => szF CH (HD c) n) c + PL b) → (0 ≤ TT p ∧ TT p < (n : Int)) ∧ ∃ c : Nat, c < m ∧ CH (TT p) = HD (c : Int) ∧ p = sm (fun c => szF CH (HD c) n) c + PL (TT p) := by
    have : ∀ p, ∃ v, (∃ b, (0 ≤ b ∧ b < (n : Int)) ∧ ∃ c : Nat, c < m ∧ CH b = HD (c : Int) ∧ p = sm (fun c => szF CH (HD c) n) c + PL b) → (0 ≤ v ∧ v < (n : Int)) ∧ ∃ c : Nat, c < m ∧ CH v = HD (c : Int) ∧ p = sm (fun c => szF CH (HD c) n) c + PL v := by
      intro p
      by_cases q : ∃ b, (0 ≤ b ∧ b < (n : Int)) ∧ ∃ c : Nat, c < m ∧ CH b = HD (c : Int) ∧ p = sm (fun c => szF CH (HD c) n) c + PL b
      · obtain ⟨b, hb⟩ := q; exact ⟨b, fun _ => hb⟩
      · exact ⟨0, fun z => absurd z q⟩
    exact ⟨fun p => (this p).choose, fun p => (this p).choose_spec⟩
  obtain ⟨TT, hT⟩ := ch
  have pl : ∀ b, 0 ≤ b → b < (n : Int) → ∀ c : Nat, CH b = HD (c : Int) → 0 ≤ PL b ∧ PL b < szF CH (HD (c : Int)) n := by
    intro b b0 b1 c e
    have := (a1 b b0 b1).2.1
    rw [e] at this; exact this
  have t1 : ∀ (c : Nat) (i : Int), c < m → 0 ≤ i → i < szF CH (HD (c : Int)) n → (0 ≤ TT (sm (fun c => szF CH (HD c) n) c + i) ∧ TT (sm (fun c => szF CH (HD c) n) c + i) < (n : Int)) ∧ CH (TT (sm (fun c => szF CH (HD c) n) c + i)) = HD (c : Int) ∧ PL (TT (sm (fun c => szF CH (HD c) n) c + i)) = i := by
    intro c i hc i0 i1
    obtain ⟨q1, q2⟩ := hd c hc
    obtain ⟨b, hb, e1, e2⟩ := a3 (HD (c : Int)) i q1.1 q1.2 i0 (by rw [q2]; exact i1)
    rw [q2] at e1
    obtain ⟨w1, c', hc', w2, w3⟩ := hT (sm (fun c => szF CH (HD c) n) c + i) ⟨b, hb, c, hc, e1, by rw [e2]⟩
    have cc : c = c' := sm_same l1 hc hc' ⟨i0, i1⟩ (pl _ w1.1 w1.2 c' w2) w3
    subst cc
    exact ⟨w1, w2, by omega⟩
  refine ⟨TT, fun c => szF CH (HD c) n, fun c hc => ⟨l1 c hc, rfl⟩, hsum, t1, fun c b hc b0 b1 e => ?_⟩
  have p := pl b b0 b1 c e
  obtain ⟨w1, w2, w3⟩ := t1 c (PL b) hc p.1 p.2
  exact ⟨p, a2 _ _ w1.1 w1.2 b0 b1 (by rw [w2, e]) w3⟩
theorem szF_1 {CH : Int → Int} {c : Int} {n : Nat} (h : ∀ b, 0 ≤ b → b < (n : Int) → CH b = b) (hc : 0 ≤ c ∧ c < (n : Int)) : szF CH c n = 1 := by
  have w := sm_uni (P := fun b => CH b = c) (c := c) n (fun i i0 i1 => by rw [h i i0 i1]) hc.1
  rw [bz_t hc.2] at w
  exact w
theorem tO_id {n : Nat} {CH PL : Int → Int} (h : ∀ b, 0 ≤ b → b < (n : Int) → CH b = b ∧ PL b = 0) : tO n n CH PL (fun j => j) (fun j => j) (fun _ => 1) := by
  refine ⟨fun c hc => ⟨Int.le_refl 1, szF_1 (c := (c : Int)) (fun b h0 h1 => (h b h0 h1).1) ⟨by omega, by omega⟩⟩, sm_ones n, fun c i hc i0 i1 => ?_, fun c b hc b0 b1 e => ?_⟩
  · have i1 : i < 1 := i1
    rw [sm_ones]
    obtain rfl : i = 0 := by omega
    rw [Int.add_zero]
    have := h (c : Int) (by omega) (by omega)
    exact ⟨⟨Int.natCast_nonneg c, by show (c : Int) < (n : Int); omega⟩, this.1, this.2⟩
  · rw [sm_ones]
    have e : CH b = (c : Int) := e
    have := h b b0 b1
    exact ⟨⟨by omega, by show PL b < 1; omega⟩, by show (c : Int) + PL b = b; omega⟩
/-- that order is one of all blocks -/
theorem tO_perm {n m : Nat} {CH PL HD TT ln : Int → Int} (h : tO n m CH PL HD TT ln) (hH : ∀ b, 0 ≤ b → b < (n : Int) → ∃ c : Nat, c < m ∧ CH b = HD (c : Int)) (hJ : ∀ c c' : Nat, c < m → c' < m → HD (c : Int) = HD (c' : Int) → c = c') : (∀ k, 0 ≤ k → k < (n : Int) → 0 ≤ TT k ∧ TT k < (n : Int)) ∧ (∀ i j, 0 ≤ i → i < j → j < (n : Int) → TT i ≠ TT j) ∧ ∀ b, 0 ≤ b → b < (n : Int) → ∃ k : Nat, (k : Int) < (n : Int) ∧ TT (k : Int) = b := by
  obtain ⟨t1, t2, t3, t4⟩ := h
  have pos : ∀ c : Nat, c ≤ m → 0 ≤ sm ln c := fun c hc => sm_le (f := ln) c 0 (Nat.zero_le c) (fun j hj => by have := (t1 j (by omega)).1; omega)
  have up1 : ∀ c : Nat, c < m → sm ln c + ln (c : Int) ≤ (n : Int) := fun c hc => by
    have := sm_le (f := ln) m (c + 1) (by omega) (fun j hj => by have := (t1 j (by omega)).1; omega)
    rw [t2] at this; exact this
  refine ⟨fun k k0 k1 => ?_, fun i j i0 ij j1 e => ?_, fun b b0 b1 => ?_⟩
  · obtain ⟨c, hc, q1, q2⟩ := sm_loc k0 m (by rw [t2]; exact k1)
    have := (t3 c (k - sm ln c) hc (by omega) (by omega)).1
    rw [show sm ln c + (k - sm ln c) = k by omega] at this
    exact this
  · obtain ⟨c, hc, q1, q2⟩ := sm_loc i0 m (by rw [t2]; omega)
    obtain ⟨c', hc', q1', q2'⟩ := sm_loc (p := j) (by omega) m (by rw [t2]; omega)
    obtain ⟨u0, u1, u2⟩ := t3 c (i - sm ln c) hc (by omega) (by omega)
    obtain ⟨v0, v1, v2⟩ := t3 c' (j - sm ln c') hc' (by omega) (by omega)
    rw [show sm ln c + (i - sm ln c) = i by omega] at u0 u1 u2
    rw [show sm ln c' + (j - sm ln c') = j by omega] at v0 v1 v2
    rw [e] at u1 u2
    have cc : c = c' := hJ c c' hc hc' (by rw [← u1, v1])
    subst cc
    omega
  · obtain ⟨c, hc, e⟩ := hH b b0 b1
    obtain ⟨w1, w2⟩ := t4 c b hc b0 b1 e
    have := up1 c hc
    have := pos c (by omega)
    exact ⟨(sm ln c + PL b).toNat, by omega, by rw [show (((sm ln c + PL b).toNat : Nat) : Int) = sm ln c + PL b by omega]; exact w2⟩
