/-! THE PLANS of the class beside those of the reference; sums over the places and over the blocks -/
theorem sm_one {F : Int → Int} {c : Int} (hc : 0 ≤ c) : ∀ m : Nat, sm (fun i => if i = c then F i else 0) m = if c < (m : Int) then F c else 0 := by
  intro m
  induction m with
  | zero => rw [if_neg (by omega)]; rfl
  | succ m ih =>
    show sm (fun i => if i = c then F i else 0) m + (if (m : Int) = c then F (m : Int) else 0) = _
    rw [ih]
    by_cases e : (m : Int) = c
    · rw [if_pos e, if_neg (by omega), if_pos (by omega), e]; omega
    · rw [if_neg e]
      by_cases q : c < (m : Int)
      · rw [if_pos q, if_pos (by omega)]; omega
      · rw [if_neg q, if_neg (by omega)]; omega
theorem sm_perm {F O : Int → Int} {n : Nat} (h1 : ∀ k, 0 ≤ k → k < (n : Int) → 0 ≤ O k ∧ O k < (n : Int)) (h2 : ∀ i j, 0 ≤ i → i < j → j < (n : Int) → O i ≠ O j) (h3 : ∀ b, 0 ≤ b → b < (n : Int) → ∃ k : Nat, (k : Int) < (n : Int) ∧ O (k : Int) = b) : sm (fun k => F (O k)) n = sm F n := by
  have a : sm (fun k => sm (fun b => if b = O k then F b else 0) n) n = sm (fun k => F (O k)) n := sm_congr n (fun k hk => by
    have q := h1 (k : Int) (by omega) (by omega)
    show sm (fun b => if b = O (k : Int) then F b else 0) n = _
    rw [sm_one q.1 n, if_pos q.2])
  have b : sm (fun b => sm (fun k => if b = O k then F b else 0) n) n = sm F n := sm_congr n (fun b hb => by
    obtain ⟨k0, k1, k2⟩ := h3 (b : Int) (by omega) (by omega)
    have e : sm (fun k => if (b : Int) = O k then F (b : Int) else 0) n = sm (fun k => if k = (k0 : Int) then (fun _ => F (b : Int)) k else 0) n := sm_congr n (fun k hk => by
      by_cases q : (k : Int) = (k0 : Int)
      · have : (b : Int) = O (k : Int) := by rw [q, k2]
        show (if (b : Int) = O (k : Int) then F (b : Int) else 0) = if (k : Int) = (k0 : Int) then F (b : Int) else 0
        rw [if_pos q, if_pos this]
      · have : ¬ (b : Int) = O (k : Int) := by
          intro z
          rcases Int.lt_or_gt_of_ne q with w | w
          · exact h2 (k : Int) (k0 : Int) (by omega) w k1 (by rw [k2, ← z])
          · exact h2 (k0 : Int) (k : Int) (by omega) w (by omega) (by rw [k2, ← z])
        show (if (b : Int) = O (k : Int) then F (b : Int) else 0) = if (k : Int) = (k0 : Int) then F (b : Int) else 0
        rw [if_neg q, if_neg this])
    show sm (fun k => if (b : Int) = O k then F (b : Int) else 0) n = F (b : Int)
    rw [e, sm_one (by omega) n, if_pos k1])
  rw [← a, ← b]
  exact sm_swap (fun k b => if b = O k then F b else 0) n n
/-- the ends of the blocks, and where the edges lead -/
def rTO (σ τ : av_S) : Prop := ∀ b, 0 ≤ b → b < σ 1 5 → (0 ≤ σ 4 b ∧ σ 4 b ≤ 2) ∧ ∀ e, 0 ≤ e → e < σ 4 b → τ 30 (2 * b + e) = σ 5 (2 * b + e) ∧ 0 ≤ σ 5 (2 * b + e) ∧ σ 5 (2 * b + e) < σ 1 5
theorem nx_eq {σ τ : av_S} (h : rST σ τ) {j : Int} (h0 : 0 ≤ j) : nxM τ j = nxI σ j := by
  unfold nxM nxI
  rw [h.1]
  by_cases q : j + 1 < σ 1 5
  · rw [if_pos q, if_pos q]; exact h.2.2.2.1 (j + 1) (by omega) q
  · rw [if_neg q, if_neg q]
theorem plans_b {σ τ : av_S} {G U T BR TG LN TU : Int → Int} (h : rST σ τ) (hT : rTO σ τ) (hC : plO σ G U T (σ 1 5).toNat) (hM : plM τ BR TG LN TU (σ 1 5).toNat) (j : Nat) (hj : (j : Int) < σ 1 5) :
    let b := σ 14 (j : Int); (U (2 * b) = (if 0 < BR b then LN (2 * b) else 0) ∧ U (2 * b + 1) = (if 1 < BR b then LN (2 * b + 1) else 0)) ∧ ((0 < BR b → G (2 * b) = TG (2 * b) ∧ 0 ≤ TG (2 * b) ∧ TG (2 * b) < σ 1 5) ∧ (1 < BR b → G (2 * b + 1) = TG (2 * b + 1) ∧ 0 ≤ TG (2 * b + 1) ∧ TG (2 * b + 1) < σ 1 5)) ∧ T b = TU b ∧ (LN (2 * b) = 1 ∧ LN (2 * b + 1) = 1) ∧ (0 ≤ BR b ∧ BR b ≤ 2) ∧ (TU b = 0 ∨ TU b = 1) ∧ qU0 σ (j : Int) + qU1 σ (j : Int) = BR b ∧ (σ 4 b = 2 → 1 ≤ BR b) := by
  intro b
  obtain ⟨⟨c1, c2⟩, ⟨c3, c4⟩, c5⟩ := hC j (by omega)
  obtain ⟨m1, ⟨m2, m3⟩, ⟨m4, m5⟩, m6⟩ := hM j (by omega)
  have eo : τ 37 (j : Int) = b := h.2.2.2.1 (j : Int) (by omega) hj
  have hb := h.2.2.2.2 (j : Int) (by omega) hj
  have hb : 0 ≤ b ∧ b < σ 1 5 := hb
  have en := (h.2.2.1 b hb.1 hb.2).2
  obtain ⟨t1, t2⟩ := hT b hb.1 hb.2
  rw [eo, en, nx_eq h (by omega)] at m1 m2 m6
  rw [eo] at m3 m4 m5
  have c1 : G (2 * b) = plG0 (σ 4 b) (σ 5 (2 * b)) (σ 5 (2 * b + 1)) (nxI σ (j : Int)) := c1
  have c2 : G (2 * b + 1) = plG1 (σ 4 b) (σ 5 (2 * b)) (σ 5 (2 * b + 1)) (nxI σ (j : Int)) := c2
  have c3 : U (2 * b) = plU0 (σ 4 b) (σ 5 (2 * b)) (nxI σ (j : Int)) := c3
  have c4 : U (2 * b + 1) = plU1 (σ 4 b) (σ 5 (2 * b)) (σ 5 (2 * b + 1)) (nxI σ (j : Int)) := c4
  have c5 : T b = plT (σ 4 b) (σ 5 (2 * b)) (σ 5 (2 * b + 1)) (nxI σ (j : Int)) := c5
  have q0 : qU0 σ (j : Int) = plU0 (σ 4 b) (σ 5 (2 * b)) (nxI σ (j : Int)) := rfl
  have q1 : qU1 σ (j : Int) = plU1 (σ 4 b) (σ 5 (2 * b)) (σ 5 (2 * b + 1)) (nxI σ (j : Int)) := rfl
  have x0 : 0 < σ 4 b → τ 30 (2 * b) = σ 5 (2 * b) ∧ 0 ≤ σ 5 (2 * b) ∧ σ 5 (2 * b) < σ 1 5 := fun q => by have w := t2 0 (by omega) q; rw [Int.add_zero] at w; exact w
  have x1 : 1 < σ 4 b → τ 30 (2 * b + 1) = σ 5 (2 * b + 1) ∧ 0 ≤ σ 5 (2 * b + 1) ∧ σ 5 (2 * b + 1) < σ 1 5 := fun q => t2 1 (by omega) q
  rw [q0, q1, c1, c2, c3, c4, c5, m1, m2, m3, m4, m5, m6]
  clear c1 c2 c3 c4 c5 m1 m2 m3 m4 m5 m6 q0 q1 hC hM eo en t2
  generalize nxI σ (j : Int) = nx
  rcases (show σ 4 b = 0 ∨ σ 4 b = 1 ∨ σ 4 b = 2 by omega) with e | e | e
  · rw [e]; simp [plG0, plG1, plU0, plU1, plT, brP, tgP]
  · obtain ⟨y1, y2, y3⟩ := x0 (by omega)
    rw [e, y1]
    by_cases w : σ 5 (2 * b) = nx
    · simp [plG0, plG1, plU0, plU1, plT, brP, tgP, w]
    · simp [plG0, plG1, plU0, plU1, plT, brP, tgP, w, y2, y3]
  · obtain ⟨y1, y2, y3⟩ := x0 (by omega)
    obtain ⟨z1, z2, z3⟩ := x1 (by omega)
    rw [e, y1, z1]
    by_cases w : σ 5 (2 * b) = nx <;> by_cases v : σ 5 (2 * b + 1) = nx
    · simp [plG0, plG1, plU0, plU1, plT, brP, tgP, w, v]; omega
    · simp [plG0, plG1, plU0, plU1, plT, brP, tgP, w, v]; omega
    · simp [plG0, plG1, plU0, plU1, plT, brP, tgP, w, v]; omega
    · simp [plG0, plG1, plU0, plU1, plT, brP, tgP, w, v]; omega
theorem plans {σ τ : av_S} {G U T BR TG LN TU : Int → Int} (h : rST σ τ) (hI : iO σ) (hT : rTO σ τ) (hC : plO σ G U T (σ 1 5).toNat) (hM : plM τ BR TG LN TU (σ 1 5).toNat) : rUL (σ 1 5) BR U LN ∧ rGT (σ 1 5) BR G TG ∧ bLN τ LN ∧ (∀ b, 0 ≤ b → b < σ 1 5 → T b = TU b ∧ (0 ≤ BR b ∧ BR b ≤ 2) ∧ (TU b = 0 ∨ TU b = 1) ∧ (σ 4 b = 2 → 1 ≤ BR b)) ∧ bnC σ (σ 1 5).toNat = sm BR (σ 1 5).toNat := by
  have hn := h.2.1
  have B := plans_b h hT hC hM
  have X : ∀ b, 0 ≤ b → b < σ 1 5 → ∃ j : Nat, (j : Int) < σ 1 5 ∧ σ 14 (j : Int) = b := hI.2.2
  refine ⟨fun b h0 h1 => ?_, fun b h0 h1 => ?_, fun k h0 h1 => ?_, fun b h0 h1 => ?_, ?_⟩
  · obtain ⟨j, j1, j2⟩ := X b h0 h1
    have q := B j j1
    rw [← j2]; exact q.1
  · obtain ⟨j, j1, j2⟩ := X b h0 h1
    have q := B j j1
    rw [← j2]; exact q.2.1
  · rw [h.1] at h1
    obtain ⟨j, j1, j2⟩ := X (k / 2) (by omega) (by omega)
    have q := (B j j1).2.2.2.1
    rw [j2] at q
    rcases Int.emod_two_eq k with z | z
    · rw [show k = 2 * (k / 2) by omega]; exact Or.inl q.1
    · rw [show k = 2 * (k / 2) + 1 by omega]; exact Or.inl q.2
  · obtain ⟨j, j1, j2⟩ := X b h0 h1
    have q := B j j1
    rw [← j2]; exact ⟨q.2.2.1, q.2.2.2.2.1, q.2.2.2.2.2.1, q.2.2.2.2.2.2.2⟩
  · have e : bnC σ (σ 1 5).toNat = sm (fun j => BR (σ 14 j)) (σ 1 5).toNat := sm_congr _ (fun j hj => (B j (by omega)).2.2.2.2.2.2.1)
    rw [e]
    have c : (((σ 1 5).toNat : Nat) : Int) = σ 1 5 := by omega
    refine sm_perm ?_ ?_ ?_ <;> rw [c]
    · exact hI.1
    · exact hI.2.1
    · exact hI.2.2
