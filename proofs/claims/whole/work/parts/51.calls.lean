/-! EACH CALL, on both sides -/
theorem iM_keep {σ τ : av_S} (h : iM σ) (e26 : τ 26 = σ 26) (e27 : τ 27 = σ 27) (e28 : τ 28 = σ 28) (e29 : τ 29 = σ 29) (e30 : τ 30 = σ 30) (e31 : τ 31 = σ 31) (e32 : τ 32 = σ 32) : iM τ := by
  unfold iM iMB at h ⊢
  rw [e26, e27, e28, e29, e30, e31, e32]
  exact h
theorem sG_add_M (σ : av_S) (f u : Int) : (sG_add σ f u) 6 = (if σ 6 f = -1 then uI (σ 6) f (σ 1 5) else σ 6) ∧ ∀ k : Nat, k ≠ 1 → k ≠ 2 → k ≠ 3 → k ≠ 4 → k ≠ 5 → k ≠ 6 → (sG_add σ f u) k = σ k := by
  have e6 : (sG_add0 σ f u) 6 = σ 6 := rfl
  constructor
  · show (sG_add2 (sG_add1 (sG_add0 σ f u) f (σ 1 5)) (σ 1 5)) 6 = _
    show (sG_add1 (sG_add0 σ f u) f (σ 1 5)) 6 = _
    unfold sG_add1
    rw [e6]
    split
    · rfl
    · rfl
  · intro k h1 h2 h3 h4 h5 h6
    have a : (sG_add σ f u) k = (sG_add1 (sG_add0 σ f u) f (σ 1 5)) k := up_n _ _ h1
    rw [a]
    have b : (sG_add0 σ f u) k = σ k := by
      show (up (up (up (up (up σ 2 _) 3 _) 4 _) 5 _) 5 _) k = σ k
      rw [up_n _ _ h5, up_n _ _ h5, up_n _ _ h4, up_n _ _ h3, up_n _ _ h2]
    unfold sG_add1
    split
    · rw [up_n _ _ h6, b]
    · exact b
theorem sG_add_o (σ : av_S) (f u : Int) : (sG_add σ f u) 1 = uI (σ 1) 5 (σ 1 5 + 1) ∧ (sG_add σ f u) 2 = uI (σ 2) (σ 1 5) f ∧ (sG_add σ f u) 3 = uI (σ 3) (σ 1 5) u ∧ (sG_add σ f u) 4 = uI (σ 4) (σ 1 5) 0 ∧ (sG_add σ f u) 5 = uI (uI (σ 5) (2 * σ 1 5) (-1)) (2 * σ 1 5 + 1) (-1) := by
  have k : ∀ j : Nat, j ≠ 1 → j ≠ 6 → (sG_add σ f u) j = (sG_add0 σ f u) j := by
    intro j h1 h6
    have a : (sG_add σ f u) j = (sG_add1 (sG_add0 σ f u) f (σ 1 5)) j := up_n _ _ h1
    rw [a]
    unfold sG_add1
    split
    · rw [up_n _ _ h6]
    · rfl
  refine ⟨?_, k 2 (by omega) (by omega), k 3 (by omega) (by omega), k 4 (by omega) (by omega), k 5 (by omega) (by omega)⟩
  show uI ((sG_add1 (sG_add0 σ f u) f (σ 1 5)) 1) 5 (σ 1 5 + 1) = _
  unfold sG_add1
  split <;> rfl
theorem c_block {σ : av_S} {f u : Int} (h : RR σ) : iM (sBlock σ f u) ∧ aBlockM (sBlock σ f u) f u = aBlock σ f u ∧ RR (sBlockM (sBlock σ f u) f u) := by
  have hM := RR_M h
  obtain ⟨g1, g2, g3⟩ := h.2.1.1
  have h1 := h.1.1
  have h6 := h.1.2.2.2.2.2.1
  by_cases c : f < 0 ∨ 4 ≤ f ∨ u < 1 ∨ 40 < u ∨ σ 0 6 = 1 ∨ 24 ≤ σ 1 5
  · have e : sBlock σ f u = σ := if_pos c
    rw [e]
    have c' : f < 0 ∨ 3 < f ∨ u < 1 ∨ 40 < u ∨ σ 26 5 = 1 ∨ σ 26 1 = 24 := by omega
    have e' : sBlockM σ f u = σ := if_pos c'
    rw [e']
    refine ⟨hM, ?_, h⟩
    unfold aBlockM aBlock
    rw [g2, g3]
    by_cases d : f < 0 ∨ 4 ≤ f ∨ u < 1 ∨ 40 < u ∨ σ 0 6 = 1
    · rw [if_pos d, if_pos (by omega)]
    · rw [if_neg d, if_neg (by omega), if_pos (by omega), if_pos (by omega)]
  · have e : sBlock σ f u = sG_add σ f u := if_neg c
    rw [e]
    obtain ⟨m6, mk⟩ := sG_add_M σ f u
    obtain ⟨o1, o2, o3, o4, o5⟩ := sG_add_o σ f u
    have k26 := mk 26 (by omega) (by omega) (by omega) (by omega) (by omega) (by omega)
    have k27 := mk 27 (by omega) (by omega) (by omega) (by omega) (by omega) (by omega)
    have k28 := mk 28 (by omega) (by omega) (by omega) (by omega) (by omega) (by omega)
    refine ⟨iM_keep hM k26 k27 k28 (mk 29 (by omega) (by omega) (by omega) (by omega) (by omega) (by omega)) (mk 30 (by omega) (by omega) (by omega) (by omega) (by omega) (by omega)) (mk 31 (by omega) (by omega) (by omega) (by omega) (by omega) (by omega)) (mk 32 (by omega) (by omega) (by omega) (by omega) (by omega) (by omega)), ?_, ?_⟩
    · unfold aBlockM aBlock
      rw [k26, g2, g3, if_neg (by omega), if_neg (by omega), if_neg (by omega), if_neg (by omega)]
      omega
    · have c' : ¬ (f < 0 ∨ 3 < f ∨ u < 1 ∨ 40 < u ∨ (sG_add σ f u) 26 5 = 1 ∨ (sG_add σ f u) 26 1 = 24) := by rw [k26]; omega
      have e' : sBlockM (sG_add σ f u) f u = up (up (up (sG_add σ f u) 27 (uI ((sG_add σ f u) 27) ((sG_add σ f u) 26 1) f)) 28 (uI ((sG_add σ f u) 28) ((sG_add σ f u) 26 1) u)) 26 (uI ((sG_add σ f u) 26) 1 ((sG_add σ f u) 26 1 + 1)) := if_neg c'
      rw [e', k26, k27, k28]
      have K : ∀ j : Nat, j ≠ 26 → j ≠ 27 → j ≠ 28 → (up (up (up (sG_add σ f u) 27 (uI (σ 27) (σ 26 1) f)) 28 (uI (σ 28) (σ 26 1) u)) 26 (uI (σ 26) 1 (σ 26 1 + 1))) j = (sG_add σ f u) j := fun j a b c => by rw [up_n _ _ a, up_n _ _ c, up_n _ _ b]
      have Z : ∀ j : Nat, j ≠ 26 → j ≠ 27 → j ≠ 28 → j ≠ 1 → j ≠ 2 → j ≠ 3 → j ≠ 4 → j ≠ 5 → j ≠ 6 → (up (up (up (sG_add σ f u) 27 (uI (σ 27) (σ 26 1) f)) 28 (uI (σ 28) (σ 26 1) u)) 26 (uI (σ 26) 1 (σ 26 1 + 1))) j = σ j := fun j a b c d1 d2 d3 d4 d5 d6 => by rw [K j a b c, mk j d1 d2 d3 d4 d5 d6]
      exact RR_block (f := f) (u := u) h ⟨by omega, by omega⟩ ⟨by omega, by omega⟩ (by omega) (by omega) (Z 0 (by omega) (by omega) (by omega) (by omega) (by omega) (by omega) (by omega) (by omega) (by omega)) (by rw [K 1 (by omega) (by omega) (by omega), o1, uI_s]) (by rw [K 2 (by omega) (by omega) (by omega), o2]) (by rw [K 3 (by omega) (by omega) (by omega), o3]) (by rw [K 4 (by omega) (by omega) (by omega), o4]) (by rw [K 5 (by omega) (by omega) (by omega), o5]) (by rw [K 6 (by omega) (by omega) (by omega), m6]) (Z 8 (by omega) (by omega) (by omega) (by omega) (by omega) (by omega) (by omega) (by omega) (by omega)) (Z 9 (by omega) (by omega) (by omega) (by omega) (by omega) (by omega) (by omega) (by omega) (by omega)) (Z 24 (by omega) (by omega) (by omega) (by omega) (by omega) (by omega) (by omega) (by omega) (by omega)) (Z 25 (by omega) (by omega) (by omega) (by omega) (by omega) (by omega) (by omega) (by omega) (by omega)) (up_s _ _ _) (by rw [up_n _ _ (by omega), up_n _ _ (by omega), up_s]) (by rw [up_n _ _ (by omega), up_s]) (Z 29 (by omega) (by omega) (by omega) (by omega) (by omega) (by omega) (by omega) (by omega) (by omega)) (Z 30 (by omega) (by omega) (by omega) (by omega) (by omega) (by omega) (by omega) (by omega) (by omega)) (Z 31 (by omega) (by omega) (by omega) (by omega) (by omega) (by omega) (by omega) (by omega) (by omega)) (Z 32 (by omega) (by omega) (by omega) (by omega) (by omega) (by omega) (by omega) (by omega) (by omega)) (Z 35 (by omega) (by omega) (by omega) (by omega) (by omega) (by omega) (by omega) (by omega) (by omega)) (Z 37 (by omega) (by omega) (by omega) (by omega) (by omega) (by omega) (by omega) (by omega) (by omega))
theorem c_jump {σ : av_S} {b y : Int} (h : RR σ) : iM (sJump σ b y) ∧ aGive (sJump σ b y) b y y = aJump σ b y ∧ RR (sGive (sJump σ b y) b 1 y y) := by
  have hM := RR_M h
  obtain ⟨g1, g2, g3⟩ := h.2.1.1
  have g4 := h.2.1.2.1
  by_cases c : σ 0 6 = 0 ∧ (0 ≤ b ∧ b < σ 1 5) ∧ (0 ≤ y ∧ y < σ 1 5) ∧ σ 2 b = σ 2 y
  · have e : sJump σ b y = sN_clearEdges (sG_setEnd σ b 1 y (-1)) b := if_pos c
    have fy := (g4 y c.2.2.1.1 c.2.2.1.2).1
    have fb := (g4 b c.2.1.1 c.2.1.2).1
    have c' : (σ 26 5 = 0 ∧ (0 ≤ b ∧ b < σ 26 1) ∧ (0 ≤ y ∧ y < σ 26 1) ∧ (0 ≤ y ∧ y < σ 26 1) ∧ σ 27 y = σ 27 b ∧ σ 27 y = σ 27 b) := by rw [g2, g3, fy, fb]; exact ⟨c.1, c.2.1, c.2.2.1, c.2.2.1, c.2.2.2.symm, c.2.2.2.symm⟩
    rw [e]
    have a1 : aGive (sN_clearEdges (sG_setEnd σ b 1 y (-1)) b) b y y = 0 := if_pos c'
    have a2 : aJump σ b y = 0 := if_pos c
    have s1 : sGive (sN_clearEdges (sG_setEnd σ b 1 y (-1)) b) b 1 y y = sGive0 (sN_clearEdges (sG_setEnd σ b 1 y (-1)) b) b 1 y y := if_pos c'
    rw [a1, a2, s1]
    exact ⟨iM_keep hM rfl rfl rfl rfl rfl rfl rfl, rfl, RR_give h c.1 c.2.1 c.2.2.1 c.2.2.1 c.2.2.2.symm c.2.2.2.symm (Or.inl ⟨rfl, rfl⟩) rfl rfl rfl rfl rfl rfl rfl rfl rfl rfl rfl rfl rfl rfl rfl rfl rfl rfl rfl rfl⟩
  · have e : sJump σ b y = σ := if_neg c
    have c' : ¬ (σ 26 5 = 0 ∧ (0 ≤ b ∧ b < σ 26 1) ∧ (0 ≤ y ∧ y < σ 26 1) ∧ (0 ≤ y ∧ y < σ 26 1) ∧ σ 27 y = σ 27 b ∧ σ 27 y = σ 27 b) := by
      rw [g2, g3]
      rintro ⟨q1, q2, q3, -, q4, -⟩
      rw [(g4 y q3.1 q3.2).1, (g4 b q2.1 q2.2).1] at q4
      exact c ⟨q1, q2, q3, q4.symm⟩
    rw [e]
    have a1 : aGive σ b y y = -1 := if_neg c'
    have a2 : aJump σ b y = -1 := if_neg c
    have s1 : sGive σ b 1 y y = σ := if_neg c'
    rw [a1, a2, s1]
    exact ⟨hM, rfl, h⟩
theorem c_test {σ : av_S} {b x y : Int} (h : RR σ) : iM (sTest σ b x y) ∧ aGive (sTest σ b x y) b x y = aTest σ b x y ∧ RR (sGive (sTest σ b x y) b 2 x y) := by
  have hM := RR_M h
  obtain ⟨g1, g2, g3⟩ := h.2.1.1
  have g4 := h.2.1.2.1
  by_cases c : σ 0 6 = 0 ∧ ((0 ≤ b ∧ b < σ 1 5) ∧ (0 ≤ x ∧ x < σ 1 5) ∧ σ 2 b = σ 2 x) ∧ ((0 ≤ b ∧ b < σ 1 5) ∧ (0 ≤ y ∧ y < σ 1 5) ∧ σ 2 b = σ 2 y)
  · have e : sTest σ b x y = sN_clearEdges (sG_setEnd σ b 2 x y) b := if_pos c
    obtain ⟨k1, ⟨k2, k3, k4⟩, -, k5, k6⟩ := id c
    have fy := (g4 y k5.1 k5.2).1
    have fx := (g4 x k3.1 k3.2).1
    have fb := (g4 b k2.1 k2.2).1
    have c' : (σ 26 5 = 0 ∧ (0 ≤ b ∧ b < σ 26 1) ∧ (0 ≤ x ∧ x < σ 26 1) ∧ (0 ≤ y ∧ y < σ 26 1) ∧ σ 27 x = σ 27 b ∧ σ 27 y = σ 27 b) := by rw [g2, g3, fy, fb, fx]; exact ⟨k1, k2, k3, k5, k4.symm, k6.symm⟩
    rw [e]
    have a1 : aGive (sN_clearEdges (sG_setEnd σ b 2 x y) b) b x y = 0 := if_pos c'
    have a2 : aTest σ b x y = 0 := if_pos c
    have s1 : sGive (sN_clearEdges (sG_setEnd σ b 2 x y) b) b 2 x y = sGive0 (sN_clearEdges (sG_setEnd σ b 2 x y) b) b 2 x y := if_pos c'
    rw [a1, a2, s1]
    exact ⟨iM_keep hM rfl rfl rfl rfl rfl rfl rfl, rfl, RR_give h k1 k2 k3 k5 k4.symm k6.symm (Or.inr ⟨rfl, rfl⟩) rfl rfl rfl rfl rfl rfl rfl rfl rfl rfl rfl rfl rfl rfl rfl rfl rfl rfl rfl rfl⟩
  · have e : sTest σ b x y = σ := if_neg c
    have c' : ¬ (σ 26 5 = 0 ∧ (0 ≤ b ∧ b < σ 26 1) ∧ (0 ≤ x ∧ x < σ 26 1) ∧ (0 ≤ y ∧ y < σ 26 1) ∧ σ 27 x = σ 27 b ∧ σ 27 y = σ 27 b) := by
      rw [g2, g3]
      rintro ⟨q1, q2, q3, q5, q4, q6⟩
      rw [(g4 x q3.1 q3.2).1, (g4 b q2.1 q2.2).1] at q4
      rw [(g4 y q5.1 q5.2).1, (g4 b q2.1 q2.2).1] at q6
      exact c ⟨q1, ⟨q2, q3, q4.symm⟩, q2, q5, q6.symm⟩
    rw [e]
    have a1 : aGive σ b x y = -1 := if_neg c'
    have a2 : aTest σ b x y = -1 := if_neg c
    have s1 : sGive σ b 2 x y = σ := if_neg c'
    rw [a1, a2, s1]
    exact ⟨hM, rfl, h⟩
theorem mn_bd {x : Int} (h : 0 ≤ x) : 0 ≤ mn 1000000 x ∧ mn 1000000 x ≤ 1000000 := by unfold mn; split <;> omega
theorem bd_add {F : Int → Int} {n b m : Int} (h : bd F n) (hb : 0 ≤ b ∧ b < n) (hm : 0 ≤ m) : bd (uI F b (mn 1000000 (F b + m))) n := by
  intro j h0 h1
  by_cases c : j = b
  · rw [c, uI_s]; have := h b hb.1 hb.2; exact mn_bd (by omega)
  · rw [uI_n _ _ c]; exact h j h0 h1
theorem cHeat_iff {σ : av_S} {b e n : Int} (h : RR σ) : cHeatM σ b e n ↔ cHeat σ b e n := by
  obtain ⟨g1, g2, g3⟩ := h.2.1.1
  have g4 := h.2.1.2.1
  unfold cHeatM cHeat
  rw [g2]
  constructor
  · rintro ⟨q1, q2, q3, q4⟩
    rw [(g4 b q2.1 q2.2).2.2.1] at q4
    exact ⟨q1, q2, q3, q4⟩
  · rintro ⟨q1, q2, q3, q4⟩
    exact ⟨q1, q2, q3, by rw [(g4 b q2.1 q2.2).2.2.1]; exact q4⟩
theorem c_heat {σ : av_S} {b e n : Int} (h : RR σ) (c : cHeat σ b e n) : iM (sHeat σ b e n) ∧ cHeatM (sHeat σ b e n) b e n ∧ (sHeatM (sHeat σ b e n) b e n) 32 (2 * b + e) = (sHeat σ b e n) 9 (2 * b + e) ∧ RR (sHeatM (sHeat σ b e n) b e n) := by
  have hM := RR_M h
  have h2 := h.1.2.1 b c.2.1.1 c.2.1.2
  have hn := h.1.1
  have e30 := (h.2.1.2.1 b c.2.1.1 c.2.1.2).2.2.2 e c.2.2.1 c.2.2.2
  have hE := h2.2.2.1
  have hk := (h2.2.2.2.1 e c.2.2.1 c.2.2.2).1
  have c1 := h.2.2.1.1
  have c2 := h.2.2.1.2
  have n0 : 0 ≤ n := by have := c.1; omega
  have k0 : 0 ≤ 2 * b + e ∧ 2 * b + e < 48 := by have := c.2; omega
  have e9 : (sHeat σ b e n) 9 = uI (σ 9) (2 * b + e) (mn 1000000 (σ 9 (2 * b + e) + n)) := rfl
  have t8 : (sHeatM (sHeat σ b e n) b e n) 8 = uI (σ 8) (σ 5 (2 * b + e)) (mn 1000000 (σ 8 (σ 5 (2 * b + e)) + n)) := rfl
  have t9 : (sHeatM (sHeat σ b e n) b e n) 9 = uI (σ 9) (2 * b + e) (mn 1000000 (σ 9 (2 * b + e) + n)) := rfl
  have t31 : (sHeatM (sHeat σ b e n) b e n) 31 = uI (σ 31) (σ 30 (2 * b + e)) (mn 1000000 (σ 31 (σ 30 (2 * b + e)) + n)) := rfl
  have t32 : (sHeatM (sHeat σ b e n) b e n) 32 = uI (σ 32) (2 * b + e) (mn 1000000 (σ 32 (2 * b + e) + n)) := rfl
  refine ⟨iM_keep hM rfl rfl rfl rfl rfl rfl rfl, (cHeat_iff h).mpr c, ?_, ?_⟩
  · rw [t32, e9, uI_s, uI_s, c2 _ k0.1 k0.2]
  · refine RR_counts h ?_ ?_ ?_ ?_ rfl rfl rfl rfl rfl rfl rfl rfl rfl rfl rfl rfl rfl rfl rfl rfl rfl rfl rfl rfl rfl rfl rfl rfl rfl
    · rw [t8]; exact bd_add h.1.2.2.2.1 ⟨hk.1, by omega⟩ n0
    · rw [t9]; exact bd_add h.1.2.2.2.2.1 k0 n0
    · intro a q0 q1
      rw [t31, t8, e30]
      by_cases z : a = σ 5 (2 * b + e)
      · rw [← z, uI_s, uI_s, c1 a q0 q1]
      · rw [uI_n _ _ z, uI_n _ _ z]; exact c1 a q0 q1
    · intro a q0 q1
      rw [t32, t9]
      by_cases z : a = 2 * b + e
      · rw [← z, uI_s, uI_s, c2 a q0 q1]
      · rw [uI_n _ _ z, uI_n _ _ z]; exact c2 a q0 q1
theorem c_cool {σ : av_S} (h : RR σ) : RR (up (up (sN_clear σ) 31 (fun _ => 0)) 32 (fun _ => 0)) :=
  RR_counts h (fun b _ _ => ⟨Int.le_refl 0, by show (0 : Int) ≤ 1000000; omega⟩) (fun b _ _ => ⟨Int.le_refl 0, by show (0 : Int) ≤ 1000000; omega⟩) (fun b _ _ => rfl) (fun b _ _ => rfl) rfl rfl rfl rfl rfl rfl rfl rfl rfl rfl rfl rfl rfl rfl rfl rfl rfl rfl rfl rfl rfl rfl rfl rfl rfl
theorem inc_congr {F F' : Int → Int} {n c : Int} (h : ∀ b, 0 ≤ b → b < n → F b = F' b) (hc : 0 ≤ c ∧ c < n) : ∀ b, 0 ≤ b → b < n → inc F c b = inc F' c b := by
  intro b h0 h1
  unfold inc
  by_cases z : b = c
  · rw [z, uI_s, uI_s, h c hc.1 hc.2]
  · rw [uI_n _ _ z, uI_n _ _ z]; exact h b h0 h1
theorem cb_congr {n : Int} : ∀ (l : List (Int × Int)) (F F' : Int → Int), (∀ p ∈ l, 0 ≤ p.1 ∧ p.1 < n) → (∀ b, 0 ≤ b → b < n → F b = F' b) → ∀ b, 0 ≤ b → b < n → cb l F b = cb l F' b := by
  intro l
  induction l with
  | nil => intro F F' _ h; exact h
  | cons p r ih => intro F F' hp h; exact ih _ _ (fun q hq => hp q (List.mem_cons_of_mem _ hq)) (inc_congr h (hp p (List.mem_cons_self)))
theorem ce_congr {n : Int} : ∀ (l : List (Int × Int)) (F F' : Int → Int), (∀ p ∈ l, 0 ≤ 2 * p.1 + p.2 ∧ 2 * p.1 + p.2 < n) → (∀ b, 0 ≤ b → b < n → F b = F' b) → ∀ b, 0 ≤ b → b < n → ce l F b = ce l F' b := by
  intro l
  induction l with
  | nil => intro F F' _ h; exact h
  | cons p r ih =>
    intro F F' hp h
    cases r with
    | nil => exact h
    | cons q r => exact ih _ _ (fun q hq => hp q (List.mem_cons_of_mem _ hq)) (inc_congr h (hp p (List.mem_cons_self)))
theorem wl_ok {σ : av_S} {f x : Int} (h : iL σ) (hf : 0 ≤ f ∧ f < 4) : ∀ p ∈ wl σ f x, (0 ≤ p.1 ∧ p.1 < σ 1 5) ∧ 0 ≤ p.2 ∧ p.2 ≤ 1 := by
  have t := iL_T h f hf.1 hf.2
  exact wk_ok (iL_G h) 60 0 (σ 6 f) t.1 t.2
/-- after a walk of the class, the reference's -/
theorem c_walk {σ : av_S} {f x : Int} {F G : Int → Int} (h : RR σ) (hf : 0 ≤ f ∧ f < 4) : RR (mS (nS (tS σ F G ((wl σ f x).length : Int)) (cb (wl σ f x) (σ 8)) (ce (wl σ f x) (σ 9))) (cb (wl σ f x) (σ 31)) (ce (wl σ f x) (σ 32))) := by
  have k := wl_ok (x := x) h.1 hf
  have hn := h.1.1
  have k1 : ∀ p ∈ wl σ f x, 0 ≤ p.1 ∧ p.1 < 24 := fun p hp => by have := k p hp; omega
  have k2 : ∀ p ∈ wl σ f x, 0 ≤ 2 * p.1 + p.2 ∧ 2 * p.1 + p.2 < 48 := fun p hp => by have := k p hp; omega
  exact RR_counts h (bd_cb _ _ k1 h.1.2.2.2.1) (bd_ce _ _ k2 h.1.2.2.2.2.1) (cb_congr _ _ _ k1 h.2.2.1.1) (ce_congr _ _ _ k2 h.2.2.1.2) rfl rfl rfl rfl rfl rfl rfl rfl rfl rfl rfl rfl rfl rfl rfl rfl rfl rfl rfl rfl rfl rfl rfl rfl rfl
/-- only the trail changes -/
theorem RR_tS {σ : av_S} {F G : Int → Int} {s : Int} (h : RR σ) : RR (tS σ F G s) :=
  RR_counts h h.1.2.2.2.1 h.1.2.2.2.2.1 h.2.2.1.1 h.2.2.1.2 rfl rfl rfl rfl rfl rfl rfl rfl rfl rfl rfl rfl rfl rfl rfl rfl rfl rfl rfl rfl rfl rfl rfl rfl rfl
theorem cL_lv {σ : av_S} {b e : Int} (h : RR σ) (hl : σ 0 6 = 1) (hb : 0 ≤ b ∧ b < σ 1 5) : lvM σ b e = cL (σ 24) (σ 25) b (σ 4 b) (if e = 0 then 1 else 0) := by
  obtain ⟨-, -, l3, l4, -⟩ := h.2.2.2.2.2 hl
  obtain ⟨⟨u0, u1⟩, -, -, t, m⟩ := l4 b hb.1 hb.2
  obtain ⟨i1, i2, i3, i4⟩ := l3 b hb.1 (by rw [h.2.1.1.2.1]; exact hb.2)
  have en := (h.2.1.2.1 b hb.1 hb.2).2.2.1
  have hE := (h.1.2.1 b hb.1 hb.2).2.2.1
  unfold lvM cL le
  rw [en, u0, u1, t]
  generalize σ 40 (2 * b) = p at *
  generalize σ 40 (2 * b + 1) = q at *
  generalize σ 41 b = r at *
  generalize σ 38 b = s at *
  generalize σ 4 b = k at *
  generalize (if e = 0 then (1 : Int) else 0) = v
  clear h hl l3 l4 u0 u1 t en
  (repeat' split) <;> omega
theorem cS_M {σ : av_S} (h : RR σ) (hl : σ 0 6 = 1) : ∀ l : List (Int × Int), (∀ p ∈ l, 0 ≤ p.1 ∧ p.1 < σ 1 5) → cSM σ l = cS (σ 4) (σ 24) (σ 25) l := by
  intro l
  induction l with
  | nil => intro _; rfl
  | cons p r ih =>
    intro hp
    show lvM σ p.1 p.2 + cSM σ r = cL (σ 24) (σ 25) p.1 (σ 4 p.1) (if p.2 = 0 then 1 else 0) + cS (σ 4) (σ 24) (σ 25) r
    rw [ih (fun q hq => hp q (List.mem_cons_of_mem _ hq)), cL_lv h hl (hp p List.mem_cons_self)]
theorem c_at {σ : av_S} {k : Int} (h : RR σ) : aAtM σ k = aAt σ k := by
  obtain ⟨g1, g2, g3⟩ := h.2.1.1
  unfold aAtM aAt
  rw [g2, g3]
  by_cases c : σ 0 6 = 1 ∧ 0 ≤ k ∧ k < σ 1 5
  · rw [if_pos c, if_pos c]; exact (h.2.2.2.2.2 c.1).2.1 k c.2.1 c.2.2
  · rw [if_neg c, if_neg c]
theorem c_noBr {σ : av_S} {b i : Int} (h : RR σ) (hi : av_in i) : (σ 26 5 = 0 ∨ (b < 0 ∨ σ 26 1 ≤ b) ∨ i < 0 ∨ σ 38 b ≤ i) ↔ ¬ (σ 0 6 = 1 ∧ (0 ≤ b ∧ b < σ 1 5) ∧ (i = 0 ∨ i = 1) ∧ σ 24 (2 * b + i) ≠ 0) := by
  obtain ⟨g1, g2, g3⟩ := h.2.1.1
  have h6 := h.1.2.2.2.2.2.1
  rw [g2, g3]
  by_cases l : σ 0 6 = 1
  · by_cases c : 0 ≤ b ∧ b < σ 1 5
    · obtain ⟨-, -, l3, l4, -⟩ := h.2.2.2.2.2 l
      obtain ⟨⟨u0, u1⟩, -⟩ := l4 b c.1 c.2
      obtain ⟨i1, i2, i3, i4⟩ := l3 b c.1 (by rw [g2]; exact c.2)
      by_cases z : i = 0
      · subst z
        rw [Int.add_zero, u0]
        by_cases w : 0 < σ 38 b
        · rw [if_pos w]
          constructor
          · rintro (q | q | q | q) <;> omega
          · intro q; exfalso; exact q ⟨l, c, Or.inl rfl, by omega⟩
        · rw [if_neg w]
          constructor
          · rintro - ⟨-, -, -, q⟩; exact q rfl
          · intro _; omega
      · by_cases z : i = 1
        · subst z
          rw [u1]
          by_cases w : 1 < σ 38 b
          · rw [if_pos w]
            constructor
            · rintro (q | q | q | q) <;> omega
            · intro q; exfalso; exact q ⟨l, c, Or.inr rfl, by omega⟩
          · rw [if_neg w]
            constructor
            · rintro - ⟨-, -, -, q⟩; exact q rfl
            · intro _; omega
        · constructor
          · rintro - ⟨-, -, q, -⟩; omega
          · intro _; omega
    · constructor
      · rintro - ⟨-, q, -⟩; exact c q
      · intro _; omega
  · constructor
    · rintro - ⟨q, -⟩; exact l q
    · intro _; omega
theorem c_branch {σ : av_S} {b i : Int} (h : RR σ) (hi : av_in i) : aBranchM σ b i = aBranch σ b i := by
  have k := c_noBr (b := b) h hi
  unfold aBranchM aBranch
  by_cases c : (σ 0 6 = 1 ∧ (0 ≤ b ∧ b < σ 1 5) ∧ (i = 0 ∨ i = 1) ∧ σ 24 (2 * b + i) ≠ 0)
  · rw [if_pos c, if_neg (fun q => k.mp q c)]
    obtain ⟨c1, c2, c3, c4⟩ := c
    obtain ⟨⟨u0, u1⟩, -⟩ := (h.2.2.2.2.2 c1).2.2.2.1 b c2.1 c2.2
    rcases c3 with rfl | rfl
    · rw [Int.add_zero] at c4 ⊢
      rw [u0] at c4 ⊢
      by_cases w : 0 < σ 38 b
      · rw [if_pos w]
      · rw [if_neg w] at c4; exact absurd rfl c4
    · rw [u1] at c4 ⊢
      by_cases w : 1 < σ 38 b
      · rw [if_pos w]
      · rw [if_neg w] at c4; exact absurd rfl c4
  · rw [if_neg c, if_pos (k.mpr c)]
theorem c_target {σ : av_S} {b i : Int} (h : RR σ) (hi : av_in i) : aTargetM σ b i = aTarget σ b i := by
  have k := c_noBr (b := b) h hi
  unfold aTargetM aTarget
  by_cases c : (σ 0 6 = 1 ∧ (0 ≤ b ∧ b < σ 1 5) ∧ (i = 0 ∨ i = 1) ∧ σ 24 (2 * b + i) ≠ 0)
  · rw [if_pos c, if_neg (fun q => k.mp q c)]
    obtain ⟨c1, c2, c3, c4⟩ := c
    obtain ⟨⟨u0, u1⟩, t0, t1, -⟩ := (h.2.2.2.2.2 c1).2.2.2.1 b c2.1 c2.2
    rcases c3 with rfl | rfl
    · rw [Int.add_zero] at c4 ⊢
      rw [u0] at c4
      by_cases w : 0 < σ 38 b
      · exact (t0 w).symm
      · rw [if_neg w] at c4; exact absurd rfl c4
    · rw [u1] at c4
      by_cases w : 1 < σ 38 b
      · exact (t1 w).symm
      · rw [if_neg w] at c4; exact absurd rfl c4
  · rw [if_neg c, if_pos (k.mpr c)]
theorem c_heatOf {σ : av_S} {b e : Int} (h : RR σ) : aHeatOfM σ b e = aHeatOf σ b e := by
  obtain ⟨g1, g2, g3⟩ := h.2.1.1
  have hn := h.1.1
  unfold aHeatOfM aHeatOf
  rw [g2]
  by_cases c : 0 ≤ b ∧ b < σ 1 5
  · have en := (h.2.1.2.1 b c.1 c.2).2.2.1
    have hE := (h.1.2.1 b c.1 c.2).2.2.1
    rw [en]
    by_cases d : e = -1
    · rw [if_neg (by omega), if_pos (by omega), if_pos ⟨d, c⟩]; exact h.2.2.1.1 b c.1 (by omega)
    · rw [if_neg (show ¬ (e = -1 ∧ 0 ≤ b ∧ b < σ 1 5) by omega)]
      by_cases f : 0 ≤ e ∧ e < σ 4 b
      · rw [if_neg (by omega), if_neg (by omega), if_pos ⟨c, f⟩]; exact h.2.2.1.2 _ (by omega) (by omega)
      · rw [if_pos (by omega), if_neg (by omega)]
  · rw [if_pos (by omega), if_neg (by omega), if_neg (by omega)]
theorem c_addr {σ : av_S} {b : Int} {p : Nat} (h : RR σ) (hl : σ 0 6 = 1) (hp : (p : Int) < σ 1 5) (hb : σ 14 (p : Int) = b) : sm (fun k => uM σ (σ 37 k)) p = σ 22 b := by
  obtain ⟨l1, l2, l3, l4, l5, l6, -⟩ := h.2.2.2.2.2 hl
  have a := l6 p hp
  rw [hb] at a
  rw [a]
  refine (sm_congr p (fun j hj => ?_)).symm
  have o := l1.1 (j : Int) (by omega) (by omega)
  have e := h.2.1.2.1 _ o.1 o.2
  have u := (l4 _ o.1 o.2).1
  rw [l2 (j : Int) (by omega) (by omega)]
  unfold cuC uM
  rw [u.1, u.2, e.2.1, e.2.2.1]
  omega
theorem cu_u {σ : av_S} {b : Int} (h : RR σ) (hl : σ 0 6 = 1) (h0 : 0 ≤ b) (h1 : b < σ 1 5) : cuC σ (σ 24) b = uM σ b := by
  obtain ⟨l1, l2, l3, l4, l5, l6, -⟩ := h.2.2.2.2.2 hl
  have e := h.2.1.2.1 _ h0 h1
  have u := (l4 _ h0 h1).1
  unfold cuC uM
  rw [u.1, u.2, e.2.1, e.2.2.1]
  omega
theorem c_count {σ : av_S} {w : Int} (h : RR σ) : aCM σ w (sm (σ 38) (σ 26 1).toNat) (sm (lgM σ) (σ 26 1).toNat) = aCount σ w := by
  obtain ⟨g1, g2, g3⟩ := h.2.1.1
  have h6 := h.1.2.2.2.2.2.1
  have hn := h.1.1
  have K : σ 0 6 = 1 → sm (uM σ) (σ 1 5).toNat = σ 21 4 ∧ sm (lgM σ) (σ 1 5).toNat = σ 21 6 ∧ sm (σ 38) (σ 1 5).toNat = σ 21 5 ∧ σ 26 3 = σ 13 2 ∧ σ 26 4 = σ 13 1 := by
    intro l
    obtain ⟨l1, l2, l3, l4, l5, l6, l7, l8, l9⟩ := h.2.2.2.2.2 l
    have cc : (((σ 1 5).toNat : Nat) : Int) = σ 1 5 := by omega
    have t1 : sm (uM σ) (σ 1 5).toNat = σ 21 4 := by
      rw [l7]
      have : adC σ (σ 24) (σ 1 5).toNat = sm (cuC σ (σ 24)) (σ 1 5).toNat := by
        refine sm_perm (F := cuC σ (σ 24)) (O := σ 14) ?_ ?_ ?_ <;> rw [cc]
        · exact l1.1
        · exact l1.2.1
        · exact l1.2.2
      rw [this]
      exact sm_congr _ (fun j hj => (cu_u h l (by omega) (by omega)).symm)
    have t3 : sm (lgM σ) (σ 1 5).toNat = σ 21 6 := by
      rw [l9]
      refine sm_congr _ (fun j hj => ?_)
      obtain ⟨⟨u0, u1⟩, -⟩ := l4 (j : Int) (by omega) (by omega)
      unfold lgM lgU
      rw [u0, u1]
      have z1 : (if 0 < σ 38 (j : Int) ∧ σ 40 (2 * (j : Int)) = 2 then (1 : Int) else 0) = bz ((if 0 < σ 38 (j : Int) then σ 40 (2 * (j : Int)) else 0) = 2) := by
        by_cases q : 0 < σ 38 (j : Int)
        · rw [if_pos q]; unfold bz; by_cases r : σ 40 (2 * (j : Int)) = 2
          · rw [if_pos r, if_pos ⟨q, r⟩]
          · rw [if_neg r, if_neg (fun z => r z.2)]
        · rw [if_neg q, if_neg (fun z => q z.1)]; exact (bz_f (by omega)).symm
      have z2 : (if 1 < σ 38 (j : Int) ∧ σ 40 (2 * (j : Int) + 1) = 2 then (1 : Int) else 0) = bz ((if 1 < σ 38 (j : Int) then σ 40 (2 * (j : Int) + 1) else 0) = 2) := by
        by_cases q : 1 < σ 38 (j : Int)
        · rw [if_pos q]; unfold bz; by_cases r : σ 40 (2 * (j : Int) + 1) = 2
          · rw [if_pos r, if_pos ⟨q, r⟩]
          · rw [if_neg r, if_neg (fun z => r z.2)]
        · rw [if_neg q, if_neg (fun z => q z.1)]; exact (bz_f (by omega)).symm
      rw [z1, z2]
    exact ⟨t1, t3, l8.symm, l5.1.symm, l5.2.symm⟩
  unfold aCM aCount aCL
  rw [g2, g3]
  generalize sm (uM σ) (σ 1 5).toNat = v1 at *
  generalize sm (lgM σ) (σ 1 5).toNat = v2 at *
  generalize sm (σ 38) (σ 1 5).toNat = v3 at *
  clear h
  (repeat' split) <;> omega
