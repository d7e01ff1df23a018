/-! THE CLASS BESIDE THE REFERENCE, between two calls -/
def rG (σ : av_S) : Prop := (σ 26 0 = σ 0 0 ∧ σ 26 1 = σ 1 5 ∧ σ 26 5 = σ 0 6) ∧ (∀ b, 0 ≤ b → b < σ 1 5 → σ 27 b = σ 2 b ∧ σ 28 b = σ 3 b ∧ σ 29 b = σ 4 b ∧ ∀ e, 0 ≤ e → e < σ 4 b → σ 30 (2 * b + e) = σ 5 (2 * b + e)) ∧ (∀ b, σ 1 5 ≤ b → b < 24 → σ 29 b = 0) ∧ ∀ k, 0 ≤ k → k < 48 → 0 ≤ σ 30 k ∧ σ 30 k < 24
def rC (σ : av_S) : Prop := (∀ b, 0 ≤ b → b < 24 → σ 31 b = σ 8 b) ∧ ∀ k, 0 ≤ k → k < 48 → σ 32 k = σ 9 k
def rB (σ : av_S) : Prop := (∀ i, 0 ≤ i → i < 48 → 0 ≤ σ 24 i ∧ σ 24 i ≤ 2) ∧ (∀ b, 0 ≤ b → b < 24 → σ 25 b = 0 ∨ σ 25 b = 1) ∧ ∀ k, 0 ≤ k → k < 48 → σ 35 k = 0 ∨ σ 35 k = 1
def rL (σ : av_S) : Prop := iO σ ∧ (∀ k, 0 ≤ k → k < σ 1 5 → σ 37 k = σ 14 k) ∧ iLM σ ∧ (∀ b, 0 ≤ b → b < σ 1 5 → (σ 24 (2 * b) = (if 0 < σ 38 b then σ 40 (2 * b) else 0) ∧ σ 24 (2 * b + 1) = (if 1 < σ 38 b then σ 40 (2 * b + 1) else 0)) ∧ (0 < σ 38 b → σ 23 (2 * b) = σ 39 (2 * b)) ∧ (1 < σ 38 b → σ 23 (2 * b + 1) = σ 39 (2 * b + 1)) ∧ σ 25 b = σ 41 b ∧ (σ 4 b = 2 → 1 ≤ σ 38 b)) ∧ (σ 13 2 = σ 26 3 ∧ σ 13 1 = σ 26 4) ∧ adS σ (σ 22) (σ 24) ∧ σ 21 4 = adC σ (σ 24) (σ 1 5).toNat ∧ σ 21 5 = sm (σ 38) (σ 1 5).toNat ∧ σ 21 6 = sm (lgU (σ 24)) (σ 1 5).toNat
def RR (σ : av_S) : Prop := iL σ ∧ rG σ ∧ rC σ ∧ rB σ ∧ (σ 0 6 = 0 → ∀ k, 0 ≤ k → k < 24 → σ 37 k = 0) ∧ (σ 0 6 = 1 → rL σ)
theorem RR_M {σ : av_S} (h : RR σ) : iM σ := by
  obtain ⟨⟨h1, h2, h3, h4, h5, h6, h7⟩, ⟨⟨g1, g2, g3⟩, g4, g5, g6⟩, ⟨c1, c2⟩, -⟩ := h
  refine ⟨by rw [g2]; exact h1, fun b q0 q1 => ?_, fun b q0 q1 => by rw [c1 b q0 q1]; exact h4 b q0 q1, fun b q0 q1 => by rw [c2 b q0 q1]; exact h5 b q0 q1, by rw [g3]; exact h6, by rw [g1]; exact h7⟩
  rw [g2] at q1
  obtain ⟨e1, e2, e3, e4⟩ := g4 b q0 q1
  obtain ⟨i1, i2, i3, i4, i5⟩ := h2 b q0 q1
  refine ⟨by rw [e1]; exact i1, by rw [e2]; exact i2, by rw [e3]; exact i3, fun e p0 p1 => ?_⟩
  rw [e3] at p1
  rw [e4 e p0 p1, g2]
  exact (i4 e p0 p1).1
theorem RR_EM {σ : av_S} (h : RR σ) : ∀ f, 0 ≤ f → f ≤ 3 → iEM σ f (σ 6 f) := by
  intro f q0 q1
  obtain ⟨⟨h1, h2, h3, -⟩, ⟨⟨g1, g2, g3⟩, g4, g5, g6⟩, -⟩ := h
  rcases h3 f q0 (by omega) with ⟨a, b⟩ | ⟨a, b, c⟩
  · refine Or.inl ⟨a, fun x x0 x1 => ?_⟩
    rw [g2] at x1
    rw [(g4 x x0 x1).1]; exact b x x0 x1
  · refine Or.inr ⟨by rw [g2]; exact a, by rw [(g4 _ a.1 a.2).1]; exact b, fun x x0 x1 => ?_⟩
    rw [(g4 x x0 (by omega)).1]; exact c x x0 x1
theorem RR_W {σ : av_S} (h : RR σ) : hW σ (σ 4) (σ 5) := by
  intro b q0 q1
  obtain ⟨⟨h1, h2, h3, -⟩, ⟨⟨g1, g2, g3⟩, g4, g5, g6⟩, -⟩ := h
  rw [g2] at q1
  obtain ⟨e1, e2, e3, e4⟩ := g4 b q0 q1
  obtain ⟨i1, i2, i3, i4, i5⟩ := h2 b q0 q1
  refine ⟨e3.symm, fun e p0 p1 => ?_⟩
  rw [e3]
  by_cases c : e < σ 4 b
  · rw [if_pos c]; exact (e4 e p0 c).symm
  · rw [if_neg c]; exact i5 e (by omega) p0 p1
/-- nothing of the layout changes -/
theorem rL_keep {σ τ : av_S} (h : rL σ) (e0 : τ 1 = σ 1) (e1 : τ 3 = σ 3) (e2 : τ 4 = σ 4) (e3 : τ 13 = σ 13) (e4 : τ 14 = σ 14) (e5 : τ 21 = σ 21) (e6 : τ 22 = σ 22) (e7 : τ 23 = σ 23) (e8 : τ 24 = σ 24) (e9 : τ 25 = σ 25) (e10 : τ 26 = σ 26) (e11 : τ 37 = σ 37) (e12 : τ 38 = σ 38) (e13 : τ 39 = σ 39) (e14 : τ 40 = σ 40) (e15 : τ 41 = σ 41) : rL τ := by
  unfold rL iO iLM iLB adS adC cuC at h ⊢
  rw [e0, e1, e2, e3, e4, e5, e6, e7, e8, e9, e10, e11, e12, e13, e14, e15]
  exact h
/-- a block more -/
theorem RR_block {σ τ : av_S} {f u : Int} (h : RR σ) (hf : 0 ≤ f ∧ f ≤ 3) (hu : 1 ≤ u ∧ u ≤ 40) (hl : σ 0 6 = 0) (hn : σ 1 5 < 24)
    (e0 : τ 0 = σ 0) (e1 : τ 1 5 = σ 1 5 + 1) (e2 : τ 2 = uI (σ 2) (σ 1 5) f) (e3 : τ 3 = uI (σ 3) (σ 1 5) u) (e4 : τ 4 = uI (σ 4) (σ 1 5) 0) (e5 : τ 5 = uI (uI (σ 5) (2 * σ 1 5) (-1)) (2 * σ 1 5 + 1) (-1)) (e6 : τ 6 = if σ 6 f = -1 then uI (σ 6) f (σ 1 5) else σ 6) (e8 : τ 8 = σ 8) (e9 : τ 9 = σ 9) (e24 : τ 24 = σ 24) (e25 : τ 25 = σ 25) (e26 : τ 26 = uI (σ 26) 1 (σ 26 1 + 1)) (e27 : τ 27 = uI (σ 27) (σ 26 1) f) (e28 : τ 28 = uI (σ 28) (σ 26 1) u) (e29 : τ 29 = σ 29) (e30 : τ 30 = σ 30) (e31 : τ 31 = σ 31) (e32 : τ 32 = σ 32) (e35 : τ 35 = σ 35) (e37 : τ 37 = σ 37) : RR τ := by
  obtain ⟨⟨h1, h2, h3, h4, h5, h6, h7⟩, ⟨⟨g1, g2, g3⟩, g4, g5, g6⟩, ⟨c1, c2⟩, ⟨b1, b2, b3⟩, o1, o2⟩ := h
  rw [g2] at e27 e28
  have F : ∀ b, 0 ≤ b → b < σ 1 5 → τ 2 b = σ 2 b := fun b q0 q1 => by rw [e2, uI_n _ _ (by omega)]
  have Fn : τ 2 (σ 1 5) = f := by rw [e2, uI_s]
  have E : ∀ b, 0 ≤ b → b < σ 1 5 → τ 4 b = σ 4 b := fun b q0 q1 => by rw [e4, uI_n _ _ (by omega)]
  have En : τ 4 (σ 1 5) = 0 := by rw [e4, uI_s]
  have T : ∀ k, 0 ≤ k → k < 2 * σ 1 5 → τ 5 k = σ 5 k := fun k q0 q1 => by rw [e5, uI_n _ _ (by omega), uI_n _ _ (by omega)]
  refine ⟨⟨by omega, fun b q0 q1 => ?_, fun g q0 q1 => ?_, by rw [e8]; exact h4, by rw [e9]; exact h5, by rw [e0]; exact h6, by rw [e0]; exact h7⟩, ⟨⟨?_, ?_, ?_⟩, fun b q0 q1 => ?_, fun b q0 q1 => ?_, by rw [e30]; exact g6⟩, by unfold rC; rw [e31, e32, e8, e9]; exact ⟨c1, c2⟩, by unfold rB; rw [e24, e25, e35]; exact ⟨b1, b2, b3⟩, by rw [e0, e37]; exact o1, by rw [e0, hl]; intro z; omega⟩
  · by_cases c : b = σ 1 5
    · subst c
      refine ⟨by rw [Fn]; omega, by rw [e3, uI_s]; exact hu, by rw [En]; omega, fun e p0 p1 => by rw [En] at p1; omega, fun e p0 p1 p2 => ?_⟩
      rw [e5]
      by_cases z : e = 1
      · rw [z, uI_s]
      · rw [uI_n _ _ (by omega), show 2 * σ 1 5 + e = 2 * σ 1 5 by omega, uI_s]
    · obtain ⟨i1, i2, i3, i4, i5⟩ := h2 b q0 (by omega)
      refine ⟨by rw [F b q0 (by omega)]; exact i1, by rw [e3, uI_n _ _ c]; exact i2, by rw [E b q0 (by omega)]; exact i3, fun e p0 p1 => ?_, fun e p0 p1 p2 => ?_⟩
      · rw [E b q0 (by omega)] at p1
        have w := i4 e p0 p1
        rw [T _ (by omega) (by omega), F _ w.1.1 w.1.2, F b q0 (by omega)]
        exact ⟨⟨w.1.1, by omega⟩, w.2⟩
      · rw [E b q0 (by omega)] at p0
        rw [T _ (by omega) (by omega)]; exact i5 e p0 p1 p2
  · unfold iE
    rw [e6, e1]
    by_cases c : g = f
    · subst c
      by_cases z : σ 6 g = -1
      · rw [if_pos z, uI_s]
        right
        refine ⟨⟨by omega, by omega⟩, Fn, fun b p0 p1 => ?_⟩
        rw [F b p0 p1]
        rcases h3 g q0 q1 with ⟨-, w⟩ | ⟨w, -⟩
        · exact w b p0 p1
        · omega
      · rw [if_neg z]
        rcases h3 g q0 q1 with ⟨w, -⟩ | ⟨w1, w2, w3⟩
        · exact absurd w z
        · right
          exact ⟨⟨w1.1, by omega⟩, by rw [F _ w1.1 w1.2]; exact w2, fun b p0 p1 => by rw [F b p0 (by omega)]; exact w3 b p0 p1⟩
    · have z : (if σ 6 f = -1 then uI (σ 6) f (σ 1 5) else σ 6) g = σ 6 g := by split; exact uI_n _ _ c; rfl
      rw [z]
      rcases h3 g q0 q1 with ⟨w1, w2⟩ | ⟨w1, w2, w3⟩
      · refine Or.inl ⟨w1, fun b p0 p1 => ?_⟩
        by_cases v : b = σ 1 5
        · subst v; rw [Fn]; omega
        · rw [F b p0 (by omega)]; exact w2 b p0 (by omega)
      · exact Or.inr ⟨⟨w1.1, by omega⟩, by rw [F _ w1.1 w1.2]; exact w2, fun b p0 p1 => by rw [F b p0 (by omega)]; exact w3 b p0 p1⟩
  · rw [e26, e0, uI_n _ _ (by omega)]; exact g1
  · rw [e26, uI_s, e1]; omega
  · rw [e26, e0, uI_n _ _ (by omega)]; exact g3
  · by_cases c : b = σ 1 5
    · subst c
      rw [e27, e28, e29, Fn, e3, En, uI_s, uI_s, uI_s]
      exact ⟨rfl, rfl, g5 _ (by omega) hn, fun e p0 p1 => by omega⟩
    · obtain ⟨k1, k2, k3, k4⟩ := g4 b q0 (by omega)
      rw [e27, e28, e29, e30, e3, F b q0 (by omega), E b q0 (by omega), uI_n _ _ c, uI_n _ _ c, uI_n _ _ c]
      refine ⟨k1, k2, k3, fun e p0 p1 => ?_⟩
      have i3 := (h2 b q0 (by omega)).2.2.1
      rw [T _ (by omega) (by omega)]; exact k4 e p0 p1
  · rw [e29]; exact g5 b (by omega) q1
/-- an END set -/
theorem RR_give {σ τ : av_S} {b w x y y' : Int} (h : RR σ) (hl : σ 0 6 = 0) (hb : 0 ≤ b ∧ b < σ 1 5) (hx : 0 ≤ x ∧ x < σ 1 5) (hy : 0 ≤ y ∧ y < σ 1 5) (hfx : σ 2 x = σ 2 b) (hfy : σ 2 y = σ 2 b) (hw : (w = 1 ∧ y' = -1) ∨ (w = 2 ∧ y' = y))
    (e0 : τ 0 = σ 0) (e1 : τ 1 = σ 1) (e2 : τ 2 = σ 2) (e3 : τ 3 = σ 3) (e4 : τ 4 = uI (σ 4) b w) (e5 : τ 5 = uI (uI (σ 5) (2 * b) x) (2 * b + 1) y') (e6 : τ 6 = σ 6) (e8 : τ 8 = σ 8) (e9 : τ 9 = uI (uI (σ 9) (2 * b) 0) (2 * b + 1) 0) (e24 : τ 24 = σ 24) (e25 : τ 25 = σ 25) (e26 : τ 26 = σ 26) (e27 : τ 27 = σ 27) (e28 : τ 28 = σ 28) (e29 : τ 29 = uI (σ 29) b w) (e30 : τ 30 = uI (uI (σ 30) (2 * b) x) (2 * b + 1) y) (e31 : τ 31 = σ 31) (e32 : τ 32 = uI (uI (σ 32) (2 * b) 0) (2 * b + 1) 0) (e35 : τ 35 = σ 35) (e37 : τ 37 = σ 37) : RR τ := by
  obtain ⟨⟨h1, h2, h3, h4, h5, h6, h7⟩, ⟨⟨g1, g2, g3⟩, g4, g5, g6⟩, ⟨c1, c2⟩, ⟨b1, b2, b3⟩, o1, o2⟩ := h
  refine ⟨⟨by rw [e1]; exact h1, fun a q0 q1 => ?_, by unfold iE; rw [e6, e1, e2]; exact h3, by rw [e8]; exact h4, ?_, by rw [e0]; exact h6, by rw [e0]; exact h7⟩, ⟨by rw [e26, e0, e1]; exact ⟨g1, g2, g3⟩, fun a q0 q1 => ?_, fun a q0 q1 => ?_, fun k q0 q1 => ?_⟩, ⟨by rw [e31, e8]; exact c1, fun k q0 q1 => ?_⟩, by unfold rB; rw [e24, e25, e35]; exact ⟨b1, b2, b3⟩, by rw [e0, e37]; exact o1, by rw [e0, hl]; intro z; omega⟩
  · rw [e1] at q1
    unfold iB
    rw [e1, e2, e3]
    by_cases c : a = b
    · subst c
      have i := h2 a q0 q1
      rw [e4, uI_s, e5]
      refine ⟨i.1, i.2.1, by omega, fun e p0 p1 => ?_, fun e p0 p1 p2 => ?_⟩
      · by_cases z : e = 0
        · rw [uI_n _ _ (by omega), z, Int.add_zero, uI_s]; exact ⟨hx, hfx⟩
        · rw [show e = 1 by omega, uI_s]
          rcases hw with ⟨w1, w2⟩ | ⟨w1, w2⟩
          · omega
          · rw [w2]; exact ⟨hy, hfy⟩
      · have z : e = 1 := by omega
        rw [z, uI_s]; omega
    · obtain ⟨i1, i2, i3, i4, i5⟩ := h2 a q0 q1
      rw [e4, uI_n _ _ c, e5]
      refine ⟨i1, i2, i3, fun e p0 p1 => ?_, fun e p0 p1 p2 => ?_⟩
      · rw [uI_n _ _ (by omega), uI_n _ _ (by omega)]; exact i4 e p0 p1
      · rw [uI_n _ _ (by omega), uI_n _ _ (by omega)]; exact i5 e p0 p1 p2
  · intro k q0 q1
    rw [e9]
    by_cases c : k = 2 * b + 1
    · rw [c, uI_s]; omega
    · rw [uI_n _ _ c]
      by_cases c : k = 2 * b
      · rw [c, uI_s]; omega
      · rw [uI_n _ _ c]; exact h5 k q0 q1
  · rw [e1] at q1
    rw [e27, e28, e29, e30, e2, e3, e4, e5]
    by_cases c : a = b
    · subst c
      have i := g4 a q0 q1
      rw [uI_s, uI_s]
      refine ⟨i.1, i.2.1, rfl, fun e p0 p1 => ?_⟩
      by_cases z : e = 0
      · rw [uI_n _ _ (by omega), uI_n (uI (σ 5) (2 * a) x) _ (by omega), z, Int.add_zero, uI_s, uI_s]
      · rw [show e = 1 by omega, uI_s, uI_s]
        omega
    · have i := g4 a q0 q1
      have i3 := (h2 a q0 q1).2.2.1
      rw [uI_n _ _ c, uI_n _ _ c]
      refine ⟨i.1, i.2.1, i.2.2.1, fun e p0 p1 => ?_⟩
      rw [uI_n _ _ (by omega), uI_n _ _ (by omega), uI_n _ _ (by omega), uI_n _ _ (by omega)]
      exact i.2.2.2 e p0 p1
  · rw [e1] at q0
    rw [e29, uI_n _ _ (by omega)]; exact g5 a q0 q1
  · rw [e30]
    by_cases c : k = 2 * b + 1
    · rw [c, uI_s]; omega
    · rw [uI_n _ _ c]
      by_cases c : k = 2 * b
      · rw [c, uI_s]; omega
      · rw [uI_n _ _ c]; exact g6 k q0 q1
  · rw [e32, e9]
    by_cases c : k = 2 * b + 1
    · rw [c, uI_s, uI_s]
    · rw [uI_n _ _ c, uI_n _ _ c]
      by_cases c : k = 2 * b
      · rw [c, uI_s, uI_s]
      · rw [uI_n _ _ c, uI_n _ _ c]; exact c2 k q0 q1
/-- other counts, nothing else -/
theorem RR_counts {σ τ : av_S} (h : RR σ) (b8 : bd (τ 8) 24) (b9 : bd (τ 9) 48) (q31 : ∀ b, 0 ≤ b → b < 24 → τ 31 b = τ 8 b) (q32 : ∀ k, 0 ≤ k → k < 48 → τ 32 k = τ 9 k)
    (e0 : τ 0 = σ 0) (e1 : τ 1 = σ 1) (e2 : τ 2 = σ 2) (e3 : τ 3 = σ 3) (e4 : τ 4 = σ 4) (e5 : τ 5 = σ 5) (e6 : τ 6 = σ 6) (e13 : τ 13 = σ 13) (e14 : τ 14 = σ 14) (e21 : τ 21 = σ 21) (e22 : τ 22 = σ 22) (e23 : τ 23 = σ 23) (e24 : τ 24 = σ 24) (e25 : τ 25 = σ 25) (e26 : τ 26 = σ 26) (e27 : τ 27 = σ 27) (e28 : τ 28 = σ 28) (e29 : τ 29 = σ 29) (e30 : τ 30 = σ 30) (e35 : τ 35 = σ 35) (e37 : τ 37 = σ 37) (e38 : τ 38 = σ 38) (e39 : τ 39 = σ 39) (e40 : τ 40 = σ 40) (e41 : τ 41 = σ 41) : RR τ := by
  obtain ⟨⟨h1, h2, h3, h4, h5, h6, h7⟩, g, -, b, o1, o2⟩ := h
  refine ⟨⟨by rw [e1]; exact h1, by unfold iB; rw [e1, e2, e3, e4, e5]; exact h2, by unfold iE; rw [e1, e2, e6]; exact h3, b8, b9, by rw [e0]; exact h6, by rw [e0]; exact h7⟩, ?_, ⟨q31, q32⟩, by unfold rB; rw [e24, e25, e35]; exact b, by rw [e0, e37]; exact o1, fun z => ?_⟩
  · unfold rG; rw [e0, e1, e2, e3, e4, e5, e26, e27, e28, e29, e30]; exact g
  · rw [e0] at z; exact rL_keep (o2 z) e1 e3 e4 e13 e14 e21 e22 e23 e24 e25 e26 e37 e38 e39 e40 e41
