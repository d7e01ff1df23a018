/-! WHAT THE REFERENCE'S CALLS NEED, out of RR -/
theorem RR_L {σ : av_S} (h : RR σ) : σ 26 5 = 1 → iLM σ := fun z => (h.2.2.2.2.2 (by rw [← h.2.1.1.2.2]; exact z)).2.2.1
theorem RR_O {σ : av_S} (h : RR σ) : ∀ k, 0 ≤ k → k < σ 26 1 → 0 ≤ σ 37 k ∧ σ 37 k < σ 26 1 := by
  intro k q0 q1
  have g2 := h.2.1.1.2.1
  have hn := h.1.1
  rw [g2] at q1 ⊢
  rcases h.1.2.2.2.2.2.1 with z | z
  · rw [h.2.2.2.2.1 z k q0 (by omega)]; omega
  · obtain ⟨l1, l2, -⟩ := h.2.2.2.2.2 z
    rw [l2 k q0 q1]; exact l1.1 k q0 q1
theorem RR_P {σ : av_S} {b : Int} (h : RR σ) : σ 26 5 = 1 → 0 ≤ b → b < σ 26 1 → ∃ p : Nat, (p : Int) < σ 26 1 ∧ σ 37 (p : Int) = b ∧ ∀ j, 0 ≤ j → j < (p : Int) → σ 37 j ≠ b := by
  intro z q0 q1
  have g2 := h.2.1.1.2.1
  rw [g2] at q1 ⊢
  obtain ⟨l1, l2, -⟩ := h.2.2.2.2.2 (by rw [← h.2.1.1.2.2]; exact z)
  obtain ⟨p, p1, p2⟩ := l1.2.2 b q0 q1
  refine ⟨p, p1, by rw [l2 _ (by omega) p1]; exact p2, fun j j0 j1 e => ?_⟩
  rw [l2 j j0 (by omega)] at e
  exact l1.2.1 j (p : Int) j0 j1 p1 (by rw [e, p2])
theorem c_address {σ : av_S} {b : Int} {p : Nat} (h : RR σ) (hc : σ 26 5 = 1 ∧ 0 ≤ b ∧ b < σ 26 1) (hp : (p : Int) < σ 26 1) (hb : σ 37 (p : Int) = b) : sm (fun k => uM σ (σ 37 k)) p = aAddress σ b := by
  have g2 := h.2.1.1.2.1
  have g3 := h.2.1.1.2.2
  rw [g2, g3] at hc
  rw [g2] at hp
  unfold aAddress
  rw [if_pos hc]
  obtain ⟨l1, l2, -⟩ := h.2.2.2.2.2 hc.1
  rw [l2 _ (by omega) hp] at hb
  exact c_addr h hc.1 hp hb
theorem c_addressNo {σ : av_S} {b : Int} (h : RR σ) (hc : ¬ (σ 26 5 = 1 ∧ 0 ≤ b ∧ b < σ 26 1)) : aAddress σ b = -3 := by
  rw [h.2.1.1.2.1, h.2.1.1.2.2] at hc
  exact if_neg hc
set_option maxRecDepth 100000 in
set_option maxHeartbeats 400000 in
theorem ev_M_layoutOk {sc : av_sc} {d : Nat} {σ σ1 : av_S} {md : Int} (h : RR σ) (hok : σ 1 5 ≠ 0 ∧ (md = 0 ∨ md = 1)) (hL : cLy σ σ1 md) : av_Ev sc m_M_layout (d + 4) false 0 0 [vR 26, vI md] (hp σ1) (fun r h => r = some (vI (σ1 21 4)) ∧ ∃ τ : av_S, RR τ ∧ h = hp τ) := by
  rcases hok with ⟨h1, rfl | rfl⟩
  · exact ev_M_layout0 h hL h1
  · exact ev_M_layout1 h hL h1
theorem and15 (x : Int) : ∃ z : Int, 0 ≤ z ∧ z ≤ 15 ∧ Int32.ofInt x &&& Int32.ofInt 15 = Int32.ofInt z := by
  have hb : (Int32.ofInt x &&& Int32.ofInt 15).toBitVec.toNat ≤ 15 := by
    rw [Int32.toBitVec_and, BitVec.toNat_and]
    exact Nat.le_trans Nat.and_le_right (by decide)
  have ht : (Int32.ofInt x &&& Int32.ofInt 15).toInt = ((Int32.ofInt x &&& Int32.ofInt 15).toBitVec.toNat : Int) := BitVec.toInt_eq_toNat_of_lt (by omega)
  exact ⟨(Int32.ofInt x &&& Int32.ofInt 15).toInt, by omega, by omega, (Int32.ofInt_toInt _).symm⟩
