/-! THE REFERENCE'S ORDER, by the class's chains -/
theorem mk_J {σ τ : av_S} {HS BS HD TT ln A : Int → Int} {m t : Nat} (h : RR σ) (hD : oD1 σ HS BS HD TT ln A m t) (e27 : τ 27 = σ 27) (e30 : τ 30 = σ 30) (e1 : τ 26 1 = σ 1 5) : ∀ b, 0 ≤ b → b < σ 1 5 → (jall (τ 26 1).toNat (τ 30) (τ 27) (σ 6) (fl (fun j => j) (τ 33) (τ 26 1), fl (fun _ => 0) (τ 34) (τ 26 1)) A t).1 b = (jO σ A t).1 b ∧ (jall (τ 26 1).toNat (τ 30) (τ 27) (σ 6) (fl (fun j => j) (τ 33) (τ 26 1), fl (fun _ => 0) (τ 34) (τ 26 1)) A t).2 b = (jO σ A t).2 b := by
  intro b h0 h1
  have hn := h.1.1
  have cc : (((σ 1 5).toNat : Nat) : Int) = σ 1 5 := by omega
  rw [e1]
  refine jall_congr (to := τ 30) (to' := σ 5) (fn := τ 27) (fn' := σ 2) (m := t) (fun b q0 q1 => ⟨fl_in (g := fun j => j) (f := τ 33) (k := σ 1 5) ⟨q0, by omega⟩, fl_in (g := fun _ => 0) (f := τ 34) (k := σ 1 5) ⟨q0, by omega⟩⟩) (fun i hi => ?_) t (Nat.le_refl t) b h0 (by omega)
  obtain ⟨q1, q2, -⟩ := hD.1.1 (i : Int) (by omega) (by omega)
  have g := h.2.1.2.1 (A (i : Int) / 2) (by omega) (by omega)
  have z := (h.1.2.1 (A (i : Int) / 2) (by omega) (by omega)).2.2.2.1 (A (i : Int) % 2) (by omega) q2
  have y := g.2.2.2 (A (i : Int) % 2) (by omega) q2
  rw [show 2 * (A (i : Int) / 2) + A (i : Int) % 2 = A (i : Int) by omega] at y z
  rw [e30, e27, y]
  refine ⟨⟨by omega, by omega⟩, ⟨z.1.1, by omega⟩, rfl, ?_⟩
  exact ((h.2.1.2.1 _ z.1.1 z.1.2).1).symm
theorem mk_A {σ τ : av_S} {HS BS HD TT ln A : Int → Int} {m t : Nat} (h : RR σ) (hD : oD1 σ HS BS HD TT ln A m t) (e29 : τ 29 = σ 29) (e30 : τ 30 = σ 30) (e32 : τ 32 = σ 32) (e1 : τ 26 1 = σ 1 5) : iED (mJM τ) (τ 32) A (t : Int) (2 * τ 26 1) := by
  have hn := h.1.1
  rw [e1]
  refine iED_congr hD.1 (fun q q0 q1 => ?_) (fun q q0 q1 => ?_)
  · unfold mJ mJM
    obtain ⟨g1, g2, g3, g4⟩ := h.2.1.2.1 (q / 2) (by omega) (by omega)
    have c := h.2.2.1.2 q q0 (by omega)
    have b := h.1.2.2.2.2.1 q q0 (by omega)
    rw [e29, e30, e32, g3, c]
    constructor
    · rintro ⟨a1, a2, a3⟩
      have y := g4 (q % 2) (by omega) a1
      rw [show 2 * (q / 2) + q % 2 = q by omega] at y
      rw [y]
      exact ⟨a1, by omega, a3⟩
    · rintro ⟨a1, a2, a3⟩
      have y := g4 (q % 2) (by omega) a1
      rw [show 2 * (q / 2) + q % 2 = q by omega] at y
      rw [y] at a3
      exact ⟨a1, by omega, a3⟩
  · rw [e32]; exact h.2.2.1.2 q q0 (by omega)
set_option maxRecDepth 100000 in
set_option maxHeartbeats 400000 in
theorem put1 {sc : av_sc} {d : Nat} {σ τ : av_S} {HS BS HD TT ln A : Int → Int} {m t : Nat} (h : RR σ) (hD : oD1 σ HS BS HD TT ln A m t) (hMt : iM τ) (e1 : τ 26 1 = σ 1 5) (e2 : ∀ b, 0 ≤ b → b < σ 1 5 → τ 27 b = σ 2 b ∧ τ 28 b = σ 3 b ∧ τ 31 b = σ 8 b ∧ τ 33 b = (jO σ A t).1 b) (e34 : ∀ b, 0 ≤ b → b < σ 1 5 → τ 34 b = (jO σ A t).2 b) (hEN : ∀ f, 0 ≤ f → f ≤ 3 → iEM τ f (σ 6 f)) : av_Ev sc m_M_putOrder (d + 3) false 0 0 [vR 26, vI 1] (hp τ) (fun r h => r = none ∧ ∃ PD : Int → Int, (∀ b, 0 ≤ b → b < τ 26 1 → PD b = 0 ∨ PD b = 1) ∧ h = hp (mo τ PD (fl TT (τ 37) (τ 26 1)) (sm (fun i => if (1 : Int) = 1 ∧ cold σ HS (HD i) then ln i else 0) m) (m : Int))) := by
  obtain ⟨d1, d2, ⟨d3, d4⟩, d5, d6⟩ := id hD
  have hn := h.1.1
  have cc : (((σ 1 5).toNat : Nat) : Int) = σ 1 5 := by omega
  have tn : (τ 26 1).toNat = (σ 1 5).toNat := by rw [e1]
  have hr : ∀ b, 0 ≤ b → b < τ 26 1 → (0 ≤ τ 33 b ∧ τ 33 b < τ 26 1) ∧ τ 33 (τ 33 b) = τ 33 b := by
    intro b q0 q1
    rw [e1] at q1 ⊢
    have w := (d2.1 b q0 (by omega)).1
    rw [(e2 b q0 q1).2.2.2, (e2 _ w.1 (by omega)).2.2.2]
    exact ⟨⟨w.1, by omega⟩, (cI_hd d2 q0 (by omega)).1⟩
  have hCH : ∀ b, 0 ≤ b → b < τ 26 1 → 0 ≤ τ 33 b ∧ τ 33 b < 24 := fun b q0 q1 => by have w := (hr b q0 q1).1; omega
  have hPL : ∀ b, 0 ≤ b → b < τ 26 1 → 0 ≤ τ 34 b ∧ τ 34 b < 24 := by
    intro b q0 q1
    rw [e1] at q1
    rw [e34 b q0 q1]
    have w := (d2.1 b q0 (by omega)).2.1
    have w2 := szF_0 (CH := (jO σ A t).1) (c := (jO σ A t).1 b) (σ 1 5).toNat
    omega
  have hQ : ∀ c, 0 ≤ c → c < σ 1 5 → (jO σ A t).1 c = c → (cold σ HS c ↔ ∀ b, 0 ≤ b → b < τ 26 1 → τ 33 b = c → ¬ 0 < τ 31 b ∧ b ≠ σ 6 (τ 27 b)) := by
    intro c q0 q1 q2
    rw [cold_iff h.1 hD q0 q1 q2, e1]
    constructor
    · intro w b p0 p1 p2
      obtain ⟨x1, x2, x3, x4⟩ := e2 b p0 p1
      rw [x4] at p2
      rw [x3, x1]
      exact w b p0 p1 p2
    · intro w b p0 p1 p2
      obtain ⟨x1, x2, x3, x4⟩ := e2 b p0 p1
      have v := w b p0 p1 (by rw [x4]; exact p2)
      rw [x3, x1] at v
      exact v
  have hhd : ∀ c, 0 ≤ c → c < σ 1 5 → (jO σ A t).1 c = c → (0 ≤ c ∧ c < τ 26 1) ∧ τ 33 c = c ∧ τ 34 c = 0 ∧ ∀ j, 0 ≤ j → j < c → ¬ (τ 33 j = c ∧ τ 34 j = 0) := by
    intro c q0 q1 q2
    refine ⟨by rw [e1]; exact ⟨q0, q1⟩, by rw [(e2 c q0 q1).2.2.2]; exact q2, by rw [e34 c q0 q1]; exact ((d2.1 c q0 (by omega)).2.2.1).mpr q2, fun j p0 p1 w => ?_⟩
    rw [(e2 j p0 (by omega)).2.2.2, e34 j p0 (by omega)] at w
    have v := ((d2.1 j p0 (by omega)).2.2.1).mp w.2
    omega
  have hbf : ∀ (PD OR : Int → Int) (Co Ch x y : Int), ((0 ≤ x ∧ x < τ 26 1) ∧ τ 33 x = x) → ((0 ≤ y ∧ y < τ 26 1) ∧ τ 33 y = y) → x ≠ y → av_Ev sc m_M_before (d + 2) false 0 0 [vR 26, vI x, vI y] (hp (mo τ PD OR Co Ch)) (fun r h => r = some (vI (bz (cbf σ HS BS x y))) ∧ h = hp (mo τ PD OR Co Ch)) := by
    intro PD OR Co Ch x y hx hy hxy
    rw [e1] at hx hy
    have jx : (jO σ A t).1 x = x := by rw [← (e2 x hx.1.1 hx.1.2).2.2.2]; exact hx.2
    have jy : (jO σ A t).1 y = y := by rw [← (e2 y hy.1.1 hy.1.2).2.2.2]; exact hy.2
    have k := ev_M_before (sc := sc) (dp := d) (σ := mo τ PD OR Co Ch) (c := x) (d := y) (en := σ 6) (Qc := cold σ HS x) (Qd := cold σ HS y) hMt hCH hPL hEN (hhd x hx.1.1 hx.1.2 jx) (hhd y hy.1.1 hy.1.2 jy) (hQ x hx.1.1 hx.1.2 jx) (hQ y hy.1.1 hy.1.2 jy)
    have e := bf_iff (τ := mo τ PD OR Co Ch) h.1 hD e1 e2 hx.1 hy.1 jx jy hxy
    rw [bz_eq.mpr e] at k
    exact k
  refine ev_M_putOrder (Rl := cbf σ HS BS) (Q := cold σ HS) (en := σ 6) (HD := HD) (TT := TT) (ln := ln) (m := m) hMt (fun _ => hEN) (Or.inr rfl) hr (fun _ => hbf) (fun x y z a b c => cbf_tr (d4 x a.1 (by omega)).2.1 (d4 y b.1 (by omega)).2.1 (d4 z c.1 (by omega)).2.1) (fun x y _ _ w => cbf_to w) (fun w => absurd w (by decide)) (fun w => absurd w (by decide)) ?_ (fun x y _ _ a b => cbf_as a b) (fun c hc => ?_) ?_ (fun c i hc q0 q1 => ?_) (fun c b hc q0 q1 q2 => ?_) (fun _ c hc => ?_)
  · rw [e1]; exact iS_congr d5 (fun b q0 q1 => by rw [(e2 b q0 q1).2.2.2])
  · have w := d6.1 c hc
    refine ⟨w.1, ?_⟩
    rw [tn, ← w.2]
    exact szF_congr (CH := τ 33) (CH' := (jO σ A t).1) (fun b q0 q1 => (e2 b q0 (by omega)).2.2.2) _
  · rw [e1, d6.2.1, cc]
  · obtain ⟨w1, w2, w3⟩ := d6.2.2.1 c i hc q0 q1
    rw [e1, (e2 _ w1.1 (by omega)).2.2.2, e34 _ w1.1 (by omega)]
    exact ⟨⟨w1.1, by omega⟩, w2, w3⟩
  · rw [e1] at q1
    rw [(e2 b q0 q1).2.2.2] at q2
    rw [e34 b q0 q1]
    exact d6.2.2.2 c b hc q0 (by omega) q2
  · obtain ⟨w1, w2⟩ := d5.1 (c : Int) (by omega) (by omega)
    exact hQ _ w1.1 w1.2 w2
set_option maxRecDepth 100000 in
set_option maxHeartbeats 400000 in
theorem put0 {sc : av_sc} {d : Nat} {τ : av_S} (hMt : iM τ) (e : ∀ b, 0 ≤ b → b < τ 26 1 → τ 33 b = b ∧ τ 34 b = 0) : av_Ev sc m_M_putOrder (d + 3) false 0 0 [vR 26, vI 0] (hp τ) (fun r h => r = none ∧ ∃ PD : Int → Int, (∀ b, 0 ≤ b → b < τ 26 1 → PD b = 0 ∨ PD b = 1) ∧ h = hp (mo τ PD (fl (fun j => j) (τ 37) (τ 26 1)) (sm (fun i => if (0 : Int) = 1 ∧ False then (fun _ => 1) i else 0) (τ 26 1).toNat) (((τ 26 1).toNat : Nat) : Int))) := by
  have hn := hMt.1
  have cc : (((τ 26 1).toNat : Nat) : Int) = τ 26 1 := by omega
  have hT := tO_id (n := (τ 26 1).toNat) (CH := τ 33) (PL := τ 34) (fun b q0 q1 => e b q0 (by omega))
  obtain ⟨t1, t2, t3, t4⟩ := hT
  rw [cc] at t2 t3 t4
  refine ev_M_putOrder (Rl := fun x y : Int => x < y) (Q := fun _ => False) (en := fun _ => 0) (HD := fun j => j) (TT := fun j => j) (ln := fun _ => 1) (m := (τ 26 1).toNat) hMt (fun w => absurd w (by decide)) (Or.inl rfl) (fun b q0 q1 => ?_) (fun w => absurd w (by decide)) (fun x y z _ _ _ a b => by omega) (fun x y _ _ a b => by omega) (fun _ b q0 q1 => (e b q0 q1).1) (fun _ x y w => w) ?_ (fun x y _ _ a b => by omega) (fun c hc => t1 c hc) t2 t3 t4 (fun w => absurd w (by decide))
  · rw [(e b q0 q1).1, (e b q0 q1).1]; exact ⟨⟨q0, q1⟩, rfl⟩
  · refine ⟨fun i a b => ⟨show 0 ≤ i ∧ i < τ 26 1 from ⟨a, by omega⟩, (e i a (by omega)).1⟩, fun q a b _ => ⟨q, a, by omega, rfl⟩, fun i j a b _ => b, by omega, by omega⟩
