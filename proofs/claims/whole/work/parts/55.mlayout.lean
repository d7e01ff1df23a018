theorem iM_keep2 {σ τ : av_S} (h : iM σ) (e0 : τ 26 0 = σ 26 0) (e1 : τ 26 1 = σ 26 1) (e5 : τ 26 5 = 1) (e27 : τ 27 = σ 27) (e28 : τ 28 = σ 28) (e29 : τ 29 = σ 29) (e30 : τ 30 = σ 30) (e31 : τ 31 = σ 31) (e32 : τ 32 = σ 32) : iM τ := by
  obtain ⟨h1, h2, h3, h4, h5, h6⟩ := h
  refine ⟨by rw [e1]; exact h1, ?_, by rw [e31]; exact h3, by rw [e32]; exact h4, by rw [e5]; omega, by rw [e0]; exact h6⟩
  unfold iMB
  rw [e1, e27, e28, e29, e30]
  exact h2
theorem iEM_keep {σ τ : av_S} {f e : Int} (h : iEM σ f e) (e1 : τ 26 1 = σ 26 1) (e27 : τ 27 = σ 27) : iEM τ f e := by
  unfold iEM at h ⊢
  rw [e1, e27]
  exact h
theorem ps_ex {τ : av_S} (h : iOM τ) : ∃ ps : Int → Nat, iPs τ ps := by
  have K : ∀ b : Int, ∃ p : Nat, 0 ≤ b → b < τ 26 1 → ((p : Nat) : Int) < τ 26 1 ∧ τ 37 ((p : Nat) : Int) = b ∧ ∀ j, 0 ≤ j → j < ((p : Nat) : Int) → τ 37 j ≠ b := by
    intro b
    by_cases c : 0 ≤ b ∧ b < τ 26 1
    · obtain ⟨k, k1, k2⟩ := h.2.2 b c.1 c.2
      exact ⟨k, fun _ _ => ⟨k1, k2, fun j j0 j1 e => h.2.1 j (k : Int) j0 j1 k1 (by rw [e, k2])⟩⟩
    · exact ⟨0, fun a b => absurd ⟨a, b⟩ c⟩
  obtain ⟨ps, hps⟩ := Classical.axiomOfChoice K
  exact ⟨ps, hps⟩
theorem lay_mid {σ σ1 τ : av_S} {BR TG LN TU : Int → Int} {md : Int} (h : RR σ) (hL : cLy σ σ1 md)
    (hk : ∀ k : Nat, k ≤ 25 ∨ (27 ≤ k ∧ k ≤ 32) → τ k = σ1 k) (t1 : τ 26 1 = σ 26 1) (t37 : ∀ k, 0 ≤ k → k < σ 1 5 → τ 37 k = σ1 14 k) (hM : plM τ BR TG LN TU (τ 26 1).toNat) :
    (∀ b, 0 ≤ b → b < τ 26 1 → (0 ≤ BR b ∧ BR b ≤ 2) ∧ (TU b = 0 ∨ TU b = 1)) ∧ (∀ k, 0 ≤ k → k < 2 * τ 26 1 → k % 2 < BR (k / 2) → 0 ≤ TG k ∧ TG k < τ 26 1) ∧ bLN τ LN := by
  obtain ⟨l1, l2, l3, l4, U, mm, p1, -⟩ := hL
  obtain ⟨⟨h1, h2, h3, h4, h5, h6, h7⟩, ⟨⟨g1, g2, g3⟩, g4, g5, g6⟩, -⟩ := h
  have q1 : σ1 1 = σ 1 := l1 1 (by omega)
  have q3 : σ1 3 = σ 3 := l1 3 (by omega)
  have q4 : σ1 4 = σ 4 := l1 4 (by omega)
  have q5 : σ1 5 = σ 5 := l1 5 (by omega)
  have q28 : τ 28 = σ 28 := (hk 28 (by omega)).trans (l1 28 (by omega))
  have q29 : τ 29 = σ 29 := (hk 29 (by omega)).trans (l1 29 (by omega))
  have q30 : τ 30 = σ 30 := (hk 30 (by omega)).trans (l1 30 (by omega))
  have n1 : σ1 1 5 = σ 1 5 := by rw [q1]
  have rst : rST σ1 τ := by
    refine ⟨by rw [t1, g2, q1], by rw [q1]; exact h1, fun b a c => ?_, fun k a c => t37 k a (by omega), l4.1⟩
    rw [q1] at c
    rw [q28, q29, q3, q4]
    exact ⟨(g4 b a c).2.1, (g4 b a c).2.2.1⟩
  have rto : rTO σ1 τ := by
    intro b a c
    rw [q1] at c
    rw [q4, q5, q30, q1]
    refine ⟨(h2 b a c).2.2.1, fun e x0 x1 => ⟨(g4 b a c).2.2.2 e x0 x1, ((h2 b a c).2.2.2.1 e x0 x1).1⟩⟩
  have et : (τ 26 1).toNat = (σ1 1 5).toNat := by rw [t1, g2, q1]
  rw [et] at hM
  obtain ⟨r1, r2, r3, r4, r5⟩ := plans rst l4 rto p1 hM
  have tt : τ 26 1 = σ1 1 5 := by rw [t1, g2, q1]
  rw [tt]
  refine ⟨fun b a c => ?_, fun k a c d => ?_, r3⟩
  · obtain ⟨v1, v2, v3, v4⟩ := r4 b a c
    exact ⟨v2, v3⟩
  · have w := r2 (k / 2) (by omega) (by omega)
    rcases Int.emod_two_eq k with z | z
    · have x := w.1 (by omega)
      rw [show 2 * (k / 2) = k by omega] at x
      exact x.2
    · have x := w.2 (by omega)
      rw [show 2 * (k / 2) + 1 = k by omega] at x
      exact x.2
set_option maxRecDepth 100000 in
set_option maxHeartbeats 400000 in
theorem ev_M_layout1 {sc : av_sc} {d : Nat} {σ : av_S} {σ1 : av_S} (h : RR σ) (hL : cLy σ σ1 1) (hne : σ 1 5 ≠ 0) : av_Ev sc m_M_layout (d + 4) false 0 0 [vR 26, vI 1] (hp σ1) (fun r h => r = some (vI (σ1 21 4)) ∧ ∃ τ : av_S, RR τ ∧ h = hp τ) := by
  have hM := RR_M h
  have g := h.2.1.1
  have g2 := g.2.1
  have hn := h.1.1
  have k26 : σ1 26 = σ 26 := hL.1 26 (by omega)
  have k27 : σ1 27 = σ 27 := hL.1 27 (by omega)
  have k28 : σ1 28 = σ 28 := hL.1 28 (by omega)
  have k29 : σ1 29 = σ 29 := hL.1 29 (by omega)
  have k30 : σ1 30 = σ 30 := hL.1 30 (by omega)
  have k31 : σ1 31 = σ 31 := hL.1 31 (by omega)
  have k32 : σ1 32 = σ 32 := hL.1 32 (by omega)
  have k35 : σ1 35 = σ 35 := hL.1 35 (by omega)
  have k261 : σ1 26 1 = σ 1 5 := by rw [k26]; exact g2
  have hD0 := hL.2.2.1
  rcases hD0 with ⟨z, -⟩ | ⟨-, HS, BS, HD, TT, ln, A, m, t, hD, v1, v2, v3⟩
  · exact absurd z (by decide)
  have hT0 : ∀ T0 : av_S, T0 = up σ1 26 (uI (uI (σ1 26) 5 1) 2 0) → iM T0 ∧ T0 26 1 = σ 1 5 ∧ (∀ f, 0 ≤ f → f ≤ 3 → iEM T0 f (σ 6 f)) ∧ (∀ k, 0 ≤ k → k < 48 → 0 ≤ T0 30 k ∧ T0 30 k < 24) := by
    intro T0 e
    subst e
    refine ⟨iM_keep2 hM (show σ1 26 0 = σ 26 0 by rw [k26]) (show σ1 26 1 = σ 26 1 by rw [k26]) rfl k27 k28 k29 k30 k31 k32, k261, fun f q0 q1 => iEM_keep (RR_EM h f q0 q1) (show σ1 26 1 = σ 26 1 by rw [k26]) k27, ?_⟩
    show ∀ k, 0 ≤ k → k < 48 → 0 ≤ σ1 30 k ∧ σ1 30 k < 24
    rw [k30]; exact h.2.1.2.2.2
  obtain ⟨i0, n0, en0, to0⟩ := hT0 _ rfl
  clear hT0
  have hTK0 : ∀ k, 0 ≤ k → k < 48 → (up σ1 26 (uI (uI (σ1 26) 5 1) 2 0)) 35 k = 0 ∨ (up σ1 26 (uI (uI (σ1 26) 5 1) 2 0)) 35 k = 1 := by
    show ∀ k, 0 ≤ k → k < 48 → σ1 35 k = 0 ∨ σ1 35 k = 1
    rw [k35]; exact h.2.2.2.1.2.2
  have hy0 : ∀ k, 0 ≤ k → k < 2 * (up σ1 26 (uI (uI (σ1 26) 5 1) 2 0)) 26 1 → k % 2 < (up σ1 26 (uI (uI (σ1 26) 5 1) 2 0)) 29 (k / 2) → (up σ1 26 (uI (uI (σ1 26) 5 1) 2 0)) 30 k < (up σ1 26 (uI (uI (σ1 26) 5 1) 2 0)) 26 1 ∧ (up σ1 26 (uI (uI (σ1 26) 5 1) 2 0)) 27 (k / 2) = (up σ1 26 (uI (uI (σ1 26) 5 1) 2 0)) 27 ((up σ1 26 (uI (uI (σ1 26) 5 1) 2 0)) 30 k) := by
    show ∀ k, 0 ≤ k → k < 2 * σ1 26 1 → k % 2 < σ1 29 (k / 2) → σ1 30 k < σ1 26 1 ∧ σ1 27 (k / 2) = σ1 27 (σ1 30 k)
    rw [k261, k29, k30, k27]
    intro k q0 q1 q2
    have gg := h.2.1.2.1 (k / 2) (by omega) (by omega)
    rw [gg.2.2.1] at q2
    have y := gg.2.2.2 (k % 2) (by omega) q2
    have z := (h.1.2.1 (k / 2) (by omega) (by omega)).2.2.2.1 (k % 2) (by omega) q2
    rw [show 2 * (k / 2) + k % 2 = k by omega] at y z
    rw [y, gg.1, (h.2.1.2.1 _ z.1.1 z.1.2).1]
    exact ⟨z.1.2, z.2.symm⟩
  have hA0 := mk_A (τ := up σ1 26 (uI (uI (σ1 26) 5 1) 2 0)) h hD k29 k30 k32 k261
  refine av_ev rfl rfl (Nat.le_of_ble_eq_true rfl) rfl ?_
  refine rn_iload_n 1 d_M_layout_0 rfl rfl ?_
  refine rn_if_eq 9 4 d_M_layout_1 rfl rfl ⟨by decide, by decide⟩ (fun c_1 => ?_) (fun c_1 => ?_)
  · exact absurd c_1 (by decide)
  · refine rn_iload_n 5 d_M_layout_4 rfl rfl ?_
    refine rn_iconst 6 d_M_layout_5 rfl ?_
    refine rn_icmp_ne 16 9 d_M_layout_6 rfl rfl ⟨by decide, by decide⟩ ⟨by decide, by decide⟩ (fun c_6 => ?_) (fun c_6 => ?_)
    · exact absurd rfl c_6
    · refine rn_aload_n 10 d_M_layout_9 rfl rfl ?_
      refine rn_getfield 13 d_M_layout_10 rfl fd_M_7 rfl rfl ?_
      refine rn_if_ne 18 16 d_M_layout_13 rfl rfl ⟨by omega, by omega⟩ (fun c_13 => ?_) (fun c_13 => ?_)
      · refine rn_aload_n 19 d_M_layout_18 rfl rfl ?_
        refine rn_iconst 20 d_M_layout_19 rfl ?_
        refine rn_putfield 23 d_M_layout_20 rfl fp_M_22 rfl (Nat.le_of_ble_eq_true rfl) (av_fitZ (by omega)) (hs_26_5 _ _) ?_
        refine rn_aload_n 24 d_M_layout_23 rfl rfl ?_
        refine rn_iconst 25 d_M_layout_24 rfl ?_
        refine rn_putfield 28 d_M_layout_25 rfl fp_M_13 rfl (Nat.le_of_ble_eq_true rfl) av_fitI (hs_26_2 _ _) ?_
        change av_Rn _ _ _ _ _ _ _ _ _ _ (hp (up σ1 26 (uI (uI (σ1 26) 5 1) 2 0))) _
        refine rn_aload_n 29 d_M_layout_28 rfl rfl ?_
        refine rn_iload_n 30 d_M_layout_29 rfl rfl ?_
        refine rn_callV1 33 d_M_layout_30 rfl cw_M_128 rfl (Nat.le_of_ble_eq_true rfl) (ev_M_makeChains1 (σ := up σ1 26 (uI (uI (σ1 26) 5 1) 2 0)) (en := σ 6) (A := A) (m := t) i0 en0 to0 hy0 hTK0 hA0) ?_
        rintro _ _ ⟨rfl, TK, ed, hTK1, rfl⟩
        generalize eT0 : up σ1 26 (uI (uI (σ1 26) 5 1) 2 0) = T0 at *
        generalize eT1 : mc T0 (jall (T0 26 1).toNat (T0 30) (T0 27) (σ 6) (fl (fun j => j) (T0 33) (T0 26 1), fl (fun _ => 0) (T0 34) (T0 26 1)) A t).1 (jall (T0 26 1).toNat (T0 30) (T0 27) (σ 6) (fl (fun j => j) (T0 33) (T0 26 1), fl (fun _ => 0) (T0 34) (T0 26 1)) A t).2 TK ed = T1
        have jj := mk_J (τ := T0) h hD (by rw [← eT0]; exact k27) (by rw [← eT0]; exact k30) n0
        have c261 : T1 26 1 = σ 1 5 := by rw [← eT1]; exact n0
        have hI1 : iM T1 := by rw [← eT1]; exact i0
        have hEN1 : ∀ f, 0 ≤ f → f ≤ 3 → iEM T1 f (σ 6 f) := by rw [← eT1]; exact en0
        have x2 : ∀ b, 0 ≤ b → b < σ 1 5 → T1 27 b = σ 2 b ∧ T1 28 b = σ 3 b ∧ T1 31 b = σ 8 b ∧ T1 33 b = (jO σ A t).1 b := by
          intro b q0 q1
          have gg := h.2.1.2.1 b q0 q1
          refine ⟨?_, ?_, ?_, ?_⟩
          · rw [← eT1, ← eT0]; show σ1 27 b = _; rw [k27]; exact gg.1
          · rw [← eT1, ← eT0]; show σ1 28 b = _; rw [k28]; exact gg.2.1
          · rw [← eT1, ← eT0]; show σ1 31 b = _; rw [k31]; exact h.2.2.1.1 b q0 (by omega)
          · rw [← eT1]; exact (jj b q0 q1).1
        have x34 : ∀ b, 0 ≤ b → b < σ 1 5 → T1 34 b = (jO σ A t).2 b := fun b q0 q1 => by rw [← eT1]; exact (jj b q0 q1).2
        refine rn_aload_n 34 d_M_layout_33 rfl rfl ?_
        refine rn_iload_n 35 d_M_layout_34 rfl rfl ?_
        refine rn_callV1 38 d_M_layout_35 rfl cw_M_132 rfl (Nat.le_of_ble_eq_true rfl) (put1 (τ := T1) h hD hI1 c261 x2 x34 hEN1) ?_
        rintro _ _ ⟨rfl, PD, hPD, rfl⟩
        generalize eT2 : mo T1 PD (fl TT (T1 37) (T1 26 1)) (sm (fun i => if (1 : Int) = 1 ∧ cold σ HS (HD i) then ln i else 0) m) (m : Int) = T2
        refine rn_iconst 39 d_M_layout_38 rfl ?_
        refine rn_istore_n 40 d_M_layout_39 rfl (by decide) rfl rfl ?_
        rw [← eT1] at eT2
        have hI2 : iM T2 := by rw [← eT2]; exact i0
        have c261b : T2 26 1 = σ 1 5 := by rw [← eT2]; exact n0
        have hTO2 : ∀ k, 0 ≤ k → k < 48 → 0 ≤ T2 30 k ∧ T2 30 k < 24 := by rw [← eT2]; exact to0
        have P := oD1_perm hn.1 hD
        have e37 : T2 37 = fl TT (T1 37) (T1 26 1) := by rw [← eT2, eT1]; rfl
        have f37 : ∀ k, 0 ≤ k → k < σ 1 5 → T2 37 k = TT k := fun k q0 q1 => by rw [e37, c261]; exact fl_in ⟨q0, q1⟩
        have hO2 : iOM T2 := by
          unfold iOM
          rw [c261b]
          refine ⟨fun k a b => by rw [f37 k a b]; exact P.1 k a b, fun i j a b c => by rw [f37 i a (by omega), f37 j (by omega) c]; exact P.2.1 i j a b c, fun b a c => ?_⟩
          obtain ⟨k, k1, k2⟩ := P.2.2 b a c
          exact ⟨k, k1, by rw [f37 _ (by omega) k1]; exact k2⟩
        have t0 : T2 26 0 = σ 26 0 := by rw [← eT2, ← eT0]; show σ1 26 0 = σ 26 0; rw [k26]
        have t1 : T2 26 1 = σ 26 1 := by rw [c261b, g2]
        have t5 : T2 26 5 = 1 := by rw [← eT2, ← eT0]; rfl
        have t3 : T2 26 3 = σ1 13 2 := by
          have : T2 26 3 = (sm (fun i => if (1 : Int) = 1 ∧ cold σ HS (HD i) then ln i else 0) m) := by rw [← eT2]; rfl
          rw [this, v2]
          refine sm_congr m (fun j hj => ?_)
          by_cases q : cold σ HS (HD (j : Int))
          · rw [if_pos ⟨rfl, q⟩, if_pos q]
          · rw [if_neg (fun z => q z.2), if_neg q]
        have t4 : T2 26 4 = σ1 13 1 := by rw [v1, ← eT2]; rfl
        have t35 : ∀ k, 0 ≤ k → k < 48 → T2 35 k = 0 ∨ T2 35 k = 1 := by rw [← eT2]; exact hTK1
        have t37 : ∀ k, 0 ≤ k → k < σ 1 5 → T2 37 k = σ1 14 k := fun k q0 q1 => by rw [f37 k q0 q1, v3 k q0 q1]
        obtain ⟨ps, hps⟩ := ps_ex hO2
        have hk2 : ∀ k : Nat, k ≤ 25 ∨ (27 ≤ k ∧ k ≤ 32) → T2 k = σ1 k := by
          intro k hk
          rw [← eT2]
          unfold mo mc
          rw [up_n _ _ (by omega), up_n _ _ (by omega), up_n _ _ (by omega), up_n _ _ (by omega), up_n _ _ (by omega), up_n _ _ (by omega), up_n _ _ (by omega), ← eT0, up_n _ _ (by omega)]
        change av_Rn _ _ _ _ _ _ _ _ _ _ (hp (rS T2 (T2 37) (T2 38) (T2 39) (T2 40) (T2 41) (T2 42))) _
        refine brM_loop (σ := T2) hI2 hO2 hTO2 (fun BR TG LN TU hM => ?_) (T2 26 1).toNat 0 (T2 38) (T2 39) (T2 40) (T2 41) (by have := hI2.1; omega) (fun j hj => absurd hj (Nat.not_lt_zero j))
        obtain ⟨w1, w2, w3⟩ := lay_mid h hL hk2 t1 t37 hM
        have hs0 := shM_0 LN (2 * T2 26 1).toNat
        change av_Rn _ _ _ _ _ _ _ _ _ _ (hp (rE T2 BR TG LN TU (T2 42) (T2 26 2))) _
        refine lenM_loop (σ := T2) (ps := ps) hI2 hO2 hps w1 w2 ((shM LN (2 * T2 26 1).toNat).toNat + 1) LN (T2 42) (T2 26 2) (by omega) w3 (fun m' V GR ed hR hV hg => ?_)
        obtain ⟨a, b⟩ := lay_end (GR := GR) (ed := ed) h hL hk2 t0 t1 t5 t3 t4 t35 t37 hps hM hR hV hg
        exact ⟨by rw [a], _, b, rfl⟩
      · omega
set_option maxRecDepth 100000 in
set_option maxHeartbeats 400000 in
theorem ev_M_layout0 {sc : av_sc} {d : Nat} {σ : av_S} {σ1 : av_S} (h : RR σ) (hL : cLy σ σ1 0) (hne : σ 1 5 ≠ 0) : av_Ev sc m_M_layout (d + 4) false 0 0 [vR 26, vI 0] (hp σ1) (fun r h => r = some (vI (σ1 21 4)) ∧ ∃ τ : av_S, RR τ ∧ h = hp τ) := by
  have hM := RR_M h
  have g := h.2.1.1
  have g2 := g.2.1
  have hn := h.1.1
  have k26 : σ1 26 = σ 26 := hL.1 26 (by omega)
  have k27 : σ1 27 = σ 27 := hL.1 27 (by omega)
  have k28 : σ1 28 = σ 28 := hL.1 28 (by omega)
  have k29 : σ1 29 = σ 29 := hL.1 29 (by omega)
  have k30 : σ1 30 = σ 30 := hL.1 30 (by omega)
  have k31 : σ1 31 = σ 31 := hL.1 31 (by omega)
  have k32 : σ1 32 = σ 32 := hL.1 32 (by omega)
  have k35 : σ1 35 = σ 35 := hL.1 35 (by omega)
  have k261 : σ1 26 1 = σ 1 5 := by rw [k26]; exact g2
  have hD0 := hL.2.2.1
  rcases hD0 with ⟨-, v1, v2, v3⟩ | ⟨z, -⟩
  case inr => exact absurd z (by decide)
  have hT0 : ∀ T0 : av_S, T0 = up σ1 26 (uI (uI (σ1 26) 5 1) 2 0) → iM T0 ∧ T0 26 1 = σ 1 5 ∧ (∀ f, 0 ≤ f → f ≤ 3 → iEM T0 f (σ 6 f)) ∧ (∀ k, 0 ≤ k → k < 48 → 0 ≤ T0 30 k ∧ T0 30 k < 24) := by
    intro T0 e
    subst e
    refine ⟨iM_keep2 hM (show σ1 26 0 = σ 26 0 by rw [k26]) (show σ1 26 1 = σ 26 1 by rw [k26]) rfl k27 k28 k29 k30 k31 k32, k261, fun f q0 q1 => iEM_keep (RR_EM h f q0 q1) (show σ1 26 1 = σ 26 1 by rw [k26]) k27, ?_⟩
    show ∀ k, 0 ≤ k → k < 48 → 0 ≤ σ1 30 k ∧ σ1 30 k < 24
    rw [k30]; exact h.2.1.2.2.2
  obtain ⟨i0, n0, en0, to0⟩ := hT0 _ rfl
  clear hT0
  have hTK0 : ∀ k, 0 ≤ k → k < 48 → (up σ1 26 (uI (uI (σ1 26) 5 1) 2 0)) 35 k = 0 ∨ (up σ1 26 (uI (uI (σ1 26) 5 1) 2 0)) 35 k = 1 := by
    show ∀ k, 0 ≤ k → k < 48 → σ1 35 k = 0 ∨ σ1 35 k = 1
    rw [k35]; exact h.2.2.2.1.2.2
  refine av_ev rfl rfl (Nat.le_of_ble_eq_true rfl) rfl ?_
  refine rn_iload_n 1 d_M_layout_0 rfl rfl ?_
  refine rn_if_eq 9 4 d_M_layout_1 rfl rfl ⟨by decide, by decide⟩ (fun c_1 => ?_) (fun c_1 => ?_)
  · refine rn_aload_n 10 d_M_layout_9 rfl rfl ?_
    refine rn_getfield 13 d_M_layout_10 rfl fd_M_7 rfl rfl ?_
    refine rn_if_ne 18 16 d_M_layout_13 rfl rfl ⟨by omega, by omega⟩ (fun c_13 => ?_) (fun c_13 => ?_)
    · refine rn_aload_n 19 d_M_layout_18 rfl rfl ?_
      refine rn_iconst 20 d_M_layout_19 rfl ?_
      refine rn_putfield 23 d_M_layout_20 rfl fp_M_22 rfl (Nat.le_of_ble_eq_true rfl) (av_fitZ (by omega)) (hs_26_5 _ _) ?_
      refine rn_aload_n 24 d_M_layout_23 rfl rfl ?_
      refine rn_iconst 25 d_M_layout_24 rfl ?_
      refine rn_putfield 28 d_M_layout_25 rfl fp_M_13 rfl (Nat.le_of_ble_eq_true rfl) av_fitI (hs_26_2 _ _) ?_
      change av_Rn _ _ _ _ _ _ _ _ _ _ (hp (up σ1 26 (uI (uI (σ1 26) 5 1) 2 0))) _
      refine rn_aload_n 29 d_M_layout_28 rfl rfl ?_
      refine rn_iload_n 30 d_M_layout_29 rfl rfl ?_
      refine rn_callV1 33 d_M_layout_30 rfl cw_M_128 rfl (Nat.le_of_ble_eq_true rfl) (ev_M_makeChains0 (σ := up σ1 26 (uI (uI (σ1 26) 5 1) 2 0)) i0.1) ?_
      rintro _ _ ⟨rfl, rfl⟩
      generalize eT0 : up σ1 26 (uI (uI (σ1 26) 5 1) 2 0) = T0 at *
      generalize eT1 : mc T0 (fl (fun j => j) (T0 33) (T0 26 1)) (fl (fun _ => 0) (T0 34) (T0 26 1)) (fl (fun _ => 0) (T0 35) (T0 26 1 * 2)) (T0 26 2) = T1
      have c261 : T1 26 1 = σ 1 5 := by rw [← eT1]; exact n0
      have hI1 : iM T1 := by rw [← eT1]; exact i0
      have x2 : ∀ b, 0 ≤ b → b < T1 26 1 → T1 33 b = b ∧ T1 34 b = 0 := by
        intro b q0 q1
        rw [c261] at q1
        rw [← eT1]
        show fl (fun j => j) (T0 33) (T0 26 1) b = b ∧ fl (fun _ => 0) (T0 34) (T0 26 1) b = 0
        rw [n0]
        exact ⟨fl_in ⟨q0, q1⟩, fl_in ⟨q0, q1⟩⟩
      refine rn_aload_n 34 d_M_layout_33 rfl rfl ?_
      refine rn_iload_n 35 d_M_layout_34 rfl rfl ?_
      refine rn_callV1 38 d_M_layout_35 rfl cw_M_132 rfl (Nat.le_of_ble_eq_true rfl) (put0 (τ := T1) hI1 x2) ?_
      rintro _ _ ⟨rfl, PD, hPD, rfl⟩
      generalize eT2 : mo T1 PD (fl (fun j => j) (T1 37) (T1 26 1)) (sm (fun i => if (0 : Int) = 1 ∧ False then (fun _ => 1) i else 0) (T1 26 1).toNat) (((T1 26 1).toNat : Nat) : Int) = T2
      refine rn_iconst 39 d_M_layout_38 rfl ?_
      refine rn_istore_n 40 d_M_layout_39 rfl (by decide) rfl rfl ?_
      have eT2c := eT2
      rw [← eT1] at eT2
      have hI2 : iM T2 := by rw [← eT2]; exact i0
      have c261b : T2 26 1 = σ 1 5 := by rw [← eT2]; exact n0
      have hTO2 : ∀ k, 0 ≤ k → k < 48 → 0 ≤ T2 30 k ∧ T2 30 k < 24 := by rw [← eT2]; exact to0
      have e37 : T2 37 = fl (fun j => j) (T1 37) (T1 26 1) := by rw [← eT2c]; rfl
      have f37 : ∀ k, 0 ≤ k → k < σ 1 5 → T2 37 k = k := fun k q0 q1 => by rw [e37, c261]; exact fl_in ⟨q0, q1⟩
      have hO2 : iOM T2 := by
        unfold iOM
        rw [c261b]
        refine ⟨fun k a b => by rw [f37 k a b]; exact ⟨a, b⟩, fun i j a b c => by rw [f37 i a (by omega), f37 j (by omega) c]; omega, fun b a c => ?_⟩
        exact ⟨b.toNat, by omega, by rw [f37 _ (by omega) (by omega)]; omega⟩
      have t0 : T2 26 0 = σ 26 0 := by rw [← eT2, ← eT0]; show σ1 26 0 = σ 26 0; rw [k26]
      have t1 : T2 26 1 = σ 26 1 := by rw [c261b, g2]
      have t5 : T2 26 5 = 1 := by rw [← eT2, ← eT0]; rfl
      have t3 : T2 26 3 = σ1 13 2 := by
        have : T2 26 3 = (sm (fun i => if (0 : Int) = 1 ∧ False then (fun _ => 1) i else 0) (T1 26 1).toNat) := by rw [← eT2c]; rfl
        rw [this, v2]
        exact (sm_congr (g := fun _ => 0) _ (fun j hj => if_neg (fun z : (0 : Int) = 1 ∧ False => z.2))).trans (sm_add0 _)
      have t4 : T2 26 4 = σ1 13 1 := by
        have : T2 26 4 = (((T1 26 1).toNat : Nat) : Int) := by rw [← eT2c]; rfl
        rw [this, v1, c261]; omega
      have t35 : ∀ k, 0 ≤ k → k < 48 → T2 35 k = 0 ∨ T2 35 k = 1 := by
        intro k q0 q1
        have : T2 35 k = fl (fun _ => 0) (T0 35) (T0 26 1 * 2) k := by rw [← eT2]; rfl
        rw [this]
        unfold fl
        split
        · exact Or.inl rfl
        · exact hTK0 k q0 q1
      have t37 : ∀ k, 0 ≤ k → k < σ 1 5 → T2 37 k = σ1 14 k := fun k q0 q1 => by rw [f37 k q0 q1, v3 k q0 q1]
      obtain ⟨ps, hps⟩ := ps_ex hO2
      have hk2 : ∀ k : Nat, k ≤ 25 ∨ (27 ≤ k ∧ k ≤ 32) → T2 k = σ1 k := by
        intro k hk
        rw [← eT2]
        unfold mo mc
        rw [up_n _ _ (by omega), up_n _ _ (by omega), up_n _ _ (by omega), up_n _ _ (by omega), up_n _ _ (by omega), up_n _ _ (by omega), up_n _ _ (by omega), ← eT0, up_n _ _ (by omega)]
      change av_Rn _ _ _ _ _ _ _ _ _ _ (hp (rS T2 (T2 37) (T2 38) (T2 39) (T2 40) (T2 41) (T2 42))) _
      refine brM_loop (σ := T2) hI2 hO2 hTO2 (fun BR TG LN TU hM => ?_) (T2 26 1).toNat 0 (T2 38) (T2 39) (T2 40) (T2 41) (by have := hI2.1; omega) (fun j hj => absurd hj (Nat.not_lt_zero j))
      obtain ⟨w1, w2, w3⟩ := lay_mid h hL hk2 t1 t37 hM
      have hs0 := shM_0 LN (2 * T2 26 1).toNat
      change av_Rn _ _ _ _ _ _ _ _ _ _ (hp (rE T2 BR TG LN TU (T2 42) (T2 26 2))) _
      refine lenM_loop (σ := T2) (ps := ps) hI2 hO2 hps w1 w2 ((shM LN (2 * T2 26 1).toNat).toNat + 1) LN (T2 42) (T2 26 2) (by omega) w3 (fun m' V GR ed hR hV hg => ?_)
      obtain ⟨a, b⟩ := lay_end (GR := GR) (ed := ed) h hL hk2 t0 t1 t5 t3 t4 t35 t37 hps hM hR hV hg
      exact ⟨by rw [a], _, b, rfl⟩
    · omega
  · exact absurd rfl c_1
set_option maxRecDepth 100000 in
set_option maxHeartbeats 400000 in
theorem ev_M_layoutNo {sc : av_sc} {d : Nat} {σ : av_S} {md : Int} (hmd : av_in md) (hI : iM σ) (hno : ¬ (σ 26 1 ≠ 0 ∧ (md = 0 ∨ md = 1))) : av_Ev sc m_M_layout (d + 4) false 0 0 [vR 26, vI md] (hp σ) (fun r h => r = some (vI (-1)) ∧ h = hp σ) := by
  have hn := hI.1
  obtain ⟨m1, m2⟩ := id hmd
  refine av_ev rfl rfl (Nat.le_of_ble_eq_true rfl) rfl ?_
  refine rn_iload_n 1 d_M_layout_0 rfl rfl ?_
  refine rn_if_eq 9 4 d_M_layout_1 rfl rfl ⟨by omega, by omega⟩ (fun c_1 => ?_) (fun c_1 => ?_)
  · refine rn_aload_n 10 d_M_layout_9 rfl rfl ?_
    refine rn_getfield 13 d_M_layout_10 rfl fd_M_7 rfl rfl ?_
    refine rn_if_ne 18 16 d_M_layout_13 rfl rfl ⟨by omega, by omega⟩ (fun c_13 => ?_) (fun c_13 => ?_)
    · omega
    · refine rn_iconst 17 d_M_layout_16 rfl ?_
      exact rn_ireturn d_M_layout_17 (Or.inl rfl) ⟨rfl, rfl⟩
  · refine rn_iload_n 5 d_M_layout_4 rfl rfl ?_
    refine rn_iconst 6 d_M_layout_5 rfl ?_
    refine rn_icmp_ne 16 9 d_M_layout_6 rfl rfl ⟨by omega, by omega⟩ ⟨by omega, by omega⟩ (fun c_6 => ?_) (fun c_6 => ?_)
    · refine rn_iconst 17 d_M_layout_16 rfl ?_
      exact rn_ireturn d_M_layout_17 (Or.inl rfl) ⟨rfl, rfl⟩
    · refine rn_aload_n 10 d_M_layout_9 rfl rfl ?_
      refine rn_getfield 13 d_M_layout_10 rfl fd_M_7 rfl rfl ?_
      refine rn_if_ne 18 16 d_M_layout_13 rfl rfl ⟨by omega, by omega⟩ (fun c_13 => ?_) (fun c_13 => ?_)
      · omega
      · refine rn_iconst 17 d_M_layout_16 rfl ?_
        exact rn_ireturn d_M_layout_17 (Or.inl rfl) ⟨rfl, rfl⟩
