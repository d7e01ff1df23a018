set_option maxRecDepth 100000 in
set_option maxHeartbeats 400000 in
theorem initM_loop {sc : av_sc} {d n0 : Nat} {σ : av_S} {md : Int} {Φ : Option av_V → av_H → Prop} (hn : 0 ≤ σ 26 1 ∧ σ 26 1 ≤ 24) (hΦ : av_Rn sc m_M_makeChains d false n0 0 0 50 [some (vR 26), some (vI md), none] [] (hp (mc σ (fl (fun j => j) (σ 33) (σ 26 1)) (fl (fun _ => 0) (σ 34) (σ 26 1)) (fl (fun _ => 0) (σ 35) ((σ 26 1) * 2)) (σ 26 2))) Φ) :
    ∀ (m : Nat) (k : Int), 0 ≤ k → k + (m : Int) = σ 26 1 → av_Rn sc m_M_makeChains d false n0 0 0 2 [some (vR 26), some (vI md), some (vI k)] [] (hp (mc σ (fl (fun j => j) (σ 33) k) (fl (fun _ => 0) (σ 34) k) (fl (fun _ => 0) (σ 35) (k * 2)) (σ 26 2))) Φ := by
  intro m
  induction m with
  | zero =>
    intro k h0 hk
    obtain rfl : k = σ 26 1 := by omega
    refine rn_iload_n 3 d_M_makeChains_2 rfl rfl ?_
    refine rn_aload_n 4 d_M_makeChains_3 rfl rfl ?_
    refine rn_getfield 7 d_M_makeChains_4 rfl fd_M_7 rfl rfl ?_
    rw [show (mc σ (fl (fun j => j) (σ 33) (σ 26 1)) (fl (fun _ => 0) (σ 34) (σ 26 1)) (fl (fun _ => 0) (σ 35) ((σ 26 1) * 2)) (σ 26 2)) 26 1 = σ 26 1 from rfl]
    refine rn_icmp_ge 50 10 d_M_makeChains_7 rfl rfl ⟨by omega, by omega⟩ ⟨by omega, by omega⟩ (fun c_7 => ?_) (fun c_7 => ?_)
    · exact rn_kill 2 rfl hΦ
    · omega
  | succ m ih =>
    intro k h0 hk
    refine rn_iload_n 3 d_M_makeChains_2 rfl rfl ?_
    refine rn_aload_n 4 d_M_makeChains_3 rfl rfl ?_
    refine rn_getfield 7 d_M_makeChains_4 rfl fd_M_7 rfl rfl ?_
    rw [show (mc σ (fl (fun j => j) (σ 33) k) (fl (fun _ => 0) (σ 34) k) (fl (fun _ => 0) (σ 35) (k * 2)) (σ 26 2)) 26 1 = σ 26 1 from rfl]
    refine rn_icmp_ge 50 10 d_M_makeChains_7 rfl rfl ⟨by omega, by omega⟩ ⟨by omega, by omega⟩ (fun c_7 => ?_) (fun c_7 => ?_)
    · omega
    · refine rn_aload_n 11 d_M_makeChains_10 rfl rfl ?_
      refine rn_getfield 14 d_M_makeChains_11 rfl fd_M_45 rfl rfl ?_
      refine rn_iload_n 15 d_M_makeChains_14 rfl rfl ?_
      refine rn_iload_n 16 d_M_makeChains_15 rfl rfl ?_
      refine rn_iastore 17 d_M_makeChains_16 rfl rfl (by decide) (by omega) (by omega) (hs_33 _ _) ?_
      refine rn_aload_n 18 d_M_makeChains_17 rfl rfl ?_
      refine rn_getfield 21 d_M_makeChains_18 rfl fd_M_48 rfl rfl ?_
      refine rn_iload_n 22 d_M_makeChains_21 rfl rfl ?_
      refine rn_iconst 23 d_M_makeChains_22 rfl ?_
      refine rn_iastore 24 d_M_makeChains_23 rfl rfl (by decide) (by omega) (by omega) (hs_34 _ _) ?_
      refine rn_aload_n 25 d_M_makeChains_24 rfl rfl ?_
      refine rn_getfield 28 d_M_makeChains_25 rfl fd_M_51 rfl rfl ?_
      refine rn_iload_n 29 d_M_makeChains_28 rfl rfl ?_
      refine rn_iconst 30 d_M_makeChains_29 rfl ?_
      refine rn_imul 31 d_M_makeChains_30 rfl ?_
      refine rn_iconst 32 d_M_makeChains_31 rfl ?_
      refine rn_bastore 33 d_M_makeChains_32 rfl rfl (by decide) (by omega) (by omega) (by omega) (hs_35 _ _) ?_
      refine rn_aload_n 34 d_M_makeChains_33 rfl rfl ?_
      refine rn_getfield 37 d_M_makeChains_34 rfl fd_M_51 rfl rfl ?_
      refine rn_iload_n 38 d_M_makeChains_37 rfl rfl ?_
      refine rn_iconst 39 d_M_makeChains_38 rfl ?_
      refine rn_imul 40 d_M_makeChains_39 rfl ?_
      refine rn_iconst 41 d_M_makeChains_40 rfl ?_
      refine rn_iadd 42 d_M_makeChains_41 rfl ?_
      refine rn_iconst 43 d_M_makeChains_42 rfl ?_
      refine rn_bastore 44 d_M_makeChains_43 rfl rfl (by decide) (by omega) (by omega) (by omega) (hs_35 _ _) ?_
      change av_Rn _ _ _ _ _ _ _ _ _ _ (hp (mc σ (uI (fl (fun j => j) (σ 33) k) k k) (uI (fl (fun _ => 0) (σ 34) k) k 0) (uI (uI (fl (fun _ => 0) (σ 35) (k * 2)) (k * 2) 0) (k * 2 + 1) 0) (σ 26 2))) _
      rw [fl_step h0 rfl, fl_step h0 rfl, fl_step (by omega) rfl, fl_step (by omega) rfl, show k * 2 + 1 + 1 = (k + 1) * 2 by omega]
      refine rn_iinc 47 d_M_makeChains_44 rfl rfl (by decide) rfl rfl ?_
      refine rn_goto 2 d_M_makeChains_47 rfl ?_
      exact ih (k + 1) (by omega) (by omega)
set_option maxRecDepth 100000 in
set_option maxHeartbeats 400000 in
theorem ev_M_makeChains0 {sc : av_sc} {d : Nat} {σ : av_S} (hn : 0 ≤ σ 26 1 ∧ σ 26 1 ≤ 24) : av_Ev sc m_M_makeChains (d + 3) false 0 0 [vR 26, vI 0] (hp σ) (fun r h => r = none ∧ h = hp (mc σ (fl (fun j => j) (σ 33) (σ 26 1)) (fl (fun _ => 0) (σ 34) (σ 26 1)) (fl (fun _ => 0) (σ 35) ((σ 26 1) * 2)) (σ 26 2))) := by
  refine av_ev rfl rfl (Nat.le_of_ble_eq_true rfl) rfl ?_
  refine rn_iconst 1 d_M_makeChains_0 rfl ?_
  refine rn_istore_n 2 d_M_makeChains_1 rfl (by decide) rfl rfl ?_
  rw [show hp σ = hp (mc σ (fl (fun j => j) (σ 33) (0 : Int)) (fl (fun _ => 0) (σ 34) (0 : Int)) (fl (fun _ => 0) (σ 35) ((0 : Int) * 2)) (σ 26 2)) by rw [show (0 : Int) * 2 = 0 from rfl, fl_0, fl_0, fl_0]; rfl]
  refine initM_loop (md := 0) hn ?_ (σ 26 1).toNat 0 (by omega) (by omega)
  refine rn_iload_n 51 d_M_makeChains_50 rfl rfl ?_
  refine rn_iconst 52 d_M_makeChains_51 rfl ?_
  refine rn_icmp_ne 75 55 d_M_makeChains_52 rfl rfl ⟨by omega, by omega⟩ ⟨by omega, by omega⟩ (fun c_52 => ?_) (fun c_52 => ?_)
  · exact rn_return d_M_makeChains_75 rfl ⟨rfl, rfl⟩
  · omega
set_option maxRecDepth 100000 in
set_option maxHeartbeats 400000 in
theorem ev_M_makeChains1 {sc : av_sc} {d : Nat} {σ : av_S} {en A : Int → Int} {m : Nat} (hI : iM σ) (hEN : ∀ f, 0 ≤ f → f ≤ 3 → iEM σ f (en f)) (hTO : ∀ k, 0 ≤ k → k < 48 → 0 ≤ σ 30 k ∧ σ 30 k < 24) (hy : ∀ k, 0 ≤ k → k < 2 * σ 26 1 → k % 2 < σ 29 (k / 2) → σ 30 k < σ 26 1 ∧ σ 27 (k / 2) = σ 27 (σ 30 k)) (hTK : ∀ k, 0 ≤ k → k < 48 → σ 35 k = 0 ∨ σ 35 k = 1) (hA : iED (mJM σ) (σ 32) A (m : Int) (2 * σ 26 1)) : av_Ev sc m_M_makeChains (d + 3) false 0 0 [vR 26, vI 1] (hp σ) (fun r h => r = none ∧ ∃ (TK : Int → Int) (ed : Int), (∀ k, 0 ≤ k → k < 48 → TK k = 0 ∨ TK k = 1) ∧ h = hp (mc σ (jall (σ 26 1).toNat (σ 30) (σ 27) en (fl (fun j => j) (σ 33) (σ 26 1), fl (fun _ => 0) (σ 34) (σ 26 1)) A m).1 (jall (σ 26 1).toNat (σ 30) (σ 27) en (fl (fun j => j) (σ 33) (σ 26 1), fl (fun _ => 0) (σ 34) (σ 26 1)) A m).2 TK ed)) := by
  refine av_ev rfl rfl (Nat.le_of_ble_eq_true rfl) rfl ?_
  refine rn_iconst 1 d_M_makeChains_0 rfl ?_
  refine rn_istore_n 2 d_M_makeChains_1 rfl (by decide) rfl rfl ?_
  have hn := hI.1
  rw [show hp σ = hp (mc σ (fl (fun j => j) (σ 33) (0 : Int)) (fl (fun _ => 0) (σ 34) (0 : Int)) (fl (fun _ => 0) (σ 35) ((0 : Int) * 2)) (σ 26 2)) by rw [show (0 : Int) * 2 = 0 from rfl, fl_0, fl_0, fl_0]; rfl]
  refine initM_loop (md := 1) hn ?_ (σ 26 1).toNat 0 (by omega) (by omega)
  refine chains_loop (s0 := (fl (fun j => j) (σ 33) (σ 26 1), fl (fun _ => 0) (σ 34) (σ 26 1))) hI hEN hTO hy hA (cI_start (fun b q0 q1 => by dsimp only; rw [fl_in ⟨q0, by omega⟩, fl_in ⟨q0, by omega⟩]; exact ⟨rfl, rfl⟩)) (fun TK ed h => ⟨rfl, TK, ed, h, rfl⟩) m 0 _ _ (by omega) ?_ ?_
  · intro k q0 q1
    by_cases c : k < σ 26 1 * 2
    · exact Or.inl (fl_in ⟨q0, c⟩)
    · rw [fl_out (by omega)]; exact hTK k q0 q1
  · intro k q0 q1
    rw [fl_in ⟨q0, by omega⟩]
    exact ⟨fun h => by omega, fun ⟨i, a, b, _⟩ => by omega⟩
