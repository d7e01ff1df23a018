/-- the class's code, its arrays and numbers named -/
def kS (σ : av_S) (ST G U T : Int → Int) (Ln Bn On : Int) : av_S := up (up (up (up (up σ 22 ST) 23 G) 24 U) 25 T) 21 (fun j => if j = 4 then Ln else if j = 5 then Bn else if j = 6 then On else σ 21 j)
theorem kS_ext {σ : av_S} {ST G U T ST' G' U' T' : Int → Int} {Ln Bn On Ln' Bn' On' : Int} (h0 : ST = ST') (h1 : G = G') (h2 : U = U') (h3 : T = T') (h4 : Ln = Ln') (h5 : Bn = Bn') (h6 : On = On') : hp (kS σ ST G U T Ln Bn On) = hp (kS σ ST' G' U' T' Ln' Bn' On') := by
  subst h0; subst h1; subst h2; subst h3; subst h4; subst h5; subst h6; rfl
/-- the plan of a block's branches: NEXT is nx -/
def plU0 (en x nx : Int) : Int := if en = 1 then (if x = nx then 0 else 1) else if en = 2 then 1 else 0
def plU1 (en x y nx : Int) : Int := if en = 2 ∧ ¬ y = nx ∧ ¬ x = nx then 1 else 0
def plG0 (en x y nx : Int) : Int := if en = 1 then (if x = nx then -1 else x) else if en = 2 then (if ¬ y = nx ∧ x = nx then y else x) else -1
def plG1 (en x y nx : Int) : Int := if en = 2 ∧ ¬ y = nx ∧ ¬ x = nx then y else -1
def plT (en x y nx : Int) : Int := if en = 2 ∧ ¬ y = nx ∧ x = nx then 1 else 0
set_option maxRecDepth 100000 in
set_option maxHeartbeats 400000 in
theorem ev_C_clearBranches {sc : av_sc} {d : Nat} {σ : av_S} {ST G U T : Int → Int} {Ln Bn On : Int} {b : Int} (hb : 0 ≤ b ∧ b < 24) : av_Ev sc m_C_clearBranches d false 0 0 [vR 21, vI b] (hp (kS σ ST G U T Ln Bn On)) (fun r h => r = none ∧ h = hp (kS σ ST (uI (uI G (2 * b) (-1)) (2 * b + 1) (-1)) (uI (uI U (2 * b) 0) (2 * b + 1) 0) (uI T b 0) Ln Bn On)) := by
  refine av_ev rfl rfl (Nat.le_of_ble_eq_true rfl) rfl ?_
  have J2 : av_Rn sc m_C_clearBranches d false (hp (kS σ ST G U T Ln Bn On)).length 0 0 11 [some (vR 21), some (vI b), some (vI (2 * b + 1 + 1))] [] (hp (kS σ ST (uI (uI G (2 * b) (-1)) (2 * b + 1) (-1)) (uI (uI U (2 * b) 0) (2 * b + 1) 0) (uI T b 0) Ln Bn On)) (fun r h => r = none ∧ h = hp (kS σ ST (uI (uI G (2 * b) (-1)) (2 * b + 1) (-1)) (uI (uI U (2 * b) 0) (2 * b + 1) 0) (uI T b 0) Ln Bn On)) := by
    refine rn_iload_n 12 d_C_clearBranches_11 rfl rfl ?_
    refine rn_iconst 13 d_C_clearBranches_12 rfl ?_
    refine rn_iload_n 14 d_C_clearBranches_13 rfl rfl ?_
    refine rn_imul 15 d_C_clearBranches_14 rfl ?_
    refine rn_iconst 16 d_C_clearBranches_15 rfl ?_
    refine rn_iadd 17 d_C_clearBranches_16 rfl ?_
    refine rn_icmp_ge 40 20 d_C_clearBranches_17 rfl rfl ⟨by omega, by omega⟩ ⟨by omega, by omega⟩ (fun c_17 => ?_) (fun c_17 => ?_)
    · exact rn_return d_C_clearBranches_40 rfl ⟨rfl, rfl⟩
    · omega
  have J1 : av_Rn sc m_C_clearBranches d false (hp (kS σ ST G U T Ln Bn On)).length 0 0 11 [some (vR 21), some (vI b), some (vI (2 * b + 1))] [] (hp (kS σ ST (uI G (2 * b) (-1)) (uI U (2 * b) 0) (uI T b 0) Ln Bn On)) (fun r h => r = none ∧ h = hp (kS σ ST (uI (uI G (2 * b) (-1)) (2 * b + 1) (-1)) (uI (uI U (2 * b) 0) (2 * b + 1) 0) (uI T b 0) Ln Bn On)) := by
    refine rn_iload_n 12 d_C_clearBranches_11 rfl rfl ?_
    refine rn_iconst 13 d_C_clearBranches_12 rfl ?_
    refine rn_iload_n 14 d_C_clearBranches_13 rfl rfl ?_
    refine rn_imul 15 d_C_clearBranches_14 rfl ?_
    refine rn_iconst 16 d_C_clearBranches_15 rfl ?_
    refine rn_iadd 17 d_C_clearBranches_16 rfl ?_
    refine rn_icmp_ge 40 20 d_C_clearBranches_17 rfl rfl ⟨by omega, by omega⟩ ⟨by omega, by omega⟩ (fun c_17 => ?_) (fun c_17 => ?_)
    · omega
    · refine rn_aload_n 21 d_C_clearBranches_20 rfl rfl ?_
      refine rn_getfield 24 d_C_clearBranches_21 rfl fd_C_15 rfl rfl ?_
      refine rn_iload_n 25 d_C_clearBranches_24 rfl rfl ?_
      refine rn_iconst 26 d_C_clearBranches_25 rfl ?_
      refine rn_iastore 27 d_C_clearBranches_26 rfl rfl (by decide) (by omega) (by omega) (hs_23 _ _) ?_
      refine rn_aload_n 28 d_C_clearBranches_27 rfl rfl ?_
      refine rn_getfield 31 d_C_clearBranches_28 rfl fd_C_18 rfl rfl ?_
      refine rn_iload_n 32 d_C_clearBranches_31 rfl rfl ?_
      refine rn_iconst 33 d_C_clearBranches_32 rfl ?_
      refine rn_iastore 34 d_C_clearBranches_33 rfl rfl (by decide) (by omega) (by omega) (hs_24 _ _) ?_
      refine rn_iinc 37 d_C_clearBranches_34 rfl rfl (by decide) rfl rfl ?_
      refine rn_goto 11 d_C_clearBranches_37 rfl ?_
      change av_Rn _ _ _ _ _ _ _ _ _ _ (hp (kS σ ST (uI (uI G (2 * b) (-1)) (2 * b + 1) (-1)) (uI (uI U (2 * b) 0) (2 * b + 1) 0) (uI T b 0) Ln Bn On)) _
      exact J2
  have J0 : av_Rn sc m_C_clearBranches d false (hp (kS σ ST G U T Ln Bn On)).length 0 0 11 [some (vR 21), some (vI b), some (vI (2 * b))] [] (hp (kS σ ST G U (uI T b 0) Ln Bn On)) (fun r h => r = none ∧ h = hp (kS σ ST (uI (uI G (2 * b) (-1)) (2 * b + 1) (-1)) (uI (uI U (2 * b) 0) (2 * b + 1) 0) (uI T b 0) Ln Bn On)) := by
    refine rn_iload_n 12 d_C_clearBranches_11 rfl rfl ?_
    refine rn_iconst 13 d_C_clearBranches_12 rfl ?_
    refine rn_iload_n 14 d_C_clearBranches_13 rfl rfl ?_
    refine rn_imul 15 d_C_clearBranches_14 rfl ?_
    refine rn_iconst 16 d_C_clearBranches_15 rfl ?_
    refine rn_iadd 17 d_C_clearBranches_16 rfl ?_
    refine rn_icmp_ge 40 20 d_C_clearBranches_17 rfl rfl ⟨by omega, by omega⟩ ⟨by omega, by omega⟩ (fun c_17 => ?_) (fun c_17 => ?_)
    · omega
    · refine rn_aload_n 21 d_C_clearBranches_20 rfl rfl ?_
      refine rn_getfield 24 d_C_clearBranches_21 rfl fd_C_15 rfl rfl ?_
      refine rn_iload_n 25 d_C_clearBranches_24 rfl rfl ?_
      refine rn_iconst 26 d_C_clearBranches_25 rfl ?_
      refine rn_iastore 27 d_C_clearBranches_26 rfl rfl (by decide) (by omega) (by omega) (hs_23 _ _) ?_
      refine rn_aload_n 28 d_C_clearBranches_27 rfl rfl ?_
      refine rn_getfield 31 d_C_clearBranches_28 rfl fd_C_18 rfl rfl ?_
      refine rn_iload_n 32 d_C_clearBranches_31 rfl rfl ?_
      refine rn_iconst 33 d_C_clearBranches_32 rfl ?_
      refine rn_iastore 34 d_C_clearBranches_33 rfl rfl (by decide) (by omega) (by omega) (hs_24 _ _) ?_
      refine rn_iinc 37 d_C_clearBranches_34 rfl rfl (by decide) rfl rfl ?_
      refine rn_goto 11 d_C_clearBranches_37 rfl ?_
      change av_Rn _ _ _ _ _ _ _ _ _ _ (hp (kS σ ST (uI G (2 * b) (-1)) (uI U (2 * b) 0) (uI T b 0) Ln Bn On)) _
      exact J1
  refine rn_aload_n 1 d_C_clearBranches_0 rfl rfl ?_
  refine rn_getfield 4 d_C_clearBranches_1 rfl fd_C_21 rfl rfl ?_
  refine rn_iload_n 5 d_C_clearBranches_4 rfl rfl ?_
  refine rn_iconst 6 d_C_clearBranches_5 rfl ?_
  refine rn_bastore 7 d_C_clearBranches_6 rfl rfl (by decide) (by omega) (by omega) (by omega) (hs_25 _ _) ?_
  refine rn_iconst 8 d_C_clearBranches_7 rfl ?_
  refine rn_iload_n 9 d_C_clearBranches_8 rfl rfl ?_
  refine rn_imul 10 d_C_clearBranches_9 rfl ?_
  refine rn_istore_n 11 d_C_clearBranches_10 rfl (by decide) rfl rfl ?_
  change av_Rn _ _ _ _ _ _ _ _ _ _ (hp (kS σ ST G U (uI T b 0) Ln Bn On)) _
  exact J0
set_option maxRecDepth 100000 in
set_option maxHeartbeats 400000 in
theorem ev_C_putBranch {sc : av_sc} {d : Nat} {σ : av_S} {ST G U T : Int → Int} {Ln Bn On : Int} {k y : Int} (hk : 0 ≤ k ∧ k < 48) : av_Ev sc m_C_putBranch (d) false 0 0 [vR 21, vI k, vI y] (hp (kS σ ST G U T Ln Bn On)) (fun r h => r = none ∧ h = hp (kS σ ST (uI G k y) (uI U k 1) T Ln (Bn + 1) On)) := by
  refine av_ev rfl rfl (Nat.le_of_ble_eq_true rfl) rfl ?_
  refine rn_aload_n 1 d_C_putBranch_0 rfl rfl ?_
  refine rn_getfield 4 d_C_putBranch_1 rfl fd_C_15 rfl rfl ?_
  refine rn_iload_n 5 d_C_putBranch_4 rfl rfl ?_
  refine rn_iload_n 6 d_C_putBranch_5 rfl rfl ?_
  refine rn_iastore 7 d_C_putBranch_6 rfl rfl (by decide) (by omega) (by omega) (hs_23 _ _) ?_
  refine rn_aload_n 8 d_C_putBranch_7 rfl rfl ?_
  refine rn_getfield 11 d_C_putBranch_8 rfl fd_C_18 rfl rfl ?_
  refine rn_iload_n 12 d_C_putBranch_11 rfl rfl ?_
  refine rn_iconst 13 d_C_putBranch_12 rfl ?_
  refine rn_iastore 14 d_C_putBranch_13 rfl rfl (by decide) (by omega) (by omega) (hs_24 _ _) ?_
  refine rn_aload_n 15 d_C_putBranch_14 rfl rfl ?_
  refine rn_dup 16 d_C_putBranch_15 rfl rfl ?_
  refine rn_getfield 19 d_C_putBranch_16 rfl fd_C_29 rfl rfl ?_
  refine rn_iconst 20 d_C_putBranch_19 rfl ?_
  refine rn_iadd 21 d_C_putBranch_20 rfl ?_
  refine rn_putfield 24 d_C_putBranch_21 rfl fp_C_29 rfl (Nat.le_of_ble_eq_true rfl) av_fitI (hs_21_5 _ _) ?_
  exact rn_return d_C_putBranch_24 rfl ⟨rfl, rfl⟩
theorem uI2 {f : Int → Int} {b p q p' q' : Int} (hp : p = p') (hq : q = q') : uI (uI f (2 * b) p) (2 * b + 1) q = uI (uI f (2 * b) p') (2 * b + 1) q' := by rw [hp, hq]
theorem uI3 {f : Int → Int} {b p q v p' q' : Int} (hp : v = p') (hq : q = q') : uI (uI (uI f (2 * b) p) (2 * b + 1) q) (2 * b) v = uI (uI f (2 * b) p') (2 * b + 1) q' := by
  subst hp; subst hq
  funext j
  simp only [uI]
  by_cases h1 : j = 2 * b
  · have h2 : ¬ j = 2 * b + 1 := by omega
    simp only [if_pos h1, if_neg h2]
  · simp only [if_neg h1]
theorem uI4 {f : Int → Int} {b p q v w p' q' : Int} (hp : v = p') (hq : w = q') : uI (uI (uI (uI f (2 * b) p) (2 * b + 1) q) (2 * b) v) (2 * b + 1) w = uI (uI f (2 * b) p') (2 * b + 1) q' := by
  rw [uI3 (f := f) (b := b) (p := p) (q := q) (v := v) rfl rfl]
  subst hp; subst hq
  funext j
  simp only [uI]
  by_cases h1 : j = 2 * b + 1
  · simp only [if_pos h1]
  · simp only [if_neg h1]
theorem uIT {f : Int → Int} {b p v t : Int} (h : v = t) : uI (uI f b p) b v = uI f b t := by
  subst h
  funext j
  simp only [uI]
  split <;> rfl
theorem uI1 {f : Int → Int} {b v t : Int} (h : v = t) : uI f b v = uI f b t := by rw [h]
set_option maxRecDepth 100000 in
set_option maxHeartbeats 400000 in
theorem ev_C_chooseBranches {sc : av_sc} {d : Nat} {σ : av_S} {ST G U T : Int → Int} {Ln Bn On : Int} {b nx : Int} (hb : 0 ≤ b ∧ b < 24) (hnx : -1 ≤ nx ∧ nx < 24) (hE : 0 ≤ σ 4 b ∧ σ 4 b ≤ 2) (hx : -1 ≤ σ 5 (2 * b) ∧ σ 5 (2 * b) < 24) (hy : -1 ≤ σ 5 (2 * b + 1) ∧ σ 5 (2 * b + 1) < 24) : av_Ev sc m_C_chooseBranches (d + 1) false 0 0 [vR 21, vR 1, vI b, vI nx] (hp (kS σ ST G U T Ln Bn On)) (fun r h => r = none ∧ h = hp (kS σ ST (uI (uI G (2 * b) (plG0 (σ 4 b) (σ 5 (2 * b)) (σ 5 (2 * b + 1)) nx)) (2 * b + 1) (plG1 (σ 4 b) (σ 5 (2 * b)) (σ 5 (2 * b + 1)) nx)) (uI (uI U (2 * b) (plU0 (σ 4 b) (σ 5 (2 * b)) nx)) (2 * b + 1) (plU1 (σ 4 b) (σ 5 (2 * b)) (σ 5 (2 * b + 1)) nx)) (uI T b (plT (σ 4 b) (σ 5 (2 * b)) (σ 5 (2 * b + 1)) nx)) Ln (Bn + plU0 (σ 4 b) (σ 5 (2 * b)) nx + plU1 (σ 4 b) (σ 5 (2 * b)) (σ 5 (2 * b + 1)) nx) On)) := by
  refine av_ev rfl rfl (Nat.le_of_ble_eq_true rfl) rfl ?_
  refine rn_aload_n 1 d_C_chooseBranches_0 rfl rfl ?_
  refine rn_getfield 4 d_C_chooseBranches_1 rfl fd_C_52 rfl rfl ?_
  refine rn_iconst 5 d_C_chooseBranches_4 rfl ?_
  refine rn_iload_n 6 d_C_chooseBranches_5 rfl rfl ?_
  refine rn_imul 7 d_C_chooseBranches_6 rfl ?_
  refine rn_iaload 8 d_C_chooseBranches_7 rfl rfl (by decide) (by omega) (by omega) ?_
  rw [show (kS σ ST G U T Ln Bn On) 5 (2 * b) = σ 5 (2 * b) from rfl]
  refine rn_istore 10 d_C_chooseBranches_8 rfl (by decide) rfl rfl ?_
  refine rn_aload_n 11 d_C_chooseBranches_10 rfl rfl ?_
  refine rn_getfield 14 d_C_chooseBranches_11 rfl fd_C_52 rfl rfl ?_
  refine rn_iconst 15 d_C_chooseBranches_14 rfl ?_
  refine rn_iload_n 16 d_C_chooseBranches_15 rfl rfl ?_
  refine rn_imul 17 d_C_chooseBranches_16 rfl ?_
  refine rn_iconst 18 d_C_chooseBranches_17 rfl ?_
  refine rn_iadd 19 d_C_chooseBranches_18 rfl ?_
  refine rn_iaload 20 d_C_chooseBranches_19 rfl rfl (by decide) (by omega) (by omega) ?_
  rw [show (kS σ ST G U T Ln Bn On) 5 (2 * b + 1) = σ 5 (2 * b + 1) from rfl]
  refine rn_istore 22 d_C_chooseBranches_20 rfl (by decide) rfl rfl ?_
  refine rn_aload_n 23 d_C_chooseBranches_22 rfl rfl ?_
  refine rn_iload_n 24 d_C_chooseBranches_23 rfl rfl ?_
  refine rn_callV1 27 d_C_chooseBranches_24 rfl cw_C_55 rfl (Nat.le_of_ble_eq_true rfl) (ev_C_clearBranches hb) ?_
  rintro _ _ ⟨rfl, rfl⟩
  refine rn_aload_n 28 d_C_chooseBranches_27 rfl rfl ?_
  refine rn_getfield 31 d_C_chooseBranches_28 rfl fd_C_59 rfl rfl ?_
  refine rn_iload_n 32 d_C_chooseBranches_31 rfl rfl ?_
  refine rn_iaload 33 d_C_chooseBranches_32 rfl rfl (by decide) (by omega) (by omega) ?_
  rw [show (kS σ ST (uI (uI G (2 * b) (-1)) (2 * b + 1) (-1)) (uI (uI U (2 * b) 0) (2 * b + 1) 0) (uI T b 0) Ln Bn On) 4 b = σ 4 b from rfl]
  refine rn_iconst 34 d_C_chooseBranches_33 rfl ?_
  refine rn_icmp_ne 55 37 d_C_chooseBranches_34 rfl rfl ⟨by omega, by omega⟩ ⟨by omega, by omega⟩ (fun c_34 => ?_) (fun c_34 => ?_)
  · refine rn_aload_n 56 d_C_chooseBranches_55 rfl rfl ?_
    refine rn_getfield 59 d_C_chooseBranches_56 rfl fd_C_59 rfl rfl ?_
    refine rn_iload_n 60 d_C_chooseBranches_59 rfl rfl ?_
    refine rn_iaload 61 d_C_chooseBranches_60 rfl rfl (by decide) (by omega) (by omega) ?_
    rw [show (kS σ ST (uI (uI G (2 * b) (-1)) (2 * b + 1) (-1)) (uI (uI U (2 * b) 0) (2 * b + 1) 0) (uI T b 0) Ln Bn On) 4 b = σ 4 b from rfl]
    refine rn_iconst 62 d_C_chooseBranches_61 rfl ?_
    refine rn_icmp_ne 128 65 d_C_chooseBranches_62 rfl rfl ⟨by omega, by omega⟩ ⟨by omega, by omega⟩ (fun c_62 => ?_) (fun c_62 => ?_)
    · exact rn_return d_C_chooseBranches_128 rfl ⟨rfl, kS_ext rfl (uI2 (by symm; unfold plG0; (first | rw [if_pos (by omega)] | rw [if_neg (by omega)]); (try (first | rw [if_pos (by omega)] | rw [if_neg (by omega)])); (try (first | rw [if_pos (by omega)] | rw [if_neg (by omega)]))) (by symm; unfold plG1; (first | rw [if_pos (by omega)] | rw [if_neg (by omega)]); (try (first | rw [if_pos (by omega)] | rw [if_neg (by omega)])); (try (first | rw [if_pos (by omega)] | rw [if_neg (by omega)])))) (uI2 (by symm; unfold plU0; (first | rw [if_pos (by omega)] | rw [if_neg (by omega)]); (try (first | rw [if_pos (by omega)] | rw [if_neg (by omega)])); (try (first | rw [if_pos (by omega)] | rw [if_neg (by omega)]))) (by symm; unfold plU1; (first | rw [if_pos (by omega)] | rw [if_neg (by omega)]); (try (first | rw [if_pos (by omega)] | rw [if_neg (by omega)])); (try (first | rw [if_pos (by omega)] | rw [if_neg (by omega)])))) (uI1 (by symm; unfold plT; (first | rw [if_pos (by omega)] | rw [if_neg (by omega)]); (try (first | rw [if_pos (by omega)] | rw [if_neg (by omega)])); (try (first | rw [if_pos (by omega)] | rw [if_neg (by omega)])))) rfl (by rw [show plU0 (σ 4 b) (σ 5 (2 * b)) nx = 0 from (by unfold plU0; (first | rw [if_pos (by omega)] | rw [if_neg (by omega)]); (try (first | rw [if_pos (by omega)] | rw [if_neg (by omega)])); (try (first | rw [if_pos (by omega)] | rw [if_neg (by omega)]))), show plU1 (σ 4 b) (σ 5 (2 * b)) (σ 5 (2 * b + 1)) nx = 0 from (by unfold plU1; (first | rw [if_pos (by omega)] | rw [if_neg (by omega)]); (try (first | rw [if_pos (by omega)] | rw [if_neg (by omega)])); (try (first | rw [if_pos (by omega)] | rw [if_neg (by omega)])))]; try omega) rfl⟩
    · refine rn_iload 67 d_C_chooseBranches_65 rfl rfl ?_
      refine rn_iload_n 68 d_C_chooseBranches_67 rfl rfl ?_
      refine rn_icmp_ne 83 71 d_C_chooseBranches_68 rfl rfl ⟨by omega, by omega⟩ ⟨by omega, by omega⟩ (fun c_68 => ?_) (fun c_68 => ?_)
      · refine rn_iload 85 d_C_chooseBranches_83 rfl rfl ?_
        refine rn_iload_n 86 d_C_chooseBranches_85 rfl rfl ?_
        refine rn_icmp_ne 108 89 d_C_chooseBranches_86 rfl rfl ⟨by omega, by omega⟩ ⟨by omega, by omega⟩ (fun c_86 => ?_) (fun c_86 => ?_)
        · refine rn_aload_n 109 d_C_chooseBranches_108 rfl rfl ?_
          refine rn_iconst 110 d_C_chooseBranches_109 rfl ?_
          refine rn_iload_n 111 d_C_chooseBranches_110 rfl rfl ?_
          refine rn_imul 112 d_C_chooseBranches_111 rfl ?_
          refine rn_iload 114 d_C_chooseBranches_112 rfl rfl ?_
          refine rn_callV2 117 d_C_chooseBranches_114 rfl cw_C_62 rfl (Nat.le_of_ble_eq_true rfl) (ev_C_putBranch ⟨by omega, by omega⟩) ?_
          rintro _ _ ⟨rfl, rfl⟩
          refine rn_aload_n 118 d_C_chooseBranches_117 rfl rfl ?_
          refine rn_iconst 119 d_C_chooseBranches_118 rfl ?_
          refine rn_iload_n 120 d_C_chooseBranches_119 rfl rfl ?_
          refine rn_imul 121 d_C_chooseBranches_120 rfl ?_
          refine rn_iconst 122 d_C_chooseBranches_121 rfl ?_
          refine rn_iadd 123 d_C_chooseBranches_122 rfl ?_
          refine rn_iload 125 d_C_chooseBranches_123 rfl rfl ?_
          refine rn_callV2 128 d_C_chooseBranches_125 rfl cw_C_62 rfl (Nat.le_of_ble_eq_true rfl) (ev_C_putBranch ⟨by omega, by omega⟩) ?_
          rintro _ _ ⟨rfl, rfl⟩
          exact rn_return d_C_chooseBranches_128 rfl ⟨rfl, kS_ext rfl (uI4 (by symm; unfold plG0; (first | rw [if_pos (by omega)] | rw [if_neg (by omega)]); (try (first | rw [if_pos (by omega)] | rw [if_neg (by omega)])); (try (first | rw [if_pos (by omega)] | rw [if_neg (by omega)]))) (by symm; unfold plG1; (first | rw [if_pos (by omega)] | rw [if_neg (by omega)]); (try (first | rw [if_pos (by omega)] | rw [if_neg (by omega)])); (try (first | rw [if_pos (by omega)] | rw [if_neg (by omega)])))) (uI4 (by symm; unfold plU0; (first | rw [if_pos (by omega)] | rw [if_neg (by omega)]); (try (first | rw [if_pos (by omega)] | rw [if_neg (by omega)])); (try (first | rw [if_pos (by omega)] | rw [if_neg (by omega)]))) (by symm; unfold plU1; (first | rw [if_pos (by omega)] | rw [if_neg (by omega)]); (try (first | rw [if_pos (by omega)] | rw [if_neg (by omega)])); (try (first | rw [if_pos (by omega)] | rw [if_neg (by omega)])))) (uI1 (by symm; unfold plT; (first | rw [if_pos (by omega)] | rw [if_neg (by omega)]); (try (first | rw [if_pos (by omega)] | rw [if_neg (by omega)])); (try (first | rw [if_pos (by omega)] | rw [if_neg (by omega)])))) rfl (by rw [show plU0 (σ 4 b) (σ 5 (2 * b)) nx = 1 from (by unfold plU0; (first | rw [if_pos (by omega)] | rw [if_neg (by omega)]); (try (first | rw [if_pos (by omega)] | rw [if_neg (by omega)])); (try (first | rw [if_pos (by omega)] | rw [if_neg (by omega)]))), show plU1 (σ 4 b) (σ 5 (2 * b)) (σ 5 (2 * b + 1)) nx = 1 from (by unfold plU1; (first | rw [if_pos (by omega)] | rw [if_neg (by omega)]); (try (first | rw [if_pos (by omega)] | rw [if_neg (by omega)])); (try (first | rw [if_pos (by omega)] | rw [if_neg (by omega)])))]; try omega) rfl⟩
        · refine rn_aload_n 90 d_C_chooseBranches_89 rfl rfl ?_
          refine rn_iconst 91 d_C_chooseBranches_90 rfl ?_
          refine rn_iload_n 92 d_C_chooseBranches_91 rfl rfl ?_
          refine rn_imul 93 d_C_chooseBranches_92 rfl ?_
          refine rn_iload 95 d_C_chooseBranches_93 rfl rfl ?_
          refine rn_callV2 98 d_C_chooseBranches_95 rfl cw_C_62 rfl (Nat.le_of_ble_eq_true rfl) (ev_C_putBranch ⟨by omega, by omega⟩) ?_
          rintro _ _ ⟨rfl, rfl⟩
          refine rn_aload_n 99 d_C_chooseBranches_98 rfl rfl ?_
          refine rn_getfield 102 d_C_chooseBranches_99 rfl fd_C_21 rfl rfl ?_
          refine rn_iload_n 103 d_C_chooseBranches_102 rfl rfl ?_
          refine rn_iconst 104 d_C_chooseBranches_103 rfl ?_
          refine rn_bastore 105 d_C_chooseBranches_104 rfl rfl (by decide) (by omega) (by omega) (by omega) (hs_25 _ _) ?_
          change av_Rn _ _ _ _ _ _ _ _ _ _ (hp (kS σ ST (uI (uI (uI G (2 * b) (-1)) (2 * b + 1) (-1)) (2 * b) (σ 5 (2 * b + 1))) (uI (uI (uI U (2 * b) 0) (2 * b + 1) 0) (2 * b) 1) (uI (uI T b 0) b 1) Ln (Bn + 1) On)) _
          refine rn_goto 128 d_C_chooseBranches_105 rfl ?_
          exact rn_return d_C_chooseBranches_128 rfl ⟨rfl, kS_ext rfl (uI3 (by symm; unfold plG0; (first | rw [if_pos (by omega)] | rw [if_neg (by omega)]); (try (first | rw [if_pos (by omega)] | rw [if_neg (by omega)])); (try (first | rw [if_pos (by omega)] | rw [if_neg (by omega)]))) (by symm; unfold plG1; (first | rw [if_pos (by omega)] | rw [if_neg (by omega)]); (try (first | rw [if_pos (by omega)] | rw [if_neg (by omega)])); (try (first | rw [if_pos (by omega)] | rw [if_neg (by omega)])))) (uI3 (by symm; unfold plU0; (first | rw [if_pos (by omega)] | rw [if_neg (by omega)]); (try (first | rw [if_pos (by omega)] | rw [if_neg (by omega)])); (try (first | rw [if_pos (by omega)] | rw [if_neg (by omega)]))) (by symm; unfold plU1; (first | rw [if_pos (by omega)] | rw [if_neg (by omega)]); (try (first | rw [if_pos (by omega)] | rw [if_neg (by omega)])); (try (first | rw [if_pos (by omega)] | rw [if_neg (by omega)])))) (uIT (by symm; unfold plT; (first | rw [if_pos (by omega)] | rw [if_neg (by omega)]); (try (first | rw [if_pos (by omega)] | rw [if_neg (by omega)])); (try (first | rw [if_pos (by omega)] | rw [if_neg (by omega)])))) rfl (by rw [show plU0 (σ 4 b) (σ 5 (2 * b)) nx = 1 from (by unfold plU0; (first | rw [if_pos (by omega)] | rw [if_neg (by omega)]); (try (first | rw [if_pos (by omega)] | rw [if_neg (by omega)])); (try (first | rw [if_pos (by omega)] | rw [if_neg (by omega)]))), show plU1 (σ 4 b) (σ 5 (2 * b)) (σ 5 (2 * b + 1)) nx = 0 from (by unfold plU1; (first | rw [if_pos (by omega)] | rw [if_neg (by omega)]); (try (first | rw [if_pos (by omega)] | rw [if_neg (by omega)])); (try (first | rw [if_pos (by omega)] | rw [if_neg (by omega)])))]; try omega) rfl⟩
      · refine rn_aload_n 72 d_C_chooseBranches_71 rfl rfl ?_
        refine rn_iconst 73 d_C_chooseBranches_72 rfl ?_
        refine rn_iload_n 74 d_C_chooseBranches_73 rfl rfl ?_
        refine rn_imul 75 d_C_chooseBranches_74 rfl ?_
        refine rn_iload 77 d_C_chooseBranches_75 rfl rfl ?_
        refine rn_callV2 80 d_C_chooseBranches_77 rfl cw_C_62 rfl (Nat.le_of_ble_eq_true rfl) (ev_C_putBranch ⟨by omega, by omega⟩) ?_
        rintro _ _ ⟨rfl, rfl⟩
        refine rn_goto 128 d_C_chooseBranches_80 rfl ?_
        exact rn_return d_C_chooseBranches_128 rfl ⟨rfl, kS_ext rfl (uI3 (by symm; unfold plG0; (first | rw [if_pos (by omega)] | rw [if_neg (by omega)]); (try (first | rw [if_pos (by omega)] | rw [if_neg (by omega)])); (try (first | rw [if_pos (by omega)] | rw [if_neg (by omega)]))) (by symm; unfold plG1; (first | rw [if_pos (by omega)] | rw [if_neg (by omega)]); (try (first | rw [if_pos (by omega)] | rw [if_neg (by omega)])); (try (first | rw [if_pos (by omega)] | rw [if_neg (by omega)])))) (uI3 (by symm; unfold plU0; (first | rw [if_pos (by omega)] | rw [if_neg (by omega)]); (try (first | rw [if_pos (by omega)] | rw [if_neg (by omega)])); (try (first | rw [if_pos (by omega)] | rw [if_neg (by omega)]))) (by symm; unfold plU1; (first | rw [if_pos (by omega)] | rw [if_neg (by omega)]); (try (first | rw [if_pos (by omega)] | rw [if_neg (by omega)])); (try (first | rw [if_pos (by omega)] | rw [if_neg (by omega)])))) (uI1 (by symm; unfold plT; (first | rw [if_pos (by omega)] | rw [if_neg (by omega)]); (try (first | rw [if_pos (by omega)] | rw [if_neg (by omega)])); (try (first | rw [if_pos (by omega)] | rw [if_neg (by omega)])))) rfl (by rw [show plU0 (σ 4 b) (σ 5 (2 * b)) nx = 1 from (by unfold plU0; (first | rw [if_pos (by omega)] | rw [if_neg (by omega)]); (try (first | rw [if_pos (by omega)] | rw [if_neg (by omega)])); (try (first | rw [if_pos (by omega)] | rw [if_neg (by omega)]))), show plU1 (σ 4 b) (σ 5 (2 * b)) (σ 5 (2 * b + 1)) nx = 0 from (by unfold plU1; (first | rw [if_pos (by omega)] | rw [if_neg (by omega)]); (try (first | rw [if_pos (by omega)] | rw [if_neg (by omega)])); (try (first | rw [if_pos (by omega)] | rw [if_neg (by omega)])))]; try omega) rfl⟩
  · refine rn_iload 39 d_C_chooseBranches_37 rfl rfl ?_
    refine rn_iload_n 40 d_C_chooseBranches_39 rfl rfl ?_
    refine rn_icmp_eq 128 43 d_C_chooseBranches_40 rfl rfl ⟨by omega, by omega⟩ ⟨by omega, by omega⟩ (fun c_40 => ?_) (fun c_40 => ?_)
    · exact rn_return d_C_chooseBranches_128 rfl ⟨rfl, kS_ext rfl (uI2 (by symm; unfold plG0; (first | rw [if_pos (by omega)] | rw [if_neg (by omega)]); (try (first | rw [if_pos (by omega)] | rw [if_neg (by omega)])); (try (first | rw [if_pos (by omega)] | rw [if_neg (by omega)]))) (by symm; unfold plG1; (first | rw [if_pos (by omega)] | rw [if_neg (by omega)]); (try (first | rw [if_pos (by omega)] | rw [if_neg (by omega)])); (try (first | rw [if_pos (by omega)] | rw [if_neg (by omega)])))) (uI2 (by symm; unfold plU0; (first | rw [if_pos (by omega)] | rw [if_neg (by omega)]); (try (first | rw [if_pos (by omega)] | rw [if_neg (by omega)])); (try (first | rw [if_pos (by omega)] | rw [if_neg (by omega)]))) (by symm; unfold plU1; (first | rw [if_pos (by omega)] | rw [if_neg (by omega)]); (try (first | rw [if_pos (by omega)] | rw [if_neg (by omega)])); (try (first | rw [if_pos (by omega)] | rw [if_neg (by omega)])))) (uI1 (by symm; unfold plT; (first | rw [if_pos (by omega)] | rw [if_neg (by omega)]); (try (first | rw [if_pos (by omega)] | rw [if_neg (by omega)])); (try (first | rw [if_pos (by omega)] | rw [if_neg (by omega)])))) rfl (by rw [show plU0 (σ 4 b) (σ 5 (2 * b)) nx = 0 from (by unfold plU0; (first | rw [if_pos (by omega)] | rw [if_neg (by omega)]); (try (first | rw [if_pos (by omega)] | rw [if_neg (by omega)])); (try (first | rw [if_pos (by omega)] | rw [if_neg (by omega)]))), show plU1 (σ 4 b) (σ 5 (2 * b)) (σ 5 (2 * b + 1)) nx = 0 from (by unfold plU1; (first | rw [if_pos (by omega)] | rw [if_neg (by omega)]); (try (first | rw [if_pos (by omega)] | rw [if_neg (by omega)])); (try (first | rw [if_pos (by omega)] | rw [if_neg (by omega)])))]; try omega) rfl⟩
    · refine rn_aload_n 44 d_C_chooseBranches_43 rfl rfl ?_
      refine rn_iconst 45 d_C_chooseBranches_44 rfl ?_
      refine rn_iload_n 46 d_C_chooseBranches_45 rfl rfl ?_
      refine rn_imul 47 d_C_chooseBranches_46 rfl ?_
      refine rn_iload 49 d_C_chooseBranches_47 rfl rfl ?_
      refine rn_callV2 52 d_C_chooseBranches_49 rfl cw_C_62 rfl (Nat.le_of_ble_eq_true rfl) (ev_C_putBranch ⟨by omega, by omega⟩) ?_
      rintro _ _ ⟨rfl, rfl⟩
      refine rn_goto 128 d_C_chooseBranches_52 rfl ?_
      exact rn_return d_C_chooseBranches_128 rfl ⟨rfl, kS_ext rfl (uI3 (by symm; unfold plG0; (first | rw [if_pos (by omega)] | rw [if_neg (by omega)]); (try (first | rw [if_pos (by omega)] | rw [if_neg (by omega)])); (try (first | rw [if_pos (by omega)] | rw [if_neg (by omega)]))) (by symm; unfold plG1; (first | rw [if_pos (by omega)] | rw [if_neg (by omega)]); (try (first | rw [if_pos (by omega)] | rw [if_neg (by omega)])); (try (first | rw [if_pos (by omega)] | rw [if_neg (by omega)])))) (uI3 (by symm; unfold plU0; (first | rw [if_pos (by omega)] | rw [if_neg (by omega)]); (try (first | rw [if_pos (by omega)] | rw [if_neg (by omega)])); (try (first | rw [if_pos (by omega)] | rw [if_neg (by omega)]))) (by symm; unfold plU1; (first | rw [if_pos (by omega)] | rw [if_neg (by omega)]); (try (first | rw [if_pos (by omega)] | rw [if_neg (by omega)])); (try (first | rw [if_pos (by omega)] | rw [if_neg (by omega)])))) (uI1 (by symm; unfold plT; (first | rw [if_pos (by omega)] | rw [if_neg (by omega)]); (try (first | rw [if_pos (by omega)] | rw [if_neg (by omega)])); (try (first | rw [if_pos (by omega)] | rw [if_neg (by omega)])))) rfl (by rw [show plU0 (σ 4 b) (σ 5 (2 * b)) nx = 1 from (by unfold plU0; (first | rw [if_pos (by omega)] | rw [if_neg (by omega)]); (try (first | rw [if_pos (by omega)] | rw [if_neg (by omega)])); (try (first | rw [if_pos (by omega)] | rw [if_neg (by omega)]))), show plU1 (σ 4 b) (σ 5 (2 * b)) (σ 5 (2 * b + 1)) nx = 0 from (by unfold plU1; (first | rw [if_pos (by omega)] | rw [if_neg (by omega)]); (try (first | rw [if_pos (by omega)] | rw [if_neg (by omega)])); (try (first | rw [if_pos (by omega)] | rw [if_neg (by omega)])))]; try omega) rfl⟩
