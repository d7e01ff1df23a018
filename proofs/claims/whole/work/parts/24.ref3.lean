/-- a layout's arrays in the reference -/
def iLB (σ : av_S) (b : Int) : Prop := (0 ≤ σ 38 b ∧ σ 38 b ≤ 2) ∧ (1 ≤ σ 40 (2 * b) ∧ σ 40 (2 * b) ≤ 2) ∧ (1 ≤ σ 40 (2 * b + 1) ∧ σ 40 (2 * b + 1) ≤ 2) ∧ (σ 41 b = 0 ∨ σ 41 b = 1)
def iLM (σ : av_S) : Prop := ∀ b, 0 ≤ b → b < σ 26 1 → iLB σ b
def aAtM (σ : av_S) (k : Int) : Int := if σ 26 5 = 1 ∧ 0 ≤ k ∧ k < σ 26 1 then σ 37 k else -3
set_option maxRecDepth 100000 in
set_option maxHeartbeats 400000 in
theorem ev_M_at {sc : av_sc} {d : Nat} {σ : av_S} {k : Int} (hk : av_in k) (hI : iM σ) : av_Ev sc m_M_at (d + 1) false 0 0 [vR 26, vI k] (hp σ) (fun r h => r = some (vI (aAtM σ k)) ∧ h = hp σ) := by
  obtain ⟨hn, hB, hc31, hc32, hlo, hrg⟩ := id hI
  refine av_ev rfl rfl (Nat.le_of_ble_eq_true rfl) rfl ?_
  refine rn_aload_n 1 d_M_at_0 rfl rfl ?_
  refine rn_getfield 4 d_M_at_1 rfl fd_M_22 rfl rfl ?_
  refine rn_if_eq 15 7 d_M_at_4 rfl rfl ⟨by omega, by omega⟩ (fun c_4 => ?_) (fun c_4 => ?_)
  · refine rn_bipush 17 d_M_at_15 rfl rfl ?_
    refine rn_goto 26 d_M_at_17 rfl ?_
    first | (exfalso; omega) | exact rn_ireturn d_M_at_26 (Or.inl rfl) ⟨by unfold aAtM; (first | rw [if_pos (by omega)] | rw [if_neg (by omega)]); try (first | rw [if_pos (by omega)] | rw [if_neg (by omega)]), rfl⟩
  · refine rn_aload_n 8 d_M_at_7 rfl rfl ?_
    refine rn_iload_n 9 d_M_at_8 rfl rfl ?_
    refine rn_callV1 12 d_M_at_9 rfl cw_M_83 rfl (Nat.le_of_ble_eq_true rfl) (ev_M_no hk hn) ?_
    rintro _ _ ⟨rfl, rfl⟩
    refine rn_ifB_eq 20 15 d_M_at_12 rfl rfl (fun c_12 => ?_) (fun c_12 => ?_)
    · refine rn_aload_n 21 d_M_at_20 rfl rfl ?_
      refine rn_getfield 24 d_M_at_21 rfl fd_M_58 rfl rfl ?_
      refine rn_iload_n 25 d_M_at_24 rfl rfl ?_
      refine rn_iaload 26 d_M_at_25 rfl rfl (by decide) (by omega) (by omega) ?_
      first | (exfalso; omega) | exact rn_ireturn d_M_at_26 (Or.inl rfl) ⟨by unfold aAtM; (first | rw [if_pos (by omega)] | rw [if_neg (by omega)]); try (first | rw [if_pos (by omega)] | rw [if_neg (by omega)]), rfl⟩
    · refine rn_bipush 17 d_M_at_15 rfl rfl ?_
      refine rn_goto 26 d_M_at_17 rfl ?_
      first | (exfalso; omega) | exact rn_ireturn d_M_at_26 (Or.inl rfl) ⟨by unfold aAtM; (first | rw [if_pos (by omega)] | rw [if_neg (by omega)]); try (first | rw [if_pos (by omega)] | rw [if_neg (by omega)]), rfl⟩
set_option maxRecDepth 100000 in
set_option maxHeartbeats 400000 in
theorem ev_M_noBranch {sc : av_sc} {d : Nat} {σ : av_S} {b i : Int} (hb : av_in b) (hi : av_in i) (hI : iM σ) (hL : σ 26 5 = 1 → iLM σ) : av_Ev sc m_M_noBranch (d + 1) false 0 0 [vR 26, vI b, vI i] (hp σ) (fun r h => r = some (vI (bz (σ 26 5 = 0 ∨ (b < 0 ∨ σ 26 1 ≤ b) ∨ i < 0 ∨ σ 38 b ≤ i))) ∧ h = hp σ) := by
  obtain ⟨hn, hB, hc31, hc32, hlo, hrg⟩ := id hI
  obtain ⟨hi1, hi2⟩ := hi
  refine av_ev rfl rfl (Nat.le_of_ble_eq_true rfl) rfl ?_
  refine rn_aload_n 1 d_M_noBranch_0 rfl rfl ?_
  refine rn_getfield 4 d_M_noBranch_1 rfl fd_M_22 rfl rfl ?_
  refine rn_if_eq 29 7 d_M_noBranch_4 rfl rfl ⟨by omega, by omega⟩ (fun c_4 => ?_) (fun c_4 => ?_)
  · refine rn_iconst 30 d_M_noBranch_29 rfl ?_
    refine rn_goto 34 d_M_noBranch_30 rfl ?_
    exact rn_ireturn d_M_noBranch_34 (Or.inr ⟨rfl, Or.inr rfl⟩) ⟨by rw [bz_t (by omega)], rfl⟩
  · refine rn_aload_n 8 d_M_noBranch_7 rfl rfl ?_
    refine rn_iload_n 9 d_M_noBranch_8 rfl rfl ?_
    refine rn_callV1 12 d_M_noBranch_9 rfl cw_M_83 rfl (Nat.le_of_ble_eq_true rfl) (ev_M_no hb hn) ?_
    rintro _ _ ⟨rfl, rfl⟩
    refine rn_ifB_ne 29 15 d_M_noBranch_12 rfl rfl (fun c_12 => ?_) (fun c_12 => ?_)
    · refine rn_iconst 30 d_M_noBranch_29 rfl ?_
      refine rn_goto 34 d_M_noBranch_30 rfl ?_
      exact rn_ireturn d_M_noBranch_34 (Or.inr ⟨rfl, Or.inr rfl⟩) ⟨by rw [bz_t (by omega)], rfl⟩
    · have hLb := (hL (by omega) b (by omega) (by omega)).1
      refine rn_iload_n 16 d_M_noBranch_15 rfl rfl ?_
      refine rn_if_lt 29 19 d_M_noBranch_16 rfl rfl ⟨by omega, by omega⟩ (fun c_16 => ?_) (fun c_16 => ?_)
      · refine rn_iconst 30 d_M_noBranch_29 rfl ?_
        refine rn_goto 34 d_M_noBranch_30 rfl ?_
        exact rn_ireturn d_M_noBranch_34 (Or.inr ⟨rfl, Or.inr rfl⟩) ⟨by rw [bz_t (by omega)], rfl⟩
      · refine rn_iload_n 20 d_M_noBranch_19 rfl rfl ?_
        refine rn_aload_n 21 d_M_noBranch_20 rfl rfl ?_
        refine rn_getfield 24 d_M_noBranch_21 rfl fd_M_61 rfl rfl ?_
        refine rn_iload_n 25 d_M_noBranch_24 rfl rfl ?_
        refine rn_iaload 26 d_M_noBranch_25 rfl rfl (by decide) (by omega) (by omega) ?_
        refine rn_icmp_lt 33 29 d_M_noBranch_26 rfl rfl ⟨by omega, by omega⟩ ⟨by omega, by omega⟩ (fun c_26 => ?_) (fun c_26 => ?_)
        · refine rn_iconst 34 d_M_noBranch_33 rfl ?_
          exact rn_ireturn d_M_noBranch_34 (Or.inr ⟨rfl, Or.inl rfl⟩) ⟨by rw [bz_f (by omega)], rfl⟩
        · refine rn_iconst 30 d_M_noBranch_29 rfl ?_
          refine rn_goto 34 d_M_noBranch_30 rfl ?_
          exact rn_ireturn d_M_noBranch_34 (Or.inr ⟨rfl, Or.inr rfl⟩) ⟨by rw [bz_t (by omega)], rfl⟩
def aBranchM (σ : av_S) (b i : Int) : Int := if (σ 26 5 = 0 ∨ (b < 0 ∨ σ 26 1 ≤ b) ∨ i < 0 ∨ σ 38 b ≤ i) then -3 else σ 40 (2 * b + i)
set_option maxRecDepth 100000 in
set_option maxHeartbeats 400000 in
theorem ev_M_branch {sc : av_sc} {d : Nat} {σ : av_S} {b i : Int} (hb : av_in b) (hi : av_in i) (hI : iM σ) (hL : σ 26 5 = 1 → iLM σ) : av_Ev sc m_M_branch (d + 2) false 0 0 [vR 26, vI b, vI i] (hp σ) (fun r h => r = some (vI (aBranchM σ b i)) ∧ h = hp σ) := by
  obtain ⟨hn, hB, hc31, hc32, hlo, hrg⟩ := id hI
  refine av_ev rfl rfl (Nat.le_of_ble_eq_true rfl) rfl ?_
  refine rn_aload_n 1 d_M_branch_0 rfl rfl ?_
  refine rn_iload_n 2 d_M_branch_1 rfl rfl ?_
  refine rn_iload_n 3 d_M_branch_2 rfl rfl ?_
  refine rn_callV2 6 d_M_branch_3 rfl cw_M_146 rfl (Nat.le_of_ble_eq_true rfl) (ev_M_noBranch hb hi hI hL) ?_
  rintro _ _ ⟨rfl, rfl⟩
  refine rn_ifB_eq 14 9 d_M_branch_6 rfl rfl (fun c_6 => ?_) (fun c_6 => ?_)
  · have hLb := (hL (by omega) b (by omega) (by omega)).1
    refine rn_aload_n 15 d_M_branch_14 rfl rfl ?_
    refine rn_getfield 18 d_M_branch_15 rfl fd_M_67 rfl rfl ?_
    refine rn_iload_n 19 d_M_branch_18 rfl rfl ?_
    refine rn_iconst 20 d_M_branch_19 rfl ?_
    refine rn_imul 21 d_M_branch_20 rfl ?_
    rw [Int.mul_comm b 2]
    refine rn_iload_n 22 d_M_branch_21 rfl rfl ?_
    refine rn_iadd 23 d_M_branch_22 rfl ?_
    refine rn_iaload 24 d_M_branch_23 rfl rfl (by decide) (by omega) (by omega) ?_
    first | (exfalso; omega) | exact rn_ireturn d_M_branch_24 (Or.inl rfl) ⟨by unfold aBranchM; (first | rw [if_pos (by omega)] | rw [if_neg (by omega)]); try (first | rw [if_pos (by omega)] | rw [if_neg (by omega)]), rfl⟩
  · refine rn_bipush 11 d_M_branch_9 rfl rfl ?_
    refine rn_goto 24 d_M_branch_11 rfl ?_
    first | (exfalso; omega) | exact rn_ireturn d_M_branch_24 (Or.inl rfl) ⟨by unfold aBranchM; (first | rw [if_pos (by omega)] | rw [if_neg (by omega)]); try (first | rw [if_pos (by omega)] | rw [if_neg (by omega)]), rfl⟩
def aTargetM (σ : av_S) (b i : Int) : Int := if (σ 26 5 = 0 ∨ (b < 0 ∨ σ 26 1 ≤ b) ∨ i < 0 ∨ σ 38 b ≤ i) then -3 else σ 39 (2 * b + i)
set_option maxRecDepth 100000 in
set_option maxHeartbeats 400000 in
theorem ev_M_target {sc : av_sc} {d : Nat} {σ : av_S} {b i : Int} (hb : av_in b) (hi : av_in i) (hI : iM σ) (hL : σ 26 5 = 1 → iLM σ) : av_Ev sc m_M_target (d + 2) false 0 0 [vR 26, vI b, vI i] (hp σ) (fun r h => r = some (vI (aTargetM σ b i)) ∧ h = hp σ) := by
  obtain ⟨hn, hB, hc31, hc32, hlo, hrg⟩ := id hI
  refine av_ev rfl rfl (Nat.le_of_ble_eq_true rfl) rfl ?_
  refine rn_aload_n 1 d_M_target_0 rfl rfl ?_
  refine rn_iload_n 2 d_M_target_1 rfl rfl ?_
  refine rn_iload_n 3 d_M_target_2 rfl rfl ?_
  refine rn_callV2 6 d_M_target_3 rfl cw_M_146 rfl (Nat.le_of_ble_eq_true rfl) (ev_M_noBranch hb hi hI hL) ?_
  rintro _ _ ⟨rfl, rfl⟩
  refine rn_ifB_eq 14 9 d_M_target_6 rfl rfl (fun c_6 => ?_) (fun c_6 => ?_)
  · have hLb := (hL (by omega) b (by omega) (by omega)).1
    refine rn_aload_n 15 d_M_target_14 rfl rfl ?_
    refine rn_getfield 18 d_M_target_15 rfl fd_M_64 rfl rfl ?_
    refine rn_iload_n 19 d_M_target_18 rfl rfl ?_
    refine rn_iconst 20 d_M_target_19 rfl ?_
    refine rn_imul 21 d_M_target_20 rfl ?_
    rw [Int.mul_comm b 2]
    refine rn_iload_n 22 d_M_target_21 rfl rfl ?_
    refine rn_iadd 23 d_M_target_22 rfl ?_
    refine rn_iaload 24 d_M_target_23 rfl rfl (by decide) (by omega) (by omega) ?_
    first | (exfalso; omega) | exact rn_ireturn d_M_target_24 (Or.inl rfl) ⟨by unfold aTargetM; (first | rw [if_pos (by omega)] | rw [if_neg (by omega)]); try (first | rw [if_pos (by omega)] | rw [if_neg (by omega)]), rfl⟩
  · refine rn_bipush 11 d_M_target_9 rfl rfl ?_
    refine rn_goto 24 d_M_target_11 rfl ?_
    first | (exfalso; omega) | exact rn_ireturn d_M_target_24 (Or.inl rfl) ⟨by unfold aTargetM; (first | rw [if_pos (by omega)] | rw [if_neg (by omega)]); try (first | rw [if_pos (by omega)] | rw [if_neg (by omega)]), rfl⟩
def aHeatOfM (σ : av_S) (b e : Int) : Int := if (b < 0 ∨ σ 26 1 ≤ b) ∨ e < -1 ∨ σ 29 b ≤ e then -3 else if e < 0 then σ 31 b else σ 32 (2 * b + e)
set_option maxRecDepth 100000 in
set_option maxHeartbeats 400000 in
theorem ev_M_heatOf {sc : av_sc} {d : Nat} {σ : av_S} {b e : Int} (hb : av_in b) (he : av_in e) (hI : iM σ) : av_Ev sc m_M_heatOf (d + 1) false 0 0 [vR 26, vI b, vI e] (hp σ) (fun r h => r = some (vI (aHeatOfM σ b e)) ∧ h = hp σ) := by
  obtain ⟨hn, hB, hc31, hc32, hlo, hrg⟩ := id hI
  obtain ⟨he1, he2⟩ := id he
  refine av_ev rfl rfl (Nat.le_of_ble_eq_true rfl) rfl ?_
  refine rn_aload_n 1 d_M_heatOf_0 rfl rfl ?_
  refine rn_iload_n 2 d_M_heatOf_1 rfl rfl ?_
  refine rn_callV1 5 d_M_heatOf_2 rfl cw_M_83 rfl (Nat.le_of_ble_eq_true rfl) (ev_M_no hb hn) ?_
  rintro _ _ ⟨rfl, rfl⟩
  refine rn_ifB_ne 23 8 d_M_heatOf_5 rfl rfl (fun c_5 => ?_) (fun c_5 => ?_)
  · refine rn_bipush 25 d_M_heatOf_23 rfl rfl ?_
    first | (exfalso; omega) | exact rn_ireturn d_M_heatOf_25 (Or.inl rfl) ⟨by unfold aHeatOfM; (first | rw [if_pos (by omega)] | rw [if_neg (by omega)]); try (first | rw [if_pos (by omega)] | rw [if_neg (by omega)]), rfl⟩
  · have hEb := (hB b (by omega) (by omega)).2.2.1
    refine rn_iload_n 9 d_M_heatOf_8 rfl rfl ?_
    refine rn_iconst 10 d_M_heatOf_9 rfl ?_
    refine rn_icmp_lt 23 13 d_M_heatOf_10 rfl rfl ⟨by omega, by omega⟩ ⟨by omega, by omega⟩ (fun c_10 => ?_) (fun c_10 => ?_)
    · refine rn_bipush 25 d_M_heatOf_23 rfl rfl ?_
      first | (exfalso; omega) | exact rn_ireturn d_M_heatOf_25 (Or.inl rfl) ⟨by unfold aHeatOfM; (first | rw [if_pos (by omega)] | rw [if_neg (by omega)]); try (first | rw [if_pos (by omega)] | rw [if_neg (by omega)]), rfl⟩
    · refine rn_iload_n 14 d_M_heatOf_13 rfl rfl ?_
      refine rn_aload_n 15 d_M_heatOf_14 rfl rfl ?_
      refine rn_getfield 18 d_M_heatOf_15 rfl fd_M_33 rfl rfl ?_
      refine rn_iload_n 19 d_M_heatOf_18 rfl rfl ?_
      refine rn_iaload 20 d_M_heatOf_19 rfl rfl (by decide) (by omega) (by omega) ?_
      refine rn_icmp_lt 26 23 d_M_heatOf_20 rfl rfl ⟨by omega, by omega⟩ ⟨by omega, by omega⟩ (fun c_20 => ?_) (fun c_20 => ?_)
      · refine rn_iload_n 27 d_M_heatOf_26 rfl rfl ?_
        refine rn_if_ge 39 30 d_M_heatOf_27 rfl rfl ⟨by omega, by omega⟩ (fun c_27 => ?_) (fun c_27 => ?_)
        · refine rn_aload_n 40 d_M_heatOf_39 rfl rfl ?_
          refine rn_getfield 43 d_M_heatOf_40 rfl fd_M_42 rfl rfl ?_
          refine rn_iload_n 44 d_M_heatOf_43 rfl rfl ?_
          refine rn_iconst 45 d_M_heatOf_44 rfl ?_
          refine rn_imul 46 d_M_heatOf_45 rfl ?_
          rw [Int.mul_comm b 2]
          refine rn_iload_n 47 d_M_heatOf_46 rfl rfl ?_
          refine rn_iadd 48 d_M_heatOf_47 rfl ?_
          refine rn_iaload 49 d_M_heatOf_48 rfl rfl (by decide) (by omega) (by omega) ?_
          first | (exfalso; omega) | exact rn_ireturn d_M_heatOf_49 (Or.inl rfl) ⟨by unfold aHeatOfM; (first | rw [if_pos (by omega)] | rw [if_neg (by omega)]); try (first | rw [if_pos (by omega)] | rw [if_neg (by omega)]), rfl⟩
        · refine rn_aload_n 31 d_M_heatOf_30 rfl rfl ?_
          refine rn_getfield 34 d_M_heatOf_31 rfl fd_M_39 rfl rfl ?_
          refine rn_iload_n 35 d_M_heatOf_34 rfl rfl ?_
          refine rn_iaload 36 d_M_heatOf_35 rfl rfl (by decide) (by omega) (by omega) ?_
          refine rn_goto 49 d_M_heatOf_36 rfl ?_
          first | (exfalso; omega) | exact rn_ireturn d_M_heatOf_49 (Or.inl rfl) ⟨by unfold aHeatOfM; (first | rw [if_pos (by omega)] | rw [if_neg (by omega)]); try (first | rw [if_pos (by omega)] | rw [if_neg (by omega)]), rfl⟩
      · refine rn_bipush 25 d_M_heatOf_23 rfl rfl ?_
        first | (exfalso; omega) | exact rn_ireturn d_M_heatOf_25 (Or.inl rfl) ⟨by unfold aHeatOfM; (first | rw [if_pos (by omega)] | rw [if_neg (by omega)]); try (first | rw [if_pos (by omega)] | rw [if_neg (by omega)]), rfl⟩
def lvM (σ : av_S) (b e : Int) : Int := if σ 29 b = 0 then 1 else if σ 29 b = 1 then (if σ 38 b = 0 then 0 else 1 + σ 40 (2 * b)) else if (if e = 0 then 1 else 0) = σ 41 b then (if σ 38 b = 1 then 1 else 2 + σ 40 (2 * b + 1)) else 1 + σ 40 (2 * b)
set_option maxRecDepth 100000 in
set_option maxHeartbeats 400000 in
theorem ev_M_leaving {sc : av_sc} {d : Nat} {σ : av_S} {b e : Int} (hb : 0 ≤ b ∧ b < 24) (he : -1 ≤ e ∧ e ≤ 1) (hE : 0 ≤ σ 29 b ∧ σ 29 b ≤ 2) (hLb : iLB σ b) : av_Ev sc m_M_leaving (d) false 0 0 [vR 26, vI b, vI e] (hp σ) (fun r h => r = some (vI (lvM σ b e)) ∧ h = hp σ) := by
  obtain ⟨hl1, hl2, hl3, hl4⟩ := hLb
  refine av_ev rfl rfl (Nat.le_of_ble_eq_true rfl) rfl ?_
  refine rn_iload_n 1 d_M_leaving_0 rfl rfl ?_
  refine rn_iconst 2 d_M_leaving_1 rfl ?_
  refine rn_imul 3 d_M_leaving_2 rfl ?_
  rw [Int.mul_comm b 2]
  refine rn_istore_n 4 d_M_leaving_3 rfl (by decide) rfl rfl ?_
  refine rn_aload_n 5 d_M_leaving_4 rfl rfl ?_
  refine rn_getfield 8 d_M_leaving_5 rfl fd_M_33 rfl rfl ?_
  refine rn_iload_n 9 d_M_leaving_8 rfl rfl ?_
  refine rn_iaload 10 d_M_leaving_9 rfl rfl (by decide) (by omega) (by omega) ?_
  refine rn_if_ne 15 13 d_M_leaving_10 rfl rfl ⟨by omega, by omega⟩ (fun c_10 => ?_) (fun c_10 => ?_)
  · refine rn_aload_n 16 d_M_leaving_15 rfl rfl ?_
    refine rn_getfield 19 d_M_leaving_16 rfl fd_M_33 rfl rfl ?_
    refine rn_iload_n 20 d_M_leaving_19 rfl rfl ?_
    refine rn_iaload 21 d_M_leaving_20 rfl rfl (by decide) (by omega) (by omega) ?_
    refine rn_iconst 22 d_M_leaving_21 rfl ?_
    refine rn_icmp_ne 47 25 d_M_leaving_22 rfl rfl ⟨by omega, by omega⟩ ⟨by omega, by omega⟩ (fun c_22 => ?_) (fun c_22 => ?_)
    · refine rn_iload_n 48 d_M_leaving_47 rfl rfl ?_
      refine rn_if_ne 55 51 d_M_leaving_48 rfl rfl ⟨by omega, by omega⟩ (fun c_48 => ?_) (fun c_48 => ?_)
      · refine rn_iconst 56 d_M_leaving_55 rfl ?_
        refine rn_aload_n 57 d_M_leaving_56 rfl rfl ?_
        refine rn_getfield 60 d_M_leaving_57 rfl fd_M_70 rfl rfl ?_
        refine rn_iload_n 61 d_M_leaving_60 rfl rfl ?_
        refine rn_baload 62 d_M_leaving_61 rfl rfl (by decide) (by omega) (by omega) ?_
        refine rn_icmp_eq 69 65 d_M_leaving_62 rfl rfl ⟨by omega, by omega⟩ ⟨by omega, by omega⟩ (fun c_62 => ?_) (fun c_62 => ?_)
        · refine rn_iconst 70 d_M_leaving_69 rfl ?_
          refine rn_istore 72 d_M_leaving_70 rfl (by decide) rfl rfl ?_
          refine rn_iload 74 d_M_leaving_72 rfl rfl ?_
          refine rn_if_eq 86 77 d_M_leaving_74 rfl rfl ⟨by omega, by omega⟩ (fun c_74 => ?_) (fun c_74 => ?_)
          · refine rn_aload_n 87 d_M_leaving_86 rfl rfl ?_
            refine rn_getfield 90 d_M_leaving_87 rfl fd_M_61 rfl rfl ?_
            refine rn_iload_n 91 d_M_leaving_90 rfl rfl ?_
            refine rn_iaload 92 d_M_leaving_91 rfl rfl (by decide) (by omega) (by omega) ?_
            refine rn_iconst 93 d_M_leaving_92 rfl ?_
            refine rn_icmp_ne 100 96 d_M_leaving_93 rfl rfl ⟨by omega, by omega⟩ ⟨by omega, by omega⟩ (fun c_93 => ?_) (fun c_93 => ?_)
            · refine rn_iconst 101 d_M_leaving_100 rfl ?_
              refine rn_aload_n 102 d_M_leaving_101 rfl rfl ?_
              refine rn_getfield 105 d_M_leaving_102 rfl fd_M_67 rfl rfl ?_
              refine rn_iload_n 106 d_M_leaving_105 rfl rfl ?_
              refine rn_iconst 107 d_M_leaving_106 rfl ?_
              refine rn_iadd 108 d_M_leaving_107 rfl ?_
              refine rn_iaload 109 d_M_leaving_108 rfl rfl (by decide) (by omega) (by omega) ?_
              refine rn_iadd 110 d_M_leaving_109 rfl ?_
              first | (exfalso; omega) | exact rn_ireturn d_M_leaving_110 (Or.inl rfl) ⟨congrArg (fun z => some (vI z)) (by unfold lvM; (try split) <;> (try split) <;> (try split) <;> (try split) <;> omega), rfl⟩
            · refine rn_iconst 97 d_M_leaving_96 rfl ?_
              refine rn_goto 110 d_M_leaving_97 rfl ?_
              first | (exfalso; omega) | exact rn_ireturn d_M_leaving_110 (Or.inl rfl) ⟨congrArg (fun z => some (vI z)) (by unfold lvM; (try split) <;> (try split) <;> (try split) <;> (try split) <;> omega), rfl⟩
          · refine rn_iconst 78 d_M_leaving_77 rfl ?_
            refine rn_aload_n 79 d_M_leaving_78 rfl rfl ?_
            refine rn_getfield 82 d_M_leaving_79 rfl fd_M_67 rfl rfl ?_
            refine rn_iload_n 83 d_M_leaving_82 rfl rfl ?_
            refine rn_iaload 84 d_M_leaving_83 rfl rfl (by decide) (by omega) (by omega) ?_
            refine rn_iadd 85 d_M_leaving_84 rfl ?_
            first | (exfalso; omega) | exact rn_ireturn d_M_leaving_85 (Or.inl rfl) ⟨congrArg (fun z => some (vI z)) (by unfold lvM; (try split) <;> (try split) <;> (try split) <;> (try split) <;> omega), rfl⟩
        · refine rn_iconst 66 d_M_leaving_65 rfl ?_
          refine rn_goto 70 d_M_leaving_66 rfl ?_
          refine rn_istore 72 d_M_leaving_70 rfl (by decide) rfl rfl ?_
          refine rn_iload 74 d_M_leaving_72 rfl rfl ?_
          refine rn_if_eq 86 77 d_M_leaving_74 rfl rfl ⟨by omega, by omega⟩ (fun c_74 => ?_) (fun c_74 => ?_)
          · refine rn_aload_n 87 d_M_leaving_86 rfl rfl ?_
            refine rn_getfield 90 d_M_leaving_87 rfl fd_M_61 rfl rfl ?_
            refine rn_iload_n 91 d_M_leaving_90 rfl rfl ?_
            refine rn_iaload 92 d_M_leaving_91 rfl rfl (by decide) (by omega) (by omega) ?_
            refine rn_iconst 93 d_M_leaving_92 rfl ?_
            refine rn_icmp_ne 100 96 d_M_leaving_93 rfl rfl ⟨by omega, by omega⟩ ⟨by omega, by omega⟩ (fun c_93 => ?_) (fun c_93 => ?_)
            · refine rn_iconst 101 d_M_leaving_100 rfl ?_
              refine rn_aload_n 102 d_M_leaving_101 rfl rfl ?_
              refine rn_getfield 105 d_M_leaving_102 rfl fd_M_67 rfl rfl ?_
              refine rn_iload_n 106 d_M_leaving_105 rfl rfl ?_
              refine rn_iconst 107 d_M_leaving_106 rfl ?_
              refine rn_iadd 108 d_M_leaving_107 rfl ?_
              refine rn_iaload 109 d_M_leaving_108 rfl rfl (by decide) (by omega) (by omega) ?_
              refine rn_iadd 110 d_M_leaving_109 rfl ?_
              first | (exfalso; omega) | exact rn_ireturn d_M_leaving_110 (Or.inl rfl) ⟨congrArg (fun z => some (vI z)) (by unfold lvM; (try split) <;> (try split) <;> (try split) <;> (try split) <;> omega), rfl⟩
            · refine rn_iconst 97 d_M_leaving_96 rfl ?_
              refine rn_goto 110 d_M_leaving_97 rfl ?_
              first | (exfalso; omega) | exact rn_ireturn d_M_leaving_110 (Or.inl rfl) ⟨congrArg (fun z => some (vI z)) (by unfold lvM; (try split) <;> (try split) <;> (try split) <;> (try split) <;> omega), rfl⟩
          · refine rn_iconst 78 d_M_leaving_77 rfl ?_
            refine rn_aload_n 79 d_M_leaving_78 rfl rfl ?_
            refine rn_getfield 82 d_M_leaving_79 rfl fd_M_67 rfl rfl ?_
            refine rn_iload_n 83 d_M_leaving_82 rfl rfl ?_
            refine rn_iaload 84 d_M_leaving_83 rfl rfl (by decide) (by omega) (by omega) ?_
            refine rn_iadd 85 d_M_leaving_84 rfl ?_
            first | (exfalso; omega) | exact rn_ireturn d_M_leaving_85 (Or.inl rfl) ⟨congrArg (fun z => some (vI z)) (by unfold lvM; (try split) <;> (try split) <;> (try split) <;> (try split) <;> omega), rfl⟩
      · refine rn_iconst 52 d_M_leaving_51 rfl ?_
        refine rn_goto 56 d_M_leaving_52 rfl ?_
        refine rn_aload_n 57 d_M_leaving_56 rfl rfl ?_
        refine rn_getfield 60 d_M_leaving_57 rfl fd_M_70 rfl rfl ?_
        refine rn_iload_n 61 d_M_leaving_60 rfl rfl ?_
        refine rn_baload 62 d_M_leaving_61 rfl rfl (by decide) (by omega) (by omega) ?_
        refine rn_icmp_eq 69 65 d_M_leaving_62 rfl rfl ⟨by omega, by omega⟩ ⟨by omega, by omega⟩ (fun c_62 => ?_) (fun c_62 => ?_)
        · refine rn_iconst 70 d_M_leaving_69 rfl ?_
          refine rn_istore 72 d_M_leaving_70 rfl (by decide) rfl rfl ?_
          refine rn_iload 74 d_M_leaving_72 rfl rfl ?_
          refine rn_if_eq 86 77 d_M_leaving_74 rfl rfl ⟨by omega, by omega⟩ (fun c_74 => ?_) (fun c_74 => ?_)
          · refine rn_aload_n 87 d_M_leaving_86 rfl rfl ?_
            refine rn_getfield 90 d_M_leaving_87 rfl fd_M_61 rfl rfl ?_
            refine rn_iload_n 91 d_M_leaving_90 rfl rfl ?_
            refine rn_iaload 92 d_M_leaving_91 rfl rfl (by decide) (by omega) (by omega) ?_
            refine rn_iconst 93 d_M_leaving_92 rfl ?_
            refine rn_icmp_ne 100 96 d_M_leaving_93 rfl rfl ⟨by omega, by omega⟩ ⟨by omega, by omega⟩ (fun c_93 => ?_) (fun c_93 => ?_)
            · refine rn_iconst 101 d_M_leaving_100 rfl ?_
              refine rn_aload_n 102 d_M_leaving_101 rfl rfl ?_
              refine rn_getfield 105 d_M_leaving_102 rfl fd_M_67 rfl rfl ?_
              refine rn_iload_n 106 d_M_leaving_105 rfl rfl ?_
              refine rn_iconst 107 d_M_leaving_106 rfl ?_
              refine rn_iadd 108 d_M_leaving_107 rfl ?_
              refine rn_iaload 109 d_M_leaving_108 rfl rfl (by decide) (by omega) (by omega) ?_
              refine rn_iadd 110 d_M_leaving_109 rfl ?_
              first | (exfalso; omega) | exact rn_ireturn d_M_leaving_110 (Or.inl rfl) ⟨congrArg (fun z => some (vI z)) (by unfold lvM; (try split) <;> (try split) <;> (try split) <;> (try split) <;> omega), rfl⟩
            · refine rn_iconst 97 d_M_leaving_96 rfl ?_
              refine rn_goto 110 d_M_leaving_97 rfl ?_
              first | (exfalso; omega) | exact rn_ireturn d_M_leaving_110 (Or.inl rfl) ⟨congrArg (fun z => some (vI z)) (by unfold lvM; (try split) <;> (try split) <;> (try split) <;> (try split) <;> omega), rfl⟩
          · refine rn_iconst 78 d_M_leaving_77 rfl ?_
            refine rn_aload_n 79 d_M_leaving_78 rfl rfl ?_
            refine rn_getfield 82 d_M_leaving_79 rfl fd_M_67 rfl rfl ?_
            refine rn_iload_n 83 d_M_leaving_82 rfl rfl ?_
            refine rn_iaload 84 d_M_leaving_83 rfl rfl (by decide) (by omega) (by omega) ?_
            refine rn_iadd 85 d_M_leaving_84 rfl ?_
            first | (exfalso; omega) | exact rn_ireturn d_M_leaving_85 (Or.inl rfl) ⟨congrArg (fun z => some (vI z)) (by unfold lvM; (try split) <;> (try split) <;> (try split) <;> (try split) <;> omega), rfl⟩
        · refine rn_iconst 66 d_M_leaving_65 rfl ?_
          refine rn_goto 70 d_M_leaving_66 rfl ?_
          refine rn_istore 72 d_M_leaving_70 rfl (by decide) rfl rfl ?_
          refine rn_iload 74 d_M_leaving_72 rfl rfl ?_
          refine rn_if_eq 86 77 d_M_leaving_74 rfl rfl ⟨by omega, by omega⟩ (fun c_74 => ?_) (fun c_74 => ?_)
          · refine rn_aload_n 87 d_M_leaving_86 rfl rfl ?_
            refine rn_getfield 90 d_M_leaving_87 rfl fd_M_61 rfl rfl ?_
            refine rn_iload_n 91 d_M_leaving_90 rfl rfl ?_
            refine rn_iaload 92 d_M_leaving_91 rfl rfl (by decide) (by omega) (by omega) ?_
            refine rn_iconst 93 d_M_leaving_92 rfl ?_
            refine rn_icmp_ne 100 96 d_M_leaving_93 rfl rfl ⟨by omega, by omega⟩ ⟨by omega, by omega⟩ (fun c_93 => ?_) (fun c_93 => ?_)
            · refine rn_iconst 101 d_M_leaving_100 rfl ?_
              refine rn_aload_n 102 d_M_leaving_101 rfl rfl ?_
              refine rn_getfield 105 d_M_leaving_102 rfl fd_M_67 rfl rfl ?_
              refine rn_iload_n 106 d_M_leaving_105 rfl rfl ?_
              refine rn_iconst 107 d_M_leaving_106 rfl ?_
              refine rn_iadd 108 d_M_leaving_107 rfl ?_
              refine rn_iaload 109 d_M_leaving_108 rfl rfl (by decide) (by omega) (by omega) ?_
              refine rn_iadd 110 d_M_leaving_109 rfl ?_
              first | (exfalso; omega) | exact rn_ireturn d_M_leaving_110 (Or.inl rfl) ⟨congrArg (fun z => some (vI z)) (by unfold lvM; (try split) <;> (try split) <;> (try split) <;> (try split) <;> omega), rfl⟩
            · refine rn_iconst 97 d_M_leaving_96 rfl ?_
              refine rn_goto 110 d_M_leaving_97 rfl ?_
              first | (exfalso; omega) | exact rn_ireturn d_M_leaving_110 (Or.inl rfl) ⟨congrArg (fun z => some (vI z)) (by unfold lvM; (try split) <;> (try split) <;> (try split) <;> (try split) <;> omega), rfl⟩
          · refine rn_iconst 78 d_M_leaving_77 rfl ?_
            refine rn_aload_n 79 d_M_leaving_78 rfl rfl ?_
            refine rn_getfield 82 d_M_leaving_79 rfl fd_M_67 rfl rfl ?_
            refine rn_iload_n 83 d_M_leaving_82 rfl rfl ?_
            refine rn_iaload 84 d_M_leaving_83 rfl rfl (by decide) (by omega) (by omega) ?_
            refine rn_iadd 85 d_M_leaving_84 rfl ?_
            first | (exfalso; omega) | exact rn_ireturn d_M_leaving_85 (Or.inl rfl) ⟨congrArg (fun z => some (vI z)) (by unfold lvM; (try split) <;> (try split) <;> (try split) <;> (try split) <;> omega), rfl⟩
    · refine rn_aload_n 26 d_M_leaving_25 rfl rfl ?_
      refine rn_getfield 29 d_M_leaving_26 rfl fd_M_61 rfl rfl ?_
      refine rn_iload_n 30 d_M_leaving_29 rfl rfl ?_
      refine rn_iaload 31 d_M_leaving_30 rfl rfl (by decide) (by omega) (by omega) ?_
      refine rn_if_ne 38 34 d_M_leaving_31 rfl rfl ⟨by omega, by omega⟩ (fun c_31 => ?_) (fun c_31 => ?_)
      · refine rn_iconst 39 d_M_leaving_38 rfl ?_
        refine rn_aload_n 40 d_M_leaving_39 rfl rfl ?_
        refine rn_getfield 43 d_M_leaving_40 rfl fd_M_67 rfl rfl ?_
        refine rn_iload_n 44 d_M_leaving_43 rfl rfl ?_
        refine rn_iaload 45 d_M_leaving_44 rfl rfl (by decide) (by omega) (by omega) ?_
        refine rn_iadd 46 d_M_leaving_45 rfl ?_
        first | (exfalso; omega) | exact rn_ireturn d_M_leaving_46 (Or.inl rfl) ⟨congrArg (fun z => some (vI z)) (by unfold lvM; (try split) <;> (try split) <;> (try split) <;> (try split) <;> omega), rfl⟩
      · refine rn_iconst 35 d_M_leaving_34 rfl ?_
        refine rn_goto 46 d_M_leaving_35 rfl ?_
        first | (exfalso; omega) | exact rn_ireturn d_M_leaving_46 (Or.inl rfl) ⟨congrArg (fun z => some (vI z)) (by unfold lvM; (try split) <;> (try split) <;> (try split) <;> (try split) <;> omega), rfl⟩
  · refine rn_iconst 14 d_M_leaving_13 rfl ?_
    first | (exfalso; omega) | exact rn_ireturn d_M_leaving_14 (Or.inl rfl) ⟨congrArg (fun z => some (vI z)) (by unfold lvM; (try split) <;> (try split) <;> (try split) <;> (try split) <;> omega), rfl⟩
def cSM (σ : av_S) : List (Int × Int) → Int
  | [] => 0
  | p :: r => lvM σ p.1 p.2 + cSM σ r
theorem lvM_e {σ : av_S} {b e e' : Int} (h : σ 29 b = 0 ∨ σ 29 b = 1) : lvM σ b e = lvM σ b e' := by
  unfold lvM
  rcases h with h | h
  · rw [if_pos h, if_pos h]
  · have h0 : ¬ σ 29 b = 0 := by omega
    simp only [if_neg h0, if_pos h]
theorem eM_lv {σ : av_S} {EN : Int → Int} {b i x : Int} (he : EN b = σ 29 b) (h : 0 ≤ σ 29 b ∧ σ 29 b ≤ 2) (hi : 0 ≤ i) : lvM σ b (eM (σ 29) b i x) = lvM σ b (wE EN x i b) := by
  by_cases h0 : σ 29 b = 0
  · exact lvM_e (Or.inl h0)
  · rw [eM_wE he h h0 hi]
set_option maxRecDepth 100000 in
set_option maxHeartbeats 400000 in
theorem costM_loop {sc : av_sc} {d n0 bc bs : Nat} {al : Bool} {σ : av_S} {EN TO : Int → Int} {fv x : Int} {Φ : Option av_V → av_H → Prop} (hn : 0 ≤ σ 26 1 ∧ σ 26 1 ≤ 24) (hB : ∀ b, 0 ≤ b → b < σ 26 1 → iMB σ b) (hL : iLM σ) (hw : hW σ EN TO) (hx : av_in x) :
    ∀ (k : Nat) (n t b sm : Int), n + ((k + 1 : Nat) : Int) = 60 → 0 ≤ n → 0 ≤ t → t ≤ n → 0 ≤ b → b < σ 26 1 → Φ (some (vI (sm + cSM σ (wk EN TO x (k + 1) t b)))) (hp σ) →
      av_Rn sc m_M_cost (d + 1) al n0 bc bs 41 [some (vR 26), some (vI fv), some (vI x), some (vI b), some (vI n), some (vI t), some (vI sm), none] [] (hp σ) Φ := by
  intro k
  induction k with
  | zero =>
    intro n t b sm hk h0 ht0 ht hb0 hb hΦ
    have hBb := hB b hb0 hb
    have hEb := hBb.2.2.1
    have hwb := hw b hb0 hb
    have e1 : wk EN TO x 1 t b = [(b, wE EN x t b)] := if_neg (by omega)
    rw [e1] at hΦ
    have e2 : sm + cSM σ [(b, wE EN x t b)] = sm + lvM σ b (wE EN x t b) := by show sm + (lvM σ b (wE EN x t b) + 0) = _; omega
    rw [e2, ← eM_lv hwb.1 hEb ht0] at hΦ
    have hei := eM_in (en := σ 29) (b := b) (i := t) (x := x) hEb
    refine rn_iinc 44 d_M_cost_41 rfl rfl (by decide) rfl rfl ?_
    refine rn_aload_n 45 d_M_cost_44 rfl rfl ?_
    refine rn_iload_n 46 d_M_cost_45 rfl rfl ?_
    refine rn_iload 48 d_M_cost_46 rfl rfl ?_
    refine rn_iload_n 49 d_M_cost_48 rfl rfl ?_
    refine rn_callV3 52 d_M_cost_49 rfl cw_M_96 rfl (Nat.le_of_ble_eq_true rfl) (ev_M_edge ⟨by omega, by omega⟩ ⟨by omega, by omega⟩ hEb) ?_
    rintro _ _ ⟨rfl, rfl⟩
    refine rn_istore 54 d_M_cost_52 rfl (by decide) rfl rfl ?_
    refine rn_iload 56 d_M_cost_54 rfl rfl ?_
    refine rn_aload_n 57 d_M_cost_56 rfl rfl ?_
    refine rn_iload_n 58 d_M_cost_57 rfl rfl ?_
    refine rn_iload 60 d_M_cost_58 rfl rfl ?_
    refine rn_callV2 63 d_M_cost_60 rfl cw_M_149 rfl (Nat.le_of_ble_eq_true rfl) (ev_M_leaving ⟨by omega, by omega⟩ hei hEb (hL b hb0 hb)) ?_
    rintro _ _ ⟨rfl, rfl⟩
    refine rn_iadd 64 d_M_cost_63 rfl ?_
    refine rn_istore 66 d_M_cost_64 rfl (by decide) rfl rfl ?_
    refine rn_iload 68 d_M_cost_66 rfl rfl ?_
    refine rn_bipush 70 d_M_cost_68 rfl rfl ?_
    refine rn_icmp_eq 78 73 d_M_cost_70 rfl rfl ⟨by omega, by omega⟩ ⟨by omega, by omega⟩ (fun c_70 => ?_) (fun c_70 => ?_)
    · refine rn_iload 80 d_M_cost_78 rfl rfl ?_
      exact rn_ireturn d_M_cost_80 (Or.inl rfl) hΦ
    · omega
  | succ k ih =>
    intro n t b sm hk h0 ht0 ht hb0 hb hΦ
    have hBb := hB b hb0 hb
    have hEb := hBb.2.2.1
    have hwb := hw b hb0 hb
    have e1 : wk EN TO x (k + 1 + 1) t b = (b, wE EN x t b) :: wk EN TO x (k + 1) (wT EN t b) (TO (2 * b + wE EN x t b)) := if_neg (by omega)
    rw [e1] at hΦ
    have e2 : sm + cSM σ ((b, wE EN x t b) :: wk EN TO x (k + 1) (wT EN t b) (TO (2 * b + wE EN x t b))) = sm + lvM σ b (eM (σ 29) b t x) + cSM σ (wk EN TO x (k + 1) (wT EN t b) (TO (2 * b + wE EN x t b))) := by
      rw [eM_lv hwb.1 hEb ht0]; show sm + (lvM σ b (wE EN x t b) + _) = _; omega
    rw [e2] at hΦ
    have hei := eM_in (en := σ 29) (b := b) (i := t) (x := x) hEb
    have hng := eM_neg (en := σ 29) (b := b) (i := t) (x := x) hEb
    refine rn_iinc 44 d_M_cost_41 rfl rfl (by decide) rfl rfl ?_
    refine rn_aload_n 45 d_M_cost_44 rfl rfl ?_
    refine rn_iload_n 46 d_M_cost_45 rfl rfl ?_
    refine rn_iload 48 d_M_cost_46 rfl rfl ?_
    refine rn_iload_n 49 d_M_cost_48 rfl rfl ?_
    refine rn_callV3 52 d_M_cost_49 rfl cw_M_96 rfl (Nat.le_of_ble_eq_true rfl) (ev_M_edge ⟨by omega, by omega⟩ ⟨by omega, by omega⟩ hEb) ?_
    rintro _ _ ⟨rfl, rfl⟩
    refine rn_istore 54 d_M_cost_52 rfl (by decide) rfl rfl ?_
    refine rn_iload 56 d_M_cost_54 rfl rfl ?_
    refine rn_aload_n 57 d_M_cost_56 rfl rfl ?_
    refine rn_iload_n 58 d_M_cost_57 rfl rfl ?_
    refine rn_iload 60 d_M_cost_58 rfl rfl ?_
    refine rn_callV2 63 d_M_cost_60 rfl cw_M_149 rfl (Nat.le_of_ble_eq_true rfl) (ev_M_leaving ⟨by omega, by omega⟩ hei hEb (hL b hb0 hb)) ?_
    rintro _ _ ⟨rfl, rfl⟩
    refine rn_iadd 64 d_M_cost_63 rfl ?_
    refine rn_istore 66 d_M_cost_64 rfl (by decide) rfl rfl ?_
    refine rn_iload 68 d_M_cost_66 rfl rfl ?_
    refine rn_bipush 70 d_M_cost_68 rfl rfl ?_
    refine rn_icmp_eq 78 73 d_M_cost_70 rfl rfl ⟨by omega, by omega⟩ ⟨by omega, by omega⟩ (fun c_70 => ?_) (fun c_70 => ?_)
    · omega
    · refine rn_iload 75 d_M_cost_73 rfl rfl ?_
      refine rn_if_ge 81 78 d_M_cost_75 rfl rfl ⟨by omega, by omega⟩ (fun c_75 => ?_) (fun c_75 => ?_)
      · have q0 : σ 29 b ≠ 0 := fun q => by have := hng.mpr q; omega
        have q1 : eM (σ 29) b t x = wE EN x t b := eM_wE hwb.1 hEb q0 ht0
        rw [q1] at hΦ ⊢
        have q2 : 0 ≤ wE EN x t b ∧ wE EN x t b < σ 29 b := by unfold wE; rw [hwb.1]; split <;> (try split) <;> omega
        have hTO : TO (2 * b + wE EN x t b) = σ 30 (2 * b + wE EN x t b) := by rw [hwb.2 _ q2.1 (by omega), if_pos q2.2]
        have hto := hBb.2.2.2 _ q2.1 q2.2
        have J : ∀ t' : Int, t' = wT EN t b → av_Rn sc m_M_cost (d + 1) al n0 bc bs 94 [some (vR 26), some (vI fv), some (vI x), some (vI b), some (vI (n + 1)), some (vI t'), some (vI (sm + lvM σ b (wE EN x t b))), some (vI (wE EN x t b))] [] (hp σ) Φ := by
          intro t' ht'
          have hT1 : 0 ≤ t' ∧ t' ≤ n + 1 := by rw [ht']; unfold wT; split <;> omega
          refine rn_aload_n 95 d_M_cost_94 rfl rfl ?_
          refine rn_getfield 98 d_M_cost_95 rfl fd_M_36 rfl rfl ?_
          refine rn_iload_n 99 d_M_cost_98 rfl rfl ?_
          refine rn_iconst 100 d_M_cost_99 rfl ?_
          refine rn_imul 101 d_M_cost_100 rfl ?_
          rw [Int.mul_comm b 2]
          refine rn_iload 103 d_M_cost_101 rfl rfl ?_
          refine rn_iadd 104 d_M_cost_103 rfl ?_
          refine rn_iaload 105 d_M_cost_104 rfl rfl (by decide) (by omega) (by omega) ?_
          refine rn_istore_n 106 d_M_cost_105 rfl (by decide) rfl rfl ?_
          refine rn_goto 41 d_M_cost_106 rfl ?_
          refine rn_kill 7 rfl ?_
          refine ih (n + 1) _ _ _ (by omega) (by omega) (by omega) (by omega) (by omega) (by omega) ?_
          rw [ht', ← hTO]
          exact hΦ
        refine rn_aload_n 82 d_M_cost_81 rfl rfl ?_
        refine rn_getfield 85 d_M_cost_82 rfl fd_M_33 rfl rfl ?_
        refine rn_iload_n 86 d_M_cost_85 rfl rfl ?_
        refine rn_iaload 87 d_M_cost_86 rfl rfl (by decide) (by omega) (by omega) ?_
        refine rn_iconst 88 d_M_cost_87 rfl ?_
        refine rn_icmp_ne 94 91 d_M_cost_88 rfl rfl ⟨by omega, by omega⟩ ⟨by omega, by omega⟩ (fun c_88 => ?_) (fun c_88 => ?_)
        · exact J _ (by unfold wT; rw [hwb.1]; first | rw [if_neg c_88] | rw [if_pos c_88])
        · refine rn_iinc 94 d_M_cost_91 rfl rfl (by decide) rfl rfl ?_
          exact J _ (by unfold wT; rw [hwb.1]; first | rw [if_neg c_88] | rw [if_pos c_88])
      · refine rn_iload 80 d_M_cost_78 rfl rfl ?_
        have q0 := hng.mp (by omega)
        have q1 : wE EN x t b = 0 := by unfold wE; rw [hwb.1, if_neg (by omega)]
        have q2 : TO (2 * b + wE EN x t b) = -1 := by rw [q1, hwb.2 0 (by omega) (by omega), if_neg (by omega)]
        have q3 : wk EN TO x (k + 1) (wT EN t b) (TO (2 * b + wE EN x t b)) = [] := by rw [q2]; exact if_pos rfl
        rw [q3] at hΦ
        rw [show sm + lvM σ b (eM (σ 29) b t x) + cSM σ [] = sm + lvM σ b (eM (σ 29) b t x) from Int.add_zero _] at hΦ
        exact rn_ireturn d_M_cost_80 (Or.inl rfl) hΦ
set_option maxRecDepth 100000 in
set_option maxHeartbeats 400000 in
theorem ev_M_cost {sc : av_sc} {d : Nat} {σ : av_S} {f x e : Int} {EN TO : Int → Int} (hf : av_in f) (hx : av_in x) (hI : iM σ) (hL : σ 26 5 = 1 → iLM σ) (hw : hW σ EN TO) (hE : 0 ≤ f → f ≤ 3 → iEM σ f e) : av_Ev sc m_M_cost (d + 1) false 0 0 [vR 26, vI f, vI x] (hp σ) (fun r h => (¬ (σ 26 5 = 1 ∧ (0 ≤ f ∧ f ≤ 3) ∧ e ≠ -1) ∧ r = some (vI (-1)) ∧ h = hp σ) ∨ ((σ 26 5 = 1 ∧ (0 ≤ f ∧ f ≤ 3) ∧ e ≠ -1) ∧ r = some (vI (cSM σ (wk EN TO x 60 0 e))) ∧ h = hp σ)) := by
  obtain ⟨hn, hB, hc31, hc32, hlo, hrg⟩ := id hI
  obtain ⟨hf1, hf2⟩ := hf
  refine av_ev rfl rfl (Nat.le_of_ble_eq_true rfl) rfl ?_
  refine rn_iload_n 1 d_M_cost_0 rfl rfl ?_
  refine rn_if_lt 9 4 d_M_cost_1 rfl rfl ⟨by omega, by omega⟩ (fun c_1 => ?_) (fun c_1 => ?_)
  · refine rn_iconst 10 d_M_cost_9 rfl ?_
    refine rn_goto 18 d_M_cost_10 rfl ?_
    refine rn_istore_n 19 d_M_cost_18 rfl (by decide) rfl rfl ?_
    refine rn_iconst 20 d_M_cost_19 rfl ?_
    refine rn_istore 22 d_M_cost_20 rfl (by decide) rfl rfl ?_
    refine rn_iconst 23 d_M_cost_22 rfl ?_
    refine rn_istore 25 d_M_cost_23 rfl (by decide) rfl rfl ?_
    refine rn_iconst 26 d_M_cost_25 rfl ?_
    refine rn_istore 28 d_M_cost_26 rfl (by decide) rfl rfl ?_
    refine rn_iload_n 29 d_M_cost_28 rfl rfl ?_
    refine rn_if_lt 39 32 d_M_cost_29 rfl rfl ⟨by omega, by omega⟩ (fun c_29 => ?_) (fun c_29 => ?_)
    · refine rn_iconst 40 d_M_cost_39 rfl ?_
      exact rn_ireturn d_M_cost_40 (Or.inl rfl) (Or.inl ⟨(by omega), rfl, rfl⟩)
    · refine rn_aload_n 33 d_M_cost_32 rfl rfl ?_
      refine rn_getfield 36 d_M_cost_33 rfl fd_M_22 rfl rfl ?_
      refine rn_if_ne 41 39 d_M_cost_36 rfl rfl ⟨by omega, by omega⟩ (fun c_36 => ?_) (fun c_36 => ?_)
      · first | (exfalso; omega) | (refine costM_loop hn hB (hL (by omega)) hw hx 59 0 0 e 0 (by omega) (by omega) (by omega) (by omega) (by omega) (by rcases hEf with ⟨q, -⟩ | ⟨q, -⟩ <;> omega) (Or.inr ⟨⟨by omega, ⟨by omega, by omega⟩, by omega⟩, ?_, rfl⟩); rw [Int.zero_add])
      · refine rn_iconst 40 d_M_cost_39 rfl ?_
        exact rn_ireturn d_M_cost_40 (Or.inl rfl) (Or.inl ⟨(by omega), rfl, rfl⟩)
  · refine rn_iload_n 5 d_M_cost_4 rfl rfl ?_
    refine rn_iconst 6 d_M_cost_5 rfl ?_
    refine rn_icmp_le 13 9 d_M_cost_6 rfl rfl ⟨by omega, by omega⟩ ⟨by omega, by omega⟩ (fun c_6 => ?_) (fun c_6 => ?_)
    · have hEf := hE (by omega) (by omega)
      have hei : -1 ≤ e ∧ e < 24 := by rcases hEf with ⟨q, -⟩ | ⟨q, -⟩ <;> omega
      refine rn_aload_n 14 d_M_cost_13 rfl rfl ?_
      refine rn_iload_n 15 d_M_cost_14 rfl rfl ?_
      refine rn_callV1 18 d_M_cost_15 rfl cw_M_88 rfl (Nat.le_of_ble_eq_true rfl) (ev_M_entry hn (fun b q0 q1 => (hB b q0 q1).1) ⟨by omega, by omega⟩ hEf) ?_
      rintro _ _ ⟨rfl, rfl⟩
      refine rn_istore_n 19 d_M_cost_18 rfl (by decide) rfl rfl ?_
      refine rn_iconst 20 d_M_cost_19 rfl ?_
      refine rn_istore 22 d_M_cost_20 rfl (by decide) rfl rfl ?_
      refine rn_iconst 23 d_M_cost_22 rfl ?_
      refine rn_istore 25 d_M_cost_23 rfl (by decide) rfl rfl ?_
      refine rn_iconst 26 d_M_cost_25 rfl ?_
      refine rn_istore 28 d_M_cost_26 rfl (by decide) rfl rfl ?_
      refine rn_iload_n 29 d_M_cost_28 rfl rfl ?_
      refine rn_if_lt 39 32 d_M_cost_29 rfl rfl ⟨by omega, by omega⟩ (fun c_29 => ?_) (fun c_29 => ?_)
      · refine rn_iconst 40 d_M_cost_39 rfl ?_
        exact rn_ireturn d_M_cost_40 (Or.inl rfl) (Or.inl ⟨(by omega), rfl, rfl⟩)
      · refine rn_aload_n 33 d_M_cost_32 rfl rfl ?_
        refine rn_getfield 36 d_M_cost_33 rfl fd_M_22 rfl rfl ?_
        refine rn_if_ne 41 39 d_M_cost_36 rfl rfl ⟨by omega, by omega⟩ (fun c_36 => ?_) (fun c_36 => ?_)
        · first | (exfalso; omega) | (refine costM_loop hn hB (hL (by omega)) hw hx 59 0 0 e 0 (by omega) (by omega) (by omega) (by omega) (by omega) (by rcases hEf with ⟨q, -⟩ | ⟨q, -⟩ <;> omega) (Or.inr ⟨⟨by omega, ⟨by omega, by omega⟩, by omega⟩, ?_, rfl⟩); rw [Int.zero_add])
        · refine rn_iconst 40 d_M_cost_39 rfl ?_
          exact rn_ireturn d_M_cost_40 (Or.inl rfl) (Or.inl ⟨(by omega), rfl, rfl⟩)
    · refine rn_iconst 10 d_M_cost_9 rfl ?_
      refine rn_goto 18 d_M_cost_10 rfl ?_
      refine rn_istore_n 19 d_M_cost_18 rfl (by decide) rfl rfl ?_
      refine rn_iconst 20 d_M_cost_19 rfl ?_
      refine rn_istore 22 d_M_cost_20 rfl (by decide) rfl rfl ?_
      refine rn_iconst 23 d_M_cost_22 rfl ?_
      refine rn_istore 25 d_M_cost_23 rfl (by decide) rfl rfl ?_
      refine rn_iconst 26 d_M_cost_25 rfl ?_
      refine rn_istore 28 d_M_cost_26 rfl (by decide) rfl rfl ?_
      refine rn_iload_n 29 d_M_cost_28 rfl rfl ?_
      refine rn_if_lt 39 32 d_M_cost_29 rfl rfl ⟨by omega, by omega⟩ (fun c_29 => ?_) (fun c_29 => ?_)
      · refine rn_iconst 40 d_M_cost_39 rfl ?_
        exact rn_ireturn d_M_cost_40 (Or.inl rfl) (Or.inl ⟨(by omega), rfl, rfl⟩)
      · refine rn_aload_n 33 d_M_cost_32 rfl rfl ?_
        refine rn_getfield 36 d_M_cost_33 rfl fd_M_22 rfl rfl ?_
        refine rn_if_ne 41 39 d_M_cost_36 rfl rfl ⟨by omega, by omega⟩ (fun c_36 => ?_) (fun c_36 => ?_)
        · first | (exfalso; omega) | (refine costM_loop hn hB (hL (by omega)) hw hx 59 0 0 e 0 (by omega) (by omega) (by omega) (by omega) (by omega) (by rcases hEf with ⟨q, -⟩ | ⟨q, -⟩ <;> omega) (Or.inr ⟨⟨by omega, ⟨by omega, by omega⟩, by omega⟩, ?_, rfl⟩); rw [Int.zero_add])
        · refine rn_iconst 40 d_M_cost_39 rfl ?_
          exact rn_ireturn d_M_cost_40 (Or.inl rfl) (Or.inl ⟨(by omega), rfl, rfl⟩)
def uM (σ : av_S) (b : Int) : Int := σ 28 b + (if σ 29 b = 0 then 1 else 0) + (if 0 < σ 38 b then σ 40 (2 * b) else 0) + (if 1 < σ 38 b then σ 40 (2 * b + 1) else 0)
def sm (f : Int → Int) : Nat → Int
  | 0 => 0
  | k + 1 => sm f k + f (k : Int)
set_option maxRecDepth 100000 in
set_option maxHeartbeats 400000 in
theorem ev_M_units {sc : av_sc} {d : Nat} {σ : av_S} {b : Int} (hb : 0 ≤ b ∧ b < 24) (hE : 0 ≤ σ 29 b ∧ σ 29 b ≤ 2) (hLb : iLB σ b) : av_Ev sc m_M_units d false 0 0 [vR 26, vI b] (hp σ) (fun r h => r = some (vI (uM σ b)) ∧ h = hp σ) := by
  obtain ⟨hl1, hl2, hl3, hl4⟩ := hLb
  refine av_ev rfl rfl (Nat.le_of_ble_eq_true rfl) rfl ?_
  have J2 : ∀ n : Int, n = uM σ b → 1 < σ 38 b → av_Rn sc m_M_units d false (hp σ).length 0 0 24 [some (vR 26), some (vI b), some (vI n), some (vI 2)] [] (hp σ) (fun r h => r = some (vI (uM σ b)) ∧ h = hp σ) := by
    intro n en hbr
    refine rn_iload_n 25 d_M_units_24 rfl rfl ?_
    refine rn_aload_n 26 d_M_units_25 rfl rfl ?_
    refine rn_getfield 29 d_M_units_26 rfl fd_M_61 rfl rfl ?_
    refine rn_iload_n 30 d_M_units_29 rfl rfl ?_
    refine rn_iaload 31 d_M_units_30 rfl rfl (by decide) (by omega) (by omega) ?_
    refine rn_icmp_ge 53 34 d_M_units_31 rfl rfl ⟨by omega, by omega⟩ ⟨by omega, by omega⟩ (fun c_31 => ?_) (fun c_31 => ?_)
    · refine rn_iload_n 54 d_M_units_53 rfl rfl ?_
      exact rn_ireturn d_M_units_54 (Or.inl rfl) ⟨by rw [en], rfl⟩
    · omega
  have J1 : ∀ n : Int, n = σ 28 b + (if σ 29 b = 0 then 1 else 0) + σ 40 (2 * b) → 0 < σ 38 b → av_Rn sc m_M_units d false (hp σ).length 0 0 24 [some (vR 26), some (vI b), some (vI n), some (vI 1)] [] (hp σ) (fun r h => r = some (vI (uM σ b)) ∧ h = hp σ) := by
    intro n en hbr
    refine rn_iload_n 25 d_M_units_24 rfl rfl ?_
    refine rn_aload_n 26 d_M_units_25 rfl rfl ?_
    refine rn_getfield 29 d_M_units_26 rfl fd_M_61 rfl rfl ?_
    refine rn_iload_n 30 d_M_units_29 rfl rfl ?_
    refine rn_iaload 31 d_M_units_30 rfl rfl (by decide) (by omega) (by omega) ?_
    refine rn_icmp_ge 53 34 d_M_units_31 rfl rfl ⟨by omega, by omega⟩ ⟨by omega, by omega⟩ (fun c_31 => ?_) (fun c_31 => ?_)
    · refine rn_iload_n 54 d_M_units_53 rfl rfl ?_
      exact rn_ireturn d_M_units_54 (Or.inl rfl) ⟨by unfold uM; rw [if_pos hbr, if_neg (show ¬ 1 < σ 38 b by omega), en, Int.add_zero], rfl⟩
    · refine rn_iload_n 35 d_M_units_34 rfl rfl ?_
      refine rn_aload_n 36 d_M_units_35 rfl rfl ?_
      refine rn_getfield 39 d_M_units_36 rfl fd_M_67 rfl rfl ?_
      refine rn_iload_n 40 d_M_units_39 rfl rfl ?_
      refine rn_iconst 41 d_M_units_40 rfl ?_
      refine rn_imul 42 d_M_units_41 rfl ?_
      rw [Int.mul_comm b 2]
      refine rn_iload_n 43 d_M_units_42 rfl rfl ?_
      refine rn_iadd 44 d_M_units_43 rfl ?_
      refine rn_iaload 45 d_M_units_44 rfl rfl (by decide) (by omega) (by omega) ?_
      refine rn_iadd 46 d_M_units_45 rfl ?_
      refine rn_istore_n 47 d_M_units_46 rfl (by decide) rfl rfl ?_
      refine rn_iinc 50 d_M_units_47 rfl rfl (by decide) rfl rfl ?_
      refine rn_goto 24 d_M_units_50 rfl ?_
      exact J2 _ (by unfold uM; rw [if_pos hbr, if_pos (show 1 < σ 38 b by omega), en]) (by omega)
  have J0 : ∀ n : Int, n = σ 28 b + (if σ 29 b = 0 then 1 else 0) → av_Rn sc m_M_units d false (hp σ).length 0 0 24 [some (vR 26), some (vI b), some (vI n), some (vI 0)] [] (hp σ) (fun r h => r = some (vI (uM σ b)) ∧ h = hp σ) := by
    intro n en
    refine rn_iload_n 25 d_M_units_24 rfl rfl ?_
    refine rn_aload_n 26 d_M_units_25 rfl rfl ?_
    refine rn_getfield 29 d_M_units_26 rfl fd_M_61 rfl rfl ?_
    refine rn_iload_n 30 d_M_units_29 rfl rfl ?_
    refine rn_iaload 31 d_M_units_30 rfl rfl (by decide) (by omega) (by omega) ?_
    refine rn_icmp_ge 53 34 d_M_units_31 rfl rfl ⟨by omega, by omega⟩ ⟨by omega, by omega⟩ (fun c_31 => ?_) (fun c_31 => ?_)
    · refine rn_iload_n 54 d_M_units_53 rfl rfl ?_
      exact rn_ireturn d_M_units_54 (Or.inl rfl) ⟨by unfold uM; rw [if_neg (show ¬ 0 < σ 38 b by omega), if_neg (show ¬ 1 < σ 38 b by omega), en, Int.add_zero, Int.add_zero], rfl⟩
    · refine rn_iload_n 35 d_M_units_34 rfl rfl ?_
      refine rn_aload_n 36 d_M_units_35 rfl rfl ?_
      refine rn_getfield 39 d_M_units_36 rfl fd_M_67 rfl rfl ?_
      refine rn_iload_n 40 d_M_units_39 rfl rfl ?_
      refine rn_iconst 41 d_M_units_40 rfl ?_
      refine rn_imul 42 d_M_units_41 rfl ?_
      rw [Int.mul_comm b 2]
      refine rn_iload_n 43 d_M_units_42 rfl rfl ?_
      refine rn_iadd 44 d_M_units_43 rfl ?_
      rw [Int.add_zero]
      refine rn_iaload 45 d_M_units_44 rfl rfl (by decide) (by omega) (by omega) ?_
      refine rn_iadd 46 d_M_units_45 rfl ?_
      refine rn_istore_n 47 d_M_units_46 rfl (by decide) rfl rfl ?_
      refine rn_iinc 50 d_M_units_47 rfl rfl (by decide) rfl rfl ?_
      refine rn_goto 24 d_M_units_50 rfl ?_
      exact J1 _ (by rw [en]) (by omega)
  refine rn_aload_n 1 d_M_units_0 rfl rfl ?_
  refine rn_getfield 4 d_M_units_1 rfl fd_M_30 rfl rfl ?_
  refine rn_iload_n 5 d_M_units_4 rfl rfl ?_
  refine rn_iaload 6 d_M_units_5 rfl rfl (by decide) (by omega) (by omega) ?_
  refine rn_aload_n 7 d_M_units_6 rfl rfl ?_
  refine rn_getfield 10 d_M_units_7 rfl fd_M_33 rfl rfl ?_
  refine rn_iload_n 11 d_M_units_10 rfl rfl ?_
  refine rn_iaload 12 d_M_units_11 rfl rfl (by decide) (by omega) (by omega) ?_
  refine rn_if_ne 19 15 d_M_units_12 rfl rfl ⟨by omega, by omega⟩ (fun c_12 => ?_) (fun c_12 => ?_)
  · refine rn_iconst 20 d_M_units_19 rfl ?_
    refine rn_iadd 21 d_M_units_20 rfl ?_
    refine rn_istore_n 22 d_M_units_21 rfl (by decide) rfl rfl ?_
    refine rn_iconst 23 d_M_units_22 rfl ?_
    refine rn_istore_n 24 d_M_units_23 rfl (by decide) rfl rfl ?_
    exact J0 _ (by first | rw [if_pos (by omega)] | rw [if_neg (by omega)])
  · refine rn_iconst 16 d_M_units_15 rfl ?_
    refine rn_goto 20 d_M_units_16 rfl ?_
    refine rn_iadd 21 d_M_units_20 rfl ?_
    refine rn_istore_n 22 d_M_units_21 rfl (by decide) rfl rfl ?_
    refine rn_iconst 23 d_M_units_22 rfl ?_
    refine rn_istore_n 24 d_M_units_23 rfl (by decide) rfl rfl ?_
    exact J0 _ (by first | rw [if_pos (by omega)] | rw [if_neg (by omega)])
set_option maxRecDepth 100000 in
set_option maxHeartbeats 400000 in
theorem addressOf_loop {sc : av_sc} {d n0 bc bs : Nat} {al : Bool} {σ : av_S} {b : Int} {p : Nat} {Φ : Option av_V → av_H → Prop} (hn : 0 ≤ σ 26 1 ∧ σ 26 1 ≤ 24) (hB : ∀ b, 0 ≤ b → b < σ 26 1 → iMB σ b) (hL : iLM σ) (hO : ∀ k, 0 ≤ k → k < σ 26 1 → 0 ≤ σ 37 k ∧ σ 37 k < σ 26 1) (hb : 0 ≤ b ∧ b < σ 26 1) (hpl : (p : Int) < σ 26 1) (hpb : σ 37 (p : Int) = b) (hpn : ∀ j, 0 ≤ j → j < (p : Int) → σ 37 j ≠ b) (hΦ : Φ (some (vI (sm (fun k => uM σ (σ 37 k)) p))) (hp σ)) :
    ∀ (m k : Nat), k + m = p → av_Rn sc m_M_addressOf (d + 1) al n0 bc bs 4 [some (vR 26), some (vI b), some (vI (sm (fun k => uM σ (σ 37 k)) k)), some (vI (k : Int))] [] (hp σ) Φ := by
  intro m
  induction m with
  | zero =>
    intro k hk
    obtain rfl : k = p := by omega
    refine rn_aload_n 5 d_M_addressOf_4 rfl rfl ?_
    refine rn_getfield 8 d_M_addressOf_5 rfl fd_M_58 rfl rfl ?_
    refine rn_iload_n 9 d_M_addressOf_8 rfl rfl ?_
    refine rn_iaload 10 d_M_addressOf_9 rfl rfl (by decide) (by omega) (by omega) ?_
    rw [hpb]
    refine rn_iload_n 11 d_M_addressOf_10 rfl rfl ?_
    refine rn_icmp_eq 33 14 d_M_addressOf_11 rfl rfl ⟨by omega, by omega⟩ ⟨by omega, by omega⟩ (fun c_11 => ?_) (fun c_11 => ?_)
    · refine rn_iload_n 34 d_M_addressOf_33 rfl rfl ?_
      exact rn_ireturn d_M_addressOf_34 (Or.inl rfl) hΦ
    · exact absurd rfl c_11
  | succ m ih =>
    intro k hk
    have hOk := hO (k : Int) (by omega) (by omega)
    have hne := hpn (k : Int) (by omega) (by omega)
    refine rn_aload_n 5 d_M_addressOf_4 rfl rfl ?_
    refine rn_getfield 8 d_M_addressOf_5 rfl fd_M_58 rfl rfl ?_
    refine rn_iload_n 9 d_M_addressOf_8 rfl rfl ?_
    refine rn_iaload 10 d_M_addressOf_9 rfl rfl (by decide) (by omega) (by omega) ?_
    refine rn_iload_n 11 d_M_addressOf_10 rfl rfl ?_
    refine rn_icmp_eq 33 14 d_M_addressOf_11 rfl rfl ⟨by omega, by omega⟩ ⟨by omega, by omega⟩ (fun c_11 => ?_) (fun c_11 => ?_)
    · exact absurd c_11 hne
    · refine rn_iload_n 15 d_M_addressOf_14 rfl rfl ?_
      refine rn_aload_n 16 d_M_addressOf_15 rfl rfl ?_
      refine rn_aload_n 17 d_M_addressOf_16 rfl rfl ?_
      refine rn_getfield 20 d_M_addressOf_17 rfl fd_M_58 rfl rfl ?_
      refine rn_iload_n 21 d_M_addressOf_20 rfl rfl ?_
      refine rn_iaload 22 d_M_addressOf_21 rfl rfl (by decide) (by omega) (by omega) ?_
      refine rn_callV1 25 d_M_addressOf_22 rfl cw_M_122 rfl (Nat.le_of_ble_eq_true rfl) (ev_M_units ⟨by omega, by omega⟩ (hB _ hOk.1 hOk.2).2.2.1 (hL _ hOk.1 hOk.2)) ?_
      rintro _ _ ⟨rfl, rfl⟩
      refine rn_iadd 26 d_M_addressOf_25 rfl ?_
      refine rn_istore_n 27 d_M_addressOf_26 rfl (by decide) rfl rfl ?_
      refine rn_iinc 30 d_M_addressOf_27 rfl rfl (by decide) rfl rfl ?_
      refine rn_goto 4 d_M_addressOf_30 rfl ?_
      exact ih (k + 1) (by omega)
set_option maxRecDepth 100000 in
set_option maxHeartbeats 400000 in
theorem ev_M_addressOf {sc : av_sc} {d : Nat} {σ : av_S} {b : Int} {p : Nat} (hI : iM σ) (hL : iLM σ) (hO : ∀ k, 0 ≤ k → k < σ 26 1 → 0 ≤ σ 37 k ∧ σ 37 k < σ 26 1) (hb : 0 ≤ b ∧ b < σ 26 1) (hpl : (p : Int) < σ 26 1) (hpb : σ 37 (p : Int) = b) (hpn : ∀ j, 0 ≤ j → j < (p : Int) → σ 37 j ≠ b) : av_Ev sc m_M_addressOf (d + 1) false 0 0 [vR 26, vI b] (hp σ) (fun r h => r = some (vI (sm (fun k => uM σ (σ 37 k)) p)) ∧ h = hp σ) := by
  obtain ⟨hn, hB, hc31, hc32, hlo, hrg⟩ := id hI
  refine av_ev rfl rfl (Nat.le_of_ble_eq_true rfl) rfl ?_
  refine rn_iconst 1 d_M_addressOf_0 rfl ?_
  refine rn_istore_n 2 d_M_addressOf_1 rfl (by decide) rfl rfl ?_
  refine rn_iconst 3 d_M_addressOf_2 rfl ?_
  refine rn_istore_n 4 d_M_addressOf_3 rfl (by decide) rfl rfl ?_
  exact addressOf_loop hn hB hL hO hb hpl hpb hpn ⟨rfl, rfl⟩ p 0 (by omega)
set_option maxRecDepth 100000 in
set_option maxHeartbeats 400000 in
theorem ev_M_address {sc : av_sc} {d : Nat} {σ : av_S} {b : Int} (hb : av_in b) (hI : iM σ) (hL : σ 26 5 = 1 → iLM σ) (hO : ∀ k, 0 ≤ k → k < σ 26 1 → 0 ≤ σ 37 k ∧ σ 37 k < σ 26 1) (hP : σ 26 5 = 1 → 0 ≤ b → b < σ 26 1 → ∃ p : Nat, (p : Int) < σ 26 1 ∧ σ 37 (p : Int) = b ∧ ∀ j, 0 ≤ j → j < (p : Int) → σ 37 j ≠ b) : av_Ev sc m_M_address (d + 2) false 0 0 [vR 26, vI b] (hp σ) (fun r h => (¬ (σ 26 5 = 1 ∧ 0 ≤ b ∧ b < σ 26 1) ∧ r = some (vI (-3)) ∧ h = hp σ) ∨ ((σ 26 5 = 1 ∧ 0 ≤ b ∧ b < σ 26 1) ∧ ∃ p : Nat, (p : Int) < σ 26 1 ∧ σ 37 (p : Int) = b ∧ (∀ j, 0 ≤ j → j < (p : Int) → σ 37 j ≠ b) ∧ r = some (vI (sm (fun k => uM σ (σ 37 k)) p)) ∧ h = hp σ)) := by
  obtain ⟨hn, hB, hc31, hc32, hlo, hrg⟩ := id hI
  refine av_ev rfl rfl (Nat.le_of_ble_eq_true rfl) rfl ?_
  refine rn_aload_n 1 d_M_address_0 rfl rfl ?_
  refine rn_getfield 4 d_M_address_1 rfl fd_M_22 rfl rfl ?_
  refine rn_if_eq 15 7 d_M_address_4 rfl rfl ⟨by omega, by omega⟩ (fun c_4 => ?_) (fun c_4 => ?_)
  · refine rn_bipush 17 d_M_address_15 rfl rfl ?_
    refine rn_goto 25 d_M_address_17 rfl ?_
    first | exact rn_ireturn d_M_address_25 (Or.inl rfl) (Or.inl ⟨(by omega), rfl, rfl⟩) | exact rn_ireturn d_M_address_25 (Or.inl rfl) (Or.inr ⟨(by omega), p, hp1, hp2, hp3, rfl, rfl⟩)
  · refine rn_aload_n 8 d_M_address_7 rfl rfl ?_
    refine rn_iload_n 9 d_M_address_8 rfl rfl ?_
    refine rn_callV1 12 d_M_address_9 rfl cw_M_83 rfl (Nat.le_of_ble_eq_true rfl) (ev_M_no hb hn) ?_
    rintro _ _ ⟨rfl, rfl⟩
    refine rn_ifB_eq 20 15 d_M_address_12 rfl rfl (fun c_12 => ?_) (fun c_12 => ?_)
    · obtain ⟨p, hp1, hp2, hp3⟩ := hP (by omega) (by omega) (by omega)
      refine rn_aload_n 21 d_M_address_20 rfl rfl ?_
      refine rn_iload_n 22 d_M_address_21 rfl rfl ?_
      refine rn_callV1 25 d_M_address_22 rfl cw_M_125 rfl (Nat.le_of_ble_eq_true rfl) (ev_M_addressOf hI (hL (by omega)) hO ⟨by omega, by omega⟩ hp1 hp2 hp3) ?_
      rintro _ _ ⟨rfl, rfl⟩
      first | exact rn_ireturn d_M_address_25 (Or.inl rfl) (Or.inl ⟨(by omega), rfl, rfl⟩) | exact rn_ireturn d_M_address_25 (Or.inl rfl) (Or.inr ⟨(by omega), p, hp1, hp2, hp3, rfl, rfl⟩)
    · refine rn_bipush 17 d_M_address_15 rfl rfl ?_
      refine rn_goto 25 d_M_address_17 rfl ?_
      first | exact rn_ireturn d_M_address_25 (Or.inl rfl) (Or.inl ⟨(by omega), rfl, rfl⟩) | exact rn_ireturn d_M_address_25 (Or.inl rfl) (Or.inr ⟨(by omega), p, hp1, hp2, hp3, rfl, rfl⟩)
set_option maxRecDepth 100000 in
set_option maxHeartbeats 400000 in
theorem total_loop {sc : av_sc} {d n0 bc bs : Nat} {al : Bool} {σ : av_S} {Φ : Option av_V → av_H → Prop} (hn : 0 ≤ σ 26 1 ∧ σ 26 1 ≤ 24) (hB : ∀ b, 0 ≤ b → b < σ 26 1 → iMB σ b) (hL : iLM σ) (hΦ : Φ (some (vI (sm (uM σ) (σ 26 1).toNat))) (hp σ)) :
    ∀ (m k : Nat), (k : Int) + (m : Int) = σ 26 1 → av_Rn sc m_M_total (d + 1) al n0 bc bs 4 [some (vR 26), some (vI (sm (uM σ) k)), some (vI (k : Int))] [] (hp σ) Φ := by
  intro m
  induction m with
  | zero =>
    intro k hk
    obtain rfl : k = (σ 26 1).toNat := by omega
    refine rn_iload_n 5 d_M_total_4 rfl rfl ?_
    refine rn_aload_n 6 d_M_total_5 rfl rfl ?_
    refine rn_getfield 9 d_M_total_6 rfl fd_M_7 rfl rfl ?_
    refine rn_icmp_ge 26 12 d_M_total_9 rfl rfl ⟨by omega, by omega⟩ ⟨by omega, by omega⟩ (fun c_9 => ?_) (fun c_9 => ?_)
    · refine rn_iload_n 27 d_M_total_26 rfl rfl ?_
      exact rn_ireturn d_M_total_27 (Or.inl rfl) hΦ
    · omega
  | succ m ih =>
    intro k hk
    refine rn_iload_n 5 d_M_total_4 rfl rfl ?_
    refine rn_aload_n 6 d_M_total_5 rfl rfl ?_
    refine rn_getfield 9 d_M_total_6 rfl fd_M_7 rfl rfl ?_
    refine rn_icmp_ge 26 12 d_M_total_9 rfl rfl ⟨by omega, by omega⟩ ⟨by omega, by omega⟩ (fun c_9 => ?_) (fun c_9 => ?_)
    · omega
    · refine rn_iload_n 13 d_M_total_12 rfl rfl ?_
      refine rn_aload_n 14 d_M_total_13 rfl rfl ?_
      refine rn_iload_n 15 d_M_total_14 rfl rfl ?_
      refine rn_callV1 18 d_M_total_15 rfl cw_M_122 rfl (Nat.le_of_ble_eq_true rfl) (ev_M_units ⟨by omega, by omega⟩ (hB _ (by omega) (by omega)).2.2.1 (hL _ (by omega) (by omega))) ?_
      rintro _ _ ⟨rfl, rfl⟩
      refine rn_iadd 19 d_M_total_18 rfl ?_
      refine rn_istore_n 20 d_M_total_19 rfl (by decide) rfl rfl ?_
      refine rn_iinc 23 d_M_total_20 rfl rfl (by decide) rfl rfl ?_
      refine rn_goto 4 d_M_total_23 rfl ?_
      exact ih (k + 1) (by omega)
set_option maxRecDepth 100000 in
set_option maxHeartbeats 400000 in
theorem ev_M_total {sc : av_sc} {d : Nat} {σ : av_S} (hI : iM σ) (hL : iLM σ) : av_Ev sc m_M_total (d + 1) false 0 0 [vR 26] (hp σ) (fun r h => r = some (vI (sm (uM σ) (σ 26 1).toNat)) ∧ h = hp σ) := by
  obtain ⟨hn, hB, hc31, hc32, hlo, hrg⟩ := id hI
  refine av_ev rfl rfl (Nat.le_of_ble_eq_true rfl) rfl ?_
  refine rn_iconst 1 d_M_total_0 rfl ?_
  refine rn_istore_n 2 d_M_total_1 rfl (by decide) rfl rfl ?_
  refine rn_iconst 3 d_M_total_2 rfl ?_
  refine rn_istore_n 4 d_M_total_3 rfl (by decide) rfl rfl ?_
  exact total_loop hn hB hL ⟨rfl, rfl⟩ (σ 26 1).toNat 0 (by omega)
