/-- a block's length by the class's units -/
def cuC (σ : av_S) (U : Int → Int) (b : Int) : Int := σ 3 b + U (2 * b) + U (2 * b + 1) + (if σ 4 b = 0 then 1 else 0)
def adC (σ : av_S) (U : Int → Int) (k : Nat) : Int := sm (fun k => cuC σ U (σ 14 k)) k
def ab (x : Int) : Int := if 0 ≤ x then x else 0 - x
set_option maxRecDepth 100000 in
set_option maxHeartbeats 400000 in
theorem measure_loop {sc : av_sc} {d n0 bc bs : Nat} {al : Bool} {σ : av_S} {G U T : Int → Int} {Bn On : Int} {Φ : Option av_V → av_H → Prop} (hn : 0 ≤ σ 1 5 ∧ σ 1 5 ≤ 24) (hO : ∀ k, 0 ≤ k → k < σ 1 5 → 0 ≤ σ 14 k ∧ σ 14 k < σ 1 5) (hJ : ∀ i j, 0 ≤ i → i < j → j < σ 1 5 → σ 14 i ≠ σ 14 j) (hE : ∀ b, 0 ≤ b → b < σ 1 5 → 0 ≤ σ 4 b ∧ σ 4 b ≤ 2)
    (hΦ : ∀ ST' : Int → Int, (∀ k : Nat, (k : Int) < σ 1 5 → ST' (σ 14 (k : Int)) = adC σ U k) → Φ none (hp (kS σ (ST') G U T (adC σ U (σ 1 5).toNat) Bn On))) :
    ∀ (m k : Nat) (ST : Int → Int), (k : Int) + (m : Int) = σ 1 5 → (∀ j : Nat, j < k → ST (σ 14 (j : Int)) = adC σ U j) → av_Rn sc m_C_measure d al n0 bc bs 7 [some (vR 21), some (vR 1), some (vR 14), some (vI (k : Int)), none] [] (hp (kS σ ST G U T (adC σ U k) Bn On)) Φ := by
  intro m
  induction m with
  | zero =>
    intro k ST hk hST
    obtain rfl : k = (σ 1 5).toNat := by omega
    refine rn_iload_n 8 d_C_measure_7 rfl rfl ?_
    refine rn_aload_n 9 d_C_measure_8 rfl rfl ?_
    refine rn_getfield 12 d_C_measure_9 rfl fd_C_35 rfl rfl ?_
    rw [show (kS σ ST G U T (adC σ U (σ 1 5).toNat) Bn On) 1 5 = σ 1 5 from rfl]
    refine rn_icmp_ge 99 15 d_C_measure_12 rfl rfl ⟨by omega, by omega⟩ ⟨by omega, by omega⟩ (fun c_12 => ?_) (fun c_12 => ?_)
    · exact rn_return d_C_measure_99 rfl (hΦ ST (fun k hk2 => hST k (by omega)))
    · omega
  | succ m ih =>
    intro k ST hk hST
    have hOk := hO (k : Int) (by omega) (by omega)
    have hEk := hE _ hOk.1 hOk.2
    refine rn_iload_n 8 d_C_measure_7 rfl rfl ?_
    refine rn_aload_n 9 d_C_measure_8 rfl rfl ?_
    refine rn_getfield 12 d_C_measure_9 rfl fd_C_35 rfl rfl ?_
    rw [show (kS σ ST G U T (adC σ U k) Bn On) 1 5 = σ 1 5 from rfl]
    refine rn_icmp_ge 99 15 d_C_measure_12 rfl rfl ⟨by omega, by omega⟩ ⟨by omega, by omega⟩ (fun c_12 => ?_) (fun c_12 => ?_)
    · omega
    · refine rn_aload_n 16 d_C_measure_15 rfl rfl ?_
      refine rn_iload_n 17 d_C_measure_16 rfl rfl ?_
      refine rn_iaload 18 d_C_measure_17 rfl rfl (by decide) (by omega) (by omega) ?_
      rw [show (kS σ ST G U T (adC σ U k) Bn On) 14 (k : Int) = (σ 14 (k : Int)) from rfl]
      refine rn_istore 20 d_C_measure_18 rfl (by decide) rfl rfl ?_
      refine rn_aload_n 21 d_C_measure_20 rfl rfl ?_
      refine rn_getfield 24 d_C_measure_21 rfl fd_C_9 rfl rfl ?_
      refine rn_iload 26 d_C_measure_24 rfl rfl ?_
      refine rn_aload_n 27 d_C_measure_26 rfl rfl ?_
      refine rn_getfield 30 d_C_measure_27 rfl fd_C_25 rfl rfl ?_
      rw [show (kS σ ST G U T (adC σ U k) Bn On) 21 4 = adC σ U k from rfl]
      refine rn_iastore 31 d_C_measure_30 rfl rfl (by decide) (by omega) (by omega) (hs_22 _ _) ?_
      change av_Rn _ _ _ _ _ _ _ _ _ _ (hp (kS σ (uI ST (σ 14 (k : Int)) (adC σ U k)) G U T (adC σ U k) Bn On)) _
      refine rn_aload_n 32 d_C_measure_31 rfl rfl ?_
      refine rn_dup 33 d_C_measure_32 rfl rfl ?_
      refine rn_getfield 36 d_C_measure_33 rfl fd_C_25 rfl rfl ?_
      rw [show (kS σ (uI ST (σ 14 (k : Int)) (adC σ U k)) G U T (adC σ U k) Bn On) 21 4 = adC σ U k from rfl]
      refine rn_aload_n 37 d_C_measure_36 rfl rfl ?_
      refine rn_getfield 40 d_C_measure_37 rfl fd_C_66 rfl rfl ?_
      refine rn_iload 42 d_C_measure_40 rfl rfl ?_
      refine rn_iaload 43 d_C_measure_42 rfl rfl (by decide) (by omega) (by omega) ?_
      rw [show (kS σ (uI ST (σ 14 (k : Int)) (adC σ U k)) G U T (adC σ U k) Bn On) 3 (σ 14 (k : Int)) = σ 3 (σ 14 (k : Int)) from rfl]
      refine rn_aload_n 44 d_C_measure_43 rfl rfl ?_
      refine rn_getfield 47 d_C_measure_44 rfl fd_C_18 rfl rfl ?_
      refine rn_iconst 48 d_C_measure_47 rfl ?_
      refine rn_iload 50 d_C_measure_48 rfl rfl ?_
      refine rn_imul 51 d_C_measure_50 rfl ?_
      refine rn_iaload 52 d_C_measure_51 rfl rfl (by decide) (by omega) (by omega) ?_
      rw [show (kS σ (uI ST (σ 14 (k : Int)) (adC σ U k)) G U T (adC σ U k) Bn On) 24 (2 * (σ 14 (k : Int))) = U (2 * (σ 14 (k : Int))) from rfl]
      refine rn_iadd 53 d_C_measure_52 rfl ?_
      refine rn_aload_n 54 d_C_measure_53 rfl rfl ?_
      refine rn_getfield 57 d_C_measure_54 rfl fd_C_18 rfl rfl ?_
      refine rn_iconst 58 d_C_measure_57 rfl ?_
      refine rn_iload 60 d_C_measure_58 rfl rfl ?_
      refine rn_imul 61 d_C_measure_60 rfl ?_
      refine rn_iconst 62 d_C_measure_61 rfl ?_
      refine rn_iadd 63 d_C_measure_62 rfl ?_
      refine rn_iaload 64 d_C_measure_63 rfl rfl (by decide) (by omega) (by omega) ?_
      rw [show (kS σ (uI ST (σ 14 (k : Int)) (adC σ U k)) G U T (adC σ U k) Bn On) 24 (2 * (σ 14 (k : Int)) + 1) = U (2 * (σ 14 (k : Int)) + 1) from rfl]
      refine rn_iadd 65 d_C_measure_64 rfl ?_
      refine rn_iadd 66 d_C_measure_65 rfl ?_
      refine rn_putfield 69 d_C_measure_66 rfl fp_C_25 rfl (Nat.le_of_ble_eq_true rfl) av_fitI (hs_21_4 _ _) ?_
      change av_Rn _ _ _ _ _ _ _ _ _ _ (hp (kS σ (uI ST (σ 14 (k : Int)) (adC σ U k)) G U T (adC σ U k + (σ 3 (σ 14 (k : Int)) + U (2 * (σ 14 (k : Int))) + U (2 * (σ 14 (k : Int)) + 1))) Bn On)) _
      refine rn_aload_n 70 d_C_measure_69 rfl rfl ?_
      refine rn_dup 71 d_C_measure_70 rfl rfl ?_
      refine rn_getfield 74 d_C_measure_71 rfl fd_C_25 rfl rfl ?_
      rw [show (kS σ (uI ST (σ 14 (k : Int)) (adC σ U k)) G U T (adC σ U k + (σ 3 (σ 14 (k : Int)) + U (2 * (σ 14 (k : Int))) + U (2 * (σ 14 (k : Int)) + 1))) Bn On) 21 4 = adC σ U k + (σ 3 (σ 14 (k : Int)) + U (2 * (σ 14 (k : Int))) + U (2 * (σ 14 (k : Int)) + 1)) from rfl]
      refine rn_aload_n 75 d_C_measure_74 rfl rfl ?_
      refine rn_getfield 78 d_C_measure_75 rfl fd_C_59 rfl rfl ?_
      refine rn_iload 80 d_C_measure_78 rfl rfl ?_
      refine rn_iaload 81 d_C_measure_80 rfl rfl (by decide) (by omega) (by omega) ?_
      rw [show (kS σ (uI ST (σ 14 (k : Int)) (adC σ U k)) G U T (adC σ U k + (σ 3 (σ 14 (k : Int)) + U (2 * (σ 14 (k : Int))) + U (2 * (σ 14 (k : Int)) + 1))) Bn On) 4 (σ 14 (k : Int)) = σ 4 (σ 14 (k : Int)) from rfl]
      have J : ∀ z : Int, z = (if σ 4 (σ 14 (k : Int)) = 0 then 1 else 0) → av_Rn sc m_C_measure d al n0 bc bs 89 [some (vR 21), some (vR 1), some (vR 14), some (vI (k : Int)), some (vI (σ 14 (k : Int)))] [vI z, vI (adC σ U k + (σ 3 (σ 14 (k : Int)) + U (2 * (σ 14 (k : Int))) + U (2 * (σ 14 (k : Int)) + 1))), vR 21] (hp (kS σ (uI ST (σ 14 (k : Int)) (adC σ U k)) G U T (adC σ U k + (σ 3 (σ 14 (k : Int)) + U (2 * (σ 14 (k : Int))) + U (2 * (σ 14 (k : Int)) + 1))) Bn On)) Φ := by
        intro z ez
        have eL : adC σ U (k + 1) = adC σ U k + (σ 3 (σ 14 (k : Int)) + U (2 * (σ 14 (k : Int))) + U (2 * (σ 14 (k : Int)) + 1)) + z := by
          show adC σ U k + cuC σ U (σ 14 (k : Int)) = _
          unfold cuC; rw [ez]; omega
        refine rn_iadd 90 d_C_measure_89 rfl ?_
        rw [← eL]
        refine rn_putfield 93 d_C_measure_90 rfl fp_C_25 rfl (Nat.le_of_ble_eq_true rfl) av_fitI (hs_21_4 _ _) ?_
        change av_Rn _ _ _ _ _ _ _ _ _ _ (hp (kS σ (uI ST (σ 14 (k : Int)) (adC σ U k)) G U T (adC σ U (k + 1)) Bn On)) _
        refine rn_iinc 96 d_C_measure_93 rfl rfl (by decide) rfl rfl ?_
        refine rn_goto 7 d_C_measure_96 rfl ?_
        refine rn_kill 4 rfl ?_
        refine ih (k + 1) _ (by omega) (fun j hj => ?_)
        by_cases hjk : j = k
        · subst hjk; exact uI_s ST _ _
        · rw [uI_n ST _ (hJ (j : Int) (k : Int) (by omega) (by omega) (by omega))]; exact hST j (by omega)
      refine rn_if_ne 88 84 d_C_measure_81 rfl rfl ⟨by omega, by omega⟩ (fun c_81 => ?_) (fun c_81 => ?_)
      · refine rn_iconst 89 d_C_measure_88 rfl ?_
        exact J _ (by (first | rw [if_pos (by omega)] | rw [if_neg (by omega)]))
      · refine rn_iconst 85 d_C_measure_84 rfl ?_
        refine rn_goto 89 d_C_measure_85 rfl ?_
        exact J _ (by (first | rw [if_pos (by omega)] | rw [if_neg (by omega)]))
set_option maxRecDepth 100000 in
set_option maxHeartbeats 400000 in
theorem ev_C_measure {sc : av_sc} {d : Nat} {σ : av_S} {ST G U T : Int → Int} {Ln Bn On : Int} (hn : 0 ≤ σ 1 5 ∧ σ 1 5 ≤ 24) (hO : ∀ k, 0 ≤ k → k < σ 1 5 → 0 ≤ σ 14 k ∧ σ 14 k < σ 1 5) (hJ : ∀ i j, 0 ≤ i → i < j → j < σ 1 5 → σ 14 i ≠ σ 14 j) (hE : ∀ b, 0 ≤ b → b < σ 1 5 → 0 ≤ σ 4 b ∧ σ 4 b ≤ 2) : av_Ev sc m_C_measure (d) false 0 0 [vR 21, vR 1, vR 14] (hp (kS σ ST G U T Ln Bn On)) (fun r h => r = none ∧ ∃ ST' : Int → Int, (∀ k : Nat, (k : Int) < σ 1 5 → ST' (σ 14 (k : Int)) = adC σ U k) ∧ h = hp (kS σ (ST') G U T (adC σ U (σ 1 5).toNat) Bn On)) := by
  refine av_ev rfl rfl (Nat.le_of_ble_eq_true rfl) rfl ?_
  refine rn_aload_n 1 d_C_measure_0 rfl rfl ?_
  refine rn_iconst 2 d_C_measure_1 rfl ?_
  refine rn_putfield 5 d_C_measure_2 rfl fp_C_25 rfl (Nat.le_of_ble_eq_true rfl) av_fitI (hs_21_4 _ _) ?_
  refine rn_iconst 6 d_C_measure_5 rfl ?_
  refine rn_istore_n 7 d_C_measure_6 rfl (by decide) rfl rfl ?_
  change av_Rn _ _ _ _ _ _ _ _ _ _ (hp (kS σ ST G U T (adC σ U 0) Bn On)) _
  exact measure_loop hn hO hJ hE (fun ST' hST' => ⟨rfl, ST', hST', rfl⟩) (σ 1 5).toNat 0 ST (by omega) (fun j hj => by omega)
set_option maxRecDepth 100000 in
set_option maxHeartbeats 400000 in
theorem ev_C_lengthenOne {sc : av_sc} {d : Nat} {σ : av_S} {ST G U T : Int → Int} {Ln Bn On : Int} {k own rg : Int} (hk : 0 ≤ k ∧ k < 48) (hU : 0 ≤ U k ∧ U k ≤ 2) (hG : U k = 1 → (0 ≤ G k ∧ G k < 24) ∧ 0 ≤ ST (G k) ∧ ST (G k) ≤ 10000) (ho : 0 ≤ own ∧ own ≤ 20000) (hr : 0 ≤ rg ∧ rg ≤ 400) : av_Ev sc m_C_lengthenOne (d + 1) false 0 0 [vR 21, vI k, vI own, vI rg] (hp (kS σ ST G U T Ln Bn On)) (fun r h => r = some (vI (bz (U k = 1 ∧ rg < ab (own - ST (G k))))) ∧ h = hp (kS σ ST G (if (U k = 1 ∧ rg < ab (own - ST (G k))) then uI U k 2 else U) T Ln Bn (if (U k = 1 ∧ rg < ab (own - ST (G k))) then On + 1 else On))) := by
  refine av_ev rfl rfl (Nat.le_of_ble_eq_true rfl) rfl ?_
  refine rn_aload_n 1 d_C_lengthenOne_0 rfl rfl ?_
  refine rn_getfield 4 d_C_lengthenOne_1 rfl fd_C_18 rfl rfl ?_
  refine rn_iload_n 5 d_C_lengthenOne_4 rfl rfl ?_
  refine rn_iaload 6 d_C_lengthenOne_5 rfl rfl (by decide) (by omega) (by omega) ?_
  rw [show (kS σ ST G U T Ln Bn On) 24 k = U k from rfl]
  refine rn_iconst 7 d_C_lengthenOne_6 rfl ?_
  refine rn_icmp_ne 30 10 d_C_lengthenOne_7 rfl rfl ⟨by omega, by omega⟩ ⟨by omega, by omega⟩ (fun c_7 => ?_) (fun c_7 => ?_)
  · refine rn_iconst 31 d_C_lengthenOne_30 rfl ?_
    refine rn_ireturn d_C_lengthenOne_31 (Or.inr ⟨rfl, Or.inl rfl⟩) ⟨by rw [bz_f (by omega)], ?_⟩
    rw [if_neg (by omega), if_neg (by omega)]
  · have hG1 := hG c_7
    refine rn_iload_n 11 d_C_lengthenOne_10 rfl rfl ?_
    refine rn_aload_n 12 d_C_lengthenOne_11 rfl rfl ?_
    refine rn_getfield 15 d_C_lengthenOne_12 rfl fd_C_9 rfl rfl ?_
    refine rn_aload_n 16 d_C_lengthenOne_15 rfl rfl ?_
    refine rn_getfield 19 d_C_lengthenOne_16 rfl fd_C_15 rfl rfl ?_
    refine rn_iload_n 20 d_C_lengthenOne_19 rfl rfl ?_
    refine rn_iaload 21 d_C_lengthenOne_20 rfl rfl (by decide) (by omega) (by omega) ?_
    rw [show (kS σ ST G U T Ln Bn On) 23 k = G k from rfl]
    refine rn_iaload 22 d_C_lengthenOne_21 rfl rfl (by decide) (by omega) (by omega) ?_
    rw [show (kS σ ST G U T Ln Bn On) 22 (G k) = ST (G k) from rfl]
    refine rn_isub 23 d_C_lengthenOne_22 rfl ?_
    refine rn_abs 26 d_C_lengthenOne_23 rfl cw_C_73 (Nat.le_of_ble_eq_true rfl) ⟨by omega, by omega⟩ ?_
    change av_Rn _ _ _ _ _ _ _ _ _ (vI (ab (own - ST (G k))) :: _) _ _
    have hab : 0 ≤ ab (own - ST (G k)) ∧ ab (own - ST (G k)) ≤ 40000 := by unfold ab; split <;> omega
    refine rn_iload_n 27 d_C_lengthenOne_26 rfl rfl ?_
    refine rn_icmp_gt 32 30 d_C_lengthenOne_27 rfl rfl ⟨by omega, by omega⟩ ⟨by omega, by omega⟩ (fun c_27 => ?_) (fun c_27 => ?_)
    · refine rn_aload_n 33 d_C_lengthenOne_32 rfl rfl ?_
      refine rn_getfield 36 d_C_lengthenOne_33 rfl fd_C_18 rfl rfl ?_
      refine rn_iload_n 37 d_C_lengthenOne_36 rfl rfl ?_
      refine rn_iconst 38 d_C_lengthenOne_37 rfl ?_
      refine rn_iastore 39 d_C_lengthenOne_38 rfl rfl (by decide) (by omega) (by omega) (hs_24 _ _) ?_
      change av_Rn _ _ _ _ _ _ _ _ _ _ (hp (kS σ ST G (uI U k 2) T Ln Bn On)) _
      refine rn_aload_n 40 d_C_lengthenOne_39 rfl rfl ?_
      refine rn_dup 41 d_C_lengthenOne_40 rfl rfl ?_
      refine rn_getfield 44 d_C_lengthenOne_41 rfl fd_C_32 rfl rfl ?_
      rw [show (kS σ ST G (uI U k 2) T Ln Bn On) 21 6 = On from rfl]
      refine rn_iconst 45 d_C_lengthenOne_44 rfl ?_
      refine rn_iadd 46 d_C_lengthenOne_45 rfl ?_
      refine rn_putfield 49 d_C_lengthenOne_46 rfl fp_C_32 rfl (Nat.le_of_ble_eq_true rfl) av_fitI (hs_21_6 _ _) ?_
      change av_Rn _ _ _ _ _ _ _ _ _ _ (hp (kS σ ST G (uI U k 2) T Ln Bn (On + 1))) _
      refine rn_iconst 50 d_C_lengthenOne_49 rfl ?_
      refine rn_ireturn d_C_lengthenOne_50 (Or.inr ⟨rfl, Or.inr rfl⟩) ⟨by rw [bz_t (by omega)], ?_⟩
      rw [if_pos (by omega), if_pos (by omega)]
    · refine rn_iconst 31 d_C_lengthenOne_30 rfl ?_
      refine rn_ireturn d_C_lengthenOne_31 (Or.inr ⟨rfl, Or.inl rfl⟩) ⟨by rw [bz_f (by omega)], ?_⟩
      rw [if_neg (by omega), if_neg (by omega)]
