/-- the reference's layout, its arrays named -/
def rS (σ : av_S) (OR BR TG LN TU GR : Int → Int) : av_S := up (up (up (up (up (up σ 37 OR) 38 BR) 39 TG) 40 LN) 41 TU) 42 GR
theorem rS_ext {σ : av_S} {OR BR TG LN TU GR BR' TG' LN' TU' : Int → Int} (h1 : BR = BR') (h2 : TG = TG') (h3 : LN = LN') (h4 : TU = TU') : hp (rS σ OR BR TG LN TU GR) = hp (rS σ OR BR' TG' LN' TU' GR) := by
  subst h1; subst h2; subst h3; subst h4; rfl
def brP (en x y nx : Int) : Int := if en = 1 then (if x = nx then 0 else 1) else if en = 2 then (if y = nx ∨ x = nx then 1 else 2) else 0
def tgP (en x y nx : Int) : Int := if en = 2 ∧ ¬ y = nx ∧ x = nx then y else x
set_option maxRecDepth 100000 in
set_option maxHeartbeats 400000 in
theorem ev_M_branchesOf {sc : av_sc} {d : Nat} {σ : av_S} {OR BR TG LN TU GR : Int → Int} {b nx : Int} (hb : 0 ≤ b ∧ b < 24) (hnx : -1 ≤ nx ∧ nx < 24) (hE : 0 ≤ σ 29 b ∧ σ 29 b ≤ 2) (hT : ∀ k, 0 ≤ k → k < 48 → 0 ≤ σ 30 k ∧ σ 30 k < 24) : av_Ev sc m_M_branchesOf (d) false 0 0 [vR 26, vI b, vI nx] (hp (rS σ OR BR TG LN TU GR)) (fun r h => r = none ∧ h = hp (rS σ OR (uI BR b (brP (σ 29 b) (σ 30 (2 * b)) (σ 30 (2 * b + 1)) nx)) (uI (uI TG (2 * b) (tgP (σ 29 b) (σ 30 (2 * b)) (σ 30 (2 * b + 1)) nx)) (2 * b + 1) (σ 30 (2 * b + 1))) (uI (uI LN (2 * b) 1) (2 * b + 1) 1) (uI TU b (plT (σ 29 b) (σ 30 (2 * b)) (σ 30 (2 * b + 1)) nx)) GR)) := by
  have hx := hT (2 * b) (by omega) (by omega)
  have hy := hT (2 * b + 1) (by omega) (by omega)
  refine av_ev rfl rfl (Nat.le_of_ble_eq_true rfl) rfl ?_
  refine rn_aload_n 1 d_M_branchesOf_0 rfl rfl ?_
  refine rn_getfield 4 d_M_branchesOf_1 rfl fd_M_36 rfl rfl ?_
  refine rn_iload_n 5 d_M_branchesOf_4 rfl rfl ?_
  refine rn_iconst 6 d_M_branchesOf_5 rfl ?_
  refine rn_imul 7 d_M_branchesOf_6 rfl ?_
  rw [Int.mul_comm b 2]
  refine rn_iaload 8 d_M_branchesOf_7 rfl rfl (by decide) (by omega) (by omega) ?_
  rw [show (rS σ OR BR TG LN TU GR) 30 (2 * b) = σ 30 (2 * b) from rfl]
  refine rn_istore_n 9 d_M_branchesOf_8 rfl (by decide) rfl rfl ?_
  refine rn_aload_n 10 d_M_branchesOf_9 rfl rfl ?_
  refine rn_getfield 13 d_M_branchesOf_10 rfl fd_M_36 rfl rfl ?_
  refine rn_iload_n 14 d_M_branchesOf_13 rfl rfl ?_
  refine rn_iconst 15 d_M_branchesOf_14 rfl ?_
  refine rn_imul 16 d_M_branchesOf_15 rfl ?_
  rw [Int.mul_comm b 2]
  refine rn_iconst 17 d_M_branchesOf_16 rfl ?_
  refine rn_iadd 18 d_M_branchesOf_17 rfl ?_
  refine rn_iaload 19 d_M_branchesOf_18 rfl rfl (by decide) (by omega) (by omega) ?_
  rw [show (rS σ OR BR TG LN TU GR) 30 (2 * b + 1) = σ 30 (2 * b + 1) from rfl]
  refine rn_istore 21 d_M_branchesOf_19 rfl (by decide) rfl rfl ?_
  refine rn_aload_n 22 d_M_branchesOf_21 rfl rfl ?_
  refine rn_getfield 25 d_M_branchesOf_22 rfl fd_M_70 rfl rfl ?_
  refine rn_iload_n 26 d_M_branchesOf_25 rfl rfl ?_
  refine rn_iconst 27 d_M_branchesOf_26 rfl ?_
  refine rn_bastore 28 d_M_branchesOf_27 rfl rfl (by decide) (by omega) (by omega) (by omega) (hs_41 _ _) ?_
  refine rn_aload_n 29 d_M_branchesOf_28 rfl rfl ?_
  refine rn_getfield 32 d_M_branchesOf_29 rfl fd_M_61 rfl rfl ?_
  refine rn_iload_n 33 d_M_branchesOf_32 rfl rfl ?_
  refine rn_iconst 34 d_M_branchesOf_33 rfl ?_
  refine rn_iastore 35 d_M_branchesOf_34 rfl rfl (by decide) (by omega) (by omega) (hs_38 _ _) ?_
  refine rn_aload_n 36 d_M_branchesOf_35 rfl rfl ?_
  refine rn_getfield 39 d_M_branchesOf_36 rfl fd_M_67 rfl rfl ?_
  refine rn_iload_n 40 d_M_branchesOf_39 rfl rfl ?_
  refine rn_iconst 41 d_M_branchesOf_40 rfl ?_
  refine rn_imul 42 d_M_branchesOf_41 rfl ?_
  rw [Int.mul_comm b 2]
  refine rn_iconst 43 d_M_branchesOf_42 rfl ?_
  refine rn_iastore 44 d_M_branchesOf_43 rfl rfl (by decide) (by omega) (by omega) (hs_40 _ _) ?_
  refine rn_aload_n 45 d_M_branchesOf_44 rfl rfl ?_
  refine rn_getfield 48 d_M_branchesOf_45 rfl fd_M_67 rfl rfl ?_
  refine rn_iload_n 49 d_M_branchesOf_48 rfl rfl ?_
  refine rn_iconst 50 d_M_branchesOf_49 rfl ?_
  refine rn_imul 51 d_M_branchesOf_50 rfl ?_
  rw [Int.mul_comm b 2]
  refine rn_iconst 52 d_M_branchesOf_51 rfl ?_
  refine rn_iadd 53 d_M_branchesOf_52 rfl ?_
  refine rn_iconst 54 d_M_branchesOf_53 rfl ?_
  refine rn_iastore 55 d_M_branchesOf_54 rfl rfl (by decide) (by omega) (by omega) (hs_40 _ _) ?_
  refine rn_aload_n 56 d_M_branchesOf_55 rfl rfl ?_
  refine rn_getfield 59 d_M_branchesOf_56 rfl fd_M_64 rfl rfl ?_
  refine rn_iload_n 60 d_M_branchesOf_59 rfl rfl ?_
  refine rn_iconst 61 d_M_branchesOf_60 rfl ?_
  refine rn_imul 62 d_M_branchesOf_61 rfl ?_
  rw [Int.mul_comm b 2]
  refine rn_iload_n 63 d_M_branchesOf_62 rfl rfl ?_
  refine rn_iastore 64 d_M_branchesOf_63 rfl rfl (by decide) (by omega) (by omega) (hs_39 _ _) ?_
  refine rn_aload_n 65 d_M_branchesOf_64 rfl rfl ?_
  refine rn_getfield 68 d_M_branchesOf_65 rfl fd_M_64 rfl rfl ?_
  refine rn_iload_n 69 d_M_branchesOf_68 rfl rfl ?_
  refine rn_iconst 70 d_M_branchesOf_69 rfl ?_
  refine rn_imul 71 d_M_branchesOf_70 rfl ?_
  rw [Int.mul_comm b 2]
  refine rn_iconst 72 d_M_branchesOf_71 rfl ?_
  refine rn_iadd 73 d_M_branchesOf_72 rfl ?_
  refine rn_iload 75 d_M_branchesOf_73 rfl rfl ?_
  refine rn_iastore 76 d_M_branchesOf_75 rfl rfl (by decide) (by omega) (by omega) (hs_39 _ _) ?_
  change av_Rn _ _ _ _ _ _ _ _ _ _ (hp (rS σ OR (uI BR b 0) (uI (uI TG (2 * b) (σ 30 (2 * b))) (2 * b + 1) (σ 30 (2 * b + 1))) (uI (uI LN (2 * b) 1) (2 * b + 1) 1) (uI TU b 0) GR)) _
  have J : ∀ Bq : Int → Int, Bq = uI BR b (brP (σ 29 b) (σ 30 (2 * b)) (σ 30 (2 * b + 1)) nx) → ¬ σ 29 b = 2 → av_Rn sc m_M_branchesOf d false (hp (rS σ OR BR TG LN TU GR)).length 0 0 102 [some (vR 26), some (vI b), some (vI nx), some (vI (σ 30 (2 * b))), some (vI (σ 30 (2 * b + 1)))] [] (hp (rS σ OR Bq (uI (uI TG (2 * b) (σ 30 (2 * b))) (2 * b + 1) (σ 30 (2 * b + 1))) (uI (uI LN (2 * b) 1) (2 * b + 1) 1) (uI TU b 0) GR)) (fun r h => r = none ∧ h = hp (rS σ OR (uI BR b (brP (σ 29 b) (σ 30 (2 * b)) (σ 30 (2 * b + 1)) nx)) (uI (uI TG (2 * b) (tgP (σ 29 b) (σ 30 (2 * b)) (σ 30 (2 * b + 1)) nx)) (2 * b + 1) (σ 30 (2 * b + 1))) (uI (uI LN (2 * b) 1) (2 * b + 1) 1) (uI TU b (plT (σ 29 b) (σ 30 (2 * b)) (σ 30 (2 * b + 1)) nx)) GR)) := by
    intro Bq ev hne
    refine rn_aload_n 103 d_M_branchesOf_102 rfl rfl ?_
    refine rn_getfield 106 d_M_branchesOf_103 rfl fd_M_33 rfl rfl ?_
    refine rn_iload_n 107 d_M_branchesOf_106 rfl rfl ?_
    refine rn_iaload 108 d_M_branchesOf_107 rfl rfl (by decide) (by omega) (by omega) ?_
    rw [show (rS σ OR Bq (uI (uI TG (2 * b) (σ 30 (2 * b))) (2 * b + 1) (σ 30 (2 * b + 1))) (uI (uI LN (2 * b) 1) (2 * b + 1) 1) (uI TU b 0) GR) 29 b = σ 29 b from rfl]
    refine rn_iconst 109 d_M_branchesOf_108 rfl ?_
    refine rn_icmp_eq 113 112 d_M_branchesOf_109 rfl rfl ⟨by omega, by omega⟩ ⟨by omega, by omega⟩ (fun c_109 => ?_) (fun c_109 => ?_)
    · exact absurd c_109 hne
    · exact rn_return d_M_branchesOf_112 rfl ⟨rfl, rS_ext ev (uI2 (by symm; unfold tgP; (first | rw [if_pos (by omega)] | rw [if_neg (by omega)]); (try (first | rw [if_pos (by omega)] | rw [if_neg (by omega)])); (try (first | rw [if_pos (by omega)] | rw [if_neg (by omega)]))) rfl) rfl (uI1 (by symm; unfold plT; (first | rw [if_pos (by omega)] | rw [if_neg (by omega)]); (try (first | rw [if_pos (by omega)] | rw [if_neg (by omega)])); (try (first | rw [if_pos (by omega)] | rw [if_neg (by omega)]))))⟩
  have JT : ∀ v : Int, v = brP (σ 29 b) (σ 30 (2 * b)) (σ 30 (2 * b + 1)) nx → σ 29 b = 2 → av_Rn sc m_M_branchesOf d false (hp (rS σ OR BR TG LN TU GR)).length 0 0 135 [some (vR 26), some (vI b), some (vI nx), some (vI (σ 30 (2 * b))), some (vI (σ 30 (2 * b + 1)))] [] (hp (rS σ OR (uI (uI BR b 0) b v) (uI (uI TG (2 * b) (σ 30 (2 * b))) (2 * b + 1) (σ 30 (2 * b + 1))) (uI (uI LN (2 * b) 1) (2 * b + 1) 1) (uI TU b 0) GR)) (fun r h => r = none ∧ h = hp (rS σ OR (uI BR b (brP (σ 29 b) (σ 30 (2 * b)) (σ 30 (2 * b + 1)) nx)) (uI (uI TG (2 * b) (tgP (σ 29 b) (σ 30 (2 * b)) (σ 30 (2 * b + 1)) nx)) (2 * b + 1) (σ 30 (2 * b + 1))) (uI (uI LN (2 * b) 1) (2 * b + 1) 1) (uI TU b (plT (σ 29 b) (σ 30 (2 * b)) (σ 30 (2 * b + 1)) nx)) GR)) := by
    intro v ev hne
    have JJ : ∀ t : Int, t = plT (σ 29 b) (σ 30 (2 * b)) (σ 30 (2 * b + 1)) nx → av_Rn sc m_M_branchesOf d false (hp (rS σ OR BR TG LN TU GR)).length 0 0 157 [some (vR 26), some (vI b), some (vI nx), some (vI (σ 30 (2 * b))), some (vI (σ 30 (2 * b + 1)))] [] (hp (rS σ OR (uI (uI BR b 0) b v) (uI (uI TG (2 * b) (σ 30 (2 * b))) (2 * b + 1) (σ 30 (2 * b + 1))) (uI (uI LN (2 * b) 1) (2 * b + 1) 1) (uI (uI TU b 0) b t) GR)) (fun r h => r = none ∧ h = hp (rS σ OR (uI BR b (brP (σ 29 b) (σ 30 (2 * b)) (σ 30 (2 * b + 1)) nx)) (uI (uI TG (2 * b) (tgP (σ 29 b) (σ 30 (2 * b)) (σ 30 (2 * b + 1)) nx)) (2 * b + 1) (σ 30 (2 * b + 1))) (uI (uI LN (2 * b) 1) (2 * b + 1) 1) (uI TU b (plT (σ 29 b) (σ 30 (2 * b)) (σ 30 (2 * b + 1)) nx)) GR)) := by
      intro t et
      have ht01 : t = 0 ∨ t = 1 := by rw [et]; unfold plT; split; exact Or.inr rfl; exact Or.inl rfl
      refine rn_aload_n 158 d_M_branchesOf_157 rfl rfl ?_
      refine rn_getfield 161 d_M_branchesOf_158 rfl fd_M_70 rfl rfl ?_
      refine rn_iload_n 162 d_M_branchesOf_161 rfl rfl ?_
      refine rn_baload 163 d_M_branchesOf_162 rfl rfl (by decide) (by omega) (by omega) ?_
      rw [show (rS σ OR (uI (uI BR b 0) b v) (uI (uI TG (2 * b) (σ 30 (2 * b))) (2 * b + 1) (σ 30 (2 * b + 1))) (uI (uI LN (2 * b) 1) (2 * b + 1) 1) (uI (uI TU b 0) b t) GR) 41 b = uI (uI TU b 0) b t b from rfl]
      rw [uI_s]
      refine rn_if_eq 176 166 d_M_branchesOf_163 rfl rfl ⟨by omega, by omega⟩ (fun c_163 => ?_) (fun c_163 => ?_)
      · first
          | exact rn_return d_M_branchesOf_176 rfl ⟨rfl, rS_ext (uIT ev) (uI2 (by symm; unfold tgP; rw [if_neg (fun z => by have := et; unfold plT at this; rw [if_pos z] at this; omega)]) rfl) rfl (uIT et)⟩
          | exact rn_return d_M_branchesOf_176 rfl ⟨rfl, rS_ext (uIT ev) (uI3 (by symm; unfold tgP; by_cases z : (σ 29 b = 2 ∧ ¬ σ 30 (2 * b + 1) = nx ∧ σ 30 (2 * b) = nx); exact if_pos z; exact absurd et (by unfold plT; rw [if_neg z]; omega)) rfl) rfl (uIT et)⟩
      · refine rn_aload_n 167 d_M_branchesOf_166 rfl rfl ?_
        refine rn_getfield 170 d_M_branchesOf_167 rfl fd_M_64 rfl rfl ?_
        refine rn_iload_n 171 d_M_branchesOf_170 rfl rfl ?_
        refine rn_iconst 172 d_M_branchesOf_171 rfl ?_
        refine rn_imul 173 d_M_branchesOf_172 rfl ?_
        rw [Int.mul_comm b 2]
        refine rn_iload 175 d_M_branchesOf_173 rfl rfl ?_
        refine rn_iastore 176 d_M_branchesOf_175 rfl rfl (by decide) (by omega) (by omega) (hs_39 _ _) ?_
        first
          | exact rn_return d_M_branchesOf_176 rfl ⟨rfl, rS_ext (uIT ev) (uI2 (by symm; unfold tgP; rw [if_neg (fun z => by have := et; unfold plT at this; rw [if_pos z] at this; omega)]) rfl) rfl (uIT et)⟩
          | exact rn_return d_M_branchesOf_176 rfl ⟨rfl, rS_ext (uIT ev) (uI3 (by symm; unfold tgP; by_cases z : (σ 29 b = 2 ∧ ¬ σ 30 (2 * b + 1) = nx ∧ σ 30 (2 * b) = nx); exact if_pos z; exact absurd et (by unfold plT; rw [if_neg z]; omega)) rfl) rfl (uIT et)⟩
    refine rn_aload_n 136 d_M_branchesOf_135 rfl rfl ?_
    refine rn_getfield 139 d_M_branchesOf_136 rfl fd_M_70 rfl rfl ?_
    refine rn_iload_n 140 d_M_branchesOf_139 rfl rfl ?_
    refine rn_iload 142 d_M_branchesOf_140 rfl rfl ?_
    refine rn_iload_n 143 d_M_branchesOf_142 rfl rfl ?_
    refine rn_icmp_eq 155 146 d_M_branchesOf_143 rfl rfl ⟨by omega, by omega⟩ ⟨by omega, by omega⟩ (fun c_143 => ?_) (fun c_143 => ?_)
    · refine rn_iconst 156 d_M_branchesOf_155 rfl ?_
      refine rn_bastore 157 d_M_branchesOf_156 rfl rfl (by decide) (by omega) (by omega) (by omega) (hs_41 _ _) ?_
      exact JJ _ (by symm; unfold plT; (first | rw [if_pos (by omega)] | rw [if_neg (by omega)]))
    · refine rn_iload_n 147 d_M_branchesOf_146 rfl rfl ?_
      refine rn_iload_n 148 d_M_branchesOf_147 rfl rfl ?_
      refine rn_icmp_ne 155 151 d_M_branchesOf_148 rfl rfl ⟨by omega, by omega⟩ ⟨by omega, by omega⟩ (fun c_148 => ?_) (fun c_148 => ?_)
      · refine rn_iconst 156 d_M_branchesOf_155 rfl ?_
        refine rn_bastore 157 d_M_branchesOf_156 rfl rfl (by decide) (by omega) (by omega) (by omega) (hs_41 _ _) ?_
        exact JJ _ (by symm; unfold plT; (first | rw [if_pos (by omega)] | rw [if_neg (by omega)]))
      · refine rn_iconst 152 d_M_branchesOf_151 rfl ?_
        refine rn_goto 156 d_M_branchesOf_152 rfl ?_
        refine rn_bastore 157 d_M_branchesOf_156 rfl rfl (by decide) (by omega) (by omega) (by omega) (hs_41 _ _) ?_
        exact JJ _ (by symm; unfold plT; (first | rw [if_pos (by omega)] | rw [if_neg (by omega)]))
  refine rn_aload_n 77 d_M_branchesOf_76 rfl rfl ?_
  refine rn_getfield 80 d_M_branchesOf_77 rfl fd_M_33 rfl rfl ?_
  refine rn_iload_n 81 d_M_branchesOf_80 rfl rfl ?_
  refine rn_iaload 82 d_M_branchesOf_81 rfl rfl (by decide) (by omega) (by omega) ?_
  rw [show (rS σ OR (uI BR b 0) (uI (uI TG (2 * b) (σ 30 (2 * b))) (2 * b + 1) (σ 30 (2 * b + 1))) (uI (uI LN (2 * b) 1) (2 * b + 1) 1) (uI TU b 0) GR) 29 b = σ 29 b from rfl]
  refine rn_iconst 83 d_M_branchesOf_82 rfl ?_
  refine rn_icmp_ne 102 86 d_M_branchesOf_83 rfl rfl ⟨by omega, by omega⟩ ⟨by omega, by omega⟩ (fun c_83 => ?_) (fun c_83 => ?_)
  · by_cases h1 : σ 29 b = 1
    · by_cases h3 : σ 30 (2 * b) = nx
      · first | (exfalso; omega) | (change av_Rn _ _ _ _ _ _ _ _ _ _ (hp (rS σ OR (uI (uI BR b 0) b 0) (uI (uI TG (2 * b) (σ 30 (2 * b))) (2 * b + 1) (σ 30 (2 * b + 1))) (uI (uI LN (2 * b) 1) (2 * b + 1) 1) (uI TU b 0) GR)) _; exact J _ (uIT (by symm; unfold brP; rw [if_pos h1, if_pos h3])) (by omega))
      · first | (exfalso; omega) | (change av_Rn _ _ _ _ _ _ _ _ _ _ (hp (rS σ OR (uI (uI BR b 0) b 1) (uI (uI TG (2 * b) (σ 30 (2 * b))) (2 * b + 1) (σ 30 (2 * b + 1))) (uI (uI LN (2 * b) 1) (2 * b + 1) 1) (uI TU b 0) GR)) _; exact J _ (uIT (by symm; unfold brP; rw [if_pos h1, if_neg h3])) (by omega))
    · by_cases h2 : σ 29 b = 2
      · first
          | (exfalso; omega)
          | (refine rn_aload_n 103 d_M_branchesOf_102 rfl rfl ?_
             refine rn_getfield 106 d_M_branchesOf_103 rfl fd_M_33 rfl rfl ?_
             refine rn_iload_n 107 d_M_branchesOf_106 rfl rfl ?_
             refine rn_iaload 108 d_M_branchesOf_107 rfl rfl (by decide) (by omega) (by omega) ?_
             rw [show (rS σ OR (uI BR b 0) (uI (uI TG (2 * b) (σ 30 (2 * b))) (2 * b + 1) (σ 30 (2 * b + 1))) (uI (uI LN (2 * b) 1) (2 * b + 1) 1) (uI TU b 0) GR) 29 b = σ 29 b from rfl]
             refine rn_iconst 109 d_M_branchesOf_108 rfl ?_
             refine rn_icmp_eq 113 112 d_M_branchesOf_109 rfl rfl ⟨by omega, by omega⟩ ⟨by omega, by omega⟩ (fun c_109 => ?_) (fun c_109 => ?_)
             · refine rn_aload_n 114 d_M_branchesOf_113 rfl rfl ?_
               refine rn_getfield 117 d_M_branchesOf_114 rfl fd_M_61 rfl rfl ?_
               refine rn_iload_n 118 d_M_branchesOf_117 rfl rfl ?_
               refine rn_iload 120 d_M_branchesOf_118 rfl rfl ?_
               refine rn_iload_n 121 d_M_branchesOf_120 rfl rfl ?_
               refine rn_icmp_eq 129 124 d_M_branchesOf_121 rfl rfl ⟨by omega, by omega⟩ ⟨by omega, by omega⟩ (fun c_121 => ?_) (fun c_121 => ?_)
               · refine rn_iconst 130 d_M_branchesOf_129 rfl ?_
                 refine rn_goto 134 d_M_branchesOf_130 rfl ?_
                 refine rn_iastore 135 d_M_branchesOf_134 rfl rfl (by decide) (by omega) (by omega) (hs_38 _ _) ?_
                 by_cases h4 : σ 30 (2 * b + 1) = nx ∨ σ 30 (2 * b) = nx
                 · first | (exfalso; omega) | (change av_Rn _ _ _ _ _ _ _ _ _ _ (hp (rS σ OR (uI (uI BR b 0) b 1) (uI (uI TG (2 * b) (σ 30 (2 * b))) (2 * b + 1) (σ 30 (2 * b + 1))) (uI (uI LN (2 * b) 1) (2 * b + 1) 1) (uI TU b 0) GR)) _; exact JT 1 (by symm; unfold brP; rw [if_neg h1, if_pos h2, if_pos h4]) h2)
                 · first | (exfalso; omega) | (change av_Rn _ _ _ _ _ _ _ _ _ _ (hp (rS σ OR (uI (uI BR b 0) b 2) (uI (uI TG (2 * b) (σ 30 (2 * b))) (2 * b + 1) (σ 30 (2 * b + 1))) (uI (uI LN (2 * b) 1) (2 * b + 1) 1) (uI TU b 0) GR)) _; exact JT 2 (by symm; unfold brP; rw [if_neg h1, if_pos h2, if_neg h4]) h2)
               · refine rn_iload_n 125 d_M_branchesOf_124 rfl rfl ?_
                 refine rn_iload_n 126 d_M_branchesOf_125 rfl rfl ?_
                 refine rn_icmp_ne 133 129 d_M_branchesOf_126 rfl rfl ⟨by omega, by omega⟩ ⟨by omega, by omega⟩ (fun c_126 => ?_) (fun c_126 => ?_)
                 · refine rn_iconst 134 d_M_branchesOf_133 rfl ?_
                   refine rn_iastore 135 d_M_branchesOf_134 rfl rfl (by decide) (by omega) (by omega) (hs_38 _ _) ?_
                   by_cases h4 : σ 30 (2 * b + 1) = nx ∨ σ 30 (2 * b) = nx
                   · first | (exfalso; omega) | (change av_Rn _ _ _ _ _ _ _ _ _ _ (hp (rS σ OR (uI (uI BR b 0) b 1) (uI (uI TG (2 * b) (σ 30 (2 * b))) (2 * b + 1) (σ 30 (2 * b + 1))) (uI (uI LN (2 * b) 1) (2 * b + 1) 1) (uI TU b 0) GR)) _; exact JT 1 (by symm; unfold brP; rw [if_neg h1, if_pos h2, if_pos h4]) h2)
                   · first | (exfalso; omega) | (change av_Rn _ _ _ _ _ _ _ _ _ _ (hp (rS σ OR (uI (uI BR b 0) b 2) (uI (uI TG (2 * b) (σ 30 (2 * b))) (2 * b + 1) (σ 30 (2 * b + 1))) (uI (uI LN (2 * b) 1) (2 * b + 1) 1) (uI TU b 0) GR)) _; exact JT 2 (by symm; unfold brP; rw [if_neg h1, if_pos h2, if_neg h4]) h2)
                 · refine rn_iconst 130 d_M_branchesOf_129 rfl ?_
                   refine rn_goto 134 d_M_branchesOf_130 rfl ?_
                   refine rn_iastore 135 d_M_branchesOf_134 rfl rfl (by decide) (by omega) (by omega) (hs_38 _ _) ?_
                   by_cases h4 : σ 30 (2 * b + 1) = nx ∨ σ 30 (2 * b) = nx
                   · first | (exfalso; omega) | (change av_Rn _ _ _ _ _ _ _ _ _ _ (hp (rS σ OR (uI (uI BR b 0) b 1) (uI (uI TG (2 * b) (σ 30 (2 * b))) (2 * b + 1) (σ 30 (2 * b + 1))) (uI (uI LN (2 * b) 1) (2 * b + 1) 1) (uI TU b 0) GR)) _; exact JT 1 (by symm; unfold brP; rw [if_neg h1, if_pos h2, if_pos h4]) h2)
                   · first | (exfalso; omega) | (change av_Rn _ _ _ _ _ _ _ _ _ _ (hp (rS σ OR (uI (uI BR b 0) b 2) (uI (uI TG (2 * b) (σ 30 (2 * b))) (2 * b + 1) (σ 30 (2 * b + 1))) (uI (uI LN (2 * b) 1) (2 * b + 1) 1) (uI TU b 0) GR)) _; exact JT 2 (by symm; unfold brP; rw [if_neg h1, if_pos h2, if_neg h4]) h2)
             · exact absurd h2 c_109)
      · first | (exfalso; omega) | exact J _ (uI1 (by symm; unfold brP; rw [if_neg h1, if_neg h2])) h2
  · refine rn_aload_n 87 d_M_branchesOf_86 rfl rfl ?_
    refine rn_getfield 90 d_M_branchesOf_87 rfl fd_M_61 rfl rfl ?_
    refine rn_iload_n 91 d_M_branchesOf_90 rfl rfl ?_
    refine rn_iload_n 92 d_M_branchesOf_91 rfl rfl ?_
    refine rn_iload_n 93 d_M_branchesOf_92 rfl rfl ?_
    refine rn_icmp_ne 100 96 d_M_branchesOf_93 rfl rfl ⟨by omega, by omega⟩ ⟨by omega, by omega⟩ (fun c_93 => ?_) (fun c_93 => ?_)
    · refine rn_iconst 101 d_M_branchesOf_100 rfl ?_
      refine rn_iastore 102 d_M_branchesOf_101 rfl rfl (by decide) (by omega) (by omega) (hs_38 _ _) ?_
      by_cases h1 : σ 29 b = 1
      · by_cases h3 : σ 30 (2 * b) = nx
        · first | (exfalso; omega) | (change av_Rn _ _ _ _ _ _ _ _ _ _ (hp (rS σ OR (uI (uI BR b 0) b 0) (uI (uI TG (2 * b) (σ 30 (2 * b))) (2 * b + 1) (σ 30 (2 * b + 1))) (uI (uI LN (2 * b) 1) (2 * b + 1) 1) (uI TU b 0) GR)) _; exact J _ (uIT (by symm; unfold brP; rw [if_pos h1, if_pos h3])) (by omega))
        · first | (exfalso; omega) | (change av_Rn _ _ _ _ _ _ _ _ _ _ (hp (rS σ OR (uI (uI BR b 0) b 1) (uI (uI TG (2 * b) (σ 30 (2 * b))) (2 * b + 1) (σ 30 (2 * b + 1))) (uI (uI LN (2 * b) 1) (2 * b + 1) 1) (uI TU b 0) GR)) _; exact J _ (uIT (by symm; unfold brP; rw [if_pos h1, if_neg h3])) (by omega))
      · by_cases h2 : σ 29 b = 2
        · first
            | (exfalso; omega)
            | (refine rn_aload_n 103 d_M_branchesOf_102 rfl rfl ?_
               refine rn_getfield 106 d_M_branchesOf_103 rfl fd_M_33 rfl rfl ?_
               refine rn_iload_n 107 d_M_branchesOf_106 rfl rfl ?_
               refine rn_iaload 108 d_M_branchesOf_107 rfl rfl (by decide) (by omega) (by omega) ?_
               rw [show (rS σ OR (uI BR b 0) (uI (uI TG (2 * b) (σ 30 (2 * b))) (2 * b + 1) (σ 30 (2 * b + 1))) (uI (uI LN (2 * b) 1) (2 * b + 1) 1) (uI TU b 0) GR) 29 b = σ 29 b from rfl]
               refine rn_iconst 109 d_M_branchesOf_108 rfl ?_
               refine rn_icmp_eq 113 112 d_M_branchesOf_109 rfl rfl ⟨by omega, by omega⟩ ⟨by omega, by omega⟩ (fun c_109 => ?_) (fun c_109 => ?_)
               · refine rn_aload_n 114 d_M_branchesOf_113 rfl rfl ?_
                 refine rn_getfield 117 d_M_branchesOf_114 rfl fd_M_61 rfl rfl ?_
                 refine rn_iload_n 118 d_M_branchesOf_117 rfl rfl ?_
                 refine rn_iload 120 d_M_branchesOf_118 rfl rfl ?_
                 refine rn_iload_n 121 d_M_branchesOf_120 rfl rfl ?_
                 refine rn_icmp_eq 129 124 d_M_branchesOf_121 rfl rfl ⟨by omega, by omega⟩ ⟨by omega, by omega⟩ (fun c_121 => ?_) (fun c_121 => ?_)
                 · refine rn_iconst 130 d_M_branchesOf_129 rfl ?_
                   refine rn_goto 134 d_M_branchesOf_130 rfl ?_
                   refine rn_iastore 135 d_M_branchesOf_134 rfl rfl (by decide) (by omega) (by omega) (hs_38 _ _) ?_
                   by_cases h4 : σ 30 (2 * b + 1) = nx ∨ σ 30 (2 * b) = nx
                   · first | (exfalso; omega) | (change av_Rn _ _ _ _ _ _ _ _ _ _ (hp (rS σ OR (uI (uI BR b 0) b 1) (uI (uI TG (2 * b) (σ 30 (2 * b))) (2 * b + 1) (σ 30 (2 * b + 1))) (uI (uI LN (2 * b) 1) (2 * b + 1) 1) (uI TU b 0) GR)) _; exact JT 1 (by symm; unfold brP; rw [if_neg h1, if_pos h2, if_pos h4]) h2)
                   · first | (exfalso; omega) | (change av_Rn _ _ _ _ _ _ _ _ _ _ (hp (rS σ OR (uI (uI BR b 0) b 2) (uI (uI TG (2 * b) (σ 30 (2 * b))) (2 * b + 1) (σ 30 (2 * b + 1))) (uI (uI LN (2 * b) 1) (2 * b + 1) 1) (uI TU b 0) GR)) _; exact JT 2 (by symm; unfold brP; rw [if_neg h1, if_pos h2, if_neg h4]) h2)
                 · refine rn_iload_n 125 d_M_branchesOf_124 rfl rfl ?_
                   refine rn_iload_n 126 d_M_branchesOf_125 rfl rfl ?_
                   refine rn_icmp_ne 133 129 d_M_branchesOf_126 rfl rfl ⟨by omega, by omega⟩ ⟨by omega, by omega⟩ (fun c_126 => ?_) (fun c_126 => ?_)
                   · refine rn_iconst 134 d_M_branchesOf_133 rfl ?_
                     refine rn_iastore 135 d_M_branchesOf_134 rfl rfl (by decide) (by omega) (by omega) (hs_38 _ _) ?_
                     by_cases h4 : σ 30 (2 * b + 1) = nx ∨ σ 30 (2 * b) = nx
                     · first | (exfalso; omega) | (change av_Rn _ _ _ _ _ _ _ _ _ _ (hp (rS σ OR (uI (uI BR b 0) b 1) (uI (uI TG (2 * b) (σ 30 (2 * b))) (2 * b + 1) (σ 30 (2 * b + 1))) (uI (uI LN (2 * b) 1) (2 * b + 1) 1) (uI TU b 0) GR)) _; exact JT 1 (by symm; unfold brP; rw [if_neg h1, if_pos h2, if_pos h4]) h2)
                     · first | (exfalso; omega) | (change av_Rn _ _ _ _ _ _ _ _ _ _ (hp (rS σ OR (uI (uI BR b 0) b 2) (uI (uI TG (2 * b) (σ 30 (2 * b))) (2 * b + 1) (σ 30 (2 * b + 1))) (uI (uI LN (2 * b) 1) (2 * b + 1) 1) (uI TU b 0) GR)) _; exact JT 2 (by symm; unfold brP; rw [if_neg h1, if_pos h2, if_neg h4]) h2)
                   · refine rn_iconst 130 d_M_branchesOf_129 rfl ?_
                     refine rn_goto 134 d_M_branchesOf_130 rfl ?_
                     refine rn_iastore 135 d_M_branchesOf_134 rfl rfl (by decide) (by omega) (by omega) (hs_38 _ _) ?_
                     by_cases h4 : σ 30 (2 * b + 1) = nx ∨ σ 30 (2 * b) = nx
                     · first | (exfalso; omega) | (change av_Rn _ _ _ _ _ _ _ _ _ _ (hp (rS σ OR (uI (uI BR b 0) b 1) (uI (uI TG (2 * b) (σ 30 (2 * b))) (2 * b + 1) (σ 30 (2 * b + 1))) (uI (uI LN (2 * b) 1) (2 * b + 1) 1) (uI TU b 0) GR)) _; exact JT 1 (by symm; unfold brP; rw [if_neg h1, if_pos h2, if_pos h4]) h2)
                     · first | (exfalso; omega) | (change av_Rn _ _ _ _ _ _ _ _ _ _ (hp (rS σ OR (uI (uI BR b 0) b 2) (uI (uI TG (2 * b) (σ 30 (2 * b))) (2 * b + 1) (σ 30 (2 * b + 1))) (uI (uI LN (2 * b) 1) (2 * b + 1) 1) (uI TU b 0) GR)) _; exact JT 2 (by symm; unfold brP; rw [if_neg h1, if_pos h2, if_neg h4]) h2)
               · exact absurd h2 c_109)
        · first | (exfalso; omega) | exact J _ (uI1 (by symm; unfold brP; rw [if_neg h1, if_neg h2])) h2
    · refine rn_iconst 97 d_M_branchesOf_96 rfl ?_
      refine rn_goto 101 d_M_branchesOf_97 rfl ?_
      refine rn_iastore 102 d_M_branchesOf_101 rfl rfl (by decide) (by omega) (by omega) (hs_38 _ _) ?_
      by_cases h1 : σ 29 b = 1
      · by_cases h3 : σ 30 (2 * b) = nx
        · first | (exfalso; omega) | (change av_Rn _ _ _ _ _ _ _ _ _ _ (hp (rS σ OR (uI (uI BR b 0) b 0) (uI (uI TG (2 * b) (σ 30 (2 * b))) (2 * b + 1) (σ 30 (2 * b + 1))) (uI (uI LN (2 * b) 1) (2 * b + 1) 1) (uI TU b 0) GR)) _; exact J _ (uIT (by symm; unfold brP; rw [if_pos h1, if_pos h3])) (by omega))
        · first | (exfalso; omega) | (change av_Rn _ _ _ _ _ _ _ _ _ _ (hp (rS σ OR (uI (uI BR b 0) b 1) (uI (uI TG (2 * b) (σ 30 (2 * b))) (2 * b + 1) (σ 30 (2 * b + 1))) (uI (uI LN (2 * b) 1) (2 * b + 1) 1) (uI TU b 0) GR)) _; exact J _ (uIT (by symm; unfold brP; rw [if_pos h1, if_neg h3])) (by omega))
      · by_cases h2 : σ 29 b = 2
        · first
            | (exfalso; omega)
            | (refine rn_aload_n 103 d_M_branchesOf_102 rfl rfl ?_
               refine rn_getfield 106 d_M_branchesOf_103 rfl fd_M_33 rfl rfl ?_
               refine rn_iload_n 107 d_M_branchesOf_106 rfl rfl ?_
               refine rn_iaload 108 d_M_branchesOf_107 rfl rfl (by decide) (by omega) (by omega) ?_
               rw [show (rS σ OR (uI BR b 0) (uI (uI TG (2 * b) (σ 30 (2 * b))) (2 * b + 1) (σ 30 (2 * b + 1))) (uI (uI LN (2 * b) 1) (2 * b + 1) 1) (uI TU b 0) GR) 29 b = σ 29 b from rfl]
               refine rn_iconst 109 d_M_branchesOf_108 rfl ?_
               refine rn_icmp_eq 113 112 d_M_branchesOf_109 rfl rfl ⟨by omega, by omega⟩ ⟨by omega, by omega⟩ (fun c_109 => ?_) (fun c_109 => ?_)
               · refine rn_aload_n 114 d_M_branchesOf_113 rfl rfl ?_
                 refine rn_getfield 117 d_M_branchesOf_114 rfl fd_M_61 rfl rfl ?_
                 refine rn_iload_n 118 d_M_branchesOf_117 rfl rfl ?_
                 refine rn_iload 120 d_M_branchesOf_118 rfl rfl ?_
                 refine rn_iload_n 121 d_M_branchesOf_120 rfl rfl ?_
                 refine rn_icmp_eq 129 124 d_M_branchesOf_121 rfl rfl ⟨by omega, by omega⟩ ⟨by omega, by omega⟩ (fun c_121 => ?_) (fun c_121 => ?_)
                 · refine rn_iconst 130 d_M_branchesOf_129 rfl ?_
                   refine rn_goto 134 d_M_branchesOf_130 rfl ?_
                   refine rn_iastore 135 d_M_branchesOf_134 rfl rfl (by decide) (by omega) (by omega) (hs_38 _ _) ?_
                   by_cases h4 : σ 30 (2 * b + 1) = nx ∨ σ 30 (2 * b) = nx
                   · first | (exfalso; omega) | (change av_Rn _ _ _ _ _ _ _ _ _ _ (hp (rS σ OR (uI (uI BR b 0) b 1) (uI (uI TG (2 * b) (σ 30 (2 * b))) (2 * b + 1) (σ 30 (2 * b + 1))) (uI (uI LN (2 * b) 1) (2 * b + 1) 1) (uI TU b 0) GR)) _; exact JT 1 (by symm; unfold brP; rw [if_neg h1, if_pos h2, if_pos h4]) h2)
                   · first | (exfalso; omega) | (change av_Rn _ _ _ _ _ _ _ _ _ _ (hp (rS σ OR (uI (uI BR b 0) b 2) (uI (uI TG (2 * b) (σ 30 (2 * b))) (2 * b + 1) (σ 30 (2 * b + 1))) (uI (uI LN (2 * b) 1) (2 * b + 1) 1) (uI TU b 0) GR)) _; exact JT 2 (by symm; unfold brP; rw [if_neg h1, if_pos h2, if_neg h4]) h2)
                 · refine rn_iload_n 125 d_M_branchesOf_124 rfl rfl ?_
                   refine rn_iload_n 126 d_M_branchesOf_125 rfl rfl ?_
                   refine rn_icmp_ne 133 129 d_M_branchesOf_126 rfl rfl ⟨by omega, by omega⟩ ⟨by omega, by omega⟩ (fun c_126 => ?_) (fun c_126 => ?_)
                   · refine rn_iconst 134 d_M_branchesOf_133 rfl ?_
                     refine rn_iastore 135 d_M_branchesOf_134 rfl rfl (by decide) (by omega) (by omega) (hs_38 _ _) ?_
                     by_cases h4 : σ 30 (2 * b + 1) = nx ∨ σ 30 (2 * b) = nx
                     · first | (exfalso; omega) | (change av_Rn _ _ _ _ _ _ _ _ _ _ (hp (rS σ OR (uI (uI BR b 0) b 1) (uI (uI TG (2 * b) (σ 30 (2 * b))) (2 * b + 1) (σ 30 (2 * b + 1))) (uI (uI LN (2 * b) 1) (2 * b + 1) 1) (uI TU b 0) GR)) _; exact JT 1 (by symm; unfold brP; rw [if_neg h1, if_pos h2, if_pos h4]) h2)
                     · first | (exfalso; omega) | (change av_Rn _ _ _ _ _ _ _ _ _ _ (hp (rS σ OR (uI (uI BR b 0) b 2) (uI (uI TG (2 * b) (σ 30 (2 * b))) (2 * b + 1) (σ 30 (2 * b + 1))) (uI (uI LN (2 * b) 1) (2 * b + 1) 1) (uI TU b 0) GR)) _; exact JT 2 (by symm; unfold brP; rw [if_neg h1, if_pos h2, if_neg h4]) h2)
                   · refine rn_iconst 130 d_M_branchesOf_129 rfl ?_
                     refine rn_goto 134 d_M_branchesOf_130 rfl ?_
                     refine rn_iastore 135 d_M_branchesOf_134 rfl rfl (by decide) (by omega) (by omega) (hs_38 _ _) ?_
                     by_cases h4 : σ 30 (2 * b + 1) = nx ∨ σ 30 (2 * b) = nx
                     · first | (exfalso; omega) | (change av_Rn _ _ _ _ _ _ _ _ _ _ (hp (rS σ OR (uI (uI BR b 0) b 1) (uI (uI TG (2 * b) (σ 30 (2 * b))) (2 * b + 1) (σ 30 (2 * b + 1))) (uI (uI LN (2 * b) 1) (2 * b + 1) 1) (uI TU b 0) GR)) _; exact JT 1 (by symm; unfold brP; rw [if_neg h1, if_pos h2, if_pos h4]) h2)
                     · first | (exfalso; omega) | (change av_Rn _ _ _ _ _ _ _ _ _ _ (hp (rS σ OR (uI (uI BR b 0) b 2) (uI (uI TG (2 * b) (σ 30 (2 * b))) (2 * b + 1) (σ 30 (2 * b + 1))) (uI (uI LN (2 * b) 1) (2 * b + 1) 1) (uI TU b 0) GR)) _; exact JT 2 (by symm; unfold brP; rw [if_neg h1, if_pos h2, if_neg h4]) h2)
               · exact absurd h2 c_109)
        · first | (exfalso; omega) | exact J _ (uI1 (by symm; unfold brP; rw [if_neg h1, if_neg h2])) h2
