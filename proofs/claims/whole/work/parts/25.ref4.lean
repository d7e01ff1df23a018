def lgM (σ : av_S) (b : Int) : Int := (if 0 < σ 38 b ∧ σ 40 (2 * b) = 2 then 1 else 0) + (if 1 < σ 38 b ∧ σ 40 (2 * b + 1) = 2 then 1 else 0)
def aCM (σ : av_S) (w n g : Int) : Int := if w = 0 then σ 26 1 else if w < 1 ∨ 5 < w then -1 else if σ 26 5 = 0 then 0 else if w = 1 then sm (uM σ) (σ 26 1).toNat else if w = 2 then n else if w = 3 then g else if w = 4 then σ 26 3 else σ 26 4
set_option maxRecDepth 100000 in
set_option maxHeartbeats 400000 in
theorem count_end {sc : av_sc} {d n0 bc bs : Nat} {al : Bool} {σ : av_S} {w n g i : Int} {Φ : Option av_V → av_H → Prop} (hI : iM σ) (hL : σ 26 5 = 1 → iLM σ) (hw : av_in w) (hΦ : Φ (some (vI (aCM σ w n g))) (hp σ)) :
    av_Rn sc m_M_count (d + 2) al n0 bc bs 79 [some (vR 26), some (vI w), some (vI n), some (vI g), some (vI i), none] [] (hp σ) Φ := by
  obtain ⟨hn, hB, hc31, hc32, hlo, hrg⟩ := id hI
  obtain ⟨hw1, hw2⟩ := hw
  refine rn_iload_n 80 d_M_count_79 rfl rfl ?_
  refine rn_if_ne 88 83 d_M_count_80 rfl rfl ⟨by omega, by omega⟩ (fun c_80 => ?_) (fun c_80 => ?_)
  · refine rn_iload_n 89 d_M_count_88 rfl rfl ?_
    refine rn_iconst 90 d_M_count_89 rfl ?_
    refine rn_icmp_lt 98 93 d_M_count_90 rfl rfl ⟨by omega, by omega⟩ ⟨by omega, by omega⟩ (fun c_90 => ?_) (fun c_90 => ?_)
    · refine rn_iconst 99 d_M_count_98 rfl ?_
      have ea : aCM σ w n g = -1 := by unfold aCM; (first | rw [if_pos (by omega)] | rw [if_neg (by omega)]); try (first | rw [if_pos (by omega)] | rw [if_neg (by omega)]); try (first | rw [if_pos (by omega)] | rw [if_neg (by omega)]); try (first | rw [if_pos (by omega)] | rw [if_neg (by omega)]); try (first | rw [if_pos (by omega)] | rw [if_neg (by omega)]); try (first | rw [if_pos (by omega)] | rw [if_neg (by omega)]); try (first | rw [if_pos (by omega)] | rw [if_neg (by omega)])
      rw [ea] at hΦ
      exact rn_ireturn d_M_count_99 (Or.inl rfl) hΦ
    · refine rn_iload_n 94 d_M_count_93 rfl rfl ?_
      refine rn_iconst 95 d_M_count_94 rfl ?_
      refine rn_icmp_le 100 98 d_M_count_95 rfl rfl ⟨by omega, by omega⟩ ⟨by omega, by omega⟩ (fun c_95 => ?_) (fun c_95 => ?_)
      · refine rn_aload_n 101 d_M_count_100 rfl rfl ?_
        refine rn_getfield 104 d_M_count_101 rfl fd_M_22 rfl rfl ?_
        refine rn_if_ne 109 107 d_M_count_104 rfl rfl ⟨by omega, by omega⟩ (fun c_104 => ?_) (fun c_104 => ?_)
        · refine rn_iload_n 110 d_M_count_109 rfl rfl ?_
          refine rn_iconst 111 d_M_count_110 rfl ?_
          refine rn_icmp_ne 121 114 d_M_count_111 rfl rfl ⟨by omega, by omega⟩ ⟨by omega, by omega⟩ (fun c_111 => ?_) (fun c_111 => ?_)
          · refine rn_iload_n 122 d_M_count_121 rfl rfl ?_
            refine rn_iconst 123 d_M_count_122 rfl ?_
            refine rn_icmp_ne 130 126 d_M_count_123 rfl rfl ⟨by omega, by omega⟩ ⟨by omega, by omega⟩ (fun c_123 => ?_) (fun c_123 => ?_)
            · refine rn_iload_n 131 d_M_count_130 rfl rfl ?_
              refine rn_iconst 132 d_M_count_131 rfl ?_
              refine rn_icmp_ne 139 135 d_M_count_132 rfl rfl ⟨by omega, by omega⟩ ⟨by omega, by omega⟩ (fun c_132 => ?_) (fun c_132 => ?_)
              · refine rn_iload_n 140 d_M_count_139 rfl rfl ?_
                refine rn_iconst 141 d_M_count_140 rfl ?_
                refine rn_icmp_ne 151 144 d_M_count_141 rfl rfl ⟨by omega, by omega⟩ ⟨by omega, by omega⟩ (fun c_141 => ?_) (fun c_141 => ?_)
                · refine rn_aload_n 152 d_M_count_151 rfl rfl ?_
                  refine rn_getfield 155 d_M_count_152 rfl fd_M_19 rfl rfl ?_
                  have ea : aCM σ w n g = σ 26 4 := by unfold aCM; (first | rw [if_pos (by omega)] | rw [if_neg (by omega)]); try (first | rw [if_pos (by omega)] | rw [if_neg (by omega)]); try (first | rw [if_pos (by omega)] | rw [if_neg (by omega)]); try (first | rw [if_pos (by omega)] | rw [if_neg (by omega)]); try (first | rw [if_pos (by omega)] | rw [if_neg (by omega)]); try (first | rw [if_pos (by omega)] | rw [if_neg (by omega)]); try (first | rw [if_pos (by omega)] | rw [if_neg (by omega)])
                  rw [ea] at hΦ
                  exact rn_ireturn d_M_count_155 (Or.inl rfl) hΦ
                · refine rn_aload_n 145 d_M_count_144 rfl rfl ?_
                  refine rn_getfield 148 d_M_count_145 rfl fd_M_16 rfl rfl ?_
                  refine rn_goto 155 d_M_count_148 rfl ?_
                  have ea : aCM σ w n g = σ 26 3 := by unfold aCM; (first | rw [if_pos (by omega)] | rw [if_neg (by omega)]); try (first | rw [if_pos (by omega)] | rw [if_neg (by omega)]); try (first | rw [if_pos (by omega)] | rw [if_neg (by omega)]); try (first | rw [if_pos (by omega)] | rw [if_neg (by omega)]); try (first | rw [if_pos (by omega)] | rw [if_neg (by omega)]); try (first | rw [if_pos (by omega)] | rw [if_neg (by omega)]); try (first | rw [if_pos (by omega)] | rw [if_neg (by omega)])
                  rw [ea] at hΦ
                  exact rn_ireturn d_M_count_155 (Or.inl rfl) hΦ
              · refine rn_iload_n 136 d_M_count_135 rfl rfl ?_
                refine rn_goto 155 d_M_count_136 rfl ?_
                have ea : aCM σ w n g = g := by unfold aCM; (first | rw [if_pos (by omega)] | rw [if_neg (by omega)]); try (first | rw [if_pos (by omega)] | rw [if_neg (by omega)]); try (first | rw [if_pos (by omega)] | rw [if_neg (by omega)]); try (first | rw [if_pos (by omega)] | rw [if_neg (by omega)]); try (first | rw [if_pos (by omega)] | rw [if_neg (by omega)]); try (first | rw [if_pos (by omega)] | rw [if_neg (by omega)]); try (first | rw [if_pos (by omega)] | rw [if_neg (by omega)])
                rw [ea] at hΦ
                exact rn_ireturn d_M_count_155 (Or.inl rfl) hΦ
            · refine rn_iload_n 127 d_M_count_126 rfl rfl ?_
              refine rn_goto 155 d_M_count_127 rfl ?_
              have ea : aCM σ w n g = n := by unfold aCM; (first | rw [if_pos (by omega)] | rw [if_neg (by omega)]); try (first | rw [if_pos (by omega)] | rw [if_neg (by omega)]); try (first | rw [if_pos (by omega)] | rw [if_neg (by omega)]); try (first | rw [if_pos (by omega)] | rw [if_neg (by omega)]); try (first | rw [if_pos (by omega)] | rw [if_neg (by omega)]); try (first | rw [if_pos (by omega)] | rw [if_neg (by omega)]); try (first | rw [if_pos (by omega)] | rw [if_neg (by omega)])
              rw [ea] at hΦ
              exact rn_ireturn d_M_count_155 (Or.inl rfl) hΦ
          · refine rn_aload_n 115 d_M_count_114 rfl rfl ?_
            refine rn_callV0 118 d_M_count_115 rfl cw_M_142 rfl (Nat.le_of_ble_eq_true rfl) (ev_M_total hI (hL (by omega))) ?_
            rintro _ _ ⟨rfl, rfl⟩
            refine rn_goto 155 d_M_count_118 rfl ?_
            have ea : aCM σ w n g = sm (uM σ) (σ 26 1).toNat := by unfold aCM; (first | rw [if_pos (by omega)] | rw [if_neg (by omega)]); try (first | rw [if_pos (by omega)] | rw [if_neg (by omega)]); try (first | rw [if_pos (by omega)] | rw [if_neg (by omega)]); try (first | rw [if_pos (by omega)] | rw [if_neg (by omega)]); try (first | rw [if_pos (by omega)] | rw [if_neg (by omega)]); try (first | rw [if_pos (by omega)] | rw [if_neg (by omega)]); try (first | rw [if_pos (by omega)] | rw [if_neg (by omega)])
            rw [ea] at hΦ
            exact rn_ireturn d_M_count_155 (Or.inl rfl) hΦ
        · refine rn_iconst 108 d_M_count_107 rfl ?_
          have ea : aCM σ w n g = 0 := by unfold aCM; (first | rw [if_pos (by omega)] | rw [if_neg (by omega)]); try (first | rw [if_pos (by omega)] | rw [if_neg (by omega)]); try (first | rw [if_pos (by omega)] | rw [if_neg (by omega)]); try (first | rw [if_pos (by omega)] | rw [if_neg (by omega)]); try (first | rw [if_pos (by omega)] | rw [if_neg (by omega)]); try (first | rw [if_pos (by omega)] | rw [if_neg (by omega)]); try (first | rw [if_pos (by omega)] | rw [if_neg (by omega)])
          rw [ea] at hΦ
          exact rn_ireturn d_M_count_108 (Or.inl rfl) hΦ
      · refine rn_iconst 99 d_M_count_98 rfl ?_
        have ea : aCM σ w n g = -1 := by unfold aCM; (first | rw [if_pos (by omega)] | rw [if_neg (by omega)]); try (first | rw [if_pos (by omega)] | rw [if_neg (by omega)]); try (first | rw [if_pos (by omega)] | rw [if_neg (by omega)]); try (first | rw [if_pos (by omega)] | rw [if_neg (by omega)]); try (first | rw [if_pos (by omega)] | rw [if_neg (by omega)]); try (first | rw [if_pos (by omega)] | rw [if_neg (by omega)]); try (first | rw [if_pos (by omega)] | rw [if_neg (by omega)])
        rw [ea] at hΦ
        exact rn_ireturn d_M_count_99 (Or.inl rfl) hΦ
  · refine rn_aload_n 84 d_M_count_83 rfl rfl ?_
    refine rn_getfield 87 d_M_count_84 rfl fd_M_7 rfl rfl ?_
    have ea : aCM σ w n g = σ 26 1 := by unfold aCM; (first | rw [if_pos (by omega)] | rw [if_neg (by omega)]); try (first | rw [if_pos (by omega)] | rw [if_neg (by omega)]); try (first | rw [if_pos (by omega)] | rw [if_neg (by omega)]); try (first | rw [if_pos (by omega)] | rw [if_neg (by omega)]); try (first | rw [if_pos (by omega)] | rw [if_neg (by omega)]); try (first | rw [if_pos (by omega)] | rw [if_neg (by omega)]); try (first | rw [if_pos (by omega)] | rw [if_neg (by omega)])
    rw [ea] at hΦ
    exact rn_ireturn d_M_count_87 (Or.inl rfl) hΦ
set_option maxRecDepth 100000 in
set_option maxHeartbeats 400000 in
theorem count_loop {sc : av_sc} {d n0 bc bs : Nat} {al : Bool} {σ : av_S} {w : Int} {Φ : Option av_V → av_H → Prop} (hI : iM σ) (hmd : σ 26 5 = 1) (hL : iLM σ) (hw : av_in w) (hΦ : Φ (some (vI (aCM σ w (sm (σ 38) (σ 26 1).toNat) (sm (lgM σ) (σ 26 1).toNat)))) (hp σ)) :
    ∀ (m k : Nat), (k : Int) + (m : Int) = σ 26 1 → av_Rn sc m_M_count (d + 2) al n0 bc bs 7 [some (vR 26), some (vI w), some (vI (sm (σ 38) k)), some (vI (sm (lgM σ) k)), some (vI (k : Int)), none] [] (hp σ) Φ := by
  obtain ⟨hn, hB, hc31, hc32, hlo, hrg⟩ := id hI
  intro m
  induction m with
  | zero =>
    intro k hk
    obtain rfl : k = (σ 26 1).toNat := by omega
    refine rn_iload 9 d_M_count_7 rfl rfl ?_
    refine rn_aload_n 10 d_M_count_9 rfl rfl ?_
    refine rn_getfield 13 d_M_count_10 rfl fd_M_7 rfl rfl ?_
    refine rn_icmp_ge 79 16 d_M_count_13 rfl rfl ⟨by omega, by omega⟩ ⟨by omega, by omega⟩ (fun c_13 => ?_) (fun c_13 => ?_)
    · exact count_end hI (fun _ => hL) hw hΦ
    · omega
  | succ m ih =>
    intro k hk
    obtain ⟨hl1, hl2, hl3, hl4⟩ := hL (k : Int) (by omega) (by omega)
    have K : ∀ (g i : Int), g = sm (lgM σ) k + lgM σ (k : Int) → av_Rn sc m_M_count (d + 2) al n0 bc bs 73 [some (vR 26), some (vI w), some (vI (sm (σ 38) k + σ 38 (k : Int))), some (vI g), some (vI (k : Int)), some (vI i)] [] (hp σ) Φ := by
      intro g i eg
      subst eg
      refine rn_iinc 76 d_M_count_73 rfl rfl (by decide) rfl rfl ?_
      refine rn_goto 7 d_M_count_76 rfl ?_
      refine rn_kill 5 rfl ?_
      exact ih (k + 1) (by omega)
    have I2 : ∀ g : Int, g = sm (lgM σ) k + lgM σ (k : Int) → 1 < σ 38 (k : Int) → av_Rn sc m_M_count (d + 2) al n0 bc bs 36 [some (vR 26), some (vI w), some (vI (sm (σ 38) k + σ 38 (k : Int))), some (vI g), some (vI (k : Int)), some (vI 2)] [] (hp σ) Φ := by
      intro g eg hbr
      refine rn_iload 38 d_M_count_36 rfl rfl ?_
      refine rn_aload_n 39 d_M_count_38 rfl rfl ?_
      refine rn_getfield 42 d_M_count_39 rfl fd_M_61 rfl rfl ?_
      refine rn_iload 44 d_M_count_42 rfl rfl ?_
      refine rn_iaload 45 d_M_count_44 rfl rfl (by decide) (by omega) (by omega) ?_
      refine rn_icmp_ge 73 48 d_M_count_45 rfl rfl ⟨by omega, by omega⟩ ⟨by omega, by omega⟩ (fun c_45 => ?_) (fun c_45 => ?_)
      · exact K _ _ eg
      · omega
    have I1 : ∀ g : Int, g = sm (lgM σ) k + (if 0 < σ 38 (k : Int) ∧ σ 40 (2 * (k : Int)) = 2 then 1 else 0) → 0 < σ 38 (k : Int) → av_Rn sc m_M_count (d + 2) al n0 bc bs 36 [some (vR 26), some (vI w), some (vI (sm (σ 38) k + σ 38 (k : Int))), some (vI g), some (vI (k : Int)), some (vI 1)] [] (hp σ) Φ := by
      intro g eg hbr
      refine rn_iload 38 d_M_count_36 rfl rfl ?_
      refine rn_aload_n 39 d_M_count_38 rfl rfl ?_
      refine rn_getfield 42 d_M_count_39 rfl fd_M_61 rfl rfl ?_
      refine rn_iload 44 d_M_count_42 rfl rfl ?_
      refine rn_iaload 45 d_M_count_44 rfl rfl (by decide) (by omega) (by omega) ?_
      refine rn_icmp_ge 73 48 d_M_count_45 rfl rfl ⟨by omega, by omega⟩ ⟨by omega, by omega⟩ (fun c_45 => ?_) (fun c_45 => ?_)
      · exact K _ _ (by rw [eg]; unfold lgM; (try split) <;> (try split) <;> omega)
      · refine rn_aload_n 49 d_M_count_48 rfl rfl ?_
        refine rn_getfield 52 d_M_count_49 rfl fd_M_67 rfl rfl ?_
        refine rn_iload 54 d_M_count_52 rfl rfl ?_
        refine rn_iconst 55 d_M_count_54 rfl ?_
        refine rn_imul 56 d_M_count_55 rfl ?_
        refine rn_iload 58 d_M_count_56 rfl rfl ?_
        rw [Int.mul_comm (k : Int) 2]
        refine rn_iadd 59 d_M_count_58 rfl ?_
        refine rn_iaload 60 d_M_count_59 rfl rfl (by decide) (by omega) (by omega) ?_
        refine rn_iconst 61 d_M_count_60 rfl ?_
        refine rn_icmp_ne 67 64 d_M_count_61 rfl rfl ⟨by omega, by omega⟩ ⟨by omega, by omega⟩ (fun c_61 => ?_) (fun c_61 => ?_)
        · refine rn_iinc 70 d_M_count_67 rfl rfl (by decide) rfl rfl ?_
          refine rn_goto 36 d_M_count_70 rfl ?_
          exact I2 _ (by rw [eg]; unfold lgM; (try split) <;> (try split) <;> omega) (by omega)
        · refine rn_iinc 67 d_M_count_64 rfl rfl (by decide) rfl rfl ?_
          refine rn_iinc 70 d_M_count_67 rfl rfl (by decide) rfl rfl ?_
          refine rn_goto 36 d_M_count_70 rfl ?_
          exact I2 _ (by rw [eg]; unfold lgM; (try split) <;> (try split) <;> omega) (by omega)
    have I0 : ∀ g : Int, g = sm (lgM σ) k → av_Rn sc m_M_count (d + 2) al n0 bc bs 36 [some (vR 26), some (vI w), some (vI (sm (σ 38) k + σ 38 (k : Int))), some (vI g), some (vI (k : Int)), some (vI 0)] [] (hp σ) Φ := by
      intro g eg
      refine rn_iload 38 d_M_count_36 rfl rfl ?_
      refine rn_aload_n 39 d_M_count_38 rfl rfl ?_
      refine rn_getfield 42 d_M_count_39 rfl fd_M_61 rfl rfl ?_
      refine rn_iload 44 d_M_count_42 rfl rfl ?_
      refine rn_iaload 45 d_M_count_44 rfl rfl (by decide) (by omega) (by omega) ?_
      refine rn_icmp_ge 73 48 d_M_count_45 rfl rfl ⟨by omega, by omega⟩ ⟨by omega, by omega⟩ (fun c_45 => ?_) (fun c_45 => ?_)
      · exact K _ _ (by rw [eg]; unfold lgM; (try split) <;> (try split) <;> omega)
      · refine rn_aload_n 49 d_M_count_48 rfl rfl ?_
        refine rn_getfield 52 d_M_count_49 rfl fd_M_67 rfl rfl ?_
        refine rn_iload 54 d_M_count_52 rfl rfl ?_
        refine rn_iconst 55 d_M_count_54 rfl ?_
        refine rn_imul 56 d_M_count_55 rfl ?_
        refine rn_iload 58 d_M_count_56 rfl rfl ?_
        rw [Int.mul_comm (k : Int) 2]
        refine rn_iadd 59 d_M_count_58 rfl ?_
        rw [Int.add_zero]
        refine rn_iaload 60 d_M_count_59 rfl rfl (by decide) (by omega) (by omega) ?_
        refine rn_iconst 61 d_M_count_60 rfl ?_
        refine rn_icmp_ne 67 64 d_M_count_61 rfl rfl ⟨by omega, by omega⟩ ⟨by omega, by omega⟩ (fun c_61 => ?_) (fun c_61 => ?_)
        · refine rn_iinc 70 d_M_count_67 rfl rfl (by decide) rfl rfl ?_
          refine rn_goto 36 d_M_count_70 rfl ?_
          exact I1 _ (by rw [eg]; unfold lgM; (try split) <;> (try split) <;> omega) (by omega)
        · refine rn_iinc 67 d_M_count_64 rfl rfl (by decide) rfl rfl ?_
          refine rn_iinc 70 d_M_count_67 rfl rfl (by decide) rfl rfl ?_
          refine rn_goto 36 d_M_count_70 rfl ?_
          exact I1 _ (by rw [eg]; unfold lgM; (try split) <;> (try split) <;> omega) (by omega)
    refine rn_iload 9 d_M_count_7 rfl rfl ?_
    refine rn_aload_n 10 d_M_count_9 rfl rfl ?_
    refine rn_getfield 13 d_M_count_10 rfl fd_M_7 rfl rfl ?_
    refine rn_icmp_ge 79 16 d_M_count_13 rfl rfl ⟨by omega, by omega⟩ ⟨by omega, by omega⟩ (fun c_13 => ?_) (fun c_13 => ?_)
    · omega
    · refine rn_aload_n 17 d_M_count_16 rfl rfl ?_
      refine rn_getfield 20 d_M_count_17 rfl fd_M_22 rfl rfl ?_
      refine rn_if_eq 79 23 d_M_count_20 rfl rfl ⟨by omega, by omega⟩ (fun c_20 => ?_) (fun c_20 => ?_)
      · omega
      · refine rn_iload_n 24 d_M_count_23 rfl rfl ?_
        refine rn_aload_n 25 d_M_count_24 rfl rfl ?_
        refine rn_getfield 28 d_M_count_25 rfl fd_M_61 rfl rfl ?_
        refine rn_iload 30 d_M_count_28 rfl rfl ?_
        refine rn_iaload 31 d_M_count_30 rfl rfl (by decide) (by omega) (by omega) ?_
        refine rn_iadd 32 d_M_count_31 rfl ?_
        refine rn_istore_n 33 d_M_count_32 rfl (by decide) rfl rfl ?_
        refine rn_iconst 34 d_M_count_33 rfl ?_
        refine rn_istore 36 d_M_count_34 rfl (by decide) rfl rfl ?_
        exact I0 _ rfl
set_option maxRecDepth 100000 in
set_option maxHeartbeats 400000 in
theorem ev_M_count {sc : av_sc} {d : Nat} {σ : av_S} {w : Int} (hw : av_in w) (hI : iM σ) (hL : σ 26 5 = 1 → iLM σ) : av_Ev sc m_M_count (d + 2) false 0 0 [vR 26, vI w] (hp σ) (fun r h => r = some (vI (aCM σ w (sm (σ 38) (σ 26 1).toNat) (sm (lgM σ) (σ 26 1).toNat))) ∧ h = hp σ) := by
  obtain ⟨hn, hB, hc31, hc32, hlo, hrg⟩ := id hI
  refine av_ev rfl rfl (Nat.le_of_ble_eq_true rfl) rfl ?_
  refine rn_iconst 1 d_M_count_0 rfl ?_
  refine rn_istore_n 2 d_M_count_1 rfl (by decide) rfl rfl ?_
  refine rn_iconst 3 d_M_count_2 rfl ?_
  refine rn_istore_n 4 d_M_count_3 rfl (by decide) rfl rfl ?_
  refine rn_iconst 5 d_M_count_4 rfl ?_
  refine rn_istore 7 d_M_count_5 rfl (by decide) rfl rfl ?_
  rcases hlo with hm | hm
  · have J : av_Rn sc m_M_count (d + 2) false (hp σ).length 0 0 79 [some (vR 26), some (vI w), some (vI 0), some (vI 0), some (vI 0), none] [] (hp σ) (fun r h => r = some (vI (aCM σ w (sm (σ 38) (σ 26 1).toNat) (sm (lgM σ) (σ 26 1).toNat))) ∧ h = hp σ) := count_end hI hL hw ⟨by unfold aCM; simp only [if_pos hm], rfl⟩
    refine rn_iload 9 d_M_count_7 rfl rfl ?_
    refine rn_aload_n 10 d_M_count_9 rfl rfl ?_
    refine rn_getfield 13 d_M_count_10 rfl fd_M_7 rfl rfl ?_
    refine rn_icmp_ge 79 16 d_M_count_13 rfl rfl ⟨by omega, by omega⟩ ⟨by omega, by omega⟩ (fun c_13 => ?_) (fun c_13 => ?_)
    · exact J
    · refine rn_aload_n 17 d_M_count_16 rfl rfl ?_
      refine rn_getfield 20 d_M_count_17 rfl fd_M_22 rfl rfl ?_
      refine rn_if_eq 79 23 d_M_count_20 rfl rfl ⟨by omega, by omega⟩ (fun c_20 => ?_) (fun c_20 => ?_)
      · exact J
      · omega
  · exact count_loop hI hm (hL hm) hw ⟨rfl, rfl⟩ (σ 26 1).toNat 0 (by omega)
