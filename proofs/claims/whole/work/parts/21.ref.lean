/-- the reference's own invariant -/
def iMB (σ : av_S) (b : Int) : Prop := (0 ≤ σ 27 b ∧ σ 27 b ≤ 3) ∧ (1 ≤ σ 28 b ∧ σ 28 b ≤ 40) ∧ (0 ≤ σ 29 b ∧ σ 29 b ≤ 2) ∧ (∀ e, 0 ≤ e → e < σ 29 b → 0 ≤ σ 30 (2 * b + e) ∧ σ 30 (2 * b + e) < σ 26 1)
def iM (σ : av_S) : Prop := (0 ≤ σ 26 1 ∧ σ 26 1 ≤ 24) ∧ (∀ b, 0 ≤ b → b < σ 26 1 → iMB σ b) ∧ bd (σ 31) 24 ∧ bd (σ 32) 48 ∧ (σ 26 5 = 0 ∨ σ 26 5 = 1) ∧ (4 ≤ σ 26 0 ∧ σ 26 0 ≤ 400)
def iEM (σ : av_S) (f e : Int) : Prop := (e = -1 ∧ ∀ b, 0 ≤ b → b < σ 26 1 → σ 27 b ≠ f) ∨ ((0 ≤ e ∧ e < σ 26 1) ∧ σ 27 e = f ∧ ∀ b, 0 ≤ b → b < e → σ 27 b ≠ f)
set_option maxRecDepth 100000 in
set_option maxHeartbeats 400000 in
theorem ev_M_no {sc : av_sc} {d : Nat} {σ : av_S} {b : Int} (hb : av_in b) (hn : 0 ≤ σ 26 1 ∧ σ 26 1 ≤ 24) : av_Ev sc m_M_no (d) false 0 0 [vR 26, vI b] (hp σ) (fun r h => r = some (vI (bz (b < 0 ∨ σ 26 1 ≤ b))) ∧ h = hp σ) := by
  obtain ⟨hb1, hb2⟩ := hb
  refine av_ev rfl rfl (Nat.le_of_ble_eq_true rfl) rfl ?_
  refine rn_iload_n 1 d_M_no_0 rfl rfl ?_
  refine rn_if_lt 12 4 d_M_no_1 rfl rfl ⟨by omega, by omega⟩ (fun c_1 => ?_) (fun c_1 => ?_)
  · refine rn_iconst 13 d_M_no_12 rfl ?_
    refine rn_goto 17 d_M_no_13 rfl ?_
    exact rn_ireturn d_M_no_17 (Or.inr ⟨rfl, Or.inr rfl⟩) ⟨by rw [bz_t (by omega)], rfl⟩
  · refine rn_iload_n 5 d_M_no_4 rfl rfl ?_
    refine rn_aload_n 6 d_M_no_5 rfl rfl ?_
    refine rn_getfield 9 d_M_no_6 rfl fd_M_7 rfl rfl ?_
    refine rn_icmp_lt 16 12 d_M_no_9 rfl rfl ⟨by omega, by omega⟩ ⟨by omega, by omega⟩ (fun c_9 => ?_) (fun c_9 => ?_)
    · refine rn_iconst 17 d_M_no_16 rfl ?_
      exact rn_ireturn d_M_no_17 (Or.inr ⟨rfl, Or.inl rfl⟩) ⟨by rw [bz_f (by omega)], rfl⟩
    · refine rn_iconst 13 d_M_no_12 rfl ?_
      refine rn_goto 17 d_M_no_13 rfl ?_
      exact rn_ireturn d_M_no_17 (Or.inr ⟨rfl, Or.inr rfl⟩) ⟨by rw [bz_t (by omega)], rfl⟩
set_option maxRecDepth 100000 in
set_option maxHeartbeats 400000 in
theorem entry_loop {sc : av_sc} {d n0 bc bs : Nat} {al : Bool} {σ : av_S} {f e : Int} {Φ : Option av_V → av_H → Prop} (hn : 0 ≤ σ 26 1 ∧ σ 26 1 ≤ 24) (hF : ∀ b, 0 ≤ b → b < σ 26 1 → 0 ≤ σ 27 b ∧ σ 27 b ≤ 3) (hf : 0 ≤ f ∧ f ≤ 3) (hE : iEM σ f e) (hΦ : Φ (some (vI e)) (hp σ)) :
    ∀ (k : Nat) (i : Int), 0 ≤ i → i + (k : Int) = σ 26 1 → (∀ j, 0 ≤ j → j < i → σ 27 j ≠ f) → av_Rn sc m_M_entry d al n0 bc bs 2 [some (vR 26), some (vI f), some (vI i)] [] (hp σ) Φ := by
  intro k
  induction k with
  | zero =>
    intro i h0 hi hj
    have he : e = -1 := by
      rcases hE with ⟨q, -⟩ | ⟨q1, q2, -⟩
      · exact q
      · exact absurd q2 (hj e q1.1 (by omega))
    subst he
    refine rn_iload_n 3 d_M_entry_2 rfl rfl ?_
    refine rn_aload_n 4 d_M_entry_3 rfl rfl ?_
    refine rn_getfield 7 d_M_entry_4 rfl fd_M_7 rfl rfl ?_
    refine rn_icmp_ge 28 10 d_M_entry_7 rfl rfl ⟨by omega, by omega⟩ ⟨by omega, by omega⟩ (fun c_7 => ?_) (fun c_7 => ?_)
    · refine rn_iconst 29 d_M_entry_28 rfl ?_
      exact rn_ireturn d_M_entry_29 (Or.inl rfl) hΦ
    · omega
  | succ k ih =>
    intro i h0 hi hj
    have hFi := hF i h0 (by omega)
    refine rn_iload_n 3 d_M_entry_2 rfl rfl ?_
    refine rn_aload_n 4 d_M_entry_3 rfl rfl ?_
    refine rn_getfield 7 d_M_entry_4 rfl fd_M_7 rfl rfl ?_
    refine rn_icmp_ge 28 10 d_M_entry_7 rfl rfl ⟨by omega, by omega⟩ ⟨by omega, by omega⟩ (fun c_7 => ?_) (fun c_7 => ?_)
    · omega
    · refine rn_aload_n 11 d_M_entry_10 rfl rfl ?_
      refine rn_getfield 14 d_M_entry_11 rfl fd_M_26 rfl rfl ?_
      refine rn_iload_n 15 d_M_entry_14 rfl rfl ?_
      refine rn_iaload 16 d_M_entry_15 rfl rfl (by decide) (by omega) (by omega) ?_
      refine rn_iload_n 17 d_M_entry_16 rfl rfl ?_
      refine rn_icmp_ne 22 20 d_M_entry_17 rfl rfl ⟨by omega, by omega⟩ ⟨by omega, by omega⟩ (fun c_17 => ?_) (fun c_17 => ?_)
      · refine rn_iinc 25 d_M_entry_22 rfl rfl (by decide) rfl rfl ?_
        refine rn_goto 2 d_M_entry_25 rfl ?_
        exact ih (i + 1) (by omega) (by omega) (fun j q1 q2 => by
          by_cases hq : j = i
          · rw [hq]; exact c_17
          · exact hj j q1 (by omega))
      · refine rn_iload_n 21 d_M_entry_20 rfl rfl ?_
        have he : e = i := by
          rcases hE with ⟨-, q⟩ | ⟨q1, q2, q3⟩
          · exact absurd c_17 (q i h0 (by omega))
          · rcases Int.lt_trichotomy e i with z | z | z
            · exact absurd q2 (hj e q1.1 z)
            · exact z
            · exact absurd c_17 (q3 i h0 z)
        subst he
        exact rn_ireturn d_M_entry_21 (Or.inl rfl) hΦ
set_option maxRecDepth 100000 in
set_option maxHeartbeats 400000 in
theorem ev_M_entry {sc : av_sc} {d : Nat} {σ : av_S} {f e : Int} (hn : 0 ≤ σ 26 1 ∧ σ 26 1 ≤ 24) (hF : ∀ b, 0 ≤ b → b < σ 26 1 → 0 ≤ σ 27 b ∧ σ 27 b ≤ 3) (hf : 0 ≤ f ∧ f ≤ 3) (hE : iEM σ f e) : av_Ev sc m_M_entry (d) false 0 0 [vR 26, vI f] (hp σ) (fun r h => r = some (vI e) ∧ h = hp σ) := by
  refine av_ev rfl rfl (Nat.le_of_ble_eq_true rfl) rfl ?_
  refine rn_iconst 1 d_M_entry_0 rfl ?_
  refine rn_istore_n 2 d_M_entry_1 rfl (by decide) rfl rfl ?_
  exact entry_loop hn hF hf hE ⟨rfl, rfl⟩ (σ 26 1).toNat 0 (by omega) (by omega) (fun j q1 q2 => by omega)
set_option maxRecDepth 100000 in
set_option maxHeartbeats 400000 in
theorem ev_M_warmer {sc : av_sc} {d : Nat} {σ : av_S} {c n : Int} (hc : 0 ≤ c ∧ c ≤ 1000000) (hn : 0 ≤ n ∧ n ≤ 1000000) : av_Ev sc m_M_warmer (d) false 0 0 [vR 26, vI c, vI n] (hp σ) (fun r h => r = some (vI (mn 1000000 (c + n))) ∧ h = hp σ) := by
  refine av_ev rfl rfl (Nat.le_of_ble_eq_true rfl) rfl ?_
  refine rn_iload_n 1 d_M_warmer_0 rfl rfl ?_
  refine rn_iload_n 2 d_M_warmer_1 rfl rfl ?_
  refine rn_iadd 3 d_M_warmer_2 rfl ?_
  refine rn_ldc 5 d_M_warmer_3 rfl 1000000 lc_M_87 rfl ?_
  refine rn_icmp_le 13 8 d_M_warmer_5 rfl rfl ⟨by omega, by omega⟩ ⟨by omega, by omega⟩ (fun c_5 => ?_) (fun c_5 => ?_)
  · refine rn_iload_n 14 d_M_warmer_13 rfl rfl ?_
    refine rn_iload_n 15 d_M_warmer_14 rfl rfl ?_
    refine rn_iadd 16 d_M_warmer_15 rfl ?_
    exact rn_ireturn d_M_warmer_16 (Or.inl rfl) ⟨congrArg (fun z => some (vI z)) (by unfold mn; split <;> omega), rfl⟩
  · refine rn_ldc 10 d_M_warmer_8 rfl 1000000 lc_M_87 rfl ?_
    refine rn_goto 16 d_M_warmer_10 rfl ?_
    exact rn_ireturn d_M_warmer_16 (Or.inl rfl) ⟨congrArg (fun z => some (vI z)) (by unfold mn; split <;> omega), rfl⟩
def eM (en : Int → Int) (b i x : Int) : Int := if en b < 2 then en b - 1 else if i < 32 ∧ btM x i = 1 then 0 else 1
set_option maxRecDepth 100000 in
set_option maxHeartbeats 400000 in
theorem ev_M_edge {sc : av_sc} {d : Nat} {σ : av_S} {b i x : Int} (hb : 0 ≤ b ∧ b < 24) (hi : av_in i) (hE : 0 ≤ σ 29 b ∧ σ 29 b ≤ 2) : av_Ev sc m_M_edge (d) false 0 0 [vR 26, vI b, vI i, vI x] (hp σ) (fun r h => r = some (vI (eM (σ 29) b i x)) ∧ h = hp σ) := by
  obtain ⟨hi1, hi2⟩ := hi
  refine av_ev rfl rfl (Nat.le_of_ble_eq_true rfl) rfl ?_
  refine rn_aload_n 1 d_M_edge_0 rfl rfl ?_
  refine rn_getfield 4 d_M_edge_1 rfl fd_M_33 rfl rfl ?_
  refine rn_iload_n 5 d_M_edge_4 rfl rfl ?_
  refine rn_iaload 6 d_M_edge_5 rfl rfl (by decide) (by omega) (by omega) ?_
  refine rn_iconst 7 d_M_edge_6 rfl ?_
  refine rn_icmp_ge 19 10 d_M_edge_7 rfl rfl ⟨by omega, by omega⟩ ⟨by omega, by omega⟩ (fun c_7 => ?_) (fun c_7 => ?_)
  · refine rn_iload_n 20 d_M_edge_19 rfl rfl ?_
    refine rn_bipush 22 d_M_edge_20 rfl rfl ?_
    refine rn_icmp_ge 38 25 d_M_edge_22 rfl rfl ⟨by omega, by omega⟩ ⟨by omega, by omega⟩ (fun c_22 => ?_) (fun c_22 => ?_)
    · refine rn_iconst 39 d_M_edge_38 rfl ?_
      exact rn_ireturn d_M_edge_39 (Or.inl rfl) ⟨by unfold eM; (first | rw [if_pos (by omega)] | rw [if_neg (by omega)]); try (first | rw [if_pos (by omega)] | rw [if_neg (by omega)]), rfl⟩
    · refine rn_iload_n 26 d_M_edge_25 rfl rfl ?_
      refine rn_iload_n 27 d_M_edge_26 rfl rfl ?_
      refine rn_ishr 28 d_M_edge_27 rfl _ (Int32.ofInt_toInt _).symm ?_
      refine rn_iconst 29 d_M_edge_28 rfl ?_
      refine rn_iand 30 d_M_edge_29 rfl (btM x i) (Int32.ofInt_toInt _).symm ?_
      refine rn_iconst 31 d_M_edge_30 rfl ?_
      refine rn_icmp_ne 38 34 d_M_edge_31 rfl rfl (btM_in x i) ⟨by omega, by omega⟩ (fun c_31 => ?_) (fun c_31 => ?_)
      · refine rn_iconst 39 d_M_edge_38 rfl ?_
        exact rn_ireturn d_M_edge_39 (Or.inl rfl) ⟨by unfold eM; (first | rw [if_pos (by omega)] | rw [if_neg (by omega)]); try (first | rw [if_pos (by omega)] | rw [if_neg (by omega)]), rfl⟩
      · refine rn_iconst 35 d_M_edge_34 rfl ?_
        refine rn_goto 39 d_M_edge_35 rfl ?_
        exact rn_ireturn d_M_edge_39 (Or.inl rfl) ⟨by unfold eM; (first | rw [if_pos (by omega)] | rw [if_neg (by omega)]); try (first | rw [if_pos (by omega)] | rw [if_neg (by omega)]), rfl⟩
  · refine rn_aload_n 11 d_M_edge_10 rfl rfl ?_
    refine rn_getfield 14 d_M_edge_11 rfl fd_M_33 rfl rfl ?_
    refine rn_iload_n 15 d_M_edge_14 rfl rfl ?_
    refine rn_iaload 16 d_M_edge_15 rfl rfl (by decide) (by omega) (by omega) ?_
    refine rn_iconst 17 d_M_edge_16 rfl ?_
    refine rn_isub 18 d_M_edge_17 rfl ?_
    exact rn_ireturn d_M_edge_18 (Or.inl rfl) ⟨by unfold eM; (first | rw [if_pos (by omega)] | rw [if_neg (by omega)]); try (first | rw [if_pos (by omega)] | rw [if_neg (by omega)]), rfl⟩
def aBlockM (σ : av_S) (f u : Int) : Int := if f < 0 ∨ 3 < f ∨ u < 1 ∨ 40 < u ∨ σ 26 5 = 1 then -1 else if σ 26 1 = 24 then -2 else σ 26 1 + 1 - 1
def sBlockM (σ : av_S) (f u : Int) : av_S := if f < 0 ∨ 3 < f ∨ u < 1 ∨ 40 < u ∨ σ 26 5 = 1 ∨ σ 26 1 = 24 then σ else up (up (up σ 27 (uI (σ 27) (σ 26 1) f)) 28 (uI (σ 28) (σ 26 1) u)) 26 (uI (σ 26) 1 (σ 26 1 + 1))
set_option maxRecDepth 100000 in
set_option maxHeartbeats 400000 in
theorem ev_M_block {sc : av_sc} {d : Nat} {σ : av_S} {f u : Int} (hf : av_in f) (hu : av_in u) (hI : iM σ) : av_Ev sc m_M_block (d) false 0 0 [vR 26, vI f, vI u] (hp σ) (fun r h => r = some (vI (aBlockM σ f u)) ∧ h = hp (sBlockM σ f u)) := by
  obtain ⟨hn, hB, hc31, hc32, hlo, hrg⟩ := id hI
  obtain ⟨hf1, hf2⟩ := hf
  obtain ⟨hu1, hu2⟩ := hu
  refine av_ev rfl rfl (Nat.le_of_ble_eq_true rfl) rfl ?_
  refine rn_iload_n 1 d_M_block_0 rfl rfl ?_
  refine rn_if_lt 27 4 d_M_block_1 rfl rfl ⟨by omega, by omega⟩ (fun c_1 => ?_) (fun c_1 => ?_)
  · refine rn_iconst 28 d_M_block_27 rfl ?_
    exact rn_ireturn d_M_block_28 (Or.inl rfl) ⟨by unfold aBlockM; (first | rw [if_pos (by omega)] | rw [if_neg (by omega)]); try (first | rw [if_pos (by omega)] | rw [if_neg (by omega)]), by unfold sBlockM; (first | rw [if_pos (by omega)] | rw [if_neg (by omega)])⟩
  · refine rn_iload_n 5 d_M_block_4 rfl rfl ?_
    refine rn_iconst 6 d_M_block_5 rfl ?_
    refine rn_icmp_gt 27 9 d_M_block_6 rfl rfl ⟨by omega, by omega⟩ ⟨by omega, by omega⟩ (fun c_6 => ?_) (fun c_6 => ?_)
    · refine rn_iconst 28 d_M_block_27 rfl ?_
      exact rn_ireturn d_M_block_28 (Or.inl rfl) ⟨by unfold aBlockM; (first | rw [if_pos (by omega)] | rw [if_neg (by omega)]); try (first | rw [if_pos (by omega)] | rw [if_neg (by omega)]), by unfold sBlockM; (first | rw [if_pos (by omega)] | rw [if_neg (by omega)])⟩
    · refine rn_iload_n 10 d_M_block_9 rfl rfl ?_
      refine rn_iconst 11 d_M_block_10 rfl ?_
      refine rn_icmp_lt 27 14 d_M_block_11 rfl rfl ⟨by omega, by omega⟩ ⟨by omega, by omega⟩ (fun c_11 => ?_) (fun c_11 => ?_)
      · refine rn_iconst 28 d_M_block_27 rfl ?_
        exact rn_ireturn d_M_block_28 (Or.inl rfl) ⟨by unfold aBlockM; (first | rw [if_pos (by omega)] | rw [if_neg (by omega)]); try (first | rw [if_pos (by omega)] | rw [if_neg (by omega)]), by unfold sBlockM; (first | rw [if_pos (by omega)] | rw [if_neg (by omega)])⟩
      · refine rn_iload_n 15 d_M_block_14 rfl rfl ?_
        refine rn_bipush 17 d_M_block_15 rfl rfl ?_
        refine rn_icmp_gt 27 20 d_M_block_17 rfl rfl ⟨by omega, by omega⟩ ⟨by omega, by omega⟩ (fun c_17 => ?_) (fun c_17 => ?_)
        · refine rn_iconst 28 d_M_block_27 rfl ?_
          exact rn_ireturn d_M_block_28 (Or.inl rfl) ⟨by unfold aBlockM; (first | rw [if_pos (by omega)] | rw [if_neg (by omega)]); try (first | rw [if_pos (by omega)] | rw [if_neg (by omega)]), by unfold sBlockM; (first | rw [if_pos (by omega)] | rw [if_neg (by omega)])⟩
        · refine rn_aload_n 21 d_M_block_20 rfl rfl ?_
          refine rn_getfield 24 d_M_block_21 rfl fd_M_22 rfl rfl ?_
          refine rn_if_eq 29 27 d_M_block_24 rfl rfl ⟨by omega, by omega⟩ (fun c_24 => ?_) (fun c_24 => ?_)
          · refine rn_aload_n 30 d_M_block_29 rfl rfl ?_
            refine rn_getfield 33 d_M_block_30 rfl fd_M_7 rfl rfl ?_
            refine rn_bipush 35 d_M_block_33 rfl rfl ?_
            refine rn_icmp_ne 41 38 d_M_block_35 rfl rfl ⟨by omega, by omega⟩ ⟨by omega, by omega⟩ (fun c_35 => ?_) (fun c_35 => ?_)
            · refine rn_aload_n 42 d_M_block_41 rfl rfl ?_
              refine rn_getfield 45 d_M_block_42 rfl fd_M_26 rfl rfl ?_
              refine rn_aload_n 46 d_M_block_45 rfl rfl ?_
              refine rn_getfield 49 d_M_block_46 rfl fd_M_7 rfl rfl ?_
              refine rn_iload_n 50 d_M_block_49 rfl rfl ?_
              refine rn_iastore 51 d_M_block_50 rfl rfl (by decide) (by omega) (by omega) (hs_27 _ _) ?_
              change av_Rn _ _ _ _ _ _ _ _ _ _ (hp (up σ 27 (uI (σ 27) (σ 26 1) f))) _
              refine rn_aload_n 52 d_M_block_51 rfl rfl ?_
              refine rn_getfield 55 d_M_block_52 rfl fd_M_30 rfl rfl ?_
              refine rn_aload_n 56 d_M_block_55 rfl rfl ?_
              refine rn_getfield 59 d_M_block_56 rfl fd_M_7 rfl rfl ?_
              rw [show (up σ 27 (uI (σ 27) (σ 26 1) f)) 26 1 = σ 26 1 from rfl]
              refine rn_iload_n 60 d_M_block_59 rfl rfl ?_
              refine rn_iastore 61 d_M_block_60 rfl rfl (by decide) (by omega) (by omega) (hs_28 _ _) ?_
              change av_Rn _ _ _ _ _ _ _ _ _ _ (hp (up (up σ 27 (uI (σ 27) (σ 26 1) f)) 28 (uI (σ 28) (σ 26 1) u))) _
              refine rn_aload_n 62 d_M_block_61 rfl rfl ?_
              refine rn_dup 63 d_M_block_62 rfl rfl ?_
              refine rn_getfield 66 d_M_block_63 rfl fd_M_7 rfl rfl ?_
              refine rn_iconst 67 d_M_block_66 rfl ?_
              refine rn_iadd 68 d_M_block_67 rfl ?_
              refine rn_putfield 71 d_M_block_68 rfl fp_M_7 rfl (Nat.le_of_ble_eq_true rfl) av_fitI (hs_26_1 _ _) ?_
              refine rn_aload_n 72 d_M_block_71 rfl rfl ?_
              refine rn_getfield 75 d_M_block_72 rfl fd_M_7 rfl rfl ?_
              refine rn_iconst 76 d_M_block_75 rfl ?_
              refine rn_isub 77 d_M_block_76 rfl ?_
              refine rn_ireturn d_M_block_77 (Or.inl rfl) ⟨?_, ?_⟩
              · unfold aBlockM; (first | rw [if_pos (by omega)] | rw [if_neg (by omega)]); (first | rw [if_pos (by omega)] | rw [if_neg (by omega)]); rfl
              · unfold sBlockM; (first | rw [if_pos (by omega)] | rw [if_neg (by omega)]); rfl
            · refine rn_bipush 40 d_M_block_38 rfl rfl ?_
              exact rn_ireturn d_M_block_40 (Or.inl rfl) ⟨by unfold aBlockM; (first | rw [if_pos (by omega)] | rw [if_neg (by omega)]); try (first | rw [if_pos (by omega)] | rw [if_neg (by omega)]), by unfold sBlockM; (first | rw [if_pos (by omega)] | rw [if_neg (by omega)])⟩
          · refine rn_iconst 28 d_M_block_27 rfl ?_
            exact rn_ireturn d_M_block_28 (Or.inl rfl) ⟨by unfold aBlockM; (first | rw [if_pos (by omega)] | rw [if_neg (by omega)]); try (first | rw [if_pos (by omega)] | rw [if_neg (by omega)]), by unfold sBlockM; (first | rw [if_pos (by omega)] | rw [if_neg (by omega)])⟩
def aGive (σ : av_S) (b x y : Int) : Int := if (σ 26 5 = 0 ∧ (0 ≤ b ∧ b < σ 26 1) ∧ (0 ≤ x ∧ x < σ 26 1) ∧ (0 ≤ y ∧ y < σ 26 1) ∧ σ 27 x = σ 27 b ∧ σ 27 y = σ 27 b) then 0 else -1
def sGive0 (σ : av_S) (b w x y : Int) : av_S := up (up (up σ 29 (uI (σ 29) b w)) 30 (uI (uI (σ 30) (2 * b) x) (2 * b + 1) y)) 32 (uI (uI (σ 32) (2 * b) 0) (2 * b + 1) 0)
def sGive (σ : av_S) (b w x y : Int) : av_S := if (σ 26 5 = 0 ∧ (0 ≤ b ∧ b < σ 26 1) ∧ (0 ≤ x ∧ x < σ 26 1) ∧ (0 ≤ y ∧ y < σ 26 1) ∧ σ 27 x = σ 27 b ∧ σ 27 y = σ 27 b) then sGive0 σ b w x y else σ
set_option maxRecDepth 100000 in
set_option maxHeartbeats 400000 in
theorem ev_M_give {sc : av_sc} {d : Nat} {σ : av_S} {b w x y : Int} (hb : av_in b) (hx : av_in x) (hy : av_in y) (hI : iM σ) : av_Ev sc m_M_give (d + 1) false 0 0 [vR 26, vI b, vI w, vI x, vI y] (hp σ) (fun r h => r = some (vI (aGive σ b x y)) ∧ h = hp (sGive σ b w x y)) := by
  obtain ⟨hn, hB, hc31, hc32, hlo, hrg⟩ := id hI
  refine av_ev rfl rfl (Nat.le_of_ble_eq_true rfl) rfl ?_
  refine rn_aload_n 1 d_M_give_0 rfl rfl ?_
  refine rn_getfield 4 d_M_give_1 rfl fd_M_22 rfl rfl ?_
  refine rn_if_ne 63 7 d_M_give_4 rfl rfl ⟨by omega, by omega⟩ (fun c_4 => ?_) (fun c_4 => ?_)
  · refine rn_iconst 64 d_M_give_63 rfl ?_
    refine rn_ireturn d_M_give_64 (Or.inl rfl) ⟨?_, ?_⟩
    · unfold aGive; rw [if_neg (by omega)]
    · unfold sGive; rw [if_neg (by omega)]
  · refine rn_aload_n 8 d_M_give_7 rfl rfl ?_
    refine rn_iload_n 9 d_M_give_8 rfl rfl ?_
    refine rn_callV1 12 d_M_give_9 rfl cw_M_83 rfl (Nat.le_of_ble_eq_true rfl) (ev_M_no hb hn) ?_
    rintro _ _ ⟨rfl, rfl⟩
    refine rn_ifB_ne 63 15 d_M_give_12 rfl rfl (fun c_12 => ?_) (fun c_12 => ?_)
    · refine rn_iconst 64 d_M_give_63 rfl ?_
      refine rn_ireturn d_M_give_64 (Or.inl rfl) ⟨?_, ?_⟩
      · unfold aGive; rw [if_neg (by omega)]
      · unfold sGive; rw [if_neg (by omega)]
    · refine rn_aload_n 16 d_M_give_15 rfl rfl ?_
      refine rn_iload_n 17 d_M_give_16 rfl rfl ?_
      refine rn_callV1 20 d_M_give_17 rfl cw_M_83 rfl (Nat.le_of_ble_eq_true rfl) (ev_M_no hx hn) ?_
      rintro _ _ ⟨rfl, rfl⟩
      refine rn_ifB_ne 63 23 d_M_give_20 rfl rfl (fun c_20 => ?_) (fun c_20 => ?_)
      · refine rn_iconst 64 d_M_give_63 rfl ?_
        refine rn_ireturn d_M_give_64 (Or.inl rfl) ⟨?_, ?_⟩
        · unfold aGive; rw [if_neg (by omega)]
        · unfold sGive; rw [if_neg (by omega)]
      · refine rn_aload_n 24 d_M_give_23 rfl rfl ?_
        refine rn_iload 26 d_M_give_24 rfl rfl ?_
        refine rn_callV1 29 d_M_give_26 rfl cw_M_83 rfl (Nat.le_of_ble_eq_true rfl) (ev_M_no hy hn) ?_
        rintro _ _ ⟨rfl, rfl⟩
        refine rn_ifB_ne 63 32 d_M_give_29 rfl rfl (fun c_29 => ?_) (fun c_29 => ?_)
        · refine rn_iconst 64 d_M_give_63 rfl ?_
          refine rn_ireturn d_M_give_64 (Or.inl rfl) ⟨?_, ?_⟩
          · unfold aGive; rw [if_neg (by omega)]
          · unfold sGive; rw [if_neg (by omega)]
        · have hF_b := (hB b (by omega) (by omega)).1
          have hF_x := (hB x (by omega) (by omega)).1
          have hF_y := (hB y (by omega) (by omega)).1
          refine rn_aload_n 33 d_M_give_32 rfl rfl ?_
          refine rn_getfield 36 d_M_give_33 rfl fd_M_26 rfl rfl ?_
          refine rn_iload_n 37 d_M_give_36 rfl rfl ?_
          refine rn_iaload 38 d_M_give_37 rfl rfl (by decide) (by omega) (by omega) ?_
          refine rn_aload_n 39 d_M_give_38 rfl rfl ?_
          refine rn_getfield 42 d_M_give_39 rfl fd_M_26 rfl rfl ?_
          refine rn_iload_n 43 d_M_give_42 rfl rfl ?_
          refine rn_iaload 44 d_M_give_43 rfl rfl (by decide) (by omega) (by omega) ?_
          refine rn_icmp_ne 63 47 d_M_give_44 rfl rfl ⟨by omega, by omega⟩ ⟨by omega, by omega⟩ (fun c_44 => ?_) (fun c_44 => ?_)
          · refine rn_iconst 64 d_M_give_63 rfl ?_
            refine rn_ireturn d_M_give_64 (Or.inl rfl) ⟨?_, ?_⟩
            · unfold aGive; rw [if_neg (by omega)]
            · unfold sGive; rw [if_neg (by omega)]
          · refine rn_aload_n 48 d_M_give_47 rfl rfl ?_
            refine rn_getfield 51 d_M_give_48 rfl fd_M_26 rfl rfl ?_
            refine rn_iload 53 d_M_give_51 rfl rfl ?_
            refine rn_iaload 54 d_M_give_53 rfl rfl (by decide) (by omega) (by omega) ?_
            refine rn_aload_n 55 d_M_give_54 rfl rfl ?_
            refine rn_getfield 58 d_M_give_55 rfl fd_M_26 rfl rfl ?_
            refine rn_iload_n 59 d_M_give_58 rfl rfl ?_
            refine rn_iaload 60 d_M_give_59 rfl rfl (by decide) (by omega) (by omega) ?_
            refine rn_icmp_eq 65 63 d_M_give_60 rfl rfl ⟨by omega, by omega⟩ ⟨by omega, by omega⟩ (fun c_60 => ?_) (fun c_60 => ?_)
            · refine rn_aload_n 66 d_M_give_65 rfl rfl ?_
              refine rn_getfield 69 d_M_give_66 rfl fd_M_33 rfl rfl ?_
              refine rn_iload_n 70 d_M_give_69 rfl rfl ?_
              refine rn_iload_n 71 d_M_give_70 rfl rfl ?_
              refine rn_iastore 72 d_M_give_71 rfl rfl (by decide) (by omega) (by omega) (hs_29 _ _) ?_
              refine rn_aload_n 73 d_M_give_72 rfl rfl ?_
              refine rn_getfield 76 d_M_give_73 rfl fd_M_36 rfl rfl ?_
              refine rn_iload_n 77 d_M_give_76 rfl rfl ?_
              refine rn_iconst 78 d_M_give_77 rfl ?_
              refine rn_imul 79 d_M_give_78 rfl ?_
              rw [Int.mul_comm b 2]
              refine rn_iload_n 80 d_M_give_79 rfl rfl ?_
              refine rn_iastore 81 d_M_give_80 rfl rfl (by decide) (by omega) (by omega) (hs_30 _ _) ?_
              refine rn_aload_n 82 d_M_give_81 rfl rfl ?_
              refine rn_getfield 85 d_M_give_82 rfl fd_M_36 rfl rfl ?_
              refine rn_iload_n 86 d_M_give_85 rfl rfl ?_
              refine rn_iconst 87 d_M_give_86 rfl ?_
              refine rn_imul 88 d_M_give_87 rfl ?_
              rw [Int.mul_comm b 2]
              refine rn_iconst 89 d_M_give_88 rfl ?_
              refine rn_iadd 90 d_M_give_89 rfl ?_
              refine rn_iload 92 d_M_give_90 rfl rfl ?_
              refine rn_iastore 93 d_M_give_92 rfl rfl (by decide) (by omega) (by omega) (hs_30 _ _) ?_
              refine rn_aload_n 94 d_M_give_93 rfl rfl ?_
              refine rn_getfield 97 d_M_give_94 rfl fd_M_42 rfl rfl ?_
              refine rn_iload_n 98 d_M_give_97 rfl rfl ?_
              refine rn_iconst 99 d_M_give_98 rfl ?_
              refine rn_imul 100 d_M_give_99 rfl ?_
              rw [Int.mul_comm b 2]
              refine rn_iconst 101 d_M_give_100 rfl ?_
              refine rn_iastore 102 d_M_give_101 rfl rfl (by decide) (by omega) (by omega) (hs_32 _ _) ?_
              refine rn_aload_n 103 d_M_give_102 rfl rfl ?_
              refine rn_getfield 106 d_M_give_103 rfl fd_M_42 rfl rfl ?_
              refine rn_iload_n 107 d_M_give_106 rfl rfl ?_
              refine rn_iconst 108 d_M_give_107 rfl ?_
              refine rn_imul 109 d_M_give_108 rfl ?_
              rw [Int.mul_comm b 2]
              refine rn_iconst 110 d_M_give_109 rfl ?_
              refine rn_iadd 111 d_M_give_110 rfl ?_
              refine rn_iconst 112 d_M_give_111 rfl ?_
              refine rn_iastore 113 d_M_give_112 rfl rfl (by decide) (by omega) (by omega) (hs_32 _ _) ?_
              refine rn_iconst 114 d_M_give_113 rfl ?_
              refine rn_ireturn d_M_give_114 (Or.inl rfl) ⟨?_, ?_⟩
              · unfold aGive; rw [if_pos (by omega)]
              · unfold sGive; rw [if_pos (by omega)]; rfl
            · refine rn_iconst 64 d_M_give_63 rfl ?_
              refine rn_ireturn d_M_give_64 (Or.inl rfl) ⟨?_, ?_⟩
              · unfold aGive; rw [if_neg (by omega)]
              · unfold sGive; rw [if_neg (by omega)]
set_option maxRecDepth 100000 in
set_option maxHeartbeats 400000 in
theorem ev_M_jump {sc : av_sc} {d : Nat} {σ : av_S} {b y : Int} (hb : av_in b) (hy : av_in y) (hI : iM σ) : av_Ev sc m_M_jump (d + 2) false 0 0 [vR 26, vI b, vI y] (hp σ) (fun r h => r = some (vI (aGive σ b y y)) ∧ h = hp (sGive σ b 1 y y)) := by
  refine av_ev rfl rfl (Nat.le_of_ble_eq_true rfl) rfl ?_
  refine rn_aload_n 1 d_M_jump_0 rfl rfl ?_
  refine rn_iload_n 2 d_M_jump_1 rfl rfl ?_
  refine rn_iconst 3 d_M_jump_2 rfl ?_
  refine rn_iload_n 4 d_M_jump_3 rfl rfl ?_
  refine rn_iload_n 5 d_M_jump_4 rfl rfl ?_
  refine rn_callV4 8 d_M_jump_5 rfl cw_M_79 rfl (Nat.le_of_ble_eq_true rfl) (ev_M_give hb hy hy hI) ?_
  rintro _ _ ⟨rfl, rfl⟩
  exact rn_ireturn d_M_jump_8 (Or.inl rfl) ⟨rfl, rfl⟩
set_option maxRecDepth 100000 in
set_option maxHeartbeats 400000 in
theorem ev_M_test {sc : av_sc} {d : Nat} {σ : av_S} {b x y : Int} (hb : av_in b) (hx : av_in x) (hy : av_in y) (hI : iM σ) : av_Ev sc m_M_test (d + 2) false 0 0 [vR 26, vI b, vI x, vI y] (hp σ) (fun r h => r = some (vI (aGive σ b x y)) ∧ h = hp (sGive σ b 2 x y)) := by
  refine av_ev rfl rfl (Nat.le_of_ble_eq_true rfl) rfl ?_
  refine rn_aload_n 1 d_M_test_0 rfl rfl ?_
  refine rn_iload_n 2 d_M_test_1 rfl rfl ?_
  refine rn_iconst 3 d_M_test_2 rfl ?_
  refine rn_iload_n 4 d_M_test_3 rfl rfl ?_
  refine rn_iload_n 5 d_M_test_4 rfl rfl ?_
  refine rn_callV4 8 d_M_test_5 rfl cw_M_79 rfl (Nat.le_of_ble_eq_true rfl) (ev_M_give hb hx hy hI) ?_
  rintro _ _ ⟨rfl, rfl⟩
  exact rn_ireturn d_M_test_8 (Or.inl rfl) ⟨rfl, rfl⟩
def cHeatM (σ : av_S) (b e n : Int) : Prop := (1 ≤ n ∧ n ≤ 100000) ∧ (0 ≤ b ∧ b < σ 26 1) ∧ 0 ≤ e ∧ e < σ 29 b
def sHeatM (σ : av_S) (b e n : Int) : av_S := up (up σ 32 (uI (σ 32) (2 * b + e) (mn 1000000 (σ 32 (2 * b + e) + n)))) 31 (uI (σ 31) (σ 30 (2 * b + e)) (mn 1000000 (σ 31 (σ 30 (2 * b + e)) + n)))
set_option maxRecDepth 100000 in
set_option maxHeartbeats 400000 in
theorem ev_M_heat {sc : av_sc} {d : Nat} {σ : av_S} {b e n : Int} (hb : av_in b) (he : av_in e) (hn0 : av_in n) (hI : iM σ) : av_Ev sc m_M_heat (d + 1) false 0 0 [vR 26, vI b, vI e, vI n] (hp σ) (fun r h => (¬ cHeatM σ b e n ∧ r = some (vI (-1)) ∧ h = hp σ) ∨ (cHeatM σ b e n ∧ r = some (vI ((sHeatM σ b e n) 32 (2 * b + e))) ∧ h = hp (sHeatM σ b e n))) := by
  obtain ⟨hn, hB, hc31, hc32, hlo, hrg⟩ := id hI
  obtain ⟨hn01, hn02⟩ := hn0
  obtain ⟨he1, he2⟩ := id he
  refine av_ev rfl rfl (Nat.le_of_ble_eq_true rfl) rfl ?_
  refine rn_aload_n 1 d_M_heat_0 rfl rfl ?_
  refine rn_iload_n 2 d_M_heat_1 rfl rfl ?_
  refine rn_callV1 5 d_M_heat_2 rfl cw_M_83 rfl (Nat.le_of_ble_eq_true rfl) (ev_M_no hb hn) ?_
  rintro _ _ ⟨rfl, rfl⟩
  refine rn_ifB_ne 33 8 d_M_heat_5 rfl rfl (fun c_5 => ?_) (fun c_5 => ?_)
  · refine rn_iconst 34 d_M_heat_33 rfl ?_
    exact rn_ireturn d_M_heat_34 (Or.inl rfl) (Or.inl ⟨(by unfold cHeatM; omega), rfl, rfl⟩)
  · have hEb := (hB b (by omega) (by omega)).2.2.1
    refine rn_iload_n 9 d_M_heat_8 rfl rfl ?_
    refine rn_if_lt 33 12 d_M_heat_9 rfl rfl ⟨by omega, by omega⟩ (fun c_9 => ?_) (fun c_9 => ?_)
    · refine rn_iconst 34 d_M_heat_33 rfl ?_
      exact rn_ireturn d_M_heat_34 (Or.inl rfl) (Or.inl ⟨(by unfold cHeatM; omega), rfl, rfl⟩)
    · refine rn_iload_n 13 d_M_heat_12 rfl rfl ?_
      refine rn_aload_n 14 d_M_heat_13 rfl rfl ?_
      refine rn_getfield 17 d_M_heat_14 rfl fd_M_33 rfl rfl ?_
      refine rn_iload_n 18 d_M_heat_17 rfl rfl ?_
      refine rn_iaload 19 d_M_heat_18 rfl rfl (by decide) (by omega) (by omega) ?_
      refine rn_icmp_ge 33 22 d_M_heat_19 rfl rfl ⟨by omega, by omega⟩ ⟨by omega, by omega⟩ (fun c_19 => ?_) (fun c_19 => ?_)
      · refine rn_iconst 34 d_M_heat_33 rfl ?_
        exact rn_ireturn d_M_heat_34 (Or.inl rfl) (Or.inl ⟨(by unfold cHeatM; omega), rfl, rfl⟩)
      · refine rn_iload_n 23 d_M_heat_22 rfl rfl ?_
        refine rn_iconst 24 d_M_heat_23 rfl ?_
        refine rn_icmp_lt 33 27 d_M_heat_24 rfl rfl ⟨by omega, by omega⟩ ⟨by omega, by omega⟩ (fun c_24 => ?_) (fun c_24 => ?_)
        · refine rn_iconst 34 d_M_heat_33 rfl ?_
          exact rn_ireturn d_M_heat_34 (Or.inl rfl) (Or.inl ⟨(by unfold cHeatM; omega), rfl, rfl⟩)
        · refine rn_iload_n 28 d_M_heat_27 rfl rfl ?_
          refine rn_ldc 30 d_M_heat_28 rfl 100000 lc_M_100 rfl ?_
          refine rn_icmp_le 35 33 d_M_heat_30 rfl rfl ⟨by omega, by omega⟩ ⟨by omega, by omega⟩ (fun c_30 => ?_) (fun c_30 => ?_)
          · have hTo := (hB b (by omega) (by omega)).2.2.2 e (by omega) (by omega)
            have h32 := hc32 (2 * b + e) (by omega) (by omega)
            have h31 := hc31 (σ 30 (2 * b + e)) (by omega) (by omega)
            refine rn_iload_n 36 d_M_heat_35 rfl rfl ?_
            refine rn_iconst 37 d_M_heat_36 rfl ?_
            refine rn_imul 38 d_M_heat_37 rfl ?_
            rw [Int.mul_comm b 2]
            refine rn_iload_n 39 d_M_heat_38 rfl rfl ?_
            refine rn_iadd 40 d_M_heat_39 rfl ?_
            refine rn_istore 42 d_M_heat_40 rfl (by decide) rfl rfl ?_
            refine rn_aload_n 43 d_M_heat_42 rfl rfl ?_
            refine rn_getfield 46 d_M_heat_43 rfl fd_M_42 rfl rfl ?_
            refine rn_iload 48 d_M_heat_46 rfl rfl ?_
            refine rn_aload_n 49 d_M_heat_48 rfl rfl ?_
            refine rn_aload_n 50 d_M_heat_49 rfl rfl ?_
            refine rn_getfield 53 d_M_heat_50 rfl fd_M_42 rfl rfl ?_
            refine rn_iload 55 d_M_heat_53 rfl rfl ?_
            refine rn_iaload 56 d_M_heat_55 rfl rfl (by decide) (by omega) (by omega) ?_
            refine rn_iload_n 57 d_M_heat_56 rfl rfl ?_
            refine rn_callV2 60 d_M_heat_57 rfl cw_M_92 rfl (Nat.le_of_ble_eq_true rfl) (ev_M_warmer h32 ⟨by omega, by omega⟩) ?_
            rintro _ _ ⟨rfl, rfl⟩
            refine rn_iastore 61 d_M_heat_60 rfl rfl (by decide) (by omega) (by omega) (hs_32 _ _) ?_
            change av_Rn _ _ _ _ _ _ _ _ _ _ (hp (up σ 32 (uI (σ 32) (2 * b + e) (mn 1000000 (σ 32 (2 * b + e) + n))))) _
            refine rn_aload_n 62 d_M_heat_61 rfl rfl ?_
            refine rn_getfield 65 d_M_heat_62 rfl fd_M_39 rfl rfl ?_
            refine rn_aload_n 66 d_M_heat_65 rfl rfl ?_
            refine rn_getfield 69 d_M_heat_66 rfl fd_M_36 rfl rfl ?_
            refine rn_iload 71 d_M_heat_69 rfl rfl ?_
            refine rn_iaload 72 d_M_heat_71 rfl rfl (by decide) (by omega) (by omega) ?_
            rw [show (up σ 32 (uI (σ 32) (2 * b + e) (mn 1000000 (σ 32 (2 * b + e) + n)))) 30 (2 * b + e) = σ 30 (2 * b + e) from rfl]
            refine rn_aload_n 73 d_M_heat_72 rfl rfl ?_
            refine rn_aload_n 74 d_M_heat_73 rfl rfl ?_
            refine rn_getfield 77 d_M_heat_74 rfl fd_M_39 rfl rfl ?_
            refine rn_aload_n 78 d_M_heat_77 rfl rfl ?_
            refine rn_getfield 81 d_M_heat_78 rfl fd_M_36 rfl rfl ?_
            refine rn_iload 83 d_M_heat_81 rfl rfl ?_
            refine rn_iaload 84 d_M_heat_83 rfl rfl (by decide) (by omega) (by omega) ?_
            rw [show (up σ 32 (uI (σ 32) (2 * b + e) (mn 1000000 (σ 32 (2 * b + e) + n)))) 30 (2 * b + e) = σ 30 (2 * b + e) from rfl]
            refine rn_iaload 85 d_M_heat_84 rfl rfl (by decide) (by omega) (by omega) ?_
            refine rn_iload_n 86 d_M_heat_85 rfl rfl ?_
            refine rn_callV2 89 d_M_heat_86 rfl cw_M_92 rfl (Nat.le_of_ble_eq_true rfl) (ev_M_warmer (σ := up σ 32 (uI (σ 32) (2 * b + e) (mn 1000000 (σ 32 (2 * b + e) + n)))) h31 ⟨by omega, by omega⟩) ?_
            rintro _ _ ⟨rfl, rfl⟩
            refine rn_iastore 90 d_M_heat_89 rfl rfl (by decide) (by omega) (by omega) (hs_31 _ _) ?_
            refine rn_aload_n 91 d_M_heat_90 rfl rfl ?_
            refine rn_getfield 94 d_M_heat_91 rfl fd_M_42 rfl rfl ?_
            refine rn_iload 96 d_M_heat_94 rfl rfl ?_
            refine rn_iaload 97 d_M_heat_96 rfl rfl (by decide) (by omega) (by omega) ?_
            exact rn_ireturn d_M_heat_97 (Or.inl rfl) (Or.inr ⟨(by unfold cHeatM; omega), rfl, rfl⟩)
          · refine rn_iconst 34 d_M_heat_33 rfl ?_
            exact rn_ireturn d_M_heat_34 (Or.inl rfl) (Or.inl ⟨(by unfold cHeatM; omega), rfl, rfl⟩)
