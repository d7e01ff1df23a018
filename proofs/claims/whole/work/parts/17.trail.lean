set_option maxRecDepth 100000 in
set_option maxHeartbeats 400000 in
theorem ev_T_holdsAt {sc : av_sc} {d : Nat} {σ : av_S} {i x : Int} (hi : av_in i) : av_Ev sc m_T_holdsAt (d) false 0 0 [vI i, vI x] (hp σ) (fun r h => r = some (vI (bz (i < 32 ∧ btC x i = 1))) ∧ h = hp σ) := by
  obtain ⟨hi1, hi2⟩ := hi
  refine av_ev rfl rfl (Nat.le_of_ble_eq_true rfl) rfl ?_
  refine rn_iload_n 1 d_T_holdsAt_0 rfl rfl ?_
  refine rn_bipush 3 d_T_holdsAt_1 rfl rfl ?_
  refine rn_icmp_ge 19 6 d_T_holdsAt_3 rfl rfl ⟨by omega, by omega⟩ ⟨by omega, by omega⟩ (fun c_3 => ?_) (fun c_3 => ?_)
  · refine rn_iconst 20 d_T_holdsAt_19 rfl ?_
    exact rn_ireturn d_T_holdsAt_20 (Or.inr ⟨rfl, Or.inl rfl⟩) ⟨by rw [bz_f (by omega)], rfl⟩
  · refine rn_iload_n 7 d_T_holdsAt_6 rfl rfl ?_
    refine rn_iload_n 8 d_T_holdsAt_7 rfl rfl ?_
    refine rn_iushr 9 d_T_holdsAt_8 rfl _ (Int32.ofInt_toInt _).symm ?_
    refine rn_iconst 10 d_T_holdsAt_9 rfl ?_
    refine rn_iand 11 d_T_holdsAt_10 rfl (btC x i) (Int32.ofInt_toInt _).symm ?_
    refine rn_iconst 12 d_T_holdsAt_11 rfl ?_
    refine rn_icmp_ne 19 15 d_T_holdsAt_12 rfl rfl (btC_in x i) ⟨by omega, by omega⟩ (fun c_12 => ?_) (fun c_12 => ?_)
    · refine rn_iconst 20 d_T_holdsAt_19 rfl ?_
      exact rn_ireturn d_T_holdsAt_20 (Or.inr ⟨rfl, Or.inl rfl⟩) ⟨by rw [bz_f (by omega)], rfl⟩
    · refine rn_iconst 16 d_T_holdsAt_15 rfl ?_
      refine rn_goto 20 d_T_holdsAt_16 rfl ?_
      exact rn_ireturn d_T_holdsAt_20 (Or.inr ⟨rfl, Or.inr rfl⟩) ⟨by rw [bz_t (by omega)], rfl⟩
set_option maxRecDepth 100000 in
set_option maxHeartbeats 400000 in
theorem follow_loop {sc : av_sc} {d n0 bc bs : Nat} {al : Bool} {σ : av_S} {n fv hd : Int} {Φ : Option av_V → av_H → Prop} (hG : ∀ b, 0 ≤ b → b < n → (0 ≤ σ 4 b ∧ σ 4 b ≤ 2) ∧ (∀ e, 0 ≤ e → e ≤ 1 → -1 ≤ σ 5 (2 * b + e) ∧ σ 5 (2 * b + e) < n)) (hn : n ≤ 24) (hhd : av_in hd) :
    ∀ (k : Nat) (s t b : Int) (f g : Int → Int), s + (k : Int) = 60 → 0 ≤ s → 0 ≤ t → t ≤ s → -1 ≤ b → b < n → (∀ f' g' : Int → Int, (∀ j, 0 ≤ j → j < s → f' j = f j ∧ g' j = g j) → hl f' s ((wk (σ 4) (σ 5) hd k t b).map Prod.fst) → hl g' s ((wk (σ 4) (σ 5) hd k t b).map Prod.snd) → Φ none (hp (tS σ f' g' (s + ((wk (σ 4) (σ 5) hd k t b).length : Int))))) →
      av_Rn sc m_T_follow (d + 1) al n0 bc bs 16 [some (vR 10), some (vR 1), some (vI fv), some (vI hd), some (vI t), some (vI b), none] [] (hp (tS σ f g s)) Φ := by
  intro k
  induction k with
  | zero =>
    intro s t b f g hs h0 ht0 ht hb0 hb hΦ
    refine rn_aload_n 17 d_T_follow_16 rfl rfl ?_
    refine rn_getfield 20 d_T_follow_17 rfl fd_T_18 rfl rfl ?_
    refine rn_bipush 22 d_T_follow_20 rfl rfl ?_
    rw [show (tS σ f g s) 10 2 = s from rfl]
    refine rn_icmp_ge 113 25 d_T_follow_22 rfl rfl ⟨by omega, by omega⟩ ⟨by omega, by omega⟩ (fun c_22 => ?_) (fun c_22 => ?_)
    · have hf := hΦ f g (fun j _ _ => ⟨rfl, rfl⟩) trivial trivial
      rw [show (s + ((wk (σ 4) (σ 5) hd 0 t b).length : Int)) = s from Int.add_zero s] at hf
      exact rn_return d_T_follow_113 rfl hf
    · have hq : s < 60 := c_22
      omega
  | succ k ih =>
    intro s t b f g hs h0 ht0 ht hb0 hb hΦ
    refine rn_aload_n 17 d_T_follow_16 rfl rfl ?_
    refine rn_getfield 20 d_T_follow_17 rfl fd_T_18 rfl rfl ?_
    refine rn_bipush 22 d_T_follow_20 rfl rfl ?_
    rw [show (tS σ f g s) 10 2 = s from rfl]
    refine rn_icmp_ge 113 25 d_T_follow_22 rfl rfl ⟨by omega, by omega⟩ ⟨by omega, by omega⟩ (fun c_22 => ?_) (fun c_22 => ?_)
    · omega
    · refine rn_iload 27 d_T_follow_25 rfl rfl ?_
      refine rn_iconst 28 d_T_follow_27 rfl ?_
      refine rn_icmp_eq 113 31 d_T_follow_28 rfl rfl ⟨by omega, by omega⟩ ⟨by omega, by omega⟩ (fun c_28 => ?_) (fun c_28 => ?_)
      · subst c_28
        have hf := hΦ f g (fun j _ _ => ⟨rfl, rfl⟩) trivial trivial
        rw [show (s + ((wk (σ 4) (σ 5) hd (k + 1) t (-1)).length : Int)) = s from Int.add_zero s] at hf
        exact rn_return d_T_follow_113 rfl hf
      · have hw : wk (σ 4) (σ 5) hd (k + 1) t b = (b, wE (σ 4) hd t b) :: wk (σ 4) (σ 5) hd k (wT (σ 4) t b) (σ 5 (2 * b + wE (σ 4) hd t b)) := if_neg c_28
        obtain ⟨hG1, hG2⟩ := hG b (by omega) (by omega)
        have he01 : 0 ≤ wE (σ 4) hd t b ∧ wE (σ 4) hd t b ≤ 1 := by unfold wE; split <;> (try split) <;> omega
        have ht01 : 0 ≤ wT (σ 4) t b ∧ wT (σ 4) t b ≤ s + 1 := by unfold wT; split <;> omega
        have J : ∀ e t', e = wE (σ 4) hd t b → t' = wT (σ 4) t b → av_Rn sc m_T_follow (d + 1) al n0 bc bs 64 [some (vR 10), some (vR 1), some (vI fv), some (vI hd), some (vI t'), some (vI b), some (vI e)] [] (hp (tS σ f g s)) Φ := by
          intro e t' he ht'
          subst he; subst ht'
          refine rn_aload_n 65 d_T_follow_64 rfl rfl ?_
          refine rn_getfield 68 d_T_follow_65 rfl fd_T_9 rfl rfl ?_
          refine rn_aload_n 69 d_T_follow_68 rfl rfl ?_
          refine rn_getfield 72 d_T_follow_69 rfl fd_T_18 rfl rfl ?_
          rw [show (tS σ f g s) 10 2 = s from rfl]
          refine rn_iload 74 d_T_follow_72 rfl rfl ?_
          refine rn_iastore 75 d_T_follow_74 rfl rfl (by decide) (by omega) (by omega) (hs_11 _ _) ?_
          change av_Rn _ _ _ _ _ _ _ _ _ _ (hp (tS σ (uI f s b) g s)) _
          refine rn_aload_n 76 d_T_follow_75 rfl rfl ?_
          refine rn_getfield 79 d_T_follow_76 rfl fd_T_15 rfl rfl ?_
          refine rn_aload_n 80 d_T_follow_79 rfl rfl ?_
          refine rn_getfield 83 d_T_follow_80 rfl fd_T_18 rfl rfl ?_
          rw [show (tS σ (uI f s b) g s) 10 2 = s from rfl]
          refine rn_iload 85 d_T_follow_83 rfl rfl ?_
          refine rn_iastore 86 d_T_follow_85 rfl rfl (by decide) (by omega) (by omega) (hs_12 _ _) ?_
          change av_Rn _ _ _ _ _ _ _ _ _ _ (hp (tS σ (uI f s b) (uI g s (wE (σ 4) hd t b)) s)) _
          refine rn_aload_n 87 d_T_follow_86 rfl rfl ?_
          refine rn_dup 88 d_T_follow_87 rfl rfl ?_
          refine rn_getfield 91 d_T_follow_88 rfl fd_T_18 rfl rfl ?_
          rw [show (tS σ (uI f s b) (uI g s (wE (σ 4) hd t b)) s) 10 2 = s from rfl]
          refine rn_iconst 92 d_T_follow_91 rfl ?_
          refine rn_iadd 93 d_T_follow_92 rfl ?_
          refine rn_putfield 96 d_T_follow_93 rfl fp_T_18 rfl (Nat.le_of_ble_eq_true rfl) av_fitI (hs_10_2 _ _) ?_
          change av_Rn _ _ _ _ _ _ _ _ _ _ (hp (tS σ (uI f s b) (uI g s (wE (σ 4) hd t b)) (s + 1))) _
          refine rn_aload_n 97 d_T_follow_96 rfl rfl ?_
          refine rn_getfield 100 d_T_follow_97 rfl fd_T_34 rfl rfl ?_
          refine rn_iconst 101 d_T_follow_100 rfl ?_
          refine rn_iload 103 d_T_follow_101 rfl rfl ?_
          refine rn_imul 104 d_T_follow_103 rfl ?_
          refine rn_iload 106 d_T_follow_104 rfl rfl ?_
          refine rn_iadd 107 d_T_follow_106 rfl ?_
          have hto := hG2 (wE (σ 4) hd t b) he01.1 he01.2
          refine rn_iaload 108 d_T_follow_107 rfl rfl (by decide) (by omega) (by omega) ?_
          rw [show (tS σ (uI f s b) (uI g s (wE (σ 4) hd t b)) (s + 1)) 5 (2 * b + wE (σ 4) hd t b) = σ 5 (2 * b + wE (σ 4) hd t b) from rfl]
          refine rn_istore 110 d_T_follow_108 rfl (by decide) rfl rfl ?_
          refine rn_goto 16 d_T_follow_110 rfl ?_
          refine rn_kill 6 rfl ?_
          refine ih (s + 1) _ _ _ _ (by omega) (by omega) (by omega) (by omega) (by omega) (by omega) (fun f' g' h1 h2 h3 => ?_)
          have hf := hΦ f' g' (fun j q1 q2 => ?_) ?_ ?_
          · rw [hw] at hf
            rw [show (s + ((((b, wE (σ 4) hd t b) :: wk (σ 4) (σ 5) hd k (wT (σ 4) t b) (σ 5 (2 * b + wE (σ 4) hd t b))).length : Nat) : Int)) = s + 1 + ((wk (σ 4) (σ 5) hd k (wT (σ 4) t b) (σ 5 (2 * b + wE (σ 4) hd t b))).length : Int) by simp only [List.length_cons]; omega] at hf
            exact hf
          · have := h1 j q1 (by omega)
            rw [uI_n f b (by omega), uI_n g _ (by omega)] at this
            exact this
          · rw [hw]
            have := (h1 s h0 (by omega)).1
            rw [uI_s] at this
            exact ⟨this, h2⟩
          · rw [hw]
            have := (h1 s h0 (by omega)).2
            rw [uI_s] at this
            exact ⟨this, h3⟩
        refine rn_iconst 32 d_T_follow_31 rfl ?_
        refine rn_istore 34 d_T_follow_32 rfl (by decide) rfl rfl ?_
        refine rn_aload_n 35 d_T_follow_34 rfl rfl ?_
        refine rn_getfield 38 d_T_follow_35 rfl fd_T_27 rfl rfl ?_
        refine rn_iload 40 d_T_follow_38 rfl rfl ?_
        refine rn_iaload 41 d_T_follow_40 rfl rfl (by decide) (by omega) (by omega) ?_
        rw [show (tS σ f g s) 4 b = σ 4 b from rfl]
        refine rn_iconst 42 d_T_follow_41 rfl ?_
        refine rn_icmp_ne 64 45 d_T_follow_42 rfl rfl ⟨by omega, by omega⟩ ⟨by omega, by omega⟩ (fun c_42 => ?_) (fun c_42 => ?_)
        · exact J _ _ (by unfold wE; first | rw [if_neg c_42] | rw [if_pos c_42, if_neg c_51] | rw [if_pos c_42, if_pos c_51]) (by unfold wT; first | rw [if_neg c_42] | rw [if_pos c_42])
        · refine rn_iload 47 d_T_follow_45 rfl rfl ?_
          refine rn_iload_n 48 d_T_follow_47 rfl rfl ?_
          refine rn_callS2 51 d_T_follow_48 rfl cw_T_30 (Nat.le_of_ble_eq_true rfl) (ev_T_holdsAt ⟨by omega, by omega⟩) ?_
          rintro _ _ ⟨rfl, rfl⟩
          refine rn_ifB_eq 58 54 d_T_follow_51 rfl rfl (fun c_51 => ?_) (fun c_51 => ?_)
          · refine rn_iconst 59 d_T_follow_58 rfl ?_
            refine rn_istore 61 d_T_follow_59 rfl (by decide) rfl rfl ?_
            refine rn_iinc 64 d_T_follow_61 rfl rfl (by decide) rfl rfl ?_
            exact J _ _ (by unfold wE; first | rw [if_neg c_42] | rw [if_pos c_42, if_neg c_51] | rw [if_pos c_42, if_pos c_51]) (by unfold wT; first | rw [if_neg c_42] | rw [if_pos c_42])
          · refine rn_iconst 55 d_T_follow_54 rfl ?_
            refine rn_goto 59 d_T_follow_55 rfl ?_
            refine rn_istore 61 d_T_follow_59 rfl (by decide) rfl rfl ?_
            refine rn_iinc 64 d_T_follow_61 rfl rfl (by decide) rfl rfl ?_
            exact J _ _ (by unfold wE; first | rw [if_neg c_42] | rw [if_pos c_42, if_neg c_51] | rw [if_pos c_42, if_pos c_51]) (by unfold wT; first | rw [if_neg c_42] | rw [if_pos c_42])
set_option maxRecDepth 100000 in
set_option maxHeartbeats 400000 in
theorem ev_T_follow {sc : av_sc} {d : Nat} {σ : av_S} {n f x : Int} (hG : ∀ b, 0 ≤ b → b < n → (0 ≤ σ 4 b ∧ σ 4 b ≤ 2) ∧ (∀ e, 0 ≤ e → e ≤ 1 → -1 ≤ σ 5 (2 * b + e) ∧ σ 5 (2 * b + e) < n)) (hn : n ≤ 24) (hf : 0 ≤ f ∧ f < 4) (hx : av_in x) (hT : -1 ≤ σ 6 f ∧ σ 6 f < n) : av_Ev sc m_T_follow (d + 1) false 0 0 [vR 10, vR 1, vI f, vI x] (hp σ) (fun r h => r = none ∧ ∃ f' g' : Int → Int, hl f' 0 ((wk (σ 4) (σ 5) x 60 0 (σ 6 f)).map Prod.fst) ∧ hl g' 0 ((wk (σ 4) (σ 5) x 60 0 (σ 6 f)).map Prod.snd) ∧ h = hp (tS σ f' g' ((wk (σ 4) (σ 5) x 60 0 (σ 6 f)).length : Int))) := by
  refine av_ev rfl rfl (Nat.le_of_ble_eq_true rfl) rfl ?_
  refine rn_iconst 1 d_T_follow_0 rfl ?_
  refine rn_istore 3 d_T_follow_1 rfl (by decide) rfl rfl ?_
  refine rn_aload_n 4 d_T_follow_3 rfl rfl ?_
  refine rn_getfield 7 d_T_follow_4 rfl fd_T_22 rfl rfl ?_
  refine rn_iload_n 8 d_T_follow_7 rfl rfl ?_
  refine rn_iaload 9 d_T_follow_8 rfl rfl (by decide) (by omega) (by omega) ?_
  refine rn_istore 11 d_T_follow_9 rfl (by decide) rfl rfl ?_
  refine rn_aload_n 12 d_T_follow_11 rfl rfl ?_
  refine rn_iconst 13 d_T_follow_12 rfl ?_
  refine rn_putfield 16 d_T_follow_13 rfl fp_T_18 rfl (Nat.le_of_ble_eq_true rfl) av_fitI (hs_10_2 _ _) ?_
  change av_Rn _ _ _ _ _ _ _ _ _ _ (hp (tS σ (σ 11) (σ 12) 0)) _
  refine follow_loop hG hn hx 60 0 0 (σ 6 f) (σ 11) (σ 12) (by decide) (by omega) (by omega) (by omega) hT.1 hT.2 (fun f' g' _ h2 h3 => ⟨rfl, f', g', h2, h3, ?_⟩)
  rw [Int.zero_add]
