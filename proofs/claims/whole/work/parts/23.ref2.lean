set_option maxRecDepth 100000 in
set_option maxHeartbeats 400000 in
theorem coolB {sc : av_sc} {d n0 bc bs : Nat} {al : Bool} {σ : av_S} {Φ : Option av_V → av_H → Prop} (hΦ : Φ (some (vI 0)) (hp (up σ 32 (fun _ => 0)))) :
    ∀ (k : Nat) (i : Int) (g : Int → Int), 0 ≤ i → i + (k : Int) = 48 → (∀ j, 0 ≤ j → j < i → g j = 0) → av_Rn sc m_M_cool d al n0 bc bs 23 [some (vR 26), some (vI i)] [] (hp (up σ 32 g)) Φ := by
  intro k
  induction k with
  | zero =>
    intro i g h0 hi hg
    refine rn_iload_n 24 d_M_cool_23 rfl rfl ?_
    refine rn_bipush 26 d_M_cool_24 rfl rfl ?_
    refine rn_icmp_ge 42 29 d_M_cool_26 rfl rfl ⟨by omega, by omega⟩ ⟨by omega, by omega⟩ (fun c_26 => ?_) (fun c_26 => ?_)
    · refine rn_arr (q := 32) (t := 0) (n := 48) (f := g) (g := fun _ => 0) rfl (fun j q1 q2 => hg j q1 (by omega)) ?_
      change av_Rn _ _ _ _ _ _ _ _ _ _ (hp (up σ 32 (fun _ => 0))) _
      refine rn_iconst 43 d_M_cool_42 rfl ?_
      exact rn_ireturn d_M_cool_43 (Or.inl rfl) hΦ
    · omega
  | succ k ih =>
    intro i g h0 hi hg
    refine rn_iload_n 24 d_M_cool_23 rfl rfl ?_
    refine rn_bipush 26 d_M_cool_24 rfl rfl ?_
    refine rn_icmp_ge 42 29 d_M_cool_26 rfl rfl ⟨by omega, by omega⟩ ⟨by omega, by omega⟩ (fun c_26 => ?_) (fun c_26 => ?_)
    · omega
    · refine rn_aload_n 30 d_M_cool_29 rfl rfl ?_
      refine rn_getfield 33 d_M_cool_30 rfl fd_M_42 rfl rfl ?_
      refine rn_iload_n 34 d_M_cool_33 rfl rfl ?_
      refine rn_iconst 35 d_M_cool_34 rfl ?_
      refine rn_iastore 36 d_M_cool_35 rfl rfl (by decide) (by omega) (by omega) (hs_32 _ _) ?_
      refine rn_iinc 39 d_M_cool_36 rfl rfl (by decide) rfl rfl ?_
      refine rn_goto 23 d_M_cool_39 rfl ?_
      change av_Rn _ _ _ _ _ _ _ _ _ _ (hp (up σ 32 (uI g i 0))) _
      exact ih (i + 1) (uI g i 0) (by omega) (by omega) (fun j q1 q2 => by
        by_cases hj : j = i
        · subst hj; exact uI_s g j 0
        · rw [uI_n g 0 hj]; exact hg j q1 (by omega))
set_option maxRecDepth 100000 in
set_option maxHeartbeats 400000 in
theorem coolA {sc : av_sc} {d n0 bc bs : Nat} {al : Bool} {σ : av_S} {Φ : Option av_V → av_H → Prop} (hΦ : Φ (some (vI 0)) (hp (up (up σ 31 (fun _ => 0)) 32 (fun _ => 0)))) :
    ∀ (k : Nat) (i : Int) (g : Int → Int), 0 ≤ i → i + (k : Int) = 24 → (∀ j, 0 ≤ j → j < i → g j = 0) → av_Rn sc m_M_cool d al n0 bc bs 2 [some (vR 26), some (vI i)] [] (hp (up σ 31 g)) Φ := by
  intro k
  induction k with
  | zero =>
    intro i g h0 hi hg
    refine rn_iload_n 3 d_M_cool_2 rfl rfl ?_
    refine rn_bipush 5 d_M_cool_3 rfl rfl ?_
    refine rn_icmp_ge 21 8 d_M_cool_5 rfl rfl ⟨by omega, by omega⟩ ⟨by omega, by omega⟩ (fun c_5 => ?_) (fun c_5 => ?_)
    · refine rn_arr (q := 31) (t := 0) (n := 24) (f := g) (g := fun _ => 0) rfl (fun j q1 q2 => hg j q1 (by omega)) ?_
      change av_Rn _ _ _ _ _ _ _ _ _ _ (hp (up σ 31 (fun _ => 0))) _
      refine rn_iconst 22 d_M_cool_21 rfl ?_
      refine rn_istore_n 23 d_M_cool_22 rfl (by decide) rfl rfl ?_
      change av_Rn _ _ _ _ _ _ _ _ _ _ (hp (up (up σ 31 (fun _ => 0)) 32 (σ 32))) _
      exact coolB hΦ 48 0 (σ 32) (by omega) (by omega) (fun j q1 q2 => by omega)
    · omega
  | succ k ih =>
    intro i g h0 hi hg
    refine rn_iload_n 3 d_M_cool_2 rfl rfl ?_
    refine rn_bipush 5 d_M_cool_3 rfl rfl ?_
    refine rn_icmp_ge 21 8 d_M_cool_5 rfl rfl ⟨by omega, by omega⟩ ⟨by omega, by omega⟩ (fun c_5 => ?_) (fun c_5 => ?_)
    · omega
    · refine rn_aload_n 9 d_M_cool_8 rfl rfl ?_
      refine rn_getfield 12 d_M_cool_9 rfl fd_M_39 rfl rfl ?_
      refine rn_iload_n 13 d_M_cool_12 rfl rfl ?_
      refine rn_iconst 14 d_M_cool_13 rfl ?_
      refine rn_iastore 15 d_M_cool_14 rfl rfl (by decide) (by omega) (by omega) (hs_31 _ _) ?_
      refine rn_iinc 18 d_M_cool_15 rfl rfl (by decide) rfl rfl ?_
      refine rn_goto 2 d_M_cool_18 rfl ?_
      change av_Rn _ _ _ _ _ _ _ _ _ _ (hp (up σ 31 (uI g i 0))) _
      exact ih (i + 1) (uI g i 0) (by omega) (by omega) (fun j q1 q2 => by
        by_cases hj : j = i
        · subst hj; exact uI_s g j 0
        · rw [uI_n g 0 hj]; exact hg j q1 (by omega))
set_option maxRecDepth 100000 in
set_option maxHeartbeats 400000 in
theorem ev_M_cool {sc : av_sc} {d : Nat} {σ : av_S} : av_Ev sc m_M_cool (d) false 0 0 [vR 26] (hp σ) (fun r h => r = some (vI 0) ∧ h = hp (up (up σ 31 (fun _ => 0)) 32 (fun _ => 0))) := by
  refine av_ev rfl rfl (Nat.le_of_ble_eq_true rfl) rfl ?_
  refine rn_iconst 1 d_M_cool_0 rfl ?_
  refine rn_istore_n 2 d_M_cool_1 rfl (by decide) rfl rfl ?_
  change av_Rn _ _ _ _ _ _ _ _ _ _ (hp (up σ 31 (σ 31))) _
  exact coolA ⟨rfl, rfl⟩ 24 0 (σ 31) (by omega) (by omega) (fun j q1 q2 => by omega)
/-- a graph as the class has it, read off the reference's -/
def hW (σ : av_S) (EN TO : Int → Int) : Prop := ∀ b, 0 ≤ b → b < σ 26 1 → EN b = σ 29 b ∧ ∀ e, 0 ≤ e → e ≤ 1 → TO (2 * b + e) = if e < σ 29 b then σ 30 (2 * b + e) else -1
def mS (σ : av_S) (F G : Int → Int) : av_S := up (up σ 31 F) 32 G
theorem eM_neg {en : Int → Int} {b i x : Int} (h : 0 ≤ en b ∧ en b ≤ 2) : eM en b i x < 0 ↔ en b = 0 := by
  unfold eM
  split
  · omega
  · split <;> omega
theorem eM_wE {en EN : Int → Int} {b i x : Int} (he : EN b = en b) (h : 0 ≤ en b ∧ en b ≤ 2) (h0 : en b ≠ 0) (hi : 0 ≤ i) : eM en b i x = wE EN x i b := by
  unfold eM wE
  rw [he]
  by_cases h2 : en b = 2
  · rw [if_neg (by omega), if_pos h2]
    by_cases hl : i < 32
    · rw [bt_eq x i hi hl]
    · rw [if_neg (fun q => hl q.1), if_neg (fun q => hl q.1)]
  · rw [if_pos (by omega), if_neg h2]; omega
theorem eM_in {en : Int → Int} {b i x : Int} (h : 0 ≤ en b ∧ en b ≤ 2) : -1 ≤ eM en b i x ∧ eM en b i x ≤ 1 := by
  unfold eM
  split
  · omega
  · split <;> omega
set_option maxRecDepth 100000 in
set_option maxHeartbeats 400000 in
theorem walkM_loop {sc : av_sc} {d n0 bc bs : Nat} {al : Bool} {σ : av_S} {EN TO : Int → Int} {fv x : Int} {Φ : Option av_V → av_H → Prop} (hn : 0 ≤ σ 26 1 ∧ σ 26 1 ≤ 24) (hB : ∀ b, 0 ≤ b → b < σ 26 1 → iMB σ b) (hw : hW σ EN TO) (hx : av_in x) :
    ∀ (k : Nat) (n t b : Int) (F G : Int → Int), n + ((k + 1 : Nat) : Int) = 60 → 0 ≤ n → 0 ≤ t → t ≤ n → 0 ≤ b → b < σ 26 1 → bd F 24 → bd G 48 → Φ (some (vI (n + ((wk EN TO x (k + 1) t b).length : Int)))) (hp (mS σ (cb (wk EN TO x (k + 1) t b) F) (ce (wk EN TO x (k + 1) t b) G))) →
      av_Rn sc m_M_walk (d + 1) al n0 bc bs 31 [some (vR 26), some (vI fv), some (vI x), some (vI b), some (vI n), some (vI t), none] [] (hp (mS σ F G)) Φ := by
  intro k
  induction k with
  | zero =>
    intro n t b F G hk h0 ht0 ht hb0 hb hF hG hΦ
    have hBb := hB b hb0 hb
    have hEb := hBb.2.2.1
    have e1 : wk EN TO x 1 t b = [(b, wE EN x t b)] := if_neg (by omega)
    rw [e1] at hΦ
    have hei := eM_in (en := σ 29) (b := b) (i := t) (x := x) hEb
    refine rn_aload_n 32 d_M_walk_31 rfl rfl ?_
    refine rn_getfield 35 d_M_walk_32 rfl fd_M_39 rfl rfl ?_
    refine rn_iload_n 36 d_M_walk_35 rfl rfl ?_
    refine rn_aload_n 37 d_M_walk_36 rfl rfl ?_
    refine rn_aload_n 38 d_M_walk_37 rfl rfl ?_
    refine rn_getfield 41 d_M_walk_38 rfl fd_M_39 rfl rfl ?_
    refine rn_iload_n 42 d_M_walk_41 rfl rfl ?_
    refine rn_iaload 43 d_M_walk_42 rfl rfl (by decide) (by omega) (by omega) ?_
    refine rn_iconst 44 d_M_walk_43 rfl ?_
    refine rn_callV2 47 d_M_walk_44 rfl cw_M_92 rfl (Nat.le_of_ble_eq_true rfl) (ev_M_warmer (hF b hb0 (by omega)) ⟨by omega, by omega⟩) ?_
    rintro _ _ ⟨rfl, rfl⟩
    refine rn_iastore 48 d_M_walk_47 rfl rfl (by decide) (by omega) (by omega) (hs_31 _ _) ?_
    change av_Rn _ _ _ _ _ _ _ _ _ _ (hp (mS σ (inc F b) G)) _
    refine rn_iinc 51 d_M_walk_48 rfl rfl (by decide) rfl rfl ?_
    refine rn_aload_n 52 d_M_walk_51 rfl rfl ?_
    refine rn_iload_n 53 d_M_walk_52 rfl rfl ?_
    refine rn_iload 55 d_M_walk_53 rfl rfl ?_
    refine rn_iload_n 56 d_M_walk_55 rfl rfl ?_
    refine rn_callV3 59 d_M_walk_56 rfl cw_M_96 rfl (Nat.le_of_ble_eq_true rfl) (ev_M_edge (σ := mS σ (inc F b) G) ⟨by omega, by omega⟩ ⟨by omega, by omega⟩ hEb) ?_
    rintro _ _ ⟨rfl, rfl⟩
    rw [show eM ((mS σ (inc F b) G) 29) b t x = eM (σ 29) b t x from rfl]
    refine rn_istore 61 d_M_walk_59 rfl (by decide) rfl rfl ?_
    refine rn_iload 63 d_M_walk_61 rfl rfl ?_
    refine rn_bipush 65 d_M_walk_63 rfl rfl ?_
    refine rn_icmp_eq 73 68 d_M_walk_65 rfl rfl ⟨by omega, by omega⟩ ⟨by omega, by omega⟩ (fun c_65 => ?_) (fun c_65 => ?_)
    · refine rn_iload 75 d_M_walk_73 rfl rfl ?_
      exact rn_ireturn d_M_walk_75 (Or.inl rfl) hΦ
    · omega
  | succ k ih =>
    intro n t b F G hk h0 ht0 ht hb0 hb hF hG hΦ
    have hBb := hB b hb0 hb
    have hEb := hBb.2.2.1
    have hwb := hw b hb0 hb
    have e1 : wk EN TO x (k + 1 + 1) t b = (b, wE EN x t b) :: wk EN TO x (k + 1) (wT EN t b) (TO (2 * b + wE EN x t b)) := if_neg (by omega)
    rw [e1] at hΦ
    have hei := eM_in (en := σ 29) (b := b) (i := t) (x := x) hEb
    have hng := eM_neg (en := σ 29) (b := b) (i := t) (x := x) hEb
    refine rn_aload_n 32 d_M_walk_31 rfl rfl ?_
    refine rn_getfield 35 d_M_walk_32 rfl fd_M_39 rfl rfl ?_
    refine rn_iload_n 36 d_M_walk_35 rfl rfl ?_
    refine rn_aload_n 37 d_M_walk_36 rfl rfl ?_
    refine rn_aload_n 38 d_M_walk_37 rfl rfl ?_
    refine rn_getfield 41 d_M_walk_38 rfl fd_M_39 rfl rfl ?_
    refine rn_iload_n 42 d_M_walk_41 rfl rfl ?_
    refine rn_iaload 43 d_M_walk_42 rfl rfl (by decide) (by omega) (by omega) ?_
    refine rn_iconst 44 d_M_walk_43 rfl ?_
    refine rn_callV2 47 d_M_walk_44 rfl cw_M_92 rfl (Nat.le_of_ble_eq_true rfl) (ev_M_warmer (hF b hb0 (by omega)) ⟨by omega, by omega⟩) ?_
    rintro _ _ ⟨rfl, rfl⟩
    refine rn_iastore 48 d_M_walk_47 rfl rfl (by decide) (by omega) (by omega) (hs_31 _ _) ?_
    change av_Rn _ _ _ _ _ _ _ _ _ _ (hp (mS σ (inc F b) G)) _
    refine rn_iinc 51 d_M_walk_48 rfl rfl (by decide) rfl rfl ?_
    refine rn_aload_n 52 d_M_walk_51 rfl rfl ?_
    refine rn_iload_n 53 d_M_walk_52 rfl rfl ?_
    refine rn_iload 55 d_M_walk_53 rfl rfl ?_
    refine rn_iload_n 56 d_M_walk_55 rfl rfl ?_
    refine rn_callV3 59 d_M_walk_56 rfl cw_M_96 rfl (Nat.le_of_ble_eq_true rfl) (ev_M_edge (σ := mS σ (inc F b) G) ⟨by omega, by omega⟩ ⟨by omega, by omega⟩ hEb) ?_
    rintro _ _ ⟨rfl, rfl⟩
    rw [show eM ((mS σ (inc F b) G) 29) b t x = eM (σ 29) b t x from rfl]
    refine rn_istore 61 d_M_walk_59 rfl (by decide) rfl rfl ?_
    refine rn_iload 63 d_M_walk_61 rfl rfl ?_
    refine rn_bipush 65 d_M_walk_63 rfl rfl ?_
    refine rn_icmp_eq 73 68 d_M_walk_65 rfl rfl ⟨by omega, by omega⟩ ⟨by omega, by omega⟩ (fun c_65 => ?_) (fun c_65 => ?_)
    · omega
    · refine rn_iload 70 d_M_walk_68 rfl rfl ?_
      refine rn_if_ge 76 73 d_M_walk_70 rfl rfl ⟨by omega, by omega⟩ (fun c_70 => ?_) (fun c_70 => ?_)
      · have q0 : σ 29 b ≠ 0 := fun q => by have := hng.mpr q; omega
        have q1 : eM (σ 29) b t x = wE EN x t b := eM_wE hwb.1 hEb q0 ht0
        rw [q1]
        have q2 : 0 ≤ wE EN x t b ∧ wE EN x t b < σ 29 b := by unfold wE; rw [hwb.1]; split <;> (try split) <;> omega
        have hTO : TO (2 * b + wE EN x t b) = σ 30 (2 * b + wE EN x t b) := by rw [hwb.2 _ q2.1 (by omega), if_pos q2.2]
        have hto := hBb.2.2.2 _ q2.1 q2.2
        have J : ∀ t' : Int, t' = wT EN t b → av_Rn sc m_M_walk (d + 1) al n0 bc bs 89 [some (vR 26), some (vI fv), some (vI x), some (vI b), some (vI (n + 1)), some (vI t'), some (vI (wE EN x t b))] [] (hp (mS σ (inc F b) G)) Φ := by
          intro t' ht'
          have hT1 : 0 ≤ t' ∧ t' ≤ n + 1 := by rw [ht']; unfold wT; split <;> omega
          refine rn_aload_n 90 d_M_walk_89 rfl rfl ?_
          refine rn_getfield 93 d_M_walk_90 rfl fd_M_42 rfl rfl ?_
          refine rn_iload_n 94 d_M_walk_93 rfl rfl ?_
          refine rn_iconst 95 d_M_walk_94 rfl ?_
          refine rn_imul 96 d_M_walk_95 rfl ?_
          rw [Int.mul_comm b 2]
          refine rn_iload 98 d_M_walk_96 rfl rfl ?_
          refine rn_iadd 99 d_M_walk_98 rfl ?_
          refine rn_aload_n 100 d_M_walk_99 rfl rfl ?_
          refine rn_aload_n 101 d_M_walk_100 rfl rfl ?_
          refine rn_getfield 104 d_M_walk_101 rfl fd_M_42 rfl rfl ?_
          refine rn_iload_n 105 d_M_walk_104 rfl rfl ?_
          refine rn_iconst 106 d_M_walk_105 rfl ?_
          refine rn_imul 107 d_M_walk_106 rfl ?_
          rw [Int.mul_comm b 2]
          refine rn_iload 109 d_M_walk_107 rfl rfl ?_
          refine rn_iadd 110 d_M_walk_109 rfl ?_
          refine rn_iaload 111 d_M_walk_110 rfl rfl (by decide) (by omega) (by omega) ?_
          refine rn_iconst 112 d_M_walk_111 rfl ?_
          refine rn_callV2 115 d_M_walk_112 rfl cw_M_92 rfl (Nat.le_of_ble_eq_true rfl) (ev_M_warmer (σ := mS σ (inc F b) G) (hG (2 * b + wE EN x t b) (by omega) (by omega)) ⟨by omega, by omega⟩) ?_
          rintro _ _ ⟨rfl, rfl⟩
          refine rn_iastore 116 d_M_walk_115 rfl rfl (by decide) (by omega) (by omega) (hs_32 _ _) ?_
          change av_Rn _ _ _ _ _ _ _ _ _ _ (hp (mS σ (inc F b) (inc G (2 * b + wE EN x t b)))) _
          refine rn_aload_n 117 d_M_walk_116 rfl rfl ?_
          refine rn_getfield 120 d_M_walk_117 rfl fd_M_36 rfl rfl ?_
          refine rn_iload_n 121 d_M_walk_120 rfl rfl ?_
          refine rn_iconst 122 d_M_walk_121 rfl ?_
          refine rn_imul 123 d_M_walk_122 rfl ?_
          rw [Int.mul_comm b 2]
          refine rn_iload 125 d_M_walk_123 rfl rfl ?_
          refine rn_iadd 126 d_M_walk_125 rfl ?_
          refine rn_iaload 127 d_M_walk_126 rfl rfl (by decide) (by omega) (by omega) ?_
          rw [show (mS σ (inc F b) (inc G (2 * b + wE EN x t b))) 30 (2 * b + wE EN x t b) = σ 30 (2 * b + wE EN x t b) from rfl]
          refine rn_istore_n 128 d_M_walk_127 rfl (by decide) rfl rfl ?_
          refine rn_goto 31 d_M_walk_128 rfl ?_
          refine rn_kill 6 rfl ?_
          refine ih (n + 1) _ _ _ _ (by omega) (by omega) (by omega) (by omega) (by omega) (by omega) (bd_inc hF ⟨by omega, by omega⟩) (bd_inc hG ⟨by omega, by omega⟩) ?_
          rw [ht']
          rw [hTO] at hΦ
          have e2 : wk EN TO x (k + 1) (wT EN t b) (σ 30 (2 * b + wE EN x t b)) = (σ 30 (2 * b + wE EN x t b), wE EN x (wT EN t b) (σ 30 (2 * b + wE EN x t b))) :: wk EN TO x k (wT EN (wT EN t b) (σ 30 (2 * b + wE EN x t b))) (TO (2 * (σ 30 (2 * b + wE EN x t b)) + wE EN x (wT EN t b) (σ 30 (2 * b + wE EN x t b)))) := if_neg (by omega)
          rw [e2] at hΦ ⊢
          rw [show ((n + 1) + ((((σ 30 (2 * b + wE EN x t b), wE EN x (wT EN t b) (σ 30 (2 * b + wE EN x t b))) :: wk EN TO x k (wT EN (wT EN t b) (σ 30 (2 * b + wE EN x t b))) (TO (2 * (σ 30 (2 * b + wE EN x t b)) + wE EN x (wT EN t b) (σ 30 (2 * b + wE EN x t b))))).length : Nat) : Int)) = n + (((((b, wE EN x t b) :: (σ 30 (2 * b + wE EN x t b), wE EN x (wT EN t b) (σ 30 (2 * b + wE EN x t b))) :: wk EN TO x k (wT EN (wT EN t b) (σ 30 (2 * b + wE EN x t b))) (TO (2 * (σ 30 (2 * b + wE EN x t b)) + wE EN x (wT EN t b) (σ 30 (2 * b + wE EN x t b))))).length : Nat) : Int)) by simp only [List.length_cons]; omega]
          exact hΦ
        refine rn_aload_n 77 d_M_walk_76 rfl rfl ?_
        refine rn_getfield 80 d_M_walk_77 rfl fd_M_33 rfl rfl ?_
        refine rn_iload_n 81 d_M_walk_80 rfl rfl ?_
        refine rn_iaload 82 d_M_walk_81 rfl rfl (by decide) (by omega) (by omega) ?_
        rw [show (mS σ (inc F b) G) 29 b = σ 29 b from rfl]
        refine rn_iconst 83 d_M_walk_82 rfl ?_
        refine rn_icmp_ne 89 86 d_M_walk_83 rfl rfl ⟨by omega, by omega⟩ ⟨by omega, by omega⟩ (fun c_83 => ?_) (fun c_83 => ?_)
        · exact J _ (by unfold wT; rw [hwb.1]; first | rw [if_neg c_83] | rw [if_pos c_83])
        · refine rn_iinc 89 d_M_walk_86 rfl rfl (by decide) rfl rfl ?_
          exact J _ (by unfold wT; rw [hwb.1]; first | rw [if_neg c_83] | rw [if_pos c_83])
      · refine rn_iload 75 d_M_walk_73 rfl rfl ?_
        have q0 := hng.mp (by omega)
        have q1 : wE EN x t b = 0 := by unfold wE; rw [hwb.1, if_neg (by omega)]
        have q2 : TO (2 * b + wE EN x t b) = -1 := by rw [q1, hwb.2 0 (by omega) (by omega), if_neg (by omega)]
        have q3 : wk EN TO x (k + 1) (wT EN t b) (TO (2 * b + wE EN x t b)) = [] := by rw [q2]; exact if_pos rfl
        rw [q3] at hΦ
        exact rn_ireturn d_M_walk_75 (Or.inl rfl) hΦ
set_option maxRecDepth 100000 in
set_option maxHeartbeats 400000 in
theorem ev_M_walk {sc : av_sc} {d : Nat} {σ : av_S} {f x e : Int} {EN TO : Int → Int} (hf : av_in f) (hx : av_in x) (hI : iM σ) (hw : hW σ EN TO) (hE : 0 ≤ f → f ≤ 3 → iEM σ f e) : av_Ev sc m_M_walk (d + 1) false 0 0 [vR 26, vI f, vI x] (hp σ) (fun r h => (¬ ((0 ≤ f ∧ f ≤ 3) ∧ e ≠ -1) ∧ r = some (vI (-1)) ∧ h = hp σ) ∨ (((0 ≤ f ∧ f ≤ 3) ∧ e ≠ -1) ∧ r = some (vI ((wk EN TO x 60 0 e).length : Int)) ∧ h = hp (mS σ (cb (wk EN TO x 60 0 e) (σ 31)) (ce (wk EN TO x 60 0 e) (σ 32))))) := by
  obtain ⟨hn, hB, hc31, hc32, hlo, hrg⟩ := id hI
  obtain ⟨hf1, hf2⟩ := hf
  refine av_ev rfl rfl (Nat.le_of_ble_eq_true rfl) rfl ?_
  refine rn_iload_n 1 d_M_walk_0 rfl rfl ?_
  refine rn_if_lt 9 4 d_M_walk_1 rfl rfl ⟨by omega, by omega⟩ (fun c_1 => ?_) (fun c_1 => ?_)
  · refine rn_iconst 10 d_M_walk_9 rfl ?_
    refine rn_goto 18 d_M_walk_10 rfl ?_
    refine rn_istore_n 19 d_M_walk_18 rfl (by decide) rfl rfl ?_
    refine rn_iconst 20 d_M_walk_19 rfl ?_
    refine rn_istore 22 d_M_walk_20 rfl (by decide) rfl rfl ?_
    refine rn_iconst 23 d_M_walk_22 rfl ?_
    refine rn_istore 25 d_M_walk_23 rfl (by decide) rfl rfl ?_
    refine rn_iload_n 26 d_M_walk_25 rfl rfl ?_
    refine rn_if_ge 31 29 d_M_walk_26 rfl rfl ⟨by omega, by omega⟩ (fun c_26 => ?_) (fun c_26 => ?_)
    · first | (exfalso; omega) | (change av_Rn _ _ _ _ _ _ _ _ _ _ (hp (mS σ (σ 31) (σ 32))) _; refine walkM_loop hn hB hw hx 59 0 0 e (σ 31) (σ 32) (by omega) (by omega) (by omega) (by omega) (by omega) (by rcases hEf with ⟨q, -⟩ | ⟨q, -⟩ <;> omega) hc31 hc32 (Or.inr ⟨⟨⟨by omega, by omega⟩, by omega⟩, ?_, rfl⟩); rw [Int.zero_add])
    · refine rn_iconst 30 d_M_walk_29 rfl ?_
      first | exact rn_ireturn d_M_walk_30 (Or.inl rfl) (Or.inl ⟨(by omega), rfl, rfl⟩)
  · refine rn_iload_n 5 d_M_walk_4 rfl rfl ?_
    refine rn_iconst 6 d_M_walk_5 rfl ?_
    refine rn_icmp_le 13 9 d_M_walk_6 rfl rfl ⟨by omega, by omega⟩ ⟨by omega, by omega⟩ (fun c_6 => ?_) (fun c_6 => ?_)
    · have hEf := hE (by omega) (by omega)
      have hei : -1 ≤ e ∧ e < 24 := by rcases hEf with ⟨q, -⟩ | ⟨q, -⟩ <;> omega
      refine rn_aload_n 14 d_M_walk_13 rfl rfl ?_
      refine rn_iload_n 15 d_M_walk_14 rfl rfl ?_
      refine rn_callV1 18 d_M_walk_15 rfl cw_M_88 rfl (Nat.le_of_ble_eq_true rfl) (ev_M_entry hn (fun b q0 q1 => (hB b q0 q1).1) ⟨by omega, by omega⟩ hEf) ?_
      rintro _ _ ⟨rfl, rfl⟩
      refine rn_istore_n 19 d_M_walk_18 rfl (by decide) rfl rfl ?_
      refine rn_iconst 20 d_M_walk_19 rfl ?_
      refine rn_istore 22 d_M_walk_20 rfl (by decide) rfl rfl ?_
      refine rn_iconst 23 d_M_walk_22 rfl ?_
      refine rn_istore 25 d_M_walk_23 rfl (by decide) rfl rfl ?_
      refine rn_iload_n 26 d_M_walk_25 rfl rfl ?_
      refine rn_if_ge 31 29 d_M_walk_26 rfl rfl ⟨by omega, by omega⟩ (fun c_26 => ?_) (fun c_26 => ?_)
      · first | (exfalso; omega) | (change av_Rn _ _ _ _ _ _ _ _ _ _ (hp (mS σ (σ 31) (σ 32))) _; refine walkM_loop hn hB hw hx 59 0 0 e (σ 31) (σ 32) (by omega) (by omega) (by omega) (by omega) (by omega) (by rcases hEf with ⟨q, -⟩ | ⟨q, -⟩ <;> omega) hc31 hc32 (Or.inr ⟨⟨⟨by omega, by omega⟩, by omega⟩, ?_, rfl⟩); rw [Int.zero_add])
      · refine rn_iconst 30 d_M_walk_29 rfl ?_
        first | exact rn_ireturn d_M_walk_30 (Or.inl rfl) (Or.inl ⟨(by omega), rfl, rfl⟩)
    · refine rn_iconst 10 d_M_walk_9 rfl ?_
      refine rn_goto 18 d_M_walk_10 rfl ?_
      refine rn_istore_n 19 d_M_walk_18 rfl (by decide) rfl rfl ?_
      refine rn_iconst 20 d_M_walk_19 rfl ?_
      refine rn_istore 22 d_M_walk_20 rfl (by decide) rfl rfl ?_
      refine rn_iconst 23 d_M_walk_22 rfl ?_
      refine rn_istore 25 d_M_walk_23 rfl (by decide) rfl rfl ?_
      refine rn_iload_n 26 d_M_walk_25 rfl rfl ?_
      refine rn_if_ge 31 29 d_M_walk_26 rfl rfl ⟨by omega, by omega⟩ (fun c_26 => ?_) (fun c_26 => ?_)
      · first | (exfalso; omega) | (change av_Rn _ _ _ _ _ _ _ _ _ _ (hp (mS σ (σ 31) (σ 32))) _; refine walkM_loop hn hB hw hx 59 0 0 e (σ 31) (σ 32) (by omega) (by omega) (by omega) (by omega) (by omega) (by rcases hEf with ⟨q, -⟩ | ⟨q, -⟩ <;> omega) hc31 hc32 (Or.inr ⟨⟨⟨by omega, by omega⟩, by omega⟩, ?_, rfl⟩); rw [Int.zero_add])
      · refine rn_iconst 30 d_M_walk_29 rfl ?_
        first | exact rn_ireturn d_M_walk_30 (Or.inl rfl) (Or.inl ⟨(by omega), rfl, rfl⟩)
