set_option maxRecDepth 100000 in
set_option maxHeartbeats 400000 in
theorem unplace_loop {sc : av_sc} {d n0 : Nat} {σ : av_S} {md : Int} {Φ : Option av_V → av_H → Prop} (hn : 0 ≤ σ 26 1 ∧ σ 26 1 ≤ 24) (hΦ : av_Rn sc m_M_putOrder d false n0 0 0 35 [some (vR 26), some (vI md), some (vI 0), none, none, none] [] (hp (mo σ (fl (fun _ => 0) (σ 36) (σ 26 1)) (σ 37) 0 0)) Φ) :
    ∀ (m : Nat) (k : Int), 0 ≤ k → k + (m : Int) = σ 26 1 → av_Rn sc m_M_putOrder d false n0 0 0 14 [some (vR 26), some (vI md), some (vI 0), some (vI k), none, none] [] (hp (mo σ (fl (fun _ => 0) (σ 36) k) (σ 37) 0 0)) Φ := by
  intro m
  induction m with
  | zero =>
    intro k h0 hk
    obtain rfl : k = σ 26 1 := by omega
    refine rn_iload_n 15 d_M_putOrder_14 rfl rfl ?_
    refine rn_aload_n 16 d_M_putOrder_15 rfl rfl ?_
    refine rn_getfield 19 d_M_putOrder_16 rfl fd_M_7 rfl rfl ?_
    rw [show (mo σ (fl (fun _ => 0) (σ 36) (σ 26 1)) (σ 37) 0 0) 26 1 = σ 26 1 from rfl]
    refine rn_icmp_ge 35 22 d_M_putOrder_19 rfl rfl ⟨by omega, by omega⟩ ⟨by omega, by omega⟩ (fun c_19 => ?_) (fun c_19 => ?_)
    · exact rn_kill 3 rfl hΦ
    · omega
  | succ m ih =>
    intro k h0 hk
    refine rn_iload_n 15 d_M_putOrder_14 rfl rfl ?_
    refine rn_aload_n 16 d_M_putOrder_15 rfl rfl ?_
    refine rn_getfield 19 d_M_putOrder_16 rfl fd_M_7 rfl rfl ?_
    rw [show (mo σ (fl (fun _ => 0) (σ 36) k) (σ 37) 0 0) 26 1 = σ 26 1 from rfl]
    refine rn_icmp_ge 35 22 d_M_putOrder_19 rfl rfl ⟨by omega, by omega⟩ ⟨by omega, by omega⟩ (fun c_19 => ?_) (fun c_19 => ?_)
    · omega
    · refine rn_aload_n 23 d_M_putOrder_22 rfl rfl ?_
      refine rn_getfield 26 d_M_putOrder_23 rfl fd_M_55 rfl rfl ?_
      refine rn_iload_n 27 d_M_putOrder_26 rfl rfl ?_
      refine rn_iconst 28 d_M_putOrder_27 rfl ?_
      refine rn_bastore 29 d_M_putOrder_28 rfl rfl (by decide) (by omega) (by omega) (by omega) (hs_36 _ _) ?_
      change av_Rn _ _ _ _ _ _ _ _ _ _ (hp (mo σ (uI (fl (fun _ => 0) (σ 36) k) k 0) (σ 37) 0 0)) _
      rw [fl_step h0 rfl]
      refine rn_iinc 32 d_M_putOrder_29 rfl rfl (by decide) rfl rfl ?_
      refine rn_goto 14 d_M_putOrder_32 rfl ?_
      exact ih (k + 1) (by omega) (by omega)
set_option maxRecDepth 100000 in
set_option maxHeartbeats 400000 in
theorem put_loop {sc : av_sc} {d n0 : Nat} {σ : av_S} {HD TT ln en : Int → Int} {m : Nat} {md : Int} {Rl : Int → Int → Prop} [DecidableRel Rl] {Q : Int → Prop} [DecidablePred Q] {Φ : Option av_V → av_H → Prop} (hI : iM σ) (hEN : md = 1 → ∀ f, 0 ≤ f → f ≤ 3 → iEM σ f (en f)) (hmd : md = 0 ∨ md = 1) (hr : ∀ b, 0 ≤ b → b < σ 26 1 → (0 ≤ σ 33 b ∧ σ 33 b < σ 26 1) ∧ σ 33 (σ 33 b) = σ 33 b) (hbf : md = 1 → ∀ (PD OR : Int → Int) (Co Ch x y : Int), ((0 ≤ x ∧ x < σ 26 1) ∧ σ 33 x = x) → ((0 ≤ y ∧ y < σ 26 1) ∧ σ 33 y = y) → x ≠ y → av_Ev sc m_M_before (d + 2) false 0 0 [vR 26, vI x, vI y] (hp (mo σ PD OR Co Ch)) (fun r h => r = some (vI (bz (Rl x y))) ∧ h = hp (mo σ PD OR Co Ch))) (htr : ∀ x y z, (0 ≤ x ∧ x < σ 26 1) → (0 ≤ y ∧ y < σ 26 1) → (0 ≤ z ∧ z < σ 26 1) → Rl x y → Rl y z → Rl x z) (hto : ∀ x y, (0 ≤ x ∧ x < σ 26 1) → (0 ≤ y ∧ y < σ 26 1) → x ≠ y → ¬ Rl x y → Rl y x) (hm0 : md = 0 → ∀ b, 0 ≤ b → b < σ 26 1 → σ 33 b = b) (hm1 : md = 0 → ∀ x y, x < y → Rl x y) (hS : iS (fun b => σ 33 b = b) Rl HD (m : Int) (σ 26 1)) (has : ∀ x y, (0 ≤ x ∧ x < σ 26 1) → (0 ≤ y ∧ y < σ 26 1) → Rl x y → Rl y x → False) (hln : ∀ c : Nat, c < m → 1 ≤ ln (c : Int) ∧ szM σ (HD (c : Int)) (σ 26 1).toNat = ln (c : Int)) (hsum : sm ln m = σ 26 1) (h1 : ∀ (c : Nat) (i : Int), c < m → 0 ≤ i → i < ln (c : Int) → (0 ≤ TT (sm ln c + i) ∧ TT (sm ln c + i) < σ 26 1) ∧ σ 33 (TT (sm ln c + i)) = HD (c : Int) ∧ σ 34 (TT (sm ln c + i)) = i) (h2 : ∀ (c : Nat) b, c < m → 0 ≤ b → b < σ 26 1 → σ 33 b = HD (c : Int) → (0 ≤ σ 34 b ∧ σ 34 b < ln (c : Int)) ∧ TT (sm ln c + σ 34 b) = b) (hQ : md = 1 → ∀ c : Nat, c < m → (Q (HD (c : Int)) ↔ ∀ b, 0 ≤ b → b < σ 26 1 → σ 33 b = HD (c : Int) → ¬ 0 < σ 31 b ∧ b ≠ en (σ 27 b))) (hΦ : ∀ PD : Int → Int, (∀ b, 0 ≤ b → b < σ 26 1 → PD b = 0 ∨ PD b = 1) → Φ none (hp (mo σ PD (fl TT (σ 37) (σ 26 1)) (sm (fun i => if md = 1 ∧ Q (HD i) then ln i else 0) m) (m : Int)))) :
    ∀ (z t : Nat) (PD : Int → Int), t + z = m → (∀ b, 0 ≤ b → b < σ 26 1 → PD b = 0 ∨ PD b = 1) → (∀ b, 0 ≤ b → b < σ 26 1 → (PD b = 0 ↔ ∀ i, 0 ≤ i → i < (t : Int) → σ 33 b ≠ HD i)) → av_Rn sc m_M_putOrder (d + 3) false n0 0 0 35 [some (vR 26), some (vI md), some (vI (sm ln t)), none, none, none] [] (hp (mo σ PD (fl TT (σ 37) (sm ln t)) (sm (fun i => if md = 1 ∧ Q (HD i) then ln i else 0) t) ((t : Int)))) Φ := by
  have hn := hI.1
  intro z
  induction z with
  | zero =>
    intro t PD hz hb hP
    obtain rfl : t = m := by omega
    rw [hsum]
    refine rn_iload_n 36 d_M_putOrder_35 rfl rfl ?_
    refine rn_aload_n 37 d_M_putOrder_36 rfl rfl ?_
    refine rn_getfield 40 d_M_putOrder_37 rfl fd_M_7 rfl rfl ?_
    rw [show (mo σ PD (fl TT (σ 37) (σ 26 1)) (sm (fun i => if md = 1 ∧ Q (HD i) then ln i else 0) t) (t : Int)) 26 1 = σ 26 1 from rfl]
    refine rn_icmp_ge 224 43 d_M_putOrder_40 rfl rfl ⟨by omega, by omega⟩ ⟨by omega, by omega⟩ (fun c_40 => ?_) (fun c_40 => ?_)
    · exact rn_return d_M_putOrder_224 rfl (hΦ PD hb)
    · omega
  | succ z ih =>
    intro t PD hz hb hP
    have g0 := hln t (by omega)
    have g1 : sm ln (t + 1) = sm ln t + ln (t : Int) := rfl
    have g2 : sm ln (t + 1) ≤ sm ln m := sm_le m (t + 1) (by omega) (fun j hj => by have := (hln j hj).1; omega)
    have g3 : sm ln 0 ≤ sm ln t := sm_le t 0 (by omega) (fun j hj => by have := (hln j (by omega)).1; omega)
    have g3 : 0 ≤ sm ln t := g3
    have g4 := (hS.1 (t : Int) (by omega) (by omega)).1
    have hb' : ∀ b, 0 ≤ b → b < σ 26 1 → fl (fun b => if σ 33 b = HD (t : Int) then 1 else PD b) PD (σ 26 1) b = 0 ∨ fl (fun b => if σ 33 b = HD (t : Int) then 1 else PD b) PD (σ 26 1) b = 1 := by
      intro b b0 b1
      rw [fl_in ⟨b0, b1⟩]
      split
      · exact Or.inr rfl
      · exact hb b b0 b1
    have hP' : ∀ b, 0 ≤ b → b < σ 26 1 → (fl (fun b => if σ 33 b = HD (t : Int) then 1 else PD b) PD (σ 26 1) b = 0 ↔ ∀ i, 0 ≤ i → i < ((t + 1 : Nat) : Int) → σ 33 b ≠ HD i) := by
      intro b b0 b1
      rw [fl_in ⟨b0, b1⟩]
      constructor
      · intro w i i0 i1 e
        by_cases c : σ 33 b = HD (t : Int)
        · rw [if_pos c] at w; omega
        · rw [if_neg c] at w
          by_cases c2 : i = (t : Int)
          · rw [c2] at e; exact c e
          · exact (hP b b0 b1).mp w i i0 (by omega) e
      · intro w
        rw [if_neg (w (t : Int) (by omega) (by omega))]
        exact (hP b b0 b1).mpr (fun i i0 i1 => w i i0 (by omega))
    refine rn_iload_n 36 d_M_putOrder_35 rfl rfl ?_
    refine rn_aload_n 37 d_M_putOrder_36 rfl rfl ?_
    refine rn_getfield 40 d_M_putOrder_37 rfl fd_M_7 rfl rfl ?_
    rw [show (mo σ PD (fl TT (σ 37) (sm ln t)) (sm (fun i => if md = 1 ∧ Q (HD i) then ln i else 0) t) ((t : Int))) 26 1 = σ 26 1 from rfl]
    refine rn_icmp_ge 224 43 d_M_putOrder_40 rfl rfl ⟨by omega, by omega⟩ ⟨by omega, by omega⟩ (fun c_40 => ?_) (fun c_40 => ?_)
    · omega
    · refine rn_iconst 44 d_M_putOrder_43 rfl ?_
      refine rn_istore_n 45 d_M_putOrder_44 rfl (by decide) rfl rfl ?_
      refine rn_iconst 46 d_M_putOrder_45 rfl ?_
      refine rn_istore 48 d_M_putOrder_46 rfl (by decide) rfl rfl ?_
      refine pick_loop hn hmd hr hb hbf htr hto hm0 hm1 (fun c hc => ?_) (σ 26 1).toNat 0 (-1) (by omega) (by omega) (Or.inl ⟨rfl, fun b a b => by omega⟩)
      obtain rfl := pick_is hS (by omega) hP has hr hc
      refine rn_aload_n 120 d_M_putOrder_119 rfl rfl ?_
      refine rn_dup 121 d_M_putOrder_120 rfl rfl ?_
      refine rn_getfield 124 d_M_putOrder_121 rfl fd_M_19 rfl rfl ?_
      rw [show (mo σ PD (fl TT (σ 37) (sm ln t)) (sm (fun i => if md = 1 ∧ Q (HD i) then ln i else 0) t) ((t : Int))) 26 4 = (t : Int) from rfl]
      refine rn_iconst 125 d_M_putOrder_124 rfl ?_
      refine rn_iadd 126 d_M_putOrder_125 rfl ?_
      refine rn_putfield 129 d_M_putOrder_126 rfl fp_M_19 rfl (Nat.le_of_ble_eq_true rfl) av_fitI (hs_26_4 _ _) ?_
      change av_Rn _ _ _ _ _ _ _ _ _ _ (hp (mo σ PD (fl TT (σ 37) (sm ln t)) (sm (fun i => if md = 1 ∧ Q (HD i) then ln i else 0) t) ((t : Int) + 1))) _
      refine rn_aload_n 130 d_M_putOrder_129 rfl rfl ?_
      refine rn_iload_n 131 d_M_putOrder_130 rfl rfl ?_
      refine rn_callV1 134 d_M_putOrder_131 rfl cw_M_101 rfl (Nat.le_of_ble_eq_true rfl) (ev_M_size hn (fun b a0 a1 => ⟨(hr b a0 a1).1.1, by have a1 : b < σ 26 1 := a1; have := (hr b a0 a1).1.2; show σ 33 b < 24; omega⟩) ⟨by omega, by omega⟩) ?_
      rintro _ _ ⟨rfl, rfl⟩
      rw [show szM (mo σ PD (fl TT (σ 37) (sm ln t)) (sm (fun i => if md = 1 ∧ Q (HD i) then ln i else 0) t) ((t : Int) + 1)) (HD (t : Int)) ((mo σ PD (fl TT (σ 37) (sm ln t)) (sm (fun i => if md = 1 ∧ Q (HD i) then ln i else 0) t) ((t : Int) + 1)) 26 1).toNat = ln (t : Int) from g0.2]
      refine rn_istore 136 d_M_putOrder_134 rfl (by decide) rfl rfl ?_
      refine rn_iload_n 137 d_M_putOrder_136 rfl rfl ?_
      refine rn_iconst 138 d_M_putOrder_137 rfl ?_
      refine rn_icmp_ne 160 141 d_M_putOrder_138 rfl rfl ⟨by omega, by omega⟩ ⟨by omega, by omega⟩ (fun c_138 => ?_) (fun c_138 => ?_)
      · skip
        refine rn_iconst 161 d_M_putOrder_160 rfl ?_
        refine rn_istore 163 d_M_putOrder_161 rfl (by decide) rfl rfl ?_
        rw [show hp (mo σ PD (fl TT (σ 37) (sm ln t)) (sm (fun i => if md = 1 ∧ Q (HD i) then ln i else 0) t) ((t : Int) + 1)) = hp (mo σ (fl (fun b => if σ 33 b = HD (t : Int) then 1 else PD b) PD 0) (fo TT (fl TT (σ 37) (sm ln t)) (sm ln t) (ln (t : Int)) 0) (sm (fun i => if md = 1 ∧ Q (HD i) then ln i else 0) (t + 1)) (((t + 1 : Nat)) : Int)) by rw [fl_0, fo_0 (fun i a b => (h1 t i (by omega) a b).1.1), show sm (fun i => if md = 1 ∧ Q (HD i) then ln i else 0) (t + 1) = sm (fun i => if md = 1 ∧ Q (HD i) then ln i else 0) t from (by show sm (fun i => if md = 1 ∧ Q (HD i) then ln i else 0) t + (if md = 1 ∧ Q (HD (t : Int)) then ln (t : Int) else 0) = _; rw [if_neg (fun w => c_138 w.1)]; omega)]; rfl]
        refine fill_loopM hn hr ⟨g4.1, by omega⟩ ⟨g3, by omega⟩ (by omega) (fun i a b => h1 t i (by omega) a b) (fun b a0 a1 a2 => h2 t b (by omega) a0 a1 a2) ?_ (σ 26 1).toNat 0 (by omega) (by omega)
        exact ih (t + 1) _ (by omega) hb' hP'
      · refine rn_aload_n 142 d_M_putOrder_141 rfl rfl ?_
        refine rn_iload_n 143 d_M_putOrder_142 rfl rfl ?_
        refine rn_callV1 146 d_M_putOrder_143 rfl cw_M_111 rfl (Nat.le_of_ble_eq_true rfl) (ev_M_isCold (Q := Q (HD (t : Int))) hI (fun b a0 a1 => ⟨(hr b a0 a1).1.1, by have a1 : b < σ 26 1 := a1; have := (hr b a0 a1).1.2; show σ 33 b < 24; omega⟩) (hEN (by omega)) ⟨by omega, by omega⟩ (hQ (by omega) t (by omega))) ?_
        rintro _ _ ⟨rfl, rfl⟩
        refine rn_ifB_eq 160 149 d_M_putOrder_146 rfl rfl (fun c_146 => ?_) (fun c_146 => ?_)
        · skip
          refine rn_iconst 161 d_M_putOrder_160 rfl ?_
          refine rn_istore 163 d_M_putOrder_161 rfl (by decide) rfl rfl ?_
          rw [show hp (mo σ PD (fl TT (σ 37) (sm ln t)) (sm (fun i => if md = 1 ∧ Q (HD i) then ln i else 0) t) ((t : Int) + 1)) = hp (mo σ (fl (fun b => if σ 33 b = HD (t : Int) then 1 else PD b) PD 0) (fo TT (fl TT (σ 37) (sm ln t)) (sm ln t) (ln (t : Int)) 0) (sm (fun i => if md = 1 ∧ Q (HD i) then ln i else 0) (t + 1)) (((t + 1 : Nat)) : Int)) by rw [fl_0, fo_0 (fun i a b => (h1 t i (by omega) a b).1.1), show sm (fun i => if md = 1 ∧ Q (HD i) then ln i else 0) (t + 1) = sm (fun i => if md = 1 ∧ Q (HD i) then ln i else 0) t from (by show sm (fun i => if md = 1 ∧ Q (HD i) then ln i else 0) t + (if md = 1 ∧ Q (HD (t : Int)) then ln (t : Int) else 0) = _; rw [if_neg (fun w => c_146 w.2)]; omega)]; rfl]
          refine fill_loopM hn hr ⟨g4.1, by omega⟩ ⟨g3, by omega⟩ (by omega) (fun i a b => h1 t i (by omega) a b) (fun b a0 a1 a2 => h2 t b (by omega) a0 a1 a2) ?_ (σ 26 1).toNat 0 (by omega) (by omega)
          exact ih (t + 1) _ (by omega) hb' hP'
        · refine rn_aload_n 150 d_M_putOrder_149 rfl rfl ?_
          refine rn_dup 151 d_M_putOrder_150 rfl rfl ?_
          refine rn_getfield 154 d_M_putOrder_151 rfl fd_M_16 rfl rfl ?_
          rw [show (mo σ PD (fl TT (σ 37) (sm ln t)) (sm (fun i => if md = 1 ∧ Q (HD i) then ln i else 0) t) ((t : Int) + 1)) 26 3 = sm (fun i => if md = 1 ∧ Q (HD i) then ln i else 0) t from rfl]
          refine rn_iload 156 d_M_putOrder_154 rfl rfl ?_
          refine rn_iadd 157 d_M_putOrder_156 rfl ?_
          refine rn_putfield 160 d_M_putOrder_157 rfl fp_M_16 rfl (Nat.le_of_ble_eq_true rfl) av_fitI (hs_26_3 _ _) ?_
          change av_Rn _ _ _ _ _ _ _ _ _ _ (hp (mo σ PD (fl TT (σ 37) (sm ln t)) (sm (fun i => if md = 1 ∧ Q (HD i) then ln i else 0) t + ln (t : Int)) ((t : Int) + 1))) _
          refine rn_iconst 161 d_M_putOrder_160 rfl ?_
          refine rn_istore 163 d_M_putOrder_161 rfl (by decide) rfl rfl ?_
          rw [show hp (mo σ PD (fl TT (σ 37) (sm ln t)) (sm (fun i => if md = 1 ∧ Q (HD i) then ln i else 0) t + ln (t : Int)) ((t : Int) + 1)) = hp (mo σ (fl (fun b => if σ 33 b = HD (t : Int) then 1 else PD b) PD 0) (fo TT (fl TT (σ 37) (sm ln t)) (sm ln t) (ln (t : Int)) 0) (sm (fun i => if md = 1 ∧ Q (HD i) then ln i else 0) (t + 1)) (((t + 1 : Nat)) : Int)) by rw [fl_0, fo_0 (fun i a b => (h1 t i (by omega) a b).1.1), show sm (fun i => if md = 1 ∧ Q (HD i) then ln i else 0) (t + 1) = sm (fun i => if md = 1 ∧ Q (HD i) then ln i else 0) t + ln (t : Int) from (by show sm (fun i => if md = 1 ∧ Q (HD i) then ln i else 0) t + (if md = 1 ∧ Q (HD (t : Int)) then ln (t : Int) else 0) = _; rw [if_pos ⟨by omega, c_146⟩])]; rfl]
          refine fill_loopM hn hr ⟨g4.1, by omega⟩ ⟨g3, by omega⟩ (by omega) (fun i a b => h1 t i (by omega) a b) (fun b a0 a1 a2 => h2 t b (by omega) a0 a1 a2) ?_ (σ 26 1).toNat 0 (by omega) (by omega)
          exact ih (t + 1) _ (by omega) hb' hP'
set_option maxRecDepth 100000 in
set_option maxHeartbeats 400000 in
theorem ev_M_putOrder {sc : av_sc} {d : Nat} {σ : av_S} {HD TT ln en : Int → Int} {m : Nat} {md : Int} {Rl : Int → Int → Prop} [DecidableRel Rl] {Q : Int → Prop} [DecidablePred Q] (hI : iM σ) (hEN : md = 1 → ∀ f, 0 ≤ f → f ≤ 3 → iEM σ f (en f)) (hmd : md = 0 ∨ md = 1) (hr : ∀ b, 0 ≤ b → b < σ 26 1 → (0 ≤ σ 33 b ∧ σ 33 b < σ 26 1) ∧ σ 33 (σ 33 b) = σ 33 b) (hbf : md = 1 → ∀ (PD OR : Int → Int) (Co Ch x y : Int), ((0 ≤ x ∧ x < σ 26 1) ∧ σ 33 x = x) → ((0 ≤ y ∧ y < σ 26 1) ∧ σ 33 y = y) → x ≠ y → av_Ev sc m_M_before (d + 2) false 0 0 [vR 26, vI x, vI y] (hp (mo σ PD OR Co Ch)) (fun r h => r = some (vI (bz (Rl x y))) ∧ h = hp (mo σ PD OR Co Ch))) (htr : ∀ x y z, (0 ≤ x ∧ x < σ 26 1) → (0 ≤ y ∧ y < σ 26 1) → (0 ≤ z ∧ z < σ 26 1) → Rl x y → Rl y z → Rl x z) (hto : ∀ x y, (0 ≤ x ∧ x < σ 26 1) → (0 ≤ y ∧ y < σ 26 1) → x ≠ y → ¬ Rl x y → Rl y x) (hm0 : md = 0 → ∀ b, 0 ≤ b → b < σ 26 1 → σ 33 b = b) (hm1 : md = 0 → ∀ x y, x < y → Rl x y) (hS : iS (fun b => σ 33 b = b) Rl HD (m : Int) (σ 26 1)) (has : ∀ x y, (0 ≤ x ∧ x < σ 26 1) → (0 ≤ y ∧ y < σ 26 1) → Rl x y → Rl y x → False) (hln : ∀ c : Nat, c < m → 1 ≤ ln (c : Int) ∧ szM σ (HD (c : Int)) (σ 26 1).toNat = ln (c : Int)) (hsum : sm ln m = σ 26 1) (h1 : ∀ (c : Nat) (i : Int), c < m → 0 ≤ i → i < ln (c : Int) → (0 ≤ TT (sm ln c + i) ∧ TT (sm ln c + i) < σ 26 1) ∧ σ 33 (TT (sm ln c + i)) = HD (c : Int) ∧ σ 34 (TT (sm ln c + i)) = i) (h2 : ∀ (c : Nat) b, c < m → 0 ≤ b → b < σ 26 1 → σ 33 b = HD (c : Int) → (0 ≤ σ 34 b ∧ σ 34 b < ln (c : Int)) ∧ TT (sm ln c + σ 34 b) = b) (hQ : md = 1 → ∀ c : Nat, c < m → (Q (HD (c : Int)) ↔ ∀ b, 0 ≤ b → b < σ 26 1 → σ 33 b = HD (c : Int) → ¬ 0 < σ 31 b ∧ b ≠ en (σ 27 b))) : av_Ev sc m_M_putOrder (d + 3) false 0 0 [vR 26, vI md] (hp σ) (fun r h => r = none ∧ ∃ PD : Int → Int, (∀ b, 0 ≤ b → b < σ 26 1 → PD b = 0 ∨ PD b = 1) ∧ h = hp (mo σ PD (fl TT (σ 37) (σ 26 1)) (sm (fun i => if md = 1 ∧ Q (HD i) then ln i else 0) m) (m : Int))) := by
  refine av_ev rfl rfl (Nat.le_of_ble_eq_true rfl) rfl ?_
  refine rn_iconst 1 d_M_putOrder_0 rfl ?_
  refine rn_istore_n 2 d_M_putOrder_1 rfl (by decide) rfl rfl ?_
  refine rn_aload_n 3 d_M_putOrder_2 rfl rfl ?_
  refine rn_iconst 4 d_M_putOrder_3 rfl ?_
  refine rn_putfield 7 d_M_putOrder_4 rfl fp_M_16 rfl (Nat.le_of_ble_eq_true rfl) av_fitI (hs_26_3 _ _) ?_
  refine rn_aload_n 8 d_M_putOrder_7 rfl rfl ?_
  refine rn_iconst 9 d_M_putOrder_8 rfl ?_
  refine rn_putfield 12 d_M_putOrder_9 rfl fp_M_19 rfl (Nat.le_of_ble_eq_true rfl) av_fitI (hs_26_4 _ _) ?_
  refine rn_iconst 13 d_M_putOrder_12 rfl ?_
  refine rn_istore_n 14 d_M_putOrder_13 rfl (by decide) rfl rfl ?_
  have hn := hI.1
  rw [show hp (up (up σ 26 (uI (σ 26) 3 0)) 26 (uI ((up σ 26 (uI (σ 26) 3 0)) 26) 4 0)) = hp (mo σ (fl (fun _ => 0) (σ 36) (0 : Int)) (σ 37) 0 0) by rw [fl_0]; rfl]
  refine unplace_loop hn ?_ (σ 26 1).toNat 0 (by omega) (by omega)
  rw [show hp (mo σ (fl (fun _ => 0) (σ 36) (σ 26 1)) (σ 37) 0 0) = hp (mo σ (fl (fun _ => 0) (σ 36) (σ 26 1)) (fl TT (σ 37) (sm ln 0)) (sm (fun i => if md = 1 ∧ Q (HD i) then ln i else 0) 0) ((0 : Nat) : Int)) by rw [show sm ln 0 = 0 from rfl, fl_0]; rfl]
  refine put_loop hI hEN hmd hr hbf htr hto hm0 hm1 hS has hln hsum h1 h2 hQ (fun PD h => ⟨rfl, PD, h, rfl⟩) m 0 _ (by omega) (fun b b0 b1 => Or.inl (fl_in ⟨b0, b1⟩)) (fun b b0 b1 => ?_)
  rw [fl_in ⟨b0, b1⟩]
  exact ⟨fun _ i i0 i1 => by omega, fun _ => rfl⟩
