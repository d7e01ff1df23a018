def szM (σ : av_S) (c : Int) (k : Nat) : Int := sm (fun b => bz (σ 33 b = c)) k
set_option maxRecDepth 100000 in
set_option maxHeartbeats 400000 in
theorem size_loop {sc : av_sc} {d n0 bc bs : Nat} {al : Bool} {σ : av_S} {c : Int} {Φ : Option av_V → av_H → Prop} (hn : 0 ≤ σ 26 1 ∧ σ 26 1 ≤ 24) (hCH : ∀ b, 0 ≤ b → b < σ 26 1 → 0 ≤ σ 33 b ∧ σ 33 b < 24) (hc : av_in c) (hΦ : Φ (some (vI (szM σ c (σ 26 1).toNat))) (hp σ)) :
    ∀ (z k : Nat), (k : Int) + (z : Int) = σ 26 1 → av_Rn sc m_M_size d al n0 bc bs 4 [some (vR 26), some (vI c), some (vI (szM σ c k)), some (vI (k : Int))] [] (hp σ) Φ := by
  intro z
  induction z with
  | zero =>
    intro k hk
    obtain rfl : k = (σ 26 1).toNat := by omega
    refine rn_iload_n 5 d_M_size_4 rfl rfl ?_
    refine rn_aload_n 6 d_M_size_5 rfl rfl ?_
    refine rn_getfield 9 d_M_size_6 rfl fd_M_7 rfl rfl ?_
    refine rn_icmp_ge 31 12 d_M_size_9 rfl rfl ⟨by omega, by omega⟩ ⟨by omega, by omega⟩ (fun c_9 => ?_) (fun c_9 => ?_)
    · refine rn_iload_n 32 d_M_size_31 rfl rfl ?_
      exact rn_ireturn d_M_size_32 (Or.inl rfl) hΦ
    · omega
  | succ z ih =>
    intro k hk
    have hk1 := hCH (k : Int) (by omega) (by omega)
    have X : ∀ w : Int, w = szM σ c (k + 1) → av_Rn sc m_M_size d al n0 bc bs 25 [some (vR 26), some (vI c), some (vI w), some (vI (k : Int))] [] (hp σ) Φ := by
      intro w ew
      subst ew
      refine rn_iinc 28 d_M_size_25 rfl rfl (by decide) rfl rfl ?_
      refine rn_goto 4 d_M_size_28 rfl ?_
      exact ih (k + 1) (by omega)
    have eS : szM σ c (k + 1) = szM σ c k + bz (σ 33 (k : Int) = c) := rfl
    refine rn_iload_n 5 d_M_size_4 rfl rfl ?_
    refine rn_aload_n 6 d_M_size_5 rfl rfl ?_
    refine rn_getfield 9 d_M_size_6 rfl fd_M_7 rfl rfl ?_
    refine rn_icmp_ge 31 12 d_M_size_9 rfl rfl ⟨by omega, by omega⟩ ⟨by omega, by omega⟩ (fun c_9 => ?_) (fun c_9 => ?_)
    · omega
    · refine rn_aload_n 13 d_M_size_12 rfl rfl ?_
      refine rn_getfield 16 d_M_size_13 rfl fd_M_45 rfl rfl ?_
      refine rn_iload_n 17 d_M_size_16 rfl rfl ?_
      refine rn_iaload 18 d_M_size_17 rfl rfl (by decide) (by omega) (by omega) ?_
      refine rn_iload_n 19 d_M_size_18 rfl rfl ?_
      refine rn_icmp_ne 25 22 d_M_size_19 rfl rfl ⟨by omega, by omega⟩ hc (fun c_19 => ?_) (fun c_19 => ?_)
      · exact X _ (by rw [eS]; first | rw [bz_t c_19] | rw [bz_f c_19, Int.add_zero])
      · refine rn_iinc 25 d_M_size_22 rfl rfl (by decide) rfl rfl ?_
        exact X _ (by rw [eS]; first | rw [bz_t c_19] | rw [bz_f c_19, Int.add_zero])
set_option maxRecDepth 100000 in
set_option maxHeartbeats 400000 in
theorem ev_M_size {sc : av_sc} {d : Nat} {σ : av_S} {c : Int} (hn : 0 ≤ σ 26 1 ∧ σ 26 1 ≤ 24) (hCH : ∀ b, 0 ≤ b → b < σ 26 1 → 0 ≤ σ 33 b ∧ σ 33 b < 24) (hc : av_in c) : av_Ev sc m_M_size (d) false 0 0 [vR 26, vI c] (hp σ) (fun r h => r = some (vI (szM σ c (σ 26 1).toNat)) ∧ h = hp σ) := by
  refine av_ev rfl rfl (Nat.le_of_ble_eq_true rfl) rfl ?_
  refine rn_iconst 1 d_M_size_0 rfl ?_
  refine rn_istore_n 2 d_M_size_1 rfl (by decide) rfl rfl ?_
  refine rn_iconst 3 d_M_size_2 rfl ?_
  refine rn_istore_n 4 d_M_size_3 rfl (by decide) rfl rfl ?_
  exact size_loop hn hCH hc ⟨rfl, rfl⟩ (σ 26 1).toNat 0 (by omega)
set_option maxRecDepth 100000 in
set_option maxHeartbeats 400000 in
theorem head_loop {sc : av_sc} {d n0 bc bs : Nat} {al : Bool} {σ : av_S} {c x : Int} {Φ : Option av_V → av_H → Prop} (hn : 0 ≤ σ 26 1 ∧ σ 26 1 ≤ 24) (hCH : ∀ b, 0 ≤ b → b < σ 26 1 → 0 ≤ σ 33 b ∧ σ 33 b < 24) (hPL : ∀ b, 0 ≤ b → b < σ 26 1 → 0 ≤ σ 34 b ∧ σ 34 b < 24) (hc : av_in c) (hx : (0 ≤ x ∧ x < σ 26 1) ∧ σ 33 x = c ∧ σ 34 x = 0 ∧ ∀ j, 0 ≤ j → j < x → ¬ (σ 33 j = c ∧ σ 34 j = 0)) (hΦ : Φ (some (vI x)) (hp σ)) :
    ∀ (z : Nat) (i : Int), 0 ≤ i → i + (z : Int) = x → av_Rn sc m_M_head d al n0 bc bs 2 [some (vR 26), some (vI c), some (vI i)] [] (hp σ) Φ := by
  obtain ⟨hx0, hx1, hx2, hx3⟩ := hx
  intro z
  induction z with
  | zero =>
    intro i h0 hz
    obtain rfl : i = x := by omega
    have h1 := hCH i hx0.1 hx0.2
    refine rn_iload_n 3 d_M_head_2 rfl rfl ?_
    refine rn_aload_n 4 d_M_head_3 rfl rfl ?_
    refine rn_getfield 7 d_M_head_4 rfl fd_M_7 rfl rfl ?_
    refine rn_icmp_ge 37 10 d_M_head_7 rfl rfl ⟨by omega, by omega⟩ ⟨by omega, by omega⟩ (fun c_7 => ?_) (fun c_7 => ?_)
    · omega
    · refine rn_aload_n 11 d_M_head_10 rfl rfl ?_
      refine rn_getfield 14 d_M_head_11 rfl fd_M_45 rfl rfl ?_
      refine rn_iload_n 15 d_M_head_14 rfl rfl ?_
      refine rn_iaload 16 d_M_head_15 rfl rfl (by decide) (by omega) (by omega) ?_
      refine rn_iload_n 17 d_M_head_16 rfl rfl ?_
      refine rn_icmp_ne 31 20 d_M_head_17 rfl rfl ⟨by omega, by omega⟩ hc (fun c_17 => ?_) (fun c_17 => ?_)
      · exact absurd hx1 c_17
      · refine rn_aload_n 21 d_M_head_20 rfl rfl ?_
        refine rn_getfield 24 d_M_head_21 rfl fd_M_48 rfl rfl ?_
        refine rn_iload_n 25 d_M_head_24 rfl rfl ?_
        refine rn_iaload 26 d_M_head_25 rfl rfl (by decide) (by omega) (by omega) ?_
        refine rn_if_ne 31 29 d_M_head_26 rfl rfl ⟨by omega, by omega⟩ (fun c_26 => ?_) (fun c_26 => ?_)
        · exact absurd hx2 c_26
        · refine rn_iload_n 30 d_M_head_29 rfl rfl ?_
          exact rn_ireturn d_M_head_30 (Or.inl rfl) hΦ
  | succ z ih =>
    intro i h0 hz
    have h1 := hCH i h0 (by omega)
    have h2 := hPL i h0 (by omega)
    have h3 := hx3 i h0 (by omega)
    refine rn_iload_n 3 d_M_head_2 rfl rfl ?_
    refine rn_aload_n 4 d_M_head_3 rfl rfl ?_
    refine rn_getfield 7 d_M_head_4 rfl fd_M_7 rfl rfl ?_
    refine rn_icmp_ge 37 10 d_M_head_7 rfl rfl ⟨by omega, by omega⟩ ⟨by omega, by omega⟩ (fun c_7 => ?_) (fun c_7 => ?_)
    · omega
    · refine rn_aload_n 11 d_M_head_10 rfl rfl ?_
      refine rn_getfield 14 d_M_head_11 rfl fd_M_45 rfl rfl ?_
      refine rn_iload_n 15 d_M_head_14 rfl rfl ?_
      refine rn_iaload 16 d_M_head_15 rfl rfl (by decide) (by omega) (by omega) ?_
      refine rn_iload_n 17 d_M_head_16 rfl rfl ?_
      refine rn_icmp_ne 31 20 d_M_head_17 rfl rfl ⟨by omega, by omega⟩ hc (fun c_17 => ?_) (fun c_17 => ?_)
      · refine rn_iinc 34 d_M_head_31 rfl rfl (by decide) rfl rfl ?_
        refine rn_goto 2 d_M_head_34 rfl ?_
        exact ih (i + 1) (by omega) (by omega)
      · refine rn_aload_n 21 d_M_head_20 rfl rfl ?_
        refine rn_getfield 24 d_M_head_21 rfl fd_M_48 rfl rfl ?_
        refine rn_iload_n 25 d_M_head_24 rfl rfl ?_
        refine rn_iaload 26 d_M_head_25 rfl rfl (by decide) (by omega) (by omega) ?_
        refine rn_if_ne 31 29 d_M_head_26 rfl rfl ⟨by omega, by omega⟩ (fun c_26 => ?_) (fun c_26 => ?_)
        · refine rn_iinc 34 d_M_head_31 rfl rfl (by decide) rfl rfl ?_
          refine rn_goto 2 d_M_head_34 rfl ?_
          exact ih (i + 1) (by omega) (by omega)
        · exact absurd ⟨c_17, c_26⟩ h3
set_option maxRecDepth 100000 in
set_option maxHeartbeats 400000 in
theorem ev_M_head {sc : av_sc} {d : Nat} {σ : av_S} {c x : Int} (hn : 0 ≤ σ 26 1 ∧ σ 26 1 ≤ 24) (hCH : ∀ b, 0 ≤ b → b < σ 26 1 → 0 ≤ σ 33 b ∧ σ 33 b < 24) (hPL : ∀ b, 0 ≤ b → b < σ 26 1 → 0 ≤ σ 34 b ∧ σ 34 b < 24) (hc : av_in c) (hx : (0 ≤ x ∧ x < σ 26 1) ∧ σ 33 x = c ∧ σ 34 x = 0 ∧ ∀ j, 0 ≤ j → j < x → ¬ (σ 33 j = c ∧ σ 34 j = 0)) : av_Ev sc m_M_head (d) false 0 0 [vR 26, vI c] (hp σ) (fun r h => r = some (vI x) ∧ h = hp σ) := by
  refine av_ev rfl rfl (Nat.le_of_ble_eq_true rfl) rfl ?_
  refine rn_iconst 1 d_M_head_0 rfl ?_
  refine rn_istore_n 2 d_M_head_1 rfl (by decide) rfl rfl ?_
  exact head_loop hn hCH hPL hc hx ⟨rfl, rfl⟩ x.toNat 0 (by omega) (by have := hx.1; omega)
set_option maxRecDepth 100000 in
set_option maxHeartbeats 400000 in
theorem coldM_loop {sc : av_sc} {d n0 bc bs : Nat} {al : Bool} {σ : av_S} {c : Int} {en : Int → Int} {Q : Prop} [Decidable Q] {Φ : Option av_V → av_H → Prop} (hI : iM σ) (hCH : ∀ b, 0 ≤ b → b < σ 26 1 → 0 ≤ σ 33 b ∧ σ 33 b < 24) (hEN : ∀ f, 0 ≤ f → f ≤ 3 → iEM σ f (en f)) (hc : av_in c) (hQ : Q ↔ ∀ b, 0 ≤ b → b < σ 26 1 → σ 33 b = c → ¬ 0 < σ 31 b ∧ b ≠ en (σ 27 b)) (hΦ : Φ (some (vI (bz Q))) (hp σ)) :
    ∀ (z : Nat) (i : Int), 0 ≤ i → i + (z : Int) = σ 26 1 → (∀ b, 0 ≤ b → b < i → σ 33 b = c → ¬ 0 < σ 31 b ∧ b ≠ en (σ 27 b)) → av_Rn sc m_M_isCold (d + 1) al n0 bc bs 2 [some (vR 26), some (vI c), some (vI i)] [] (hp σ) Φ := by
  obtain ⟨hn, hB, hc31, hc32, hlo, hrg⟩ := id hI
  intro z
  induction z with
  | zero =>
    intro i h0 hz hj
    obtain rfl : i = σ 26 1 := by omega
    rw [bz_t (hQ.mpr hj)] at hΦ
    refine rn_iload_n 3 d_M_isCold_2 rfl rfl ?_
    refine rn_aload_n 4 d_M_isCold_3 rfl rfl ?_
    refine rn_getfield 7 d_M_isCold_4 rfl fd_M_7 rfl rfl ?_
    refine rn_icmp_ge 51 10 d_M_isCold_7 rfl rfl ⟨by omega, by omega⟩ ⟨by omega, by omega⟩ (fun c_7 => ?_) (fun c_7 => ?_)
    · refine rn_iconst 52 d_M_isCold_51 rfl ?_
      exact rn_ireturn d_M_isCold_52 (Or.inr ⟨rfl, Or.inr rfl⟩) hΦ
    · omega
  | succ z ih =>
    intro i h0 hz hj
    have h1 := hCH i h0 (by omega)
    have h2 := hc31 i h0 (by omega)
    have h3 := (hB i h0 (by omega)).1
    have h4 := hEN (σ 27 i) h3.1 h3.2
    have h5 : -1 ≤ en (σ 27 i) ∧ en (σ 27 i) < 24 := by rcases h4 with ⟨q, -⟩ | ⟨q, -⟩ <;> omega
    refine rn_iload_n 3 d_M_isCold_2 rfl rfl ?_
    refine rn_aload_n 4 d_M_isCold_3 rfl rfl ?_
    refine rn_getfield 7 d_M_isCold_4 rfl fd_M_7 rfl rfl ?_
    refine rn_icmp_ge 51 10 d_M_isCold_7 rfl rfl ⟨by omega, by omega⟩ ⟨by omega, by omega⟩ (fun c_7 => ?_) (fun c_7 => ?_)
    · omega
    · refine rn_aload_n 11 d_M_isCold_10 rfl rfl ?_
      refine rn_getfield 14 d_M_isCold_11 rfl fd_M_45 rfl rfl ?_
      refine rn_iload_n 15 d_M_isCold_14 rfl rfl ?_
      refine rn_iaload 16 d_M_isCold_15 rfl rfl (by decide) (by omega) (by omega) ?_
      refine rn_iload_n 17 d_M_isCold_16 rfl rfl ?_
      refine rn_icmp_ne 45 20 d_M_isCold_17 rfl rfl ⟨by omega, by omega⟩ hc (fun c_17 => ?_) (fun c_17 => ?_)
      · refine rn_iinc 48 d_M_isCold_45 rfl rfl (by decide) rfl rfl ?_
        refine rn_goto 2 d_M_isCold_48 rfl ?_
        exact ih (i + 1) (by omega) (by omega) (fun b q0 q1 q2 => by
          by_cases hb : b = i
          · subst hb; first | exact absurd q2 c_17 | exact ⟨by omega, c_40⟩
          · exact hj b q0 (by omega) q2)
      · refine rn_aload_n 21 d_M_isCold_20 rfl rfl ?_
        refine rn_getfield 24 d_M_isCold_21 rfl fd_M_39 rfl rfl ?_
        refine rn_iload_n 25 d_M_isCold_24 rfl rfl ?_
        refine rn_iaload 26 d_M_isCold_25 rfl rfl (by decide) (by omega) (by omega) ?_
        refine rn_if_gt 43 29 d_M_isCold_26 rfl rfl ⟨by omega, by omega⟩ (fun c_26 => ?_) (fun c_26 => ?_)
        · refine rn_iconst 44 d_M_isCold_43 rfl ?_
          rw [bz_f (fun q => by have := hQ.mp q i h0 (by omega) c_17; omega)] at hΦ
          exact rn_ireturn d_M_isCold_44 (Or.inr ⟨rfl, Or.inl rfl⟩) hΦ
        · refine rn_iload_n 30 d_M_isCold_29 rfl rfl ?_
          refine rn_aload_n 31 d_M_isCold_30 rfl rfl ?_
          refine rn_aload_n 32 d_M_isCold_31 rfl rfl ?_
          refine rn_getfield 35 d_M_isCold_32 rfl fd_M_26 rfl rfl ?_
          refine rn_iload_n 36 d_M_isCold_35 rfl rfl ?_
          refine rn_iaload 37 d_M_isCold_36 rfl rfl (by decide) (by omega) (by omega) ?_
          refine rn_callV1 40 d_M_isCold_37 rfl cw_M_88 rfl (Nat.le_of_ble_eq_true rfl) (ev_M_entry hn (fun b q0 q1 => (hB b q0 q1).1) h3 h4) ?_
          rintro _ _ ⟨rfl, rfl⟩
          refine rn_icmp_ne 45 43 d_M_isCold_40 rfl rfl ⟨by omega, by omega⟩ ⟨by omega, by omega⟩ (fun c_40 => ?_) (fun c_40 => ?_)
          · refine rn_iinc 48 d_M_isCold_45 rfl rfl (by decide) rfl rfl ?_
            refine rn_goto 2 d_M_isCold_48 rfl ?_
            exact ih (i + 1) (by omega) (by omega) (fun b q0 q1 q2 => by
              by_cases hb : b = i
              · subst hb; first | exact absurd q2 c_17 | exact ⟨by omega, c_40⟩
              · exact hj b q0 (by omega) q2)
          · refine rn_iconst 44 d_M_isCold_43 rfl ?_
            rw [bz_f (fun q => by have := hQ.mp q i h0 (by omega) c_17; omega)] at hΦ
            exact rn_ireturn d_M_isCold_44 (Or.inr ⟨rfl, Or.inl rfl⟩) hΦ
set_option maxRecDepth 100000 in
set_option maxHeartbeats 400000 in
theorem ev_M_isCold {sc : av_sc} {d : Nat} {σ : av_S} {c : Int} {en : Int → Int} {Q : Prop} [Decidable Q] (hI : iM σ) (hCH : ∀ b, 0 ≤ b → b < σ 26 1 → 0 ≤ σ 33 b ∧ σ 33 b < 24) (hEN : ∀ f, 0 ≤ f → f ≤ 3 → iEM σ f (en f)) (hc : av_in c) (hQ : Q ↔ ∀ b, 0 ≤ b → b < σ 26 1 → σ 33 b = c → ¬ 0 < σ 31 b ∧ b ≠ en (σ 27 b)) : av_Ev sc m_M_isCold (d + 1) false 0 0 [vR 26, vI c] (hp σ) (fun r h => r = some (vI (bz Q)) ∧ h = hp σ) := by
  obtain ⟨hn, hB, hc31, hc32, hlo, hrg⟩ := id hI
  refine av_ev rfl rfl (Nat.le_of_ble_eq_true rfl) rfl ?_
  refine rn_iconst 1 d_M_isCold_0 rfl ?_
  refine rn_istore_n 2 d_M_isCold_1 rfl (by decide) rfl rfl ?_
  exact coldM_loop hI hCH hEN hc hQ ⟨rfl, rfl⟩ (σ 26 1).toNat 0 (by omega) (by omega) (fun b q0 q1 => by omega)
def suM (σ : av_S) (c w : Int) (k : Nat) : Int := sm (fun b => if σ 33 b = c then (if w = 0 then σ 28 b else σ 31 b) else 0) k
set_option maxRecDepth 100000 in
set_option maxHeartbeats 400000 in
theorem sum_loop {sc : av_sc} {d n0 bc bs : Nat} {al : Bool} {σ : av_S} {c w : Int} {Φ : Option av_V → av_H → Prop} (hI : iM σ) (hCH : ∀ b, 0 ≤ b → b < σ 26 1 → 0 ≤ σ 33 b ∧ σ 33 b < 24) (hc : av_in c) (hw : w = 0 ∨ w = 1) (hΦ : Φ (some (vG (suM σ c w (σ 26 1).toNat))) (hp σ)) :
    ∀ (z k : Nat), (k : Int) + (z : Int) = σ 26 1 → av_Rn sc m_M_sum d al n0 bc bs 5 [some (vR 26), some (vI c), some (vI w), some (vG (suM σ c w k)), none, some (vI (k : Int))] [] (hp σ) Φ := by
  obtain ⟨hn, hB, hc31, hc32, hlo, hrg⟩ := id hI
  intro z
  induction z with
  | zero =>
    intro k hk
    obtain rfl : k = (σ 26 1).toNat := by omega
    refine rn_iload 7 d_M_sum_5 rfl rfl ?_
    refine rn_aload_n 8 d_M_sum_7 rfl rfl ?_
    refine rn_getfield 11 d_M_sum_8 rfl fd_M_7 rfl rfl ?_
    refine rn_icmp_ge 57 14 d_M_sum_11 rfl rfl ⟨by omega, by omega⟩ ⟨by omega, by omega⟩ (fun c_11 => ?_) (fun c_11 => ?_)
    · refine rn_lload_n 58 d_M_sum_57 rfl rfl ?_
      exact rn_lreturn d_M_sum_58 rfl hΦ
    · omega
  | succ z ih =>
    intro k hk
    have h1 := hCH (k : Int) (by omega) (by omega)
    have h2 := hc31 (k : Int) (by omega) (by omega)
    have h3 := (hB (k : Int) (by omega) (by omega)).2.1
    have eS : suM σ c w (k + 1) = suM σ c w k + (if σ 33 (k : Int) = c then (if w = 0 then σ 28 (k : Int) else σ 31 (k : Int)) else 0) := rfl
    have X : ∀ s : Int, s = suM σ c w (k + 1) → av_Rn sc m_M_sum d al n0 bc bs 51 [some (vR 26), some (vI c), some (vI w), some (vG s), none, some (vI (k : Int))] [] (hp σ) Φ := by
      intro s es
      subst es
      refine rn_iinc 54 d_M_sum_51 rfl rfl (by decide) rfl rfl ?_
      refine rn_goto 5 d_M_sum_54 rfl ?_
      exact ih (k + 1) (by omega)
    refine rn_iload 7 d_M_sum_5 rfl rfl ?_
    refine rn_aload_n 8 d_M_sum_7 rfl rfl ?_
    refine rn_getfield 11 d_M_sum_8 rfl fd_M_7 rfl rfl ?_
    refine rn_icmp_ge 57 14 d_M_sum_11 rfl rfl ⟨by omega, by omega⟩ ⟨by omega, by omega⟩ (fun c_11 => ?_) (fun c_11 => ?_)
    · omega
    · refine rn_aload_n 15 d_M_sum_14 rfl rfl ?_
      refine rn_getfield 18 d_M_sum_15 rfl fd_M_45 rfl rfl ?_
      refine rn_iload 20 d_M_sum_18 rfl rfl ?_
      refine rn_iaload 21 d_M_sum_20 rfl rfl (by decide) (by omega) (by omega) ?_
      refine rn_iload_n 22 d_M_sum_21 rfl rfl ?_
      refine rn_icmp_ne 51 25 d_M_sum_22 rfl rfl ⟨by omega, by omega⟩ hc (fun c_22 => ?_) (fun c_22 => ?_)
      · exact X _ (by rw [eS]; first | rw [if_pos c_22, if_pos c_27] | rw [if_pos c_22, if_neg c_27] | rw [if_neg c_22, Int.add_zero])
      · refine rn_lload_n 26 d_M_sum_25 rfl rfl ?_
        refine rn_iload_n 27 d_M_sum_26 rfl rfl ?_
        refine rn_if_eq 41 30 d_M_sum_27 rfl rfl ⟨by omega, by omega⟩ (fun c_27 => ?_) (fun c_27 => ?_)
        · refine rn_aload_n 42 d_M_sum_41 rfl rfl ?_
          refine rn_getfield 45 d_M_sum_42 rfl fd_M_30 rfl rfl ?_
          refine rn_iload 47 d_M_sum_45 rfl rfl ?_
          refine rn_iaload 48 d_M_sum_47 rfl rfl (by decide) (by omega) (by omega) ?_
          refine rn_i2l 49 d_M_sum_48 rfl ⟨by omega, by omega⟩ ?_
          refine rn_ladd 50 d_M_sum_49 rfl ?_
          refine rn_lstore_n 51 d_M_sum_50 rfl (by decide) rfl rfl ?_
          exact X _ (by rw [eS]; first | rw [if_pos c_22, if_pos c_27] | rw [if_pos c_22, if_neg c_27] | rw [if_neg c_22, Int.add_zero])
        · refine rn_aload_n 31 d_M_sum_30 rfl rfl ?_
          refine rn_getfield 34 d_M_sum_31 rfl fd_M_39 rfl rfl ?_
          refine rn_iload 36 d_M_sum_34 rfl rfl ?_
          refine rn_iaload 37 d_M_sum_36 rfl rfl (by decide) (by omega) (by omega) ?_
          refine rn_i2l 38 d_M_sum_37 rfl ⟨by omega, by omega⟩ ?_
          refine rn_goto 49 d_M_sum_38 rfl ?_
          refine rn_ladd 50 d_M_sum_49 rfl ?_
          refine rn_lstore_n 51 d_M_sum_50 rfl (by decide) rfl rfl ?_
          exact X _ (by rw [eS]; first | rw [if_pos c_22, if_pos c_27] | rw [if_pos c_22, if_neg c_27] | rw [if_neg c_22, Int.add_zero])
set_option maxRecDepth 100000 in
set_option maxHeartbeats 400000 in
theorem ev_M_sum {sc : av_sc} {d : Nat} {σ : av_S} {c w : Int} (hI : iM σ) (hCH : ∀ b, 0 ≤ b → b < σ 26 1 → 0 ≤ σ 33 b ∧ σ 33 b < 24) (hc : av_in c) (hw : w = 0 ∨ w = 1) : av_Ev sc m_M_sum (d) false 0 0 [vR 26, vI c, vI w] (hp σ) (fun r h => r = some (vG (suM σ c w (σ 26 1).toNat)) ∧ h = hp σ) := by
  obtain ⟨hn, hB, hc31, hc32, hlo, hrg⟩ := id hI
  refine av_ev rfl rfl (Nat.le_of_ble_eq_true rfl) rfl ?_
  refine rn_lconst0 1 d_M_sum_0 rfl ?_
  refine rn_lstore_n 2 d_M_sum_1 rfl (by decide) rfl rfl ?_
  refine rn_iconst 3 d_M_sum_2 rfl ?_
  refine rn_istore 5 d_M_sum_3 rfl (by decide) rfl rfl ?_
  exact sum_loop hI hCH hc hw ⟨rfl, rfl⟩ (σ 26 1).toNat 0 (by omega)
