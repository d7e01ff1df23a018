/-- A holds just the numbers below e of which P holds, in the order Rl -/
def iS (P : Int → Prop) (Rl : Int → Int → Prop) (A : Int → Int) (m e : Int) : Prop := (∀ i, 0 ≤ i → i < m → (0 ≤ A i ∧ A i < e) ∧ P (A i)) ∧ (∀ q, 0 ≤ q → q < e → P q → ∃ i, 0 ≤ i ∧ i < m ∧ A i = q) ∧ (∀ i j, 0 ≤ i → i < j → j < m → Rl (A i) (A j)) ∧ 0 ≤ m ∧ m ≤ e
theorem iS_skip {P : Int → Prop} {Rl : Int → Int → Prop} {A : Int → Int} {m e : Int} (h : iS P Rl A m e) (hP : ¬ P e) : iS P Rl A m (e + 1) := by
  obtain ⟨h1, h2, h3, h4, h5⟩ := h
  refine ⟨fun i a b => ⟨⟨(h1 i a b).1.1, by have := (h1 i a b).1.2; omega⟩, (h1 i a b).2⟩, fun q a b c => ?_, h3, h4, by omega⟩
  by_cases hq : q = e
  · subst hq; exact absurd c hP
  · exact h2 q a (by omega) c
theorem iS_ins {P : Int → Prop} {Rl : Int → Int → Prop} {A B : Int → Int} {m e k : Int} (h : iS P Rl A m e) (he : 0 ≤ e) (hP : P e) (hk : 0 ≤ k ∧ k ≤ m) (hsh : ∀ i, k ≤ i → i < m → Rl e (A i)) (hst : ∀ i, 0 ≤ i → i < k → Rl (A i) e) (e1 : ∀ i, 0 ≤ i → i < k → B i = A i) (e2 : B k = e) (e3 : ∀ i, k < i → i ≤ m → B i = A (i - 1)) : iS P Rl B (m + 1) (e + 1) := by
  obtain ⟨h1, h2, h3, h4, h5⟩ := h
  have hm := ins_mem hk e1 e2 e3
  refine ⟨fun i a b => ?_, fun q a b c => ?_, ins_sorted hk h3 hsh hst e1 e2 e3, by omega, by omega⟩
  · rcases (hm (B i)).mp ⟨i, a, b, rfl⟩ with z | ⟨j, z1, z2, z3⟩
    · rw [z]; exact ⟨⟨he, by omega⟩, hP⟩
    · rw [← z3]; exact ⟨⟨(h1 j z1 z2).1.1, by have := (h1 j z1 z2).1.2; omega⟩, (h1 j z1 z2).2⟩
  · refine (hm q).mpr ?_
    by_cases hq : q = e
    · exact Or.inl hq
    · exact Or.inr (h2 q a (by omega) c)
set_option maxRecDepth 100000 in
set_option maxHeartbeats 400000 in
theorem insH_loop {sc : av_sc} {d n0 bc bs : Nat} {al : Bool} {σ : av_S} {OR ED FI BE HS BS : Int → Int} {Co : Int} {A : Int → Int} {m e : Int} {Φ : Option av_V → av_H → Prop} (hn : 0 ≤ σ 1 5 ∧ σ 1 5 ≤ 24) (hF : ∀ b, 0 ≤ b → b < σ 1 5 → 0 ≤ σ 2 b ∧ σ 2 b ≤ 3) (hT : ∀ f, 0 ≤ f → f < 4 → -1 ≤ σ 6 f ∧ σ 6 f < 24) (hH : ∀ b, 0 ≤ b → b < σ 1 5 → 0 ≤ HS b ∧ HS b ≤ 24000000) (hS : ∀ b, 0 ≤ b → b < σ 1 5 → 0 ≤ BS b ∧ BS b ≤ 960) (hA : ∀ i, 0 ≤ i → i < m → 0 ≤ A i ∧ A i < σ 1 5) (he : 0 ≤ e ∧ e < σ 1 5) (hm : 0 ≤ m ∧ m < 24)
    (hΦ : ∀ (B : Int → Int) (k : Int), 0 ≤ k → k ≤ m → (∀ i, 0 ≤ i → i < k → B i = A i) → (∀ i, k < i → i ≤ m → B i = A (i - 1)) → (∀ i, k ≤ i → i < m → cbf σ HS BS e (A i)) → (0 < k → ¬ cbf σ HS BS e (A (k - 1))) → av_Rn sc m_P_sortHeads (d + 3) al n0 bc bs 71 [some (vR 13), some (vR 1), some (vI e), some (vI k)] [] (hp (pS σ OR ED B FI BE HS BS m Co)) Φ) :
    ∀ (z : Nat) (k : Int) (B : Int → Int), (z : Int) = k → k ≤ m → (∀ i, 0 ≤ i → i < k → B i = A i) → (∀ i, k < i → i ≤ m → B i = A (i - 1)) → (∀ i, k ≤ i → i < m → cbf σ HS BS e (A i)) → av_Rn sc m_P_sortHeads (d + 3) al n0 bc bs 30 [some (vR 13), some (vR 1), some (vI e), some (vI k)] [] (hp (pS σ OR ED B FI BE HS BS m Co)) Φ := by
  intro z
  induction z with
  | zero =>
    intro k B hz hk h1 h2 h3
    obtain rfl : k = 0 := by omega
    refine rn_iload_n 31 d_P_sortHeads_30 rfl rfl ?_
    refine rn_if_le 71 34 d_P_sortHeads_31 rfl rfl ⟨by omega, by omega⟩ (fun c_31 => ?_) (fun c_31 => ?_)
    · exact hΦ B 0 (by omega) hk h1 h2 h3 (fun q => by omega)
    · omega
  | succ z ih =>
    intro k B hz hk h1 h2 h3
    have eA : B (k - 1) = A (k - 1) := h1 (k - 1) (by omega) (by omega)
    have hAk := hA (k - 1) (by omega) (by omega)
    refine rn_iload_n 31 d_P_sortHeads_30 rfl rfl ?_
    refine rn_if_le 71 34 d_P_sortHeads_31 rfl rfl ⟨by omega, by omega⟩ (fun c_31 => ?_) (fun c_31 => ?_)
    · omega
    · refine rn_aload_n 35 d_P_sortHeads_34 rfl rfl ?_
      refine rn_aload_n 36 d_P_sortHeads_35 rfl rfl ?_
      refine rn_iload_n 37 d_P_sortHeads_36 rfl rfl ?_
      refine rn_aload_n 38 d_P_sortHeads_37 rfl rfl ?_
      refine rn_getfield 41 d_P_sortHeads_38 rfl fd_P_25 rfl rfl ?_
      refine rn_iload_n 42 d_P_sortHeads_41 rfl rfl ?_
      refine rn_iconst 43 d_P_sortHeads_42 rfl ?_
      refine rn_isub 44 d_P_sortHeads_43 rfl ?_
      refine rn_iaload 45 d_P_sortHeads_44 rfl rfl (by decide) (by omega) (by omega) ?_
      rw [show (pS σ OR ED B FI BE HS BS m Co) 16 (k - 1) = B (k - 1) from rfl]
      rw [eA]
      refine rn_callV3 48 d_P_sortHeads_45 rfl cw_P_89 rfl (Nat.le_of_ble_eq_true rfl) (ev_P_comesBefore hn hF hT hH hS he hAk) ?_
      rintro _ _ ⟨rfl, rfl⟩
      refine rn_ifB_eq 71 51 d_P_sortHeads_48 rfl rfl (fun c_48 => ?_) (fun c_48 => ?_)
      · exact hΦ B k (by omega) hk h1 h2 h3 (fun _ => c_48)
      · refine rn_aload_n 52 d_P_sortHeads_51 rfl rfl ?_
        refine rn_getfield 55 d_P_sortHeads_52 rfl fd_P_25 rfl rfl ?_
        refine rn_iload_n 56 d_P_sortHeads_55 rfl rfl ?_
        refine rn_aload_n 57 d_P_sortHeads_56 rfl rfl ?_
        refine rn_getfield 60 d_P_sortHeads_57 rfl fd_P_25 rfl rfl ?_
        refine rn_iload_n 61 d_P_sortHeads_60 rfl rfl ?_
        refine rn_iconst 62 d_P_sortHeads_61 rfl ?_
        refine rn_isub 63 d_P_sortHeads_62 rfl ?_
        refine rn_iaload 64 d_P_sortHeads_63 rfl rfl (by decide) (by omega) (by omega) ?_
        rw [show (pS σ OR ED B FI BE HS BS m Co) 16 (k - 1) = B (k - 1) from rfl]
        refine rn_iastore 65 d_P_sortHeads_64 rfl rfl (by decide) (by omega) (by omega) (hs_16 _ _) ?_
        change av_Rn _ _ _ _ _ _ _ _ _ _ (hp (pS σ OR ED (uI B k (B (k - 1))) FI BE HS BS m Co)) _
        refine rn_iinc 68 d_P_sortHeads_65 rfl rfl (by decide) rfl rfl ?_
        refine rn_goto 30 d_P_sortHeads_68 rfl ?_
        have ek : k + -1 = k - 1 := by omega
        rw [ek]
        refine ih (k - 1) (uI B k (B (k - 1))) (by omega) (by omega) (fun i q0 q1 => ?_) (fun i q0 q1 => ?_) (fun i q0 q1 => ?_)
        · rw [uI_n _ _ (by omega)]; exact h1 i q0 (by omega)
        · by_cases hi : i = k
          · rw [hi, uI_s, eA]
          · rw [uI_n _ _ hi]; exact h2 i (by omega) q1
        · by_cases hi : i = k - 1
          · rw [hi]; exact c_48
          · exact h3 i (by omega) q1
set_option maxRecDepth 100000 in
set_option maxHeartbeats 400000 in
theorem sortH_loop {sc : av_sc} {d n0 bc bs : Nat} {al : Bool} {σ : av_S} {OR ED FI BE HS BS : Int → Int} {Co : Int} {Φ : Option av_V → av_H → Prop} (hn : 0 ≤ σ 1 5 ∧ σ 1 5 ≤ 24) (hF : ∀ b, 0 ≤ b → b < σ 1 5 → 0 ≤ σ 2 b ∧ σ 2 b ≤ 3) (hT : ∀ f, 0 ≤ f → f < 4 → -1 ≤ σ 6 f ∧ σ 6 f < 24) (hH : ∀ b, 0 ≤ b → b < σ 1 5 → 0 ≤ HS b ∧ HS b ≤ 24000000) (hS : ∀ b, 0 ≤ b → b < σ 1 5 → 0 ≤ BS b ∧ BS b ≤ 960) (hTr : ∀ a b c, (0 ≤ a ∧ a < σ 1 5) → (0 ≤ b ∧ b < σ 1 5) → (0 ≤ c ∧ c < σ 1 5) → cbf σ HS BS a b → cbf σ HS BS b c → cbf σ HS BS a c) (hTo : ∀ a b, (0 ≤ a ∧ a < σ 1 5) → (0 ≤ b ∧ b < σ 1 5) → a ≠ b → ¬ cbf σ HS BS a b → cbf σ HS BS b a) (hFI : ∀ b, 0 ≤ b → b < σ 1 5 → 0 ≤ FI b ∧ FI b < σ 1 5)
    (hΦ : ∀ (A : Int → Int) (m : Int), iS (fun b => FI b = b) (cbf σ HS BS) A m (σ 1 5) → Φ none (hp (pS σ OR ED A FI BE HS BS m Co))) :
    ∀ (z : Nat) (e m : Int) (A : Int → Int), 0 ≤ e → e + (z : Int) = σ 1 5 → iS (fun b => FI b = b) (cbf σ HS BS) A m e → av_Rn sc m_P_sortHeads (d + 3) al n0 bc bs 7 [some (vR 13), some (vR 1), some (vI e), none] [] (hp (pS σ OR ED A FI BE HS BS m Co)) Φ := by
  intro z
  induction z with
  | zero =>
    intro e m A h0 hz hI
    obtain rfl : e = σ 1 5 := by omega
    refine rn_iload_n 8 d_P_sortHeads_7 rfl rfl ?_
    refine rn_aload_n 9 d_P_sortHeads_8 rfl rfl ?_
    refine rn_getfield 12 d_P_sortHeads_9 rfl fd_P_40 rfl rfl ?_
    rw [show (pS σ OR ED A FI BE HS BS m Co) 1 5 = σ 1 5 from rfl]
    refine rn_icmp_ge 94 15 d_P_sortHeads_12 rfl rfl ⟨by omega, by omega⟩ ⟨by omega, by omega⟩ (fun c_12 => ?_) (fun c_12 => ?_)
    · exact rn_return d_P_sortHeads_94 rfl (hΦ A m hI)
    · omega
  | succ z ih =>
    intro e m A h0 hz hI
    have hI4 := hI.2.2.2
    have hfe := hFI e h0 (by omega)
    have X : ∀ (A' : Int → Int) (m' : Int) (k : Option av_V), iS (fun b => FI b = b) (cbf σ HS BS) A' m' (e + 1) → av_Rn sc m_P_sortHeads (d + 3) al n0 bc bs 88 [some (vR 13), some (vR 1), some (vI e), k] [] (hp (pS σ OR ED (A') FI BE HS BS (m') Co)) Φ := by
      intro A' m' k hI'
      refine rn_kill 3 rfl ?_
      refine rn_iinc 91 d_P_sortHeads_88 rfl rfl (by decide) rfl rfl ?_
      refine rn_goto 7 d_P_sortHeads_91 rfl ?_
      exact ih (e + 1) m' A' (by omega) (by omega) hI'
    refine rn_iload_n 8 d_P_sortHeads_7 rfl rfl ?_
    refine rn_aload_n 9 d_P_sortHeads_8 rfl rfl ?_
    refine rn_getfield 12 d_P_sortHeads_9 rfl fd_P_40 rfl rfl ?_
    rw [show (pS σ OR ED A FI BE HS BS m Co) 1 5 = σ 1 5 from rfl]
    refine rn_icmp_ge 94 15 d_P_sortHeads_12 rfl rfl ⟨by omega, by omega⟩ ⟨by omega, by omega⟩ (fun c_12 => ?_) (fun c_12 => ?_)
    · omega
    · refine rn_aload_n 16 d_P_sortHeads_15 rfl rfl ?_
      refine rn_getfield 19 d_P_sortHeads_16 rfl fd_P_28 rfl rfl ?_
      refine rn_iload_n 20 d_P_sortHeads_19 rfl rfl ?_
      refine rn_iaload 21 d_P_sortHeads_20 rfl rfl (by decide) (by omega) (by omega) ?_
      rw [show (pS σ OR ED A FI BE HS BS m Co) 17 e = FI e from rfl]
      refine rn_iload_n 22 d_P_sortHeads_21 rfl rfl ?_
      refine rn_icmp_ne 88 25 d_P_sortHeads_22 rfl rfl ⟨by omega, by omega⟩ ⟨by omega, by omega⟩ (fun c_22 => ?_) (fun c_22 => ?_)
      · exact X A m none (iS_skip hI c_22)
      · refine rn_aload_n 26 d_P_sortHeads_25 rfl rfl ?_
        refine rn_getfield 29 d_P_sortHeads_26 rfl fd_P_15 rfl rfl ?_
        rw [show (pS σ OR ED A FI BE HS BS m Co) 13 1 = m from rfl]
        refine rn_istore_n 30 d_P_sortHeads_29 rfl (by decide) rfl rfl ?_
        refine insH_loop (A := A) hn hF hT hH hS (fun i q0 q1 => ⟨(hI.1 i q0 q1).1.1, by have := (hI.1 i q0 q1).1.2; omega⟩) ⟨by omega, by omega⟩ ⟨by omega, by omega⟩ (fun B k k0 k1 b1 b2 b3 b4 => ?_) m.toNat m A (by omega) (by omega) (fun i _ _ => rfl) (fun i q0 q1 => by omega) (fun i q0 q1 => by omega)
        have hst : ∀ i, 0 ≤ i → i < k → cbf σ HS BS (A i) e := by
          intro i q0 q1
          have z1 := (hI.1 (k - 1) (by omega) (by omega)).1
          have z2 := (hI.1 i q0 (by omega)).1
          have z3 := hTo e (A (k - 1)) ⟨h0, by omega⟩ ⟨z1.1, by omega⟩ (by omega) (b4 (by omega))
          by_cases c : i = k - 1
          · rw [c]; exact z3
          · exact hTr (A i) (A (k - 1)) e ⟨z2.1, by omega⟩ ⟨z1.1, by omega⟩ ⟨h0, by omega⟩ (hI.2.2.1 i (k - 1) q0 (by omega) (by omega)) z3
        refine rn_aload_n 72 d_P_sortHeads_71 rfl rfl ?_
        refine rn_getfield 75 d_P_sortHeads_72 rfl fd_P_25 rfl rfl ?_
        refine rn_iload_n 76 d_P_sortHeads_75 rfl rfl ?_
        refine rn_iload_n 77 d_P_sortHeads_76 rfl rfl ?_
        refine rn_iastore 78 d_P_sortHeads_77 rfl rfl (by decide) (by omega) (by omega) (hs_16 _ _) ?_
        change av_Rn _ _ _ _ _ _ _ _ _ _ (hp (pS σ OR ED (uI B k e) FI BE HS BS m Co)) _
        refine rn_aload_n 79 d_P_sortHeads_78 rfl rfl ?_
        refine rn_dup 80 d_P_sortHeads_79 rfl rfl ?_
        refine rn_getfield 83 d_P_sortHeads_80 rfl fd_P_15 rfl rfl ?_
        rw [show (pS σ OR ED (uI B k e) FI BE HS BS m Co) 13 1 = m from rfl]
        refine rn_iconst 84 d_P_sortHeads_83 rfl ?_
        refine rn_iadd 85 d_P_sortHeads_84 rfl ?_
        refine rn_putfield 88 d_P_sortHeads_85 rfl fp_P_15 rfl (Nat.le_of_ble_eq_true rfl) av_fitI (hs_13_1 _ _) ?_
        change av_Rn _ _ _ _ _ _ _ _ _ _ (hp (pS σ OR ED (uI B k e) FI BE HS BS (m + 1) Co)) _
        exact X (uI B k e) (m + 1) _ (iS_ins hI h0 c_22 ⟨k0, k1⟩ b3 hst (fun i q0 q1 => by rw [uI_n _ _ (by omega)]; exact b1 i q0 q1) (uI_s _ _ _) (fun i q0 q1 => by rw [uI_n _ _ (by omega)]; exact b2 i q0 q1))
set_option maxRecDepth 100000 in
set_option maxHeartbeats 400000 in
theorem ev_P_sortHeads {sc : av_sc} {d : Nat} {σ : av_S} {OR ED HD FI BE HS BS : Int → Int} {Ch Co : Int} (hn : 0 ≤ σ 1 5 ∧ σ 1 5 ≤ 24) (hF : ∀ b, 0 ≤ b → b < σ 1 5 → 0 ≤ σ 2 b ∧ σ 2 b ≤ 3) (hT : ∀ f, 0 ≤ f → f < 4 → -1 ≤ σ 6 f ∧ σ 6 f < 24) (hH : ∀ b, 0 ≤ b → b < σ 1 5 → 0 ≤ HS b ∧ HS b ≤ 24000000) (hS : ∀ b, 0 ≤ b → b < σ 1 5 → 0 ≤ BS b ∧ BS b ≤ 960) (hTr : ∀ a b c, (0 ≤ a ∧ a < σ 1 5) → (0 ≤ b ∧ b < σ 1 5) → (0 ≤ c ∧ c < σ 1 5) → cbf σ HS BS a b → cbf σ HS BS b c → cbf σ HS BS a c) (hTo : ∀ a b, (0 ≤ a ∧ a < σ 1 5) → (0 ≤ b ∧ b < σ 1 5) → a ≠ b → ¬ cbf σ HS BS a b → cbf σ HS BS b a) (hFI : ∀ b, 0 ≤ b → b < σ 1 5 → 0 ≤ FI b ∧ FI b < σ 1 5) : av_Ev sc m_P_sortHeads (d + 3) false 0 0 [vR 13, vR 1] (hp (pS σ OR ED HD FI BE HS BS Ch Co)) (fun r h => r = none ∧ ∃ (A : Int → Int) (m : Int), iS (fun b => FI b = b) (cbf σ HS BS) A m (σ 1 5) ∧ h = hp (pS σ OR ED A FI BE HS BS m Co)) := by
  refine av_ev rfl rfl (Nat.le_of_ble_eq_true rfl) rfl ?_
  refine rn_aload_n 1 d_P_sortHeads_0 rfl rfl ?_
  refine rn_iconst 2 d_P_sortHeads_1 rfl ?_
  refine rn_putfield 5 d_P_sortHeads_2 rfl fp_P_15 rfl (Nat.le_of_ble_eq_true rfl) av_fitI (hs_13_1 _ _) ?_
  refine rn_iconst 6 d_P_sortHeads_5 rfl ?_
  refine rn_istore_n 7 d_P_sortHeads_6 rfl (by decide) rfl rfl ?_
  change av_Rn _ _ _ _ _ _ _ _ _ _ (hp (pS σ OR ED HD FI BE HS BS 0 Co)) _
  exact sortH_loop hn hF hT hH hS hTr hTo hFI (fun A m q => ⟨rfl, A, m, q, rfl⟩) (σ 1 5).toNat 0 0 HD (by omega) (by omega) ⟨fun i q0 q1 => by omega, fun q q0 q1 => by omega, fun i j q0 q1 q2 => by omega, by omega, by omega⟩
theorem sm_le {f : Int → Int} : ∀ (m c : Nat), c ≤ m → (∀ j : Nat, j < m → 0 ≤ f (j : Int)) → sm f c ≤ sm f m := by
  intro m
  induction m with
  | zero => intro c hc _; obtain rfl : c = 0 := by omega
            exact Int.le_refl _
  | succ m ih =>
    intro c hc h
    by_cases e : c = m + 1
    · subst e; exact Int.le_refl _
    · have h1 := ih c (by omega) (fun j hj => h j (by omega))
      have h2 := h m (by omega)
      show sm f c ≤ sm f m + f (m : Int)
      omega
set_option maxRecDepth 100000 in
set_option maxHeartbeats 400000 in
theorem write_in {sc : av_sc} {d n0 bc bs : Nat} {al : Bool} {σ : av_S} {OR ED HD FI BE HS BS TT ln : Int → Int} {m : Nat} {Φ : Option av_V → av_H → Prop} (hn : 0 ≤ σ 1 5 ∧ σ 1 5 ≤ 24) (hln : ∀ c : Nat, c < m → 1 ≤ ln (c : Int)) (hsum : sm ln m = σ 1 5) (hT0 : ∀ c : Nat, c < m → TT (sm ln c) = HD (c : Int)) (hTB : ∀ (c : Nat) (i : Int), c < m → 0 ≤ i → i < ln (c : Int) → (0 ≤ TT (sm ln c + i) ∧ TT (sm ln c + i) < σ 1 5) ∧ BE (TT (sm ln c + i)) = if i + 1 < ln (c : Int) then TT (sm ln c + i + 1) else -1) {c : Nat} (hc : c < m) {cd : Int} (hcd : cd = 0 ∨ cd = 1) {co : Int}
    (hΦ : av_Rn sc m_P_writeOrder (d + 2) al n0 bc bs 94 [some (vR 13), some (vR 1), some (vI (sm ln c + ln (c : Int))), some (vI (c : Int)), some (vI cd), some (vI (-1))] [] (hp (pS σ (fl TT OR (sm ln c + ln (c : Int))) ED HD FI BE HS BS ((m : Int)) (co + (if cd = 1 then ln (c : Int) else 0)))) Φ) :
    ∀ (z : Nat) (i : Int), 0 ≤ i → i + (z : Int) = ln (c : Int) → av_Rn sc m_P_writeOrder (d + 2) al n0 bc bs 38 [some (vR 13), some (vR 1), some (vI (sm ln c + i)), some (vI (c : Int)), some (vI cd), some (vI (if i < ln (c : Int) then TT (sm ln c + i) else -1))] [] (hp (pS σ (fl TT OR (sm ln c + i)) ED HD FI BE HS BS ((m : Int)) (co + (if cd = 1 then i else 0)))) Φ := by
  have hle := sm_le (f := ln) m (c + 1) (by omega) (fun j hj => by have := hln j hj; omega)
  have hle2 : sm ln c + ln (c : Int) ≤ σ 1 5 := by rw [← hsum]; exact hle
  have hs0 : 0 ≤ sm ln c := sm_le (f := ln) c 0 (by omega) (fun j hj => by have := hln j (by omega); omega)
  intro z
  induction z with
  | zero =>
    intro i h0 hz
    obtain rfl : i = ln (c : Int) := by omega
    rw [if_neg (by omega)]
    refine rn_iload 40 d_P_writeOrder_38 rfl rfl ?_
    refine rn_iconst 41 d_P_writeOrder_40 rfl ?_
    refine rn_icmp_eq 94 44 d_P_writeOrder_41 rfl rfl ⟨by omega, by omega⟩ ⟨by omega, by omega⟩ (fun c_41 => ?_) (fun c_41 => ?_)
    · exact hΦ
    · exact absurd rfl c_41
  | succ z ih =>
    intro i h0 hz
    obtain ⟨hb, hbe⟩ := hTB c i hc h0 (by omega)
    rw [if_pos (by omega)]
    refine rn_iload 40 d_P_writeOrder_38 rfl rfl ?_
    refine rn_iconst 41 d_P_writeOrder_40 rfl ?_
    refine rn_icmp_eq 94 44 d_P_writeOrder_41 rfl rfl ⟨by omega, by omega⟩ ⟨by omega, by omega⟩ (fun c_41 => ?_) (fun c_41 => ?_)
    · omega
    · refine rn_iload_n 45 d_P_writeOrder_44 rfl rfl ?_
      refine rn_aload_n 46 d_P_writeOrder_45 rfl rfl ?_
      refine rn_getfield 49 d_P_writeOrder_46 rfl fd_P_40 rfl rfl ?_
      rw [show (pS σ (fl TT OR (sm ln c + i)) ED HD FI BE HS BS ((m : Int)) (co + (if cd = 1 then i else 0))) 1 5 = σ 1 5 from rfl]
      refine rn_icmp_ge 94 52 d_P_writeOrder_49 rfl rfl ⟨by omega, by omega⟩ ⟨by omega, by omega⟩ (fun c_49 => ?_) (fun c_49 => ?_)
      · omega
      · refine rn_aload_n 53 d_P_writeOrder_52 rfl rfl ?_
        refine rn_getfield 56 d_P_writeOrder_53 rfl fd_P_9 rfl rfl ?_
        refine rn_iload_n 57 d_P_writeOrder_56 rfl rfl ?_
        refine rn_iload 59 d_P_writeOrder_57 rfl rfl ?_
        refine rn_iastore 60 d_P_writeOrder_59 rfl rfl (by decide) (by omega) (by omega) (hs_14 _ _) ?_
        change av_Rn _ _ _ _ _ _ _ _ _ _ (hp (pS σ (uI (fl TT OR (sm ln c + i)) (sm ln c + i) (TT (sm ln c + i))) ED HD FI BE HS BS ((m : Int)) (co + (if cd = 1 then i else 0)))) _
        rw [fl_step (by omega) rfl]
        refine rn_iinc 63 d_P_writeOrder_60 rfl rfl (by decide) rfl rfl ?_
        refine rn_aload_n 64 d_P_writeOrder_63 rfl rfl ?_
        refine rn_dup 65 d_P_writeOrder_64 rfl rfl ?_
        refine rn_getfield 68 d_P_writeOrder_65 rfl fd_P_19 rfl rfl ?_
        rw [show (pS σ (fl TT OR (sm ln c + i + 1)) ED HD FI BE HS BS ((m : Int)) (co + (if cd = 1 then i else 0))) 13 2 = co + (if cd = 1 then i else 0) from rfl]
        have J : ∀ w : Int, w = cd → av_Rn sc m_P_writeOrder (d + 2) al n0 bc bs 78 [some (vR 13), some (vR 1), some (vI (sm ln c + i + 1)), some (vI (c : Int)), some (vI cd), some (vI (TT (sm ln c + i)))] [vI w, vI (co + (if cd = 1 then i else 0)), vR 13] (hp (pS σ (fl TT OR (sm ln c + i + 1)) ED HD FI BE HS BS ((m : Int)) (co + (if cd = 1 then i else 0)))) Φ := by
          intro w ew
          subst ew
          have eco : co + (if w = 1 then i else 0) + w = co + (if w = 1 then i + 1 else 0) := by rcases hcd with rfl | rfl <;> simp <;> omega
          refine rn_iadd 79 d_P_writeOrder_78 rfl ?_
          rw [eco]
          refine rn_putfield 82 d_P_writeOrder_79 rfl fp_P_19 rfl (Nat.le_of_ble_eq_true rfl) av_fitI (hs_13_2 _ _) ?_
          change av_Rn _ _ _ _ _ _ _ _ _ _ (hp (pS σ (fl TT OR (sm ln c + i + 1)) ED HD FI BE HS BS ((m : Int)) (co + (if w = 1 then i + 1 else 0)))) _
          refine rn_aload_n 83 d_P_writeOrder_82 rfl rfl ?_
          refine rn_getfield 86 d_P_writeOrder_83 rfl fd_P_31 rfl rfl ?_
          refine rn_iload 88 d_P_writeOrder_86 rfl rfl ?_
          refine rn_iaload 89 d_P_writeOrder_88 rfl rfl (by decide) (by omega) (by omega) ?_
          rw [show (pS σ (fl TT OR (sm ln c + i + 1)) ED HD FI BE HS BS ((m : Int)) (co + (if w = 1 then i + 1 else 0))) 18 (TT (sm ln c + i)) = BE (TT (sm ln c + i)) from rfl]
          rw [hbe]
          refine rn_istore 91 d_P_writeOrder_89 rfl (by decide) rfl rfl ?_
          refine rn_goto 38 d_P_writeOrder_91 rfl ?_
          have L := ih (i + 1) (by omega) (by omega)
          rw [show sm ln c + (i + 1) = sm ln c + i + 1 by omega] at L
          exact L
        refine rn_iload 70 d_P_writeOrder_68 rfl rfl ?_
        refine rn_if_eq 77 73 d_P_writeOrder_70 rfl rfl ⟨by omega, by omega⟩ (fun c_70 => ?_) (fun c_70 => ?_)
        · refine rn_iconst 78 d_P_writeOrder_77 rfl ?_
          exact J _ (by omega)
        · refine rn_iconst 74 d_P_writeOrder_73 rfl ?_
          refine rn_goto 78 d_P_writeOrder_74 rfl ?_
          exact J _ (by omega)
set_option maxRecDepth 100000 in
set_option maxHeartbeats 400000 in
theorem write_out {sc : av_sc} {d n0 bc bs : Nat} {al : Bool} {σ : av_S} {OR ED HD FI BE HS BS TT ln : Int → Int} {m : Nat} {Φ : Option av_V → av_H → Prop} (hn : 0 ≤ σ 1 5 ∧ σ 1 5 ≤ 24) (hln : ∀ c : Nat, c < m → 1 ≤ ln (c : Int)) (hsum : sm ln m = σ 1 5) (hT0 : ∀ c : Nat, c < m → TT (sm ln c) = HD (c : Int)) (hTB : ∀ (c : Nat) (i : Int), c < m → 0 ≤ i → i < ln (c : Int) → (0 ≤ TT (sm ln c + i) ∧ TT (sm ln c + i) < σ 1 5) ∧ BE (TT (sm ln c + i)) = if i + 1 < ln (c : Int) then TT (sm ln c + i + 1) else -1) (hF : ∀ b, 0 ≤ b → b < σ 1 5 → 0 ≤ σ 2 b ∧ σ 2 b ≤ 3) (hT : ∀ f, 0 ≤ f → f < 4 → -1 ≤ σ 6 f ∧ σ 6 f < 24) (hH : ∀ b, 0 ≤ b → b < σ 1 5 → 0 ≤ HS b ∧ HS b ≤ 24000000) (hm : m ≤ 24) (hΦ : Φ none (hp (pS σ (fl TT OR (σ 1 5)) ED HD FI BE HS BS ((m : Int)) (sm (fun c => if cold σ HS (HD c) then ln c else 0) m)))) :
    ∀ (z c : Nat), c + z = m → av_Rn sc m_P_writeOrder (d + 2) al n0 bc bs 9 [some (vR 13), some (vR 1), some (vI (sm ln c)), some (vI (c : Int)), none, none] [] (hp (pS σ (fl TT OR (sm ln c)) ED HD FI BE HS BS ((m : Int)) (sm (fun c => if cold σ HS (HD c) then ln c else 0) c))) Φ := by
  intro z
  induction z with
  | zero =>
    intro c hz
    obtain rfl : c = m := by omega
    rw [hsum]
    refine rn_iload_n 10 d_P_writeOrder_9 rfl rfl ?_
    refine rn_aload_n 11 d_P_writeOrder_10 rfl rfl ?_
    refine rn_getfield 14 d_P_writeOrder_11 rfl fd_P_15 rfl rfl ?_
    rw [show (pS σ (fl TT OR (σ 1 5)) ED HD FI BE HS BS ((c : Int)) (sm (fun c => if cold σ HS (HD c) then ln c else 0) c)) 13 1 = (c : Int) from rfl]
    refine rn_icmp_ge 100 17 d_P_writeOrder_14 rfl rfl ⟨by omega, by omega⟩ ⟨by omega, by omega⟩ (fun c_14 => ?_) (fun c_14 => ?_)
    · exact rn_return d_P_writeOrder_100 rfl hΦ
    · omega
  | succ z ih =>
    intro c hz
    have hl := hln c (by omega)
    have hb0 := (hTB c 0 (by omega) (by omega) (by omega)).1
    rw [Int.add_zero, hT0 c (by omega)] at hb0
    refine rn_iload_n 10 d_P_writeOrder_9 rfl rfl ?_
    refine rn_aload_n 11 d_P_writeOrder_10 rfl rfl ?_
    refine rn_getfield 14 d_P_writeOrder_11 rfl fd_P_15 rfl rfl ?_
    rw [show (pS σ (fl TT OR (sm ln c)) ED HD FI BE HS BS ((m : Int)) (sm (fun c => if cold σ HS (HD c) then ln c else 0) c)) 13 1 = (m : Int) from rfl]
    refine rn_icmp_ge 100 17 d_P_writeOrder_14 rfl rfl ⟨by omega, by omega⟩ ⟨by omega, by omega⟩ (fun c_14 => ?_) (fun c_14 => ?_)
    · omega
    · refine rn_aload_n 18 d_P_writeOrder_17 rfl rfl ?_
      refine rn_aload_n 19 d_P_writeOrder_18 rfl rfl ?_
      refine rn_aload_n 20 d_P_writeOrder_19 rfl rfl ?_
      refine rn_getfield 23 d_P_writeOrder_20 rfl fd_P_25 rfl rfl ?_
      refine rn_iload_n 24 d_P_writeOrder_23 rfl rfl ?_
      refine rn_iaload 25 d_P_writeOrder_24 rfl rfl (by decide) (by omega) (by omega) ?_
      rw [show (pS σ (fl TT OR (sm ln c)) ED HD FI BE HS BS ((m : Int)) (sm (fun c => if cold σ HS (HD c) then ln c else 0) c)) 16 (c : Int) = HD (c : Int) from rfl]
      refine rn_callV2 28 d_P_writeOrder_25 rfl cw_P_93 rfl (Nat.le_of_ble_eq_true rfl) (ev_P_isCold hn hF hT hH hb0) ?_
      rintro _ _ ⟨rfl, rfl⟩
      refine rn_istore 30 d_P_writeOrder_28 rfl (by decide) rfl rfl ?_
      refine rn_aload_n 31 d_P_writeOrder_30 rfl rfl ?_
      refine rn_getfield 34 d_P_writeOrder_31 rfl fd_P_25 rfl rfl ?_
      refine rn_iload_n 35 d_P_writeOrder_34 rfl rfl ?_
      refine rn_iaload 36 d_P_writeOrder_35 rfl rfl (by decide) (by omega) (by omega) ?_
      rw [show (pS σ (fl TT OR (sm ln c)) ED HD FI BE HS BS ((m : Int)) (sm (fun c => if cold σ HS (HD c) then ln c else 0) c)) 16 (c : Int) = HD (c : Int) from rfl]
      refine rn_istore 38 d_P_writeOrder_36 rfl (by decide) rfl rfl ?_
      have L := write_in (sc := sc) (d := d) (n0 := n0) (bc := bc) (bs := bs) (al := al) (OR := OR) (ED := ED) (HD := HD) (FI := FI) (HS := HS) (BS := BS) (Φ := Φ) hn hln hsum hT0 hTB (c := c) (by omega) (cd := bz (cold σ HS (HD (c : Int)))) bz_01 (co := sm (fun c => if cold σ HS (HD c) then ln c else 0) c) ?_ (ln (c : Int)).toNat 0 (by omega) (by omega)
      · rw [if_pos (by omega), Int.add_zero, hT0 c (by omega), ite_self, Int.add_zero] at L
        exact L
      · refine rn_kill 4 rfl ?_
        refine rn_kill 5 rfl ?_
        refine rn_iinc 97 d_P_writeOrder_94 rfl rfl (by decide) rfl rfl ?_
        refine rn_goto 9 d_P_writeOrder_97 rfl ?_
        have e1 : sm (fun c => if cold σ HS (HD c) then ln c else 0) c + (if bz (cold σ HS (HD (c : Int))) = 1 then ln (c : Int) else 0) = sm (fun c => if cold σ HS (HD c) then ln c else 0) (c + 1) := by
          show _ = sm (fun c => if cold σ HS (HD c) then ln c else 0) c + (if cold σ HS (HD (c : Int)) then ln (c : Int) else 0)
          by_cases q : cold σ HS (HD (c : Int))
          · rw [if_pos q, if_pos (bz_t q)]
          · rw [if_neg q, if_neg (by rw [bz_f q]; omega)]
        rw [e1]
        exact ih (c + 1) (by omega)
set_option maxRecDepth 100000 in
set_option maxHeartbeats 400000 in
theorem ev_P_writeOrder {sc : av_sc} {d : Nat} {σ : av_S} {OR ED HD FI BE HS BS TT ln : Int → Int} {m : Nat} {Co : Int} (hn : 0 ≤ σ 1 5 ∧ σ 1 5 ≤ 24) (hln : ∀ c : Nat, c < m → 1 ≤ ln (c : Int)) (hsum : sm ln m = σ 1 5) (hT0 : ∀ c : Nat, c < m → TT (sm ln c) = HD (c : Int)) (hTB : ∀ (c : Nat) (i : Int), c < m → 0 ≤ i → i < ln (c : Int) → (0 ≤ TT (sm ln c + i) ∧ TT (sm ln c + i) < σ 1 5) ∧ BE (TT (sm ln c + i)) = if i + 1 < ln (c : Int) then TT (sm ln c + i + 1) else -1) (hF : ∀ b, 0 ≤ b → b < σ 1 5 → 0 ≤ σ 2 b ∧ σ 2 b ≤ 3) (hT : ∀ f, 0 ≤ f → f < 4 → -1 ≤ σ 6 f ∧ σ 6 f < 24) (hH : ∀ b, 0 ≤ b → b < σ 1 5 → 0 ≤ HS b ∧ HS b ≤ 24000000) (hm : m ≤ 24) : av_Ev sc m_P_writeOrder (d + 2) false 0 0 [vR 13, vR 1] (hp (pS σ OR ED HD FI BE HS BS ((m : Int)) Co)) (fun r h => r = none ∧ h = hp (pS σ (fl TT OR (σ 1 5)) ED HD FI BE HS BS ((m : Int)) (sm (fun c => if cold σ HS (HD c) then ln c else 0) m))) := by
  refine av_ev rfl rfl (Nat.le_of_ble_eq_true rfl) rfl ?_
  refine rn_iconst 1 d_P_writeOrder_0 rfl ?_
  refine rn_istore_n 2 d_P_writeOrder_1 rfl (by decide) rfl rfl ?_
  refine rn_aload_n 3 d_P_writeOrder_2 rfl rfl ?_
  refine rn_iconst 4 d_P_writeOrder_3 rfl ?_
  refine rn_putfield 7 d_P_writeOrder_4 rfl fp_P_19 rfl (Nat.le_of_ble_eq_true rfl) av_fitI (hs_13_2 _ _) ?_
  refine rn_iconst 8 d_P_writeOrder_7 rfl ?_
  refine rn_istore_n 9 d_P_writeOrder_8 rfl (by decide) rfl rfl ?_
  change av_Rn _ _ _ _ _ _ _ _ _ _ (hp (pS σ OR ED HD FI BE HS BS ((m : Int)) (sm (fun c => if cold σ HS (HD c) then ln c else 0) 0))) _
  have L := write_out (sc := sc) (d := d) (n0 := (hp (pS σ OR ED HD FI BE HS BS ((m : Int)) Co)).length) (bc := 0) (bs := 0) (al := false) (OR := OR) (ED := ED) (FI := FI) (BS := BS) (Φ := fun r h => r = none ∧ h = hp (pS σ (fl TT OR (σ 1 5)) ED HD FI BE HS BS ((m : Int)) (sm (fun c => if cold σ HS (HD c) then ln c else 0) m))) hn hln hsum hT0 hTB hF hT hH hm ⟨rfl, rfl⟩ m 0 (by omega)
  rw [show sm ln 0 = 0 from rfl, fl_0] at L
  exact L
