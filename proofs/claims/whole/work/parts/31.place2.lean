set_option maxRecDepth 100000 in
set_option maxHeartbeats 400000 in
theorem join_loop {sc : av_sc} {d n0 bc bs : Nat} {al : Bool} {σ : av_S} {OR ED HD FI BE HS BS : Int → Int} {Ch Co : Int} {x y : Int} {Φ : Option av_V → av_H → Prop} (hn : 0 ≤ σ 1 5 ∧ σ 1 5 ≤ 24) (hFI : ∀ b, 0 ≤ b → b < σ 1 5 → 0 ≤ FI b ∧ FI b < σ 1 5) (hy : 0 ≤ y ∧ y < σ 1 5) (hΦ : Φ none (hp (pS σ OR ED HD (fl (fun j => if FI j = y then FI x else FI j) FI (σ 1 5)) (uI BE x y) (uI HS (FI x) (HS (FI x) + HS y)) (uI BS (FI x) (BS (FI x) + BS y)) Ch Co))) :
    ∀ (m : Nat) (k : Int), 0 ≤ k → k + (m : Int) = σ 1 5 → av_Rn sc m_P_joinAlong d al n0 bc bs 85 [some (vR 13), some (vR 1), some (vI x), some (vI y), some (vI (FI x)), some (vI k)] [] (hp (pS σ OR ED HD (fl (fun j => if FI j = y then FI x else FI j) FI k) (uI BE x y) (uI HS (FI x) (HS (FI x) + HS y)) (uI BS (FI x) (BS (FI x) + BS y)) Ch Co)) Φ := by
  intro m
  induction m with
  | zero =>
    intro k h0 hk
    obtain rfl : k = σ 1 5 := by omega
    refine rn_iload 87 d_P_joinAlong_85 rfl rfl ?_
    refine rn_aload_n 88 d_P_joinAlong_87 rfl rfl ?_
    refine rn_getfield 91 d_P_joinAlong_88 rfl fd_P_40 rfl rfl ?_
    rw [show (pS σ OR ED HD (fl (fun j => if FI j = y then FI x else FI j) FI (σ 1 5)) (uI BE x y) (uI HS (FI x) (HS (FI x) + HS y)) (uI BS (FI x) (BS (FI x) + BS y)) Ch Co) 1 5 = σ 1 5 from rfl]
    refine rn_icmp_ge 120 94 d_P_joinAlong_91 rfl rfl ⟨by omega, by omega⟩ ⟨by omega, by omega⟩ (fun c_91 => ?_) (fun c_91 => ?_)
    · exact rn_return d_P_joinAlong_120 rfl hΦ
    · omega
  | succ m ih =>
    intro k h0 hk
    have hk1 := hFI k h0 (by omega)
    refine rn_iload 87 d_P_joinAlong_85 rfl rfl ?_
    refine rn_aload_n 88 d_P_joinAlong_87 rfl rfl ?_
    refine rn_getfield 91 d_P_joinAlong_88 rfl fd_P_40 rfl rfl ?_
    rw [show (pS σ OR ED HD (fl (fun j => if FI j = y then FI x else FI j) FI k) (uI BE x y) (uI HS (FI x) (HS (FI x) + HS y)) (uI BS (FI x) (BS (FI x) + BS y)) Ch Co) 1 5 = σ 1 5 from rfl]
    refine rn_icmp_ge 120 94 d_P_joinAlong_91 rfl rfl ⟨by omega, by omega⟩ ⟨by omega, by omega⟩ (fun c_91 => ?_) (fun c_91 => ?_)
    · omega
    · refine rn_aload_n 95 d_P_joinAlong_94 rfl rfl ?_
      refine rn_getfield 98 d_P_joinAlong_95 rfl fd_P_28 rfl rfl ?_
      refine rn_iload 100 d_P_joinAlong_98 rfl rfl ?_
      refine rn_iaload 101 d_P_joinAlong_100 rfl rfl (by decide) (by omega) (by omega) ?_
      rw [show (pS σ OR ED HD (fl (fun j => if FI j = y then FI x else FI j) FI k) (uI BE x y) (uI HS (FI x) (HS (FI x) + HS y)) (uI BS (FI x) (BS (FI x) + BS y)) Ch Co) 17 k = fl (fun j => if FI j = y then FI x else FI j) FI k k from rfl]
      rw [fl_at]
      refine rn_iload_n 102 d_P_joinAlong_101 rfl rfl ?_
      refine rn_icmp_ne 114 105 d_P_joinAlong_102 rfl rfl ⟨by omega, by omega⟩ ⟨by omega, by omega⟩ (fun c_102 => ?_) (fun c_102 => ?_)
      · first
          | (rw [fl_skip (g := (fun j => if FI j = y then FI x else FI j)) (f := FI) (k := k) h0 (if_neg c_102)]
             refine rn_iinc 117 d_P_joinAlong_114 rfl rfl (by decide) rfl rfl ?_
             refine rn_goto 85 d_P_joinAlong_117 rfl ?_
             exact ih (k + 1) (by omega) (by omega))
          | (change av_Rn _ _ _ _ _ _ _ _ _ _ (hp (pS σ OR ED HD (uI (fl (fun j => if FI j = y then FI x else FI j) FI k) k (FI x)) (uI BE x y) (uI HS (FI x) (HS (FI x) + HS y)) (uI BS (FI x) (BS (FI x) + BS y)) Ch Co)) _
             rw [fl_step (g := (fun j => if FI j = y then FI x else FI j)) (f := FI) (k := k) (z := FI x) h0 (if_pos c_102).symm]
             refine rn_iinc 117 d_P_joinAlong_114 rfl rfl (by decide) rfl rfl ?_
             refine rn_goto 85 d_P_joinAlong_117 rfl ?_
             exact ih (k + 1) (by omega) (by omega))
      · refine rn_aload_n 106 d_P_joinAlong_105 rfl rfl ?_
        refine rn_getfield 109 d_P_joinAlong_106 rfl fd_P_28 rfl rfl ?_
        refine rn_iload 111 d_P_joinAlong_109 rfl rfl ?_
        refine rn_iload 113 d_P_joinAlong_111 rfl rfl ?_
        refine rn_iastore 114 d_P_joinAlong_113 rfl rfl (by decide) (by omega) (by omega) (hs_17 _ _) ?_
        first
          | (rw [fl_skip (g := (fun j => if FI j = y then FI x else FI j)) (f := FI) (k := k) h0 (if_neg c_102)]
             refine rn_iinc 117 d_P_joinAlong_114 rfl rfl (by decide) rfl rfl ?_
             refine rn_goto 85 d_P_joinAlong_117 rfl ?_
             exact ih (k + 1) (by omega) (by omega))
          | (change av_Rn _ _ _ _ _ _ _ _ _ _ (hp (pS σ OR ED HD (uI (fl (fun j => if FI j = y then FI x else FI j) FI k) k (FI x)) (uI BE x y) (uI HS (FI x) (HS (FI x) + HS y)) (uI BS (FI x) (BS (FI x) + BS y)) Ch Co)) _
             rw [fl_step (g := (fun j => if FI j = y then FI x else FI j)) (f := FI) (k := k) (z := FI x) h0 (if_pos c_102).symm]
             refine rn_iinc 117 d_P_joinAlong_114 rfl rfl (by decide) rfl rfl ?_
             refine rn_goto 85 d_P_joinAlong_117 rfl ?_
             exact ih (k + 1) (by omega) (by omega))
set_option maxRecDepth 100000 in
set_option maxHeartbeats 400000 in
theorem ev_P_joinAlong {sc : av_sc} {d : Nat} {σ : av_S} {OR ED HD FI BE HS BS : Int → Int} {Ch Co : Int} {x y : Int} (hn : 0 ≤ σ 1 5 ∧ σ 1 5 ≤ 24) (hFI : ∀ b, 0 ≤ b → b < σ 1 5 → 0 ≤ FI b ∧ FI b < σ 1 5) (hBE : ∀ b, 0 ≤ b → b < σ 1 5 → -1 ≤ BE b ∧ BE b < 24) (hF : ∀ b, 0 ≤ b → b < σ 1 5 → 0 ≤ σ 2 b ∧ σ 2 b ≤ 3) (hT : ∀ f, 0 ≤ f → f < 4 → -1 ≤ σ 6 f ∧ σ 6 f < 24) (hx : 0 ≤ x ∧ x < σ 1 5) (hy : 0 ≤ y ∧ y < σ 1 5) : av_Ev sc m_P_joinAlong (d + 1) false 0 0 [vR 13, vR 1, vI x, vI y] (hp (pS σ OR ED HD FI BE HS BS Ch Co)) (fun r h => r = none ∧ ((¬ (BE x = -1 ∧ FI y = y ∧ FI x ≠ y ∧ ¬ isE σ y) ∧ h = hp (pS σ OR ED HD FI BE HS BS Ch Co)) ∨ ((BE x = -1 ∧ FI y = y ∧ FI x ≠ y ∧ ¬ isE σ y) ∧ h = hp (pS σ OR ED HD (fl (fun j => if FI j = y then FI x else FI j) FI (σ 1 5)) (uI BE x y) (uI HS (FI x) (HS (FI x) + HS y)) (uI BS (FI x) (BS (FI x) + BS y)) Ch Co)))) := by
  have f1 := hFI x hx.1 hx.2
  have f2 := hFI y hy.1 hy.2
  have b1 := hBE x hx.1 hx.2
  have hFy := hF y hy.1 hy.2
  have hTy := hT (σ 2 y) hFy.1 (by omega)
  refine av_ev rfl rfl (Nat.le_of_ble_eq_true rfl) rfl ?_
  refine rn_aload_n 1 d_P_joinAlong_0 rfl rfl ?_
  refine rn_getfield 4 d_P_joinAlong_1 rfl fd_P_28 rfl rfl ?_
  refine rn_iload_n 5 d_P_joinAlong_4 rfl rfl ?_
  refine rn_iaload 6 d_P_joinAlong_5 rfl rfl (by decide) (by omega) (by omega) ?_
  rw [show (pS σ OR ED HD FI BE HS BS Ch Co) 17 x = FI x from rfl]
  refine rn_istore 8 d_P_joinAlong_6 rfl (by decide) rfl rfl ?_
  refine rn_aload_n 9 d_P_joinAlong_8 rfl rfl ?_
  refine rn_getfield 12 d_P_joinAlong_9 rfl fd_P_31 rfl rfl ?_
  refine rn_iload_n 13 d_P_joinAlong_12 rfl rfl ?_
  refine rn_iaload 14 d_P_joinAlong_13 rfl rfl (by decide) (by omega) (by omega) ?_
  rw [show (pS σ OR ED HD FI BE HS BS Ch Co) 18 x = BE x from rfl]
  refine rn_iconst 15 d_P_joinAlong_14 rfl ?_
  refine rn_icmp_ne 42 18 d_P_joinAlong_15 rfl rfl ⟨by omega, by omega⟩ ⟨by omega, by omega⟩ (fun c_15 => ?_) (fun c_15 => ?_)
  · exact rn_return d_P_joinAlong_42 rfl ⟨rfl, Or.inl ⟨(by intro z; first | (exact c_15 z.1) | (exact c_25 z.2.1) | (exact z.2.2.1 c_31) | (exact z.2.2.2 c_39)), rfl⟩⟩
  · refine rn_aload_n 19 d_P_joinAlong_18 rfl rfl ?_
    refine rn_getfield 22 d_P_joinAlong_19 rfl fd_P_28 rfl rfl ?_
    refine rn_iload_n 23 d_P_joinAlong_22 rfl rfl ?_
    refine rn_iaload 24 d_P_joinAlong_23 rfl rfl (by decide) (by omega) (by omega) ?_
    rw [show (pS σ OR ED HD FI BE HS BS Ch Co) 17 y = FI y from rfl]
    refine rn_iload_n 25 d_P_joinAlong_24 rfl rfl ?_
    refine rn_icmp_ne 42 28 d_P_joinAlong_25 rfl rfl ⟨by omega, by omega⟩ ⟨by omega, by omega⟩ (fun c_25 => ?_) (fun c_25 => ?_)
    · exact rn_return d_P_joinAlong_42 rfl ⟨rfl, Or.inl ⟨(by intro z; first | (exact c_15 z.1) | (exact c_25 z.2.1) | (exact z.2.2.1 c_31) | (exact z.2.2.2 c_39)), rfl⟩⟩
    · refine rn_iload 30 d_P_joinAlong_28 rfl rfl ?_
      refine rn_iload_n 31 d_P_joinAlong_30 rfl rfl ?_
      refine rn_icmp_eq 42 34 d_P_joinAlong_31 rfl rfl ⟨by omega, by omega⟩ ⟨by omega, by omega⟩ (fun c_31 => ?_) (fun c_31 => ?_)
      · exact rn_return d_P_joinAlong_42 rfl ⟨rfl, Or.inl ⟨(by intro z; first | (exact c_15 z.1) | (exact c_25 z.2.1) | (exact z.2.2.1 c_31) | (exact z.2.2.2 c_39)), rfl⟩⟩
      · refine rn_aload_n 35 d_P_joinAlong_34 rfl rfl ?_
        refine rn_iload_n 36 d_P_joinAlong_35 rfl rfl ?_
        refine rn_callV1 39 d_P_joinAlong_36 rfl cw_P_85 rfl (Nat.le_of_ble_eq_true rfl) (ev_GE ⟨by omega, by omega⟩ hFy hTy) ?_
        rintro _ _ ⟨rfl, rfl⟩
        refine rn_ifB_eq 43 42 d_P_joinAlong_39 rfl rfl (fun c_39 => ?_) (fun c_39 => ?_)
        · refine rn_aload_n 44 d_P_joinAlong_43 rfl rfl ?_
          refine rn_getfield 47 d_P_joinAlong_44 rfl fd_P_31 rfl rfl ?_
          refine rn_iload_n 48 d_P_joinAlong_47 rfl rfl ?_
          refine rn_iload_n 49 d_P_joinAlong_48 rfl rfl ?_
          refine rn_iastore 50 d_P_joinAlong_49 rfl rfl (by decide) (by omega) (by omega) (hs_18 _ _) ?_
          refine rn_aload_n 51 d_P_joinAlong_50 rfl rfl ?_
          refine rn_getfield 54 d_P_joinAlong_51 rfl fd_P_34 rfl rfl ?_
          refine rn_iload 56 d_P_joinAlong_54 rfl rfl ?_
          refine rn_dup2 57 d_P_joinAlong_56 rfl rfl rfl ?_
          refine rn_iaload 58 d_P_joinAlong_57 rfl rfl (by decide) (by omega) (by omega) ?_
          refine rn_aload_n 59 d_P_joinAlong_58 rfl rfl ?_
          refine rn_getfield 62 d_P_joinAlong_59 rfl fd_P_34 rfl rfl ?_
          refine rn_iload_n 63 d_P_joinAlong_62 rfl rfl ?_
          refine rn_iaload 64 d_P_joinAlong_63 rfl rfl (by decide) (by omega) (by omega) ?_
          refine rn_iadd 65 d_P_joinAlong_64 rfl ?_
          refine rn_iastore 66 d_P_joinAlong_65 rfl rfl (by decide) (by omega) (by omega) (hs_19 _ _) ?_
          refine rn_aload_n 67 d_P_joinAlong_66 rfl rfl ?_
          refine rn_getfield 70 d_P_joinAlong_67 rfl fd_P_37 rfl rfl ?_
          refine rn_iload 72 d_P_joinAlong_70 rfl rfl ?_
          refine rn_dup2 73 d_P_joinAlong_72 rfl rfl rfl ?_
          refine rn_iaload 74 d_P_joinAlong_73 rfl rfl (by decide) (by omega) (by omega) ?_
          refine rn_aload_n 75 d_P_joinAlong_74 rfl rfl ?_
          refine rn_getfield 78 d_P_joinAlong_75 rfl fd_P_37 rfl rfl ?_
          refine rn_iload_n 79 d_P_joinAlong_78 rfl rfl ?_
          refine rn_iaload 80 d_P_joinAlong_79 rfl rfl (by decide) (by omega) (by omega) ?_
          refine rn_iadd 81 d_P_joinAlong_80 rfl ?_
          refine rn_iastore 82 d_P_joinAlong_81 rfl rfl (by decide) (by omega) (by omega) (hs_20 _ _) ?_
          refine rn_iconst 83 d_P_joinAlong_82 rfl ?_
          refine rn_istore 85 d_P_joinAlong_83 rfl (by decide) rfl rfl ?_
          change av_Rn _ _ _ _ _ _ _ _ _ _ (hp (pS σ OR ED HD FI (uI BE x y) (uI HS (FI x) (HS (FI x) + HS y)) (uI BS (FI x) (BS (FI x) + BS y)) Ch Co)) _
          have L := join_loop (sc := sc) (d := d + 1) (n0 := (hp (pS σ OR ED HD FI BE HS BS Ch Co)).length) (bc := 0) (bs := 0) (al := false) (OR := OR) (ED := ED) (HD := HD) (BE := BE) (HS := HS) (BS := BS) (Ch := Ch) (Co := Co) (x := x) (y := y) (Φ := fun r h => r = none ∧ ((¬ (BE x = -1 ∧ FI y = y ∧ FI x ≠ y ∧ ¬ isE σ y) ∧ h = hp (pS σ OR ED HD FI BE HS BS Ch Co)) ∨ ((BE x = -1 ∧ FI y = y ∧ FI x ≠ y ∧ ¬ isE σ y) ∧ h = hp (pS σ OR ED HD (fl (fun j => if FI j = y then FI x else FI j) FI (σ 1 5)) (uI BE x y) (uI HS (FI x) (HS (FI x) + HS y)) (uI BS (FI x) (BS (FI x) + BS y)) Ch Co)))) hn hFI hy ⟨rfl, Or.inr ⟨⟨c_15, c_25, c_31, c_39⟩, rfl⟩⟩ (σ 1 5).toNat 0 (by omega) (by omega)
          rw [fl_0] at L
          exact L
        · exact rn_return d_P_joinAlong_42 rfl ⟨rfl, Or.inl ⟨(by intro z; first | (exact c_15 z.1) | (exact c_25 z.2.1) | (exact z.2.2.1 c_31) | (exact z.2.2.2 c_39)), rfl⟩⟩
theorem ins_sorted {Rl : Int → Int → Prop} {A B : Int → Int} {m k e : Int} (hk : 0 ≤ k ∧ k ≤ m) (h0 : ∀ i j, 0 ≤ i → i < j → j < m → Rl (A i) (A j)) (hsh : ∀ i, k ≤ i → i < m → Rl e (A i)) (hst : ∀ i, 0 ≤ i → i < k → Rl (A i) e) (e1 : ∀ i, 0 ≤ i → i < k → B i = A i) (e2 : B k = e) (e3 : ∀ i, k < i → i ≤ m → B i = A (i - 1)) : ∀ i j, 0 ≤ i → i < j → j < m + 1 → Rl (B i) (B j) := by
  intro i j hi hij hj
  rcases Int.lt_trichotomy i k with c | c | c
  · rw [e1 i hi c]
    rcases Int.lt_trichotomy j k with c2 | c2 | c2
    · rw [e1 j (by omega) c2]; exact h0 i j hi hij (by omega)
    · rw [c2, e2]; exact hst i hi c
    · rw [e3 j c2 (by omega)]; exact h0 i (j - 1) hi (by omega) (by omega)
  · rw [c, e2, e3 j (by omega) (by omega)]; exact hsh (j - 1) (by omega) (by omega)
  · rw [e3 i c (by omega), e3 j (by omega) (by omega)]; exact h0 (i - 1) (j - 1) (by omega) (by omega) (by omega)
theorem ins_mem {A B : Int → Int} {m k e : Int} (hk : 0 ≤ k ∧ k ≤ m) (e1 : ∀ i, 0 ≤ i → i < k → B i = A i) (e2 : B k = e) (e3 : ∀ i, k < i → i ≤ m → B i = A (i - 1)) (q : Int) : (∃ i, 0 ≤ i ∧ i < m + 1 ∧ B i = q) ↔ (q = e ∨ ∃ i, 0 ≤ i ∧ i < m ∧ A i = q) := by
  constructor
  · rintro ⟨i, h0, h1, h2⟩
    rcases Int.lt_trichotomy i k with c | c | c
    · rw [e1 i h0 c] at h2; exact Or.inr ⟨i, h0, by omega, h2⟩
    · rw [c, e2] at h2; exact Or.inl h2.symm
    · rw [e3 i c (by omega)] at h2; exact Or.inr ⟨i - 1, by omega, by omega, h2⟩
  · rintro (h | ⟨i, h0, h1, h2⟩)
    · exact ⟨k, hk.1, by omega, by rw [e2, h]⟩
    · by_cases c : i < k
      · exact ⟨i, h0, by omega, by rw [e1 i h0 c]; exact h2⟩
      · exact ⟨i + 1, by omega, by omega, by rw [e3 (i + 1) (by omega) (by omega), Int.add_sub_cancel]; exact h2⟩
/-- edges in their order: greater count first, then the lesser number -/
def eR (ce : Int → Int) (a b : Int) : Prop := ce b < ce a ∨ (ce b = ce a ∧ a < b)
/-- A holds just the edges below e that may join, in their order -/
def iED (P : Int → Prop) (ce A : Int → Int) (m e : Int) : Prop := (∀ i, 0 ≤ i → i < m → (0 ≤ A i ∧ A i < e) ∧ P (A i)) ∧ (∀ q, 0 ≤ q → q < e → P q → ∃ i, 0 ≤ i ∧ i < m ∧ A i = q) ∧ (∀ i j, 0 ≤ i → i < j → j < m → eR ce (A i) (A j)) ∧ 0 ≤ m ∧ m ≤ e
theorem iED_skip {P : Int → Prop} {ce A : Int → Int} {m e : Int} (h : iED P ce A m e) (hP : ¬ P e) : iED P ce A m (e + 1) := by
  obtain ⟨h1, h2, h3, h4, h5⟩ := h
  refine ⟨fun i a b => ⟨⟨(h1 i a b).1.1, by have := (h1 i a b).1.2; omega⟩, (h1 i a b).2⟩, fun q a b c => ?_, h3, h4, by omega⟩
  by_cases hq : q = e
  · subst hq; exact absurd c hP
  · exact h2 q a (by omega) c
theorem iED_ins {P : Int → Prop} {ce A B : Int → Int} {m e k : Int} (h : iED P ce A m e) (he : 0 ≤ e) (hP : P e) (hk : 0 ≤ k ∧ k ≤ m) (hsh : ∀ i, k ≤ i → i < m → ce (A i) < ce e) (hst : 0 < k → ce e ≤ ce (A (k - 1))) (e1 : ∀ i, 0 ≤ i → i < k → B i = A i) (e2 : B k = e) (e3 : ∀ i, k < i → i ≤ m → B i = A (i - 1)) : iED P ce B (m + 1) (e + 1) := by
  obtain ⟨h1, h2, h3, h4, h5⟩ := h
  have hm := ins_mem hk e1 e2 e3
  refine ⟨fun i a b => ?_, fun q a b c => ?_, ?_, by omega, by omega⟩
  · rcases (hm (B i)).mp ⟨i, a, b, rfl⟩ with z | ⟨j, z1, z2, z3⟩
    · rw [z]; exact ⟨⟨he, by omega⟩, hP⟩
    · rw [← z3]; exact ⟨⟨(h1 j z1 z2).1.1, by have := (h1 j z1 z2).1.2; omega⟩, (h1 j z1 z2).2⟩
  · refine (hm q).mpr ?_
    by_cases hq : q = e
    · exact Or.inl hq
    · exact Or.inr (h2 q a (by omega) c)
  · refine ins_sorted hk h3 (fun i a b => Or.inl (hsh i a b)) (fun i a b => ?_) e1 e2 e3
    have z1 := hst (by omega)
    have z2 := (h1 i a (by omega)).1.2
    by_cases c : i = k - 1
    · subst c; unfold eR; omega
    · have z3 := h3 i (k - 1) a (by omega) (by omega)
      unfold eR at z3 ⊢; omega
set_option maxRecDepth 100000 in
set_option maxHeartbeats 400000 in
theorem insE_loop {sc : av_sc} {d n0 bc bs : Nat} {al : Bool} {σ : av_S} {OR HD FI BE HS BS : Int → Int} {Ch Co : Int} {A : Int → Int} {m e : Int} {Φ : Option av_V → av_H → Prop} (hn : 0 ≤ σ 1 5 ∧ σ 1 5 ≤ 24) (hc : bd (σ 9) 48) (hA : ∀ i, 0 ≤ i → i < m → 0 ≤ A i ∧ A i < 48) (he : 0 ≤ e ∧ e < 48) (hm : 0 ≤ m ∧ m < 48)
    (hΦ : ∀ (B : Int → Int) (k : Int), 0 ≤ k → k ≤ m → (∀ i, 0 ≤ i → i < k → B i = A i) → (∀ i, k < i → i ≤ m → B i = A (i - 1)) → (∀ i, k ≤ i → i < m → σ 9 (A i) < σ 9 e) → (0 < k → σ 9 e ≤ σ 9 (A (k - 1))) → av_Rn sc m_P_sortEdges (d + 1) al n0 bc bs 80 [some (vR 13), some (vR 1), some (vR 7), some (vI m), some (vI e), some (vI k)] [] (hp (pS σ OR B HD FI BE HS BS Ch Co)) Φ) :
    ∀ (z : Nat) (k : Int) (B : Int → Int), (z : Int) = k → k ≤ m → (∀ i, 0 ≤ i → i < k → B i = A i) → (∀ i, k < i → i ≤ m → B i = A (i - 1)) → (∀ i, k ≤ i → i < m → σ 9 (A i) < σ 9 e) → av_Rn sc m_P_sortEdges (d + 1) al n0 bc bs 29 [some (vR 13), some (vR 1), some (vR 7), some (vI m), some (vI e), some (vI k)] [] (hp (pS σ OR B HD FI BE HS BS Ch Co)) Φ := by
  intro z
  induction z with
  | zero =>
    intro k B hz hk h1 h2 h3
    obtain rfl : k = 0 := by omega
    refine rn_iload 31 d_P_sortEdges_29 rfl rfl ?_
    refine rn_if_le 80 34 d_P_sortEdges_31 rfl rfl ⟨by omega, by omega⟩ (fun c_31 => ?_) (fun c_31 => ?_)
    · exact hΦ B 0 (by omega) hk h1 h2 h3 (fun q => by omega)
    · omega
  | succ z ih =>
    intro k B hz hk h1 h2 h3
    have eA : B (k - 1) = A (k - 1) := h1 (k - 1) (by omega) (by omega)
    have hAk := hA (k - 1) (by omega) (by omega)
    have c1 := hc (A (k - 1)) hAk.1 hAk.2
    have c2 := hc e he.1 he.2
    refine rn_iload 31 d_P_sortEdges_29 rfl rfl ?_
    refine rn_if_le 80 34 d_P_sortEdges_31 rfl rfl ⟨by omega, by omega⟩ (fun c_31 => ?_) (fun c_31 => ?_)
    · omega
    · refine rn_aload_n 35 d_P_sortEdges_34 rfl rfl ?_
      refine rn_getfield 38 d_P_sortEdges_35 rfl fd_P_79 rfl rfl ?_
      refine rn_aload_n 39 d_P_sortEdges_38 rfl rfl ?_
      refine rn_getfield 42 d_P_sortEdges_39 rfl fd_P_22 rfl rfl ?_
      refine rn_iload 44 d_P_sortEdges_42 rfl rfl ?_
      refine rn_iconst 45 d_P_sortEdges_44 rfl ?_
      refine rn_isub 46 d_P_sortEdges_45 rfl ?_
      refine rn_iaload 47 d_P_sortEdges_46 rfl rfl (by decide) (by omega) (by omega) ?_
      rw [show (pS σ OR B HD FI BE HS BS Ch Co) 15 (k - 1) = B (k - 1) from rfl]
      rw [eA]
      refine rn_iaload 48 d_P_sortEdges_47 rfl rfl (by decide) (by omega) (by omega) ?_
      rw [show (pS σ OR B HD FI BE HS BS Ch Co) 9 (A (k - 1)) = σ 9 (A (k - 1)) from rfl]
      refine rn_aload_n 49 d_P_sortEdges_48 rfl rfl ?_
      refine rn_getfield 52 d_P_sortEdges_49 rfl fd_P_79 rfl rfl ?_
      refine rn_iload 54 d_P_sortEdges_52 rfl rfl ?_
      refine rn_iaload 55 d_P_sortEdges_54 rfl rfl (by decide) (by omega) (by omega) ?_
      rw [show (pS σ OR B HD FI BE HS BS Ch Co) 9 e = σ 9 e from rfl]
      refine rn_icmp_ge 80 58 d_P_sortEdges_55 rfl rfl ⟨by omega, by omega⟩ ⟨by omega, by omega⟩ (fun c_55 => ?_) (fun c_55 => ?_)
      · exact hΦ B k (by omega) hk h1 h2 h3 (fun q => by omega)
      · refine rn_aload_n 59 d_P_sortEdges_58 rfl rfl ?_
        refine rn_getfield 62 d_P_sortEdges_59 rfl fd_P_22 rfl rfl ?_
        refine rn_iload 64 d_P_sortEdges_62 rfl rfl ?_
        refine rn_aload_n 65 d_P_sortEdges_64 rfl rfl ?_
        refine rn_getfield 68 d_P_sortEdges_65 rfl fd_P_22 rfl rfl ?_
        refine rn_iload 70 d_P_sortEdges_68 rfl rfl ?_
        refine rn_iconst 71 d_P_sortEdges_70 rfl ?_
        refine rn_isub 72 d_P_sortEdges_71 rfl ?_
        refine rn_iaload 73 d_P_sortEdges_72 rfl rfl (by decide) (by omega) (by omega) ?_
        rw [show (pS σ OR B HD FI BE HS BS Ch Co) 15 (k - 1) = B (k - 1) from rfl]
        refine rn_iastore 74 d_P_sortEdges_73 rfl rfl (by decide) (by omega) (by omega) (hs_15 _ _) ?_
        change av_Rn _ _ _ _ _ _ _ _ _ _ (hp (pS σ OR (uI B k (B (k - 1))) HD FI BE HS BS Ch Co)) _
        refine rn_iinc 77 d_P_sortEdges_74 rfl rfl (by decide) rfl rfl ?_
        refine rn_goto 29 d_P_sortEdges_77 rfl ?_
        have ek : k + -1 = k - 1 := by omega
        rw [ek]
        refine ih (k - 1) (uI B k (B (k - 1))) (by omega) (by omega) (fun i q0 q1 => ?_) (fun i q0 q1 => ?_) (fun i q0 q1 => ?_)
        · rw [uI_n _ _ (by omega)]; exact h1 i q0 (by omega)
        · by_cases hi : i = k
          · rw [hi, uI_s, eA]
          · rw [uI_n _ _ hi]; exact h2 i (by omega) q1
        · by_cases hi : i = k - 1
          · rw [hi]; omega
          · exact h3 i (by omega) q1
set_option maxRecDepth 100000 in
set_option maxHeartbeats 400000 in
theorem sortE_loop {sc : av_sc} {d n0 bc bs : Nat} {al : Bool} {σ : av_S} {OR HD FI BE HS BS : Int → Int} {Ch Co : Int} {Φ : Option av_V → av_H → Prop} (hn : 0 ≤ σ 1 5 ∧ σ 1 5 ≤ 24) (hE : ∀ b, 0 ≤ b → b < σ 1 5 → 0 ≤ σ 4 b ∧ σ 4 b ≤ 2) (hc : bd (σ 9) 48) (ht : ∀ e, 0 ≤ e → e < 2 * σ 1 5 → -1 ≤ σ 5 e ∧ σ 5 e < 24)
    (hΦ : ∀ (A : Int → Int) (m : Int), iED (mJ (σ 4) (σ 5) (σ 9)) (σ 9) A m (2 * σ 1 5) → Φ (some (vI m)) (hp (pS σ OR A HD FI BE HS BS Ch Co))) :
    ∀ (z : Nat) (e m : Int) (A : Int → Int), 0 ≤ e → e + (z : Int) = 2 * σ 1 5 → iED (mJ (σ 4) (σ 5) (σ 9)) (σ 9) A m e → av_Rn sc m_P_sortEdges (d + 1) al n0 bc bs 5 [some (vR 13), some (vR 1), some (vR 7), some (vI m), some (vI e), none] [] (hp (pS σ OR A HD FI BE HS BS Ch Co)) Φ := by
  intro z
  induction z with
  | zero =>
    intro e m A h0 hz hI
    obtain rfl : e = 2 * σ 1 5 := by omega
    refine rn_iload 7 d_P_sortEdges_5 rfl rfl ?_
    refine rn_iconst 8 d_P_sortEdges_7 rfl ?_
    refine rn_aload_n 9 d_P_sortEdges_8 rfl rfl ?_
    refine rn_getfield 12 d_P_sortEdges_9 rfl fd_P_40 rfl rfl ?_
    rw [show (pS σ OR A HD FI BE HS BS Ch Co) 1 5 = σ 1 5 from rfl]
    refine rn_imul 13 d_P_sortEdges_12 rfl ?_
    refine rn_icmp_ge 98 16 d_P_sortEdges_13 rfl rfl ⟨by omega, by omega⟩ ⟨by omega, by omega⟩ (fun c_13 => ?_) (fun c_13 => ?_)
    · refine rn_iload_n 99 d_P_sortEdges_98 rfl rfl ?_
      exact rn_ireturn d_P_sortEdges_99 (Or.inl rfl) (hΦ A m hI)
    · omega
  | succ z ih =>
    intro e m A h0 hz hI
    have hI4 := hI.2.2.2
    have hEe := hE (e / 2) (by omega) (by omega)
    have hce := hc e h0 (by omega)
    have hte := ht e h0 (by omega)
    have X : ∀ (A' : Int → Int) (m' : Int) (k : Option av_V), iED (mJ (σ 4) (σ 5) (σ 9)) (σ 9) A' m' (e + 1) → av_Rn sc m_P_sortEdges (d + 1) al n0 bc bs 92 [some (vR 13), some (vR 1), some (vR 7), some (vI m'), some (vI e), k] [] (hp (pS σ OR (A') HD FI BE HS BS Ch Co)) Φ := by
      intro A' m' k hI'
      refine rn_kill 5 rfl ?_
      refine rn_iinc 95 d_P_sortEdges_92 rfl rfl (by decide) rfl rfl ?_
      refine rn_goto 5 d_P_sortEdges_95 rfl ?_
      exact ih (e + 1) m' A' (by omega) (by omega) hI'
    refine rn_iload 7 d_P_sortEdges_5 rfl rfl ?_
    refine rn_iconst 8 d_P_sortEdges_7 rfl ?_
    refine rn_aload_n 9 d_P_sortEdges_8 rfl rfl ?_
    refine rn_getfield 12 d_P_sortEdges_9 rfl fd_P_40 rfl rfl ?_
    rw [show (pS σ OR A HD FI BE HS BS Ch Co) 1 5 = σ 1 5 from rfl]
    refine rn_imul 13 d_P_sortEdges_12 rfl ?_
    refine rn_icmp_ge 98 16 d_P_sortEdges_13 rfl rfl ⟨by omega, by omega⟩ ⟨by omega, by omega⟩ (fun c_13 => ?_) (fun c_13 => ?_)
    · omega
    · refine rn_aload_n 17 d_P_sortEdges_16 rfl rfl ?_
      refine rn_aload_n 18 d_P_sortEdges_17 rfl rfl ?_
      refine rn_iload 20 d_P_sortEdges_18 rfl rfl ?_
      refine rn_callS3 23 d_P_sortEdges_20 rfl cw_P_75 (Nat.le_of_ble_eq_true rfl) (ev_P_mayJoin (σ := pS σ OR A HD FI BE HS BS Ch Co) ⟨by omega, by omega⟩ hEe hce hte) ?_
      rintro _ _ ⟨rfl, rfl⟩
      change av_Rn _ _ _ _ _ _ _ _ _ (vI (bz (mJ (σ 4) (σ 5) (σ 9) e)) :: _) _ _
      refine rn_ifB_eq 92 26 d_P_sortEdges_23 rfl rfl (fun c_23 => ?_) (fun c_23 => ?_)
      · exact X A m none (iED_skip hI c_23)
      · refine rn_iload_n 27 d_P_sortEdges_26 rfl rfl ?_
        refine rn_istore 29 d_P_sortEdges_27 rfl (by decide) rfl rfl ?_
        refine insE_loop (A := A) hn hc (fun i q0 q1 => ⟨(hI.1 i q0 q1).1.1, by have := (hI.1 i q0 q1).1.2; omega⟩) ⟨by omega, by omega⟩ ⟨by omega, by omega⟩ (fun B k k0 k1 b1 b2 b3 b4 => ?_) m.toNat m A (by omega) (by omega) (fun i _ _ => rfl) (fun i q0 q1 => by omega) (fun i q0 q1 => by omega)
        refine rn_aload_n 81 d_P_sortEdges_80 rfl rfl ?_
        refine rn_getfield 84 d_P_sortEdges_81 rfl fd_P_22 rfl rfl ?_
        refine rn_iload 86 d_P_sortEdges_84 rfl rfl ?_
        refine rn_iload 88 d_P_sortEdges_86 rfl rfl ?_
        refine rn_iastore 89 d_P_sortEdges_88 rfl rfl (by decide) (by omega) (by omega) (hs_15 _ _) ?_
        change av_Rn _ _ _ _ _ _ _ _ _ _ (hp (pS σ OR (uI B k e) HD FI BE HS BS Ch Co)) _
        refine rn_iinc 92 d_P_sortEdges_89 rfl rfl (by decide) rfl rfl ?_
        exact X (uI B k e) (m + 1) _ (iED_ins hI h0 c_23 ⟨k0, k1⟩ b3 b4 (fun i q0 q1 => by rw [uI_n _ _ (by omega)]; exact b1 i q0 q1) (uI_s _ _ _) (fun i q0 q1 => by rw [uI_n _ _ (by omega)]; exact b2 i q0 q1))
set_option maxRecDepth 100000 in
set_option maxHeartbeats 400000 in
theorem ev_P_sortEdges {sc : av_sc} {d : Nat} {σ : av_S} {OR ED HD FI BE HS BS : Int → Int} {Ch Co : Int} (hn : 0 ≤ σ 1 5 ∧ σ 1 5 ≤ 24) (hE : ∀ b, 0 ≤ b → b < σ 1 5 → 0 ≤ σ 4 b ∧ σ 4 b ≤ 2) (hc : bd (σ 9) 48) (ht : ∀ e, 0 ≤ e → e < 2 * σ 1 5 → -1 ≤ σ 5 e ∧ σ 5 e < 24) : av_Ev sc m_P_sortEdges (d + 1) false 0 0 [vR 13, vR 1, vR 7] (hp (pS σ OR ED HD FI BE HS BS Ch Co)) (fun r h => ∃ (A : Int → Int) (m : Int), r = some (vI m) ∧ iED (mJ (σ 4) (σ 5) (σ 9)) (σ 9) A m (2 * σ 1 5) ∧ h = hp (pS σ OR A HD FI BE HS BS Ch Co)) := by
  refine av_ev rfl rfl (Nat.le_of_ble_eq_true rfl) rfl ?_
  refine rn_iconst 1 d_P_sortEdges_0 rfl ?_
  refine rn_istore_n 2 d_P_sortEdges_1 rfl (by decide) rfl rfl ?_
  refine rn_iconst 3 d_P_sortEdges_2 rfl ?_
  refine rn_istore 5 d_P_sortEdges_3 rfl (by decide) rfl rfl ?_
  exact sortE_loop hn hE hc ht (fun A m q => ⟨A, m, rfl, q, rfl⟩) (2 * σ 1 5).toNat 0 0 ED (by omega) (by omega) ⟨fun i q0 q1 => by omega, fun q q0 q1 => by omega, fun i j q0 q1 q2 => by omega, by omega, by omega⟩
