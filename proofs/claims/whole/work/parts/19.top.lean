/-- the class's own invariant: the graph, the counts -/
def iE (σ : av_S) (f : Int) : Prop := (σ 6 f = -1 ∧ ∀ b, 0 ≤ b → b < σ 1 5 → σ 2 b ≠ f) ∨ ((0 ≤ σ 6 f ∧ σ 6 f < σ 1 5) ∧ σ 2 (σ 6 f) = f ∧ ∀ b, 0 ≤ b → b < σ 6 f → σ 2 b ≠ f)
def iB (σ : av_S) (b : Int) : Prop := (0 ≤ σ 2 b ∧ σ 2 b ≤ 3) ∧ (1 ≤ σ 3 b ∧ σ 3 b ≤ 40) ∧ (0 ≤ σ 4 b ∧ σ 4 b ≤ 2) ∧ (∀ e, 0 ≤ e → e < σ 4 b → (0 ≤ σ 5 (2 * b + e) ∧ σ 5 (2 * b + e) < σ 1 5) ∧ σ 2 (σ 5 (2 * b + e)) = σ 2 b) ∧ (∀ e, σ 4 b ≤ e → 0 ≤ e → e ≤ 1 → σ 5 (2 * b + e) = -1)
def iL (σ : av_S) : Prop := (0 ≤ σ 1 5 ∧ σ 1 5 ≤ 24) ∧ (∀ b, 0 ≤ b → b < σ 1 5 → iB σ b) ∧ (∀ f, 0 ≤ f → f < 4 → iE σ f) ∧ bd (σ 8) 24 ∧ bd (σ 9) 48 ∧ (σ 0 6 = 0 ∨ σ 0 6 = 1) ∧ (4 ≤ σ 0 0 ∧ σ 0 0 ≤ 400)
theorem iL_F {σ : av_S} (h : iL σ) : ∀ b, 0 ≤ b → b < σ 1 5 → 0 ≤ σ 2 b ∧ σ 2 b ≤ 3 := fun b h0 h1 => (h.2.1 b h0 h1).1
theorem iL_E {σ : av_S} (h : iL σ) : ∀ b, 0 ≤ b → b < σ 1 5 → 0 ≤ σ 4 b ∧ σ 4 b ≤ 2 := fun b h0 h1 => (h.2.1 b h0 h1).2.2.1
theorem iL_T {σ : av_S} (h : iL σ) : ∀ f, 0 ≤ f → f < 4 → -1 ≤ σ 6 f ∧ σ 6 f < σ 1 5 := by
  intro f h0 h1
  have hn := h.1
  rcases h.2.2.1 f h0 h1 with ⟨q, -⟩ | ⟨q, -⟩ <;> omega
theorem iL_T24 {σ : av_S} (h : iL σ) : ∀ f, 0 ≤ f → f < 4 → -1 ≤ σ 6 f ∧ σ 6 f < 24 := by
  intro f h0 h1
  have hn := h.1
  have := iL_T h f h0 h1
  omega
theorem iL_G {σ : av_S} (h : iL σ) : ∀ b, 0 ≤ b → b < σ 1 5 → (0 ≤ σ 4 b ∧ σ 4 b ≤ 2) ∧ (∀ e, 0 ≤ e → e ≤ 1 → -1 ≤ σ 5 (2 * b + e) ∧ σ 5 (2 * b + e) < σ 1 5) := by
  intro b h0 h1
  obtain ⟨-, -, h3, h4, h5⟩ := h.2.1 b h0 h1
  refine ⟨h3, fun e q0 q1 => ?_⟩
  have hn := h.1
  by_cases he : e < σ 4 b
  · have := (h4 e q0 he).1; omega
  · have := h5 e (by omega) q0 q1; omega
/-- the blocks of a walk are blocks -/
theorem wk_ok {en to : Int → Int} {hd n : Int} (hG : ∀ b, 0 ≤ b → b < n → (0 ≤ en b ∧ en b ≤ 2) ∧ (∀ e, 0 ≤ e → e ≤ 1 → -1 ≤ to (2 * b + e) ∧ to (2 * b + e) < n)) : ∀ (k : Nat) (t b : Int), -1 ≤ b → b < n → ∀ p ∈ wk en to hd k t b, (0 ≤ p.1 ∧ p.1 < n) ∧ 0 ≤ p.2 ∧ p.2 ≤ 1 := by
  intro k
  induction k with
  | zero => intro t b _ _ p hp; cases hp
  | succ k ih =>
    intro t b h0 h1 p hp
    unfold wk at hp
    by_cases hb : b = -1
    · rw [if_pos hb] at hp; cases hp
    · rw [if_neg hb] at hp
      have he : 0 ≤ wE en hd t b ∧ wE en hd t b ≤ 1 := by unfold wE; split <;> (try split) <;> omega
      rcases List.mem_cons.mp hp with rfl | hp
      · exact ⟨⟨by show 0 ≤ b; omega, h1⟩, he⟩
      · have := (hG b (by omega) h1).2 (wE en hd t b) he.1 he.2
        exact ih _ _ this.1 this.2 p hp
theorem wk_len {en to : Int → Int} {hd : Int} : ∀ (k : Nat) (t b : Int), (wk en to hd k t b).length ≤ k := by
  intro k
  induction k with
  | zero => intro t b; exact Nat.le_refl 0
  | succ k ih =>
    intro t b
    unfold wk
    split
    · simp
    · simp only [List.length_cons]; have := ih (wT en t b) (to (2 * b + wE en hd t b)); omega
def aBlock (σ : av_S) (f u : Int) : Int := if f < 0 ∨ 4 ≤ f ∨ u < 1 ∨ 40 < u ∨ σ 0 6 = 1 then -1 else if 24 ≤ σ 1 5 then -2 else σ 1 5
def sBlock (σ : av_S) (f u : Int) : av_S := if f < 0 ∨ 4 ≤ f ∨ u < 1 ∨ 40 < u ∨ σ 0 6 = 1 ∨ 24 ≤ σ 1 5 then σ else sG_add σ f u
set_option maxRecDepth 100000 in
set_option maxHeartbeats 400000 in
theorem ev_L_block {sc : av_sc} {d : Nat} {σ : av_S} {f u : Int} (hf : av_in f) (hu : av_in u) (hI : iL σ) : av_Ev sc m_L_block (d + 2) false 0 0 [vR 0, vI f, vI u] (hp σ) (fun r h => r = some (vI (aBlock σ f u)) ∧ h = hp (sBlock σ f u)) := by
  obtain ⟨hn, hB, hT, hc8, hc9, hlo, hrg⟩ := id hI
  obtain ⟨hf1, hf2⟩ := hf
  obtain ⟨hu1, hu2⟩ := hu
  refine av_ev rfl rfl (Nat.le_of_ble_eq_true rfl) rfl ?_
  refine rn_iload_n 1 d_L_block_0 rfl rfl ?_
  refine rn_if_lt 27 4 d_L_block_1 rfl rfl ⟨by omega, by omega⟩ (fun c_1 => ?_) (fun c_1 => ?_)
  · refine rn_iconst 28 d_L_block_27 rfl ?_
    exact rn_ireturn d_L_block_28 (Or.inl rfl) ⟨by unfold aBlock; (first | rw [if_pos (by omega)] | rw [if_neg (by omega)]); try (first | rw [if_pos (by omega)] | rw [if_neg (by omega)]), by unfold sBlock; (first | rw [if_pos (by omega)] | rw [if_neg (by omega)])⟩
  · refine rn_iload_n 5 d_L_block_4 rfl rfl ?_
    refine rn_iconst 6 d_L_block_5 rfl ?_
    refine rn_icmp_ge 27 9 d_L_block_6 rfl rfl ⟨by omega, by omega⟩ ⟨by omega, by omega⟩ (fun c_6 => ?_) (fun c_6 => ?_)
    · refine rn_iconst 28 d_L_block_27 rfl ?_
      exact rn_ireturn d_L_block_28 (Or.inl rfl) ⟨by unfold aBlock; (first | rw [if_pos (by omega)] | rw [if_neg (by omega)]); try (first | rw [if_pos (by omega)] | rw [if_neg (by omega)]), by unfold sBlock; (first | rw [if_pos (by omega)] | rw [if_neg (by omega)])⟩
    · refine rn_iload_n 10 d_L_block_9 rfl rfl ?_
      refine rn_iconst 11 d_L_block_10 rfl ?_
      refine rn_icmp_lt 27 14 d_L_block_11 rfl rfl ⟨by omega, by omega⟩ ⟨by omega, by omega⟩ (fun c_11 => ?_) (fun c_11 => ?_)
      · refine rn_iconst 28 d_L_block_27 rfl ?_
        exact rn_ireturn d_L_block_28 (Or.inl rfl) ⟨by unfold aBlock; (first | rw [if_pos (by omega)] | rw [if_neg (by omega)]); try (first | rw [if_pos (by omega)] | rw [if_neg (by omega)]), by unfold sBlock; (first | rw [if_pos (by omega)] | rw [if_neg (by omega)])⟩
      · refine rn_iload_n 15 d_L_block_14 rfl rfl ?_
        refine rn_bipush 17 d_L_block_15 rfl rfl ?_
        refine rn_icmp_gt 27 20 d_L_block_17 rfl rfl ⟨by omega, by omega⟩ ⟨by omega, by omega⟩ (fun c_17 => ?_) (fun c_17 => ?_)
        · refine rn_iconst 28 d_L_block_27 rfl ?_
          exact rn_ireturn d_L_block_28 (Or.inl rfl) ⟨by unfold aBlock; (first | rw [if_pos (by omega)] | rw [if_neg (by omega)]); try (first | rw [if_pos (by omega)] | rw [if_neg (by omega)]), by unfold sBlock; (first | rw [if_pos (by omega)] | rw [if_neg (by omega)])⟩
        · refine rn_aload_n 21 d_L_block_20 rfl rfl ?_
          refine rn_getfield 24 d_L_block_21 rfl fd_L_57 rfl rfl ?_
          refine rn_if_eq 29 27 d_L_block_24 rfl rfl ⟨by omega, by omega⟩ (fun c_24 => ?_) (fun c_24 => ?_)
          · refine rn_aload_n 30 d_L_block_29 rfl rfl ?_
            refine rn_getfield 33 d_L_block_30 rfl fd_L_25 rfl rfl ?_
            refine rn_getfield 36 d_L_block_33 rfl fd_L_61 rfl rfl ?_
            refine rn_bipush 38 d_L_block_36 rfl rfl ?_
            refine rn_icmp_lt 44 41 d_L_block_38 rfl rfl ⟨by omega, by omega⟩ ⟨by omega, by omega⟩ (fun c_38 => ?_) (fun c_38 => ?_)
            · refine rn_aload_n 45 d_L_block_44 rfl rfl ?_
              refine rn_getfield 48 d_L_block_45 rfl fd_L_25 rfl rfl ?_
              refine rn_iload_n 49 d_L_block_48 rfl rfl ?_
              refine rn_iload_n 50 d_L_block_49 rfl rfl ?_
              refine rn_callV2 53 d_L_block_50 rfl cw_L_64 rfl (Nat.le_of_ble_eq_true rfl) (ev_G_add ⟨by omega, by omega⟩ ⟨by omega, by omega⟩ (iL_T24 hI f (by omega) (by omega))) ?_
              rintro _ _ ⟨rfl, rfl⟩
              exact rn_ireturn d_L_block_53 (Or.inl rfl) ⟨by unfold aBlock; (first | rw [if_pos (by omega)] | rw [if_neg (by omega)]); try (first | rw [if_pos (by omega)] | rw [if_neg (by omega)]), by unfold sBlock; (first | rw [if_pos (by omega)] | rw [if_neg (by omega)])⟩
            · refine rn_bipush 43 d_L_block_41 rfl rfl ?_
              exact rn_ireturn d_L_block_43 (Or.inl rfl) ⟨by unfold aBlock; (first | rw [if_pos (by omega)] | rw [if_neg (by omega)]); try (first | rw [if_pos (by omega)] | rw [if_neg (by omega)]), by unfold sBlock; (first | rw [if_pos (by omega)] | rw [if_neg (by omega)])⟩
          · refine rn_iconst 28 d_L_block_27 rfl ?_
            exact rn_ireturn d_L_block_28 (Or.inl rfl) ⟨by unfold aBlock; (first | rw [if_pos (by omega)] | rw [if_neg (by omega)]); try (first | rw [if_pos (by omega)] | rw [if_neg (by omega)]), by unfold sBlock; (first | rw [if_pos (by omega)] | rw [if_neg (by omega)])⟩
def aJump (σ : av_S) (b y : Int) : Int := if σ 0 6 = 0 ∧ (0 ≤ b ∧ b < σ 1 5) ∧ (0 ≤ y ∧ y < σ 1 5) ∧ σ 2 b = σ 2 y then 0 else -1
def sJump (σ : av_S) (b y : Int) : av_S := if σ 0 6 = 0 ∧ (0 ≤ b ∧ b < σ 1 5) ∧ (0 ≤ y ∧ y < σ 1 5) ∧ σ 2 b = σ 2 y then sN_clearEdges (sG_setEnd σ b 1 y (-1)) b else σ
set_option maxRecDepth 100000 in
set_option maxHeartbeats 400000 in
theorem ev_L_jump {sc : av_sc} {d : Nat} {σ : av_S} {b y : Int} (hb : av_in b) (hy : av_in y) (hI : iL σ) : av_Ev sc m_L_jump (d + 2) false 0 0 [vR 0, vI b, vI y] (hp σ) (fun r h => r = some (vI (aJump σ b y)) ∧ h = hp (sJump σ b y)) := by
  obtain ⟨hn, hB, hT, hc8, hc9, hlo, hrg⟩ := id hI
  refine av_ev rfl rfl (Nat.le_of_ble_eq_true rfl) rfl ?_
  refine rn_aload_n 1 d_L_jump_0 rfl rfl ?_
  refine rn_getfield 4 d_L_jump_1 rfl fd_L_57 rfl rfl ?_
  refine rn_if_ne 19 7 d_L_jump_4 rfl rfl ⟨by omega, by omega⟩ (fun c_4 => ?_) (fun c_4 => ?_)
  · refine rn_iconst 20 d_L_jump_19 rfl ?_
    exact rn_ireturn d_L_jump_20 (Or.inl rfl) ⟨by unfold aJump; (first | rw [if_pos (by omega)] | rw [if_neg (by omega)]); try (first | rw [if_pos (by omega)] | rw [if_neg (by omega)]), by unfold sJump; (first | rw [if_pos (by omega)] | rw [if_neg (by omega)])⟩
  · refine rn_aload_n 8 d_L_jump_7 rfl rfl ?_
    refine rn_getfield 11 d_L_jump_8 rfl fd_L_25 rfl rfl ?_
    refine rn_iload_n 12 d_L_jump_11 rfl rfl ?_
    refine rn_iload_n 13 d_L_jump_12 rfl rfl ?_
    refine rn_callV2 16 d_L_jump_13 rfl cw_L_67 rfl (Nat.le_of_ble_eq_true rfl) (ev_G_canLead hb hy hn (iL_F hI)) ?_
    rintro _ _ ⟨rfl, rfl⟩
    refine rn_ifB_ne 21 19 d_L_jump_16 rfl rfl (fun c_16 => ?_) (fun c_16 => ?_)
    · refine rn_aload_n 22 d_L_jump_21 rfl rfl ?_
      refine rn_getfield 25 d_L_jump_22 rfl fd_L_25 rfl rfl ?_
      refine rn_iload_n 26 d_L_jump_25 rfl rfl ?_
      refine rn_iconst 27 d_L_jump_26 rfl ?_
      refine rn_iload_n 28 d_L_jump_27 rfl rfl ?_
      refine rn_iconst 29 d_L_jump_28 rfl ?_
      refine rn_callV4 32 d_L_jump_29 rfl cw_L_71 rfl (Nat.le_of_ble_eq_true rfl) (ev_G_setEnd ⟨by omega, by omega⟩) ?_
      rintro _ _ ⟨rfl, rfl⟩
      refine rn_aload_n 33 d_L_jump_32 rfl rfl ?_
      refine rn_getfield 36 d_L_jump_33 rfl fd_L_32 rfl rfl ?_
      refine rn_iload_n 37 d_L_jump_36 rfl rfl ?_
      refine rn_callV1 40 d_L_jump_37 rfl cw_L_75 rfl (Nat.le_of_ble_eq_true rfl) (ev_N_clearEdges ⟨by omega, by omega⟩) ?_
      rintro _ _ ⟨rfl, rfl⟩
      refine rn_iconst 41 d_L_jump_40 rfl ?_
      exact rn_ireturn d_L_jump_41 (Or.inl rfl) ⟨by unfold aJump; (first | rw [if_pos (by omega)] | rw [if_neg (by omega)]); try (first | rw [if_pos (by omega)] | rw [if_neg (by omega)]), by unfold sJump; (first | rw [if_pos (by omega)] | rw [if_neg (by omega)])⟩
    · refine rn_iconst 20 d_L_jump_19 rfl ?_
      exact rn_ireturn d_L_jump_20 (Or.inl rfl) ⟨by unfold aJump; (first | rw [if_pos (by omega)] | rw [if_neg (by omega)]); try (first | rw [if_pos (by omega)] | rw [if_neg (by omega)]), by unfold sJump; (first | rw [if_pos (by omega)] | rw [if_neg (by omega)])⟩
def aTest (σ : av_S) (b x y : Int) : Int := if σ 0 6 = 0 ∧ ((0 ≤ b ∧ b < σ 1 5) ∧ (0 ≤ x ∧ x < σ 1 5) ∧ σ 2 b = σ 2 x) ∧ ((0 ≤ b ∧ b < σ 1 5) ∧ (0 ≤ y ∧ y < σ 1 5) ∧ σ 2 b = σ 2 y) then 0 else -1
def sTest (σ : av_S) (b x y : Int) : av_S := if σ 0 6 = 0 ∧ ((0 ≤ b ∧ b < σ 1 5) ∧ (0 ≤ x ∧ x < σ 1 5) ∧ σ 2 b = σ 2 x) ∧ ((0 ≤ b ∧ b < σ 1 5) ∧ (0 ≤ y ∧ y < σ 1 5) ∧ σ 2 b = σ 2 y) then sN_clearEdges (sG_setEnd σ b 2 x y) b else σ
set_option maxRecDepth 100000 in
set_option maxHeartbeats 400000 in
theorem ev_L_test {sc : av_sc} {d : Nat} {σ : av_S} {b x y : Int} (hb : av_in b) (hx : av_in x) (hy : av_in y) (hI : iL σ) : av_Ev sc m_L_test (d + 2) false 0 0 [vR 0, vI b, vI x, vI y] (hp σ) (fun r h => r = some (vI (aTest σ b x y)) ∧ h = hp (sTest σ b x y)) := by
  obtain ⟨hn, hB, hT, hc8, hc9, hlo, hrg⟩ := id hI
  refine av_ev rfl rfl (Nat.le_of_ble_eq_true rfl) rfl ?_
  refine rn_aload_n 1 d_L_test_0 rfl rfl ?_
  refine rn_getfield 4 d_L_test_1 rfl fd_L_57 rfl rfl ?_
  refine rn_if_ne 31 7 d_L_test_4 rfl rfl ⟨by omega, by omega⟩ (fun c_4 => ?_) (fun c_4 => ?_)
  · refine rn_iconst 32 d_L_test_31 rfl ?_
    exact rn_ireturn d_L_test_32 (Or.inl rfl) ⟨by unfold aTest; (first | rw [if_pos (by omega)] | rw [if_neg (by omega)]); try (first | rw [if_pos (by omega)] | rw [if_neg (by omega)]), by unfold sTest; (first | rw [if_pos (by omega)] | rw [if_neg (by omega)])⟩
  · refine rn_aload_n 8 d_L_test_7 rfl rfl ?_
    refine rn_getfield 11 d_L_test_8 rfl fd_L_25 rfl rfl ?_
    refine rn_iload_n 12 d_L_test_11 rfl rfl ?_
    refine rn_iload_n 13 d_L_test_12 rfl rfl ?_
    refine rn_callV2 16 d_L_test_13 rfl cw_L_67 rfl (Nat.le_of_ble_eq_true rfl) (ev_G_canLead hb hx hn (iL_F hI)) ?_
    rintro _ _ ⟨rfl, rfl⟩
    refine rn_ifB_eq 31 19 d_L_test_16 rfl rfl (fun c_16 => ?_) (fun c_16 => ?_)
    · refine rn_iconst 32 d_L_test_31 rfl ?_
      exact rn_ireturn d_L_test_32 (Or.inl rfl) ⟨by unfold aTest; (first | rw [if_pos (by omega)] | rw [if_neg (by omega)]); try (first | rw [if_pos (by omega)] | rw [if_neg (by omega)]), by unfold sTest; (first | rw [if_pos (by omega)] | rw [if_neg (by omega)])⟩
    · refine rn_aload_n 20 d_L_test_19 rfl rfl ?_
      refine rn_getfield 23 d_L_test_20 rfl fd_L_25 rfl rfl ?_
      refine rn_iload_n 24 d_L_test_23 rfl rfl ?_
      refine rn_iload_n 25 d_L_test_24 rfl rfl ?_
      refine rn_callV2 28 d_L_test_25 rfl cw_L_67 rfl (Nat.le_of_ble_eq_true rfl) (ev_G_canLead hb hy hn (iL_F hI)) ?_
      rintro _ _ ⟨rfl, rfl⟩
      refine rn_ifB_ne 33 31 d_L_test_28 rfl rfl (fun c_28 => ?_) (fun c_28 => ?_)
      · refine rn_aload_n 34 d_L_test_33 rfl rfl ?_
        refine rn_getfield 37 d_L_test_34 rfl fd_L_25 rfl rfl ?_
        refine rn_iload_n 38 d_L_test_37 rfl rfl ?_
        refine rn_iconst 39 d_L_test_38 rfl ?_
        refine rn_iload_n 40 d_L_test_39 rfl rfl ?_
        refine rn_iload_n 41 d_L_test_40 rfl rfl ?_
        refine rn_callV4 44 d_L_test_41 rfl cw_L_71 rfl (Nat.le_of_ble_eq_true rfl) (ev_G_setEnd ⟨by omega, by omega⟩) ?_
        rintro _ _ ⟨rfl, rfl⟩
        refine rn_aload_n 45 d_L_test_44 rfl rfl ?_
        refine rn_getfield 48 d_L_test_45 rfl fd_L_32 rfl rfl ?_
        refine rn_iload_n 49 d_L_test_48 rfl rfl ?_
        refine rn_callV1 52 d_L_test_49 rfl cw_L_75 rfl (Nat.le_of_ble_eq_true rfl) (ev_N_clearEdges ⟨by omega, by omega⟩) ?_
        rintro _ _ ⟨rfl, rfl⟩
        refine rn_iconst 53 d_L_test_52 rfl ?_
        exact rn_ireturn d_L_test_53 (Or.inl rfl) ⟨by unfold aTest; (first | rw [if_pos (by omega)] | rw [if_neg (by omega)]); try (first | rw [if_pos (by omega)] | rw [if_neg (by omega)]), by unfold sTest; (first | rw [if_pos (by omega)] | rw [if_neg (by omega)])⟩
      · refine rn_iconst 32 d_L_test_31 rfl ?_
        exact rn_ireturn d_L_test_32 (Or.inl rfl) ⟨by unfold aTest; (first | rw [if_pos (by omega)] | rw [if_neg (by omega)]); try (first | rw [if_pos (by omega)] | rw [if_neg (by omega)]), by unfold sTest; (first | rw [if_pos (by omega)] | rw [if_neg (by omega)])⟩
abbrev wl (σ : av_S) (f x : Int) : List (Int × Int) := wk (σ 4) (σ 5) x 60 0 (σ 6 f)
set_option maxRecDepth 100000 in
set_option maxHeartbeats 400000 in
theorem ev_L_walk {sc : av_sc} {d : Nat} {σ : av_S} {f x : Int} (hf : av_in f) (hx : av_in x) (hI : iL σ) : av_Ev sc m_L_walk (d + 3) false 0 0 [vR 0, vI f, vI x] (hp σ) (fun r h => (¬ ((0 ≤ f ∧ f < 4) ∧ σ 6 f ≠ -1) ∧ r = some (vI (-1)) ∧ h = hp σ) ∨ (((0 ≤ f ∧ f < 4) ∧ σ 6 f ≠ -1) ∧ ∃ f' g' : Int → Int, r = some (vI ((wl σ f x).length : Int)) ∧ h = hp (nS (tS σ f' g' ((wl σ f x).length : Int)) (cb (wl σ f x) (σ 8)) (ce (wl σ f x) (σ 9))))) := by
  obtain ⟨hn, hB, hT, hc8, hc9, hlo, hrg⟩ := id hI
  refine av_ev rfl rfl (Nat.le_of_ble_eq_true rfl) rfl ?_
  refine rn_aload_n 1 d_L_walk_0 rfl rfl ?_
  refine rn_getfield 4 d_L_walk_1 rfl fd_L_25 rfl rfl ?_
  refine rn_iload_n 5 d_L_walk_4 rfl rfl ?_
  refine rn_callV1 8 d_L_walk_5 rfl cw_L_79 rfl (Nat.le_of_ble_eq_true rfl) (ev_G_hasEntry hf (iL_T24 hI)) ?_
  rintro _ _ ⟨rfl, rfl⟩
  refine rn_ifB_ne 13 11 d_L_walk_8 rfl rfl (fun c_8 => ?_) (fun c_8 => ?_)
  · refine rn_aload_n 14 d_L_walk_13 rfl rfl ?_
    refine rn_getfield 17 d_L_walk_14 rfl fd_L_39 rfl rfl ?_
    refine rn_aload_n 18 d_L_walk_17 rfl rfl ?_
    refine rn_getfield 21 d_L_walk_18 rfl fd_L_25 rfl rfl ?_
    refine rn_iload_n 22 d_L_walk_21 rfl rfl ?_
    refine rn_iload_n 23 d_L_walk_22 rfl rfl ?_
    refine rn_callV3 26 d_L_walk_23 rfl cw_L_83 rfl (Nat.le_of_ble_eq_true rfl) (ev_T_follow (iL_G hI) hn.2 c_8.1 hx (iL_T hI f c_8.1.1 c_8.1.2)) ?_
    rintro _ _ ⟨rfl, f', g', hl1, hl2, rfl⟩
    have hlen : ((wl σ f x).length : Int) ≤ 60 := Int.ofNat_le.mpr (wk_len (en := σ 4) (to := σ 5) (hd := x) 60 0 (σ 6 f))
    have hok := wk_ok (hd := x) (iL_G hI) 60 0 (σ 6 f) (iL_T hI f c_8.1.1 c_8.1.2).1 (iL_T hI f c_8.1.1 c_8.1.2).2
    refine rn_aload_n 27 d_L_walk_26 rfl rfl ?_
    refine rn_getfield 30 d_L_walk_27 rfl fd_L_32 rfl rfl ?_
    refine rn_aload_n 31 d_L_walk_30 rfl rfl ?_
    refine rn_getfield 34 d_L_walk_31 rfl fd_L_39 rfl rfl ?_
    refine rn_callV1 37 d_L_walk_34 rfl cw_L_87 rfl (Nat.le_of_ble_eq_true rfl) (ev_N_addTrail (σ := tS σ f' g' ((wl σ f x).length : Int)) (l := wl σ f x) rfl hlen hl1 hl2 (fun p hp => ⟨⟨(hok p hp).1.1, by have := (hok p hp).1.2; omega⟩, (hok p hp).2⟩) hc8 hc9) ?_
    rintro _ _ ⟨rfl, rfl⟩
    refine rn_aload_n 38 d_L_walk_37 rfl rfl ?_
    refine rn_getfield 41 d_L_walk_38 rfl fd_L_39 rfl rfl ?_
    refine rn_getfield 44 d_L_walk_41 rfl fd_L_91 rfl rfl ?_
    exact rn_ireturn d_L_walk_44 (Or.inl rfl) (Or.inr ⟨c_8, f', g', rfl, rfl⟩)
  · refine rn_iconst 12 d_L_walk_11 rfl ?_
    exact rn_ireturn d_L_walk_12 (Or.inl rfl) (Or.inl ⟨c_8, rfl, rfl⟩)
def cHeat (σ : av_S) (b e n : Int) : Prop := (1 ≤ n ∧ n ≤ 100000) ∧ (0 ≤ b ∧ b < σ 1 5) ∧ 0 ≤ e ∧ e < σ 4 b
def sHeat (σ : av_S) (b e n : Int) : av_S := sN_addToBlock (sN_addToEdge σ (2 * b + e) n) (σ 5 (2 * b + e)) n
set_option maxRecDepth 100000 in
set_option maxHeartbeats 400000 in
theorem ev_L_heat {sc : av_sc} {d : Nat} {σ : av_S} {b e n : Int} (hb : av_in b) (he : av_in e) (hn0 : av_in n) (hI : iL σ) : av_Ev sc m_L_heat (d + 2) false 0 0 [vR 0, vI b, vI e, vI n] (hp σ) (fun r h => (¬ cHeat σ b e n ∧ r = some (vI (-1)) ∧ h = hp σ) ∨ (cHeat σ b e n ∧ r = some (vI ((sHeat σ b e n) 9 (2 * b + e))) ∧ h = hp (sHeat σ b e n))) := by
  obtain ⟨hn, hB, hT, hc8, hc9, hlo, hrg⟩ := id hI
  obtain ⟨hn01, hn02⟩ := hn0
  refine av_ev rfl rfl (Nat.le_of_ble_eq_true rfl) rfl ?_
  refine rn_iload_n 1 d_L_heat_0 rfl rfl ?_
  refine rn_iconst 2 d_L_heat_1 rfl ?_
  refine rn_icmp_lt 23 5 d_L_heat_2 rfl rfl ⟨by omega, by omega⟩ ⟨by omega, by omega⟩ (fun c_2 => ?_) (fun c_2 => ?_)
  · refine rn_iconst 24 d_L_heat_23 rfl ?_
    exact rn_ireturn d_L_heat_24 (Or.inl rfl) (Or.inl ⟨(by unfold cHeat; omega), rfl, rfl⟩)
  · refine rn_iload_n 6 d_L_heat_5 rfl rfl ?_
    refine rn_ldc 8 d_L_heat_6 rfl 100000 lc_L_92 rfl ?_
    refine rn_icmp_gt 23 11 d_L_heat_8 rfl rfl ⟨by omega, by omega⟩ ⟨by omega, by omega⟩ (fun c_8 => ?_) (fun c_8 => ?_)
    · refine rn_iconst 24 d_L_heat_23 rfl ?_
      exact rn_ireturn d_L_heat_24 (Or.inl rfl) (Or.inl ⟨(by unfold cHeat; omega), rfl, rfl⟩)
    · refine rn_aload_n 12 d_L_heat_11 rfl rfl ?_
      refine rn_getfield 15 d_L_heat_12 rfl fd_L_25 rfl rfl ?_
      refine rn_iload_n 16 d_L_heat_15 rfl rfl ?_
      refine rn_iload_n 17 d_L_heat_16 rfl rfl ?_
      refine rn_callV2 20 d_L_heat_17 rfl cw_L_93 rfl (Nat.le_of_ble_eq_true rfl) (ev_G_hasEdge hb he hn (iL_E hI)) ?_
      rintro _ _ ⟨rfl, rfl⟩
      refine rn_ifB_ne 25 23 d_L_heat_20 rfl rfl (fun c_20 => ?_) (fun c_20 => ?_)
      · have hBb := hB b c_20.1.1 c_20.1.2
        have hEb := hBb.2.2.1
        have hTo := (hBb.2.2.2.1 e c_20.2.1 c_20.2.2).1
        have h9 := hc9 (2 * b + e) (by omega) (by omega)
        have h8 := hc8 (σ 5 (2 * b + e)) (by omega) (by omega)
        refine rn_iconst 26 d_L_heat_25 rfl ?_
        refine rn_iload_n 27 d_L_heat_26 rfl rfl ?_
        refine rn_imul 28 d_L_heat_27 rfl ?_
        refine rn_iload_n 29 d_L_heat_28 rfl rfl ?_
        refine rn_iadd 30 d_L_heat_29 rfl ?_
        refine rn_istore 32 d_L_heat_30 rfl (by decide) rfl rfl ?_
        refine rn_aload_n 33 d_L_heat_32 rfl rfl ?_
        refine rn_getfield 36 d_L_heat_33 rfl fd_L_32 rfl rfl ?_
        refine rn_iload 38 d_L_heat_36 rfl rfl ?_
        refine rn_iload_n 39 d_L_heat_38 rfl rfl ?_
        refine rn_callV2 42 d_L_heat_39 rfl cw_L_96 rfl (Nat.le_of_ble_eq_true rfl) (ev_N_addToEdge ⟨by omega, by omega⟩ ⟨by omega, by omega⟩ h9) ?_
        rintro _ _ ⟨rfl, rfl⟩
        refine rn_aload_n 43 d_L_heat_42 rfl rfl ?_
        refine rn_getfield 46 d_L_heat_43 rfl fd_L_32 rfl rfl ?_
        refine rn_aload_n 47 d_L_heat_46 rfl rfl ?_
        refine rn_getfield 50 d_L_heat_47 rfl fd_L_25 rfl rfl ?_
        refine rn_getfield 53 d_L_heat_50 rfl fd_L_100 rfl rfl ?_
        refine rn_iload 55 d_L_heat_53 rfl rfl ?_
        refine rn_iaload 56 d_L_heat_55 rfl rfl (by decide) (by omega) (by omega) ?_
        rw [show (sN_addToEdge σ (2 * b + e) n) 5 (2 * b + e) = σ 5 (2 * b + e) from rfl]
        refine rn_iload_n 57 d_L_heat_56 rfl rfl ?_
        refine rn_callV2 60 d_L_heat_57 rfl cw_L_104 rfl (Nat.le_of_ble_eq_true rfl) (ev_N_addToBlock (σ := sN_addToEdge σ (2 * b + e) n) ⟨by omega, by omega⟩ ⟨by omega, by omega⟩ h8) ?_
        rintro _ _ ⟨rfl, rfl⟩
        refine rn_aload_n 61 d_L_heat_60 rfl rfl ?_
        refine rn_getfield 64 d_L_heat_61 rfl fd_L_32 rfl rfl ?_
        refine rn_getfield 67 d_L_heat_64 rfl fd_L_107 rfl rfl ?_
        refine rn_iload 69 d_L_heat_67 rfl rfl ?_
        refine rn_iaload 70 d_L_heat_69 rfl rfl (by decide) (by omega) (by omega) ?_
        exact rn_ireturn d_L_heat_70 (Or.inl rfl) (Or.inr ⟨⟨⟨by omega, by omega⟩, c_20⟩, rfl, rfl⟩)
      · refine rn_iconst 24 d_L_heat_23 rfl ?_
        exact rn_ireturn d_L_heat_24 (Or.inl rfl) (Or.inl ⟨(by unfold cHeat; omega), rfl, rfl⟩)
set_option maxRecDepth 100000 in
set_option maxHeartbeats 400000 in
theorem ev_L_cool {sc : av_sc} {d : Nat} {σ : av_S} : av_Ev sc m_L_cool (d + 2) false 0 0 [vR 0] (hp σ) (fun r h => r = some (vI 0) ∧ h = hp (sN_clear σ)) := by
  refine av_ev rfl rfl (Nat.le_of_ble_eq_true rfl) rfl ?_
  refine rn_aload_n 1 d_L_cool_0 rfl rfl ?_
  refine rn_getfield 4 d_L_cool_1 rfl fd_L_32 rfl rfl ?_
  refine rn_callV0 7 d_L_cool_4 rfl cw_L_110 rfl (Nat.le_of_ble_eq_true rfl) ev_N_clear ?_
  rintro _ _ ⟨rfl, rfl⟩
  refine rn_iconst 8 d_L_cool_7 rfl ?_
  exact rn_ireturn d_L_cool_8 (Or.inl rfl) ⟨rfl, rfl⟩
def aAt (σ : av_S) (k : Int) : Int := if σ 0 6 = 1 ∧ 0 ≤ k ∧ k < σ 1 5 then σ 14 k else -3
set_option maxRecDepth 100000 in
set_option maxHeartbeats 400000 in
theorem ev_L_at {sc : av_sc} {d : Nat} {σ : av_S} {k : Int} (hk : av_in k) (hI : iL σ) : av_Ev sc m_L_at (d + 1) false 0 0 [vR 0, vI k] (hp σ) (fun r h => r = some (vI (aAt σ k)) ∧ h = hp σ) := by
  obtain ⟨hn, hB, hT, hc8, hc9, hlo, hrg⟩ := id hI
  refine av_ev rfl rfl (Nat.le_of_ble_eq_true rfl) rfl ?_
  refine rn_aload_n 1 d_L_at_0 rfl rfl ?_
  refine rn_getfield 4 d_L_at_1 rfl fd_L_57 rfl rfl ?_
  refine rn_if_eq 30 7 d_L_at_4 rfl rfl ⟨by omega, by omega⟩ (fun c_4 => ?_) (fun c_4 => ?_)
  · refine rn_bipush 32 d_L_at_30 rfl rfl ?_
    exact rn_ireturn d_L_at_32 (Or.inl rfl) ⟨by unfold aAt; (first | rw [if_pos (by omega)] | rw [if_neg (by omega)]); try (first | rw [if_pos (by omega)] | rw [if_neg (by omega)]), rfl⟩
  · refine rn_aload_n 8 d_L_at_7 rfl rfl ?_
    refine rn_getfield 11 d_L_at_8 rfl fd_L_25 rfl rfl ?_
    refine rn_iload_n 12 d_L_at_11 rfl rfl ?_
    refine rn_callV1 15 d_L_at_12 rfl cw_L_131 rfl (Nat.le_of_ble_eq_true rfl) (ev_G_has hk hn) ?_
    rintro _ _ ⟨rfl, rfl⟩
    refine rn_ifB_eq 30 18 d_L_at_15 rfl rfl (fun c_15 => ?_) (fun c_15 => ?_)
    · refine rn_bipush 32 d_L_at_30 rfl rfl ?_
      exact rn_ireturn d_L_at_32 (Or.inl rfl) ⟨by unfold aAt; (first | rw [if_pos (by omega)] | rw [if_neg (by omega)]); try (first | rw [if_pos (by omega)] | rw [if_neg (by omega)]), rfl⟩
    · refine rn_aload_n 19 d_L_at_18 rfl rfl ?_
      refine rn_getfield 22 d_L_at_19 rfl fd_L_46 rfl rfl ?_
      refine rn_getfield 25 d_L_at_22 rfl fd_L_121 rfl rfl ?_
      refine rn_iload_n 26 d_L_at_25 rfl rfl ?_
      refine rn_iaload 27 d_L_at_26 rfl rfl (by decide) (by omega) (by omega) ?_
      refine rn_goto 32 d_L_at_27 rfl ?_
      exact rn_ireturn d_L_at_32 (Or.inl rfl) ⟨by unfold aAt; (first | rw [if_pos (by omega)] | rw [if_neg (by omega)]); try (first | rw [if_pos (by omega)] | rw [if_neg (by omega)]), rfl⟩
def aAddress (σ : av_S) (k : Int) : Int := if σ 0 6 = 1 ∧ 0 ≤ k ∧ k < σ 1 5 then σ 22 k else -3
set_option maxRecDepth 100000 in
set_option maxHeartbeats 400000 in
theorem ev_L_address {sc : av_sc} {d : Nat} {σ : av_S} {k : Int} (hk : av_in k) (hI : iL σ) : av_Ev sc m_L_address (d + 1) false 0 0 [vR 0, vI k] (hp σ) (fun r h => r = some (vI (aAddress σ k)) ∧ h = hp σ) := by
  obtain ⟨hn, hB, hT, hc8, hc9, hlo, hrg⟩ := id hI
  refine av_ev rfl rfl (Nat.le_of_ble_eq_true rfl) rfl ?_
  refine rn_aload_n 1 d_L_address_0 rfl rfl ?_
  refine rn_getfield 4 d_L_address_1 rfl fd_L_57 rfl rfl ?_
  refine rn_if_eq 30 7 d_L_address_4 rfl rfl ⟨by omega, by omega⟩ (fun c_4 => ?_) (fun c_4 => ?_)
  · refine rn_bipush 32 d_L_address_30 rfl rfl ?_
    exact rn_ireturn d_L_address_32 (Or.inl rfl) ⟨by unfold aAddress; (first | rw [if_pos (by omega)] | rw [if_neg (by omega)]); try (first | rw [if_pos (by omega)] | rw [if_neg (by omega)]), rfl⟩
  · refine rn_aload_n 8 d_L_address_7 rfl rfl ?_
    refine rn_getfield 11 d_L_address_8 rfl fd_L_25 rfl rfl ?_
    refine rn_iload_n 12 d_L_address_11 rfl rfl ?_
    refine rn_callV1 15 d_L_address_12 rfl cw_L_131 rfl (Nat.le_of_ble_eq_true rfl) (ev_G_has hk hn) ?_
    rintro _ _ ⟨rfl, rfl⟩
    refine rn_ifB_eq 30 18 d_L_address_15 rfl rfl (fun c_15 => ?_) (fun c_15 => ?_)
    · refine rn_bipush 32 d_L_address_30 rfl rfl ?_
      exact rn_ireturn d_L_address_32 (Or.inl rfl) ⟨by unfold aAddress; (first | rw [if_pos (by omega)] | rw [if_neg (by omega)]); try (first | rw [if_pos (by omega)] | rw [if_neg (by omega)]), rfl⟩
    · refine rn_aload_n 19 d_L_address_18 rfl rfl ?_
      refine rn_getfield 22 d_L_address_19 rfl fd_L_53 rfl rfl ?_
      refine rn_getfield 25 d_L_address_22 rfl fd_L_134 rfl rfl ?_
      refine rn_iload_n 26 d_L_address_25 rfl rfl ?_
      refine rn_iaload 27 d_L_address_26 rfl rfl (by decide) (by omega) (by omega) ?_
      refine rn_goto 32 d_L_address_27 rfl ?_
      exact rn_ireturn d_L_address_32 (Or.inl rfl) ⟨by unfold aAddress; (first | rw [if_pos (by omega)] | rw [if_neg (by omega)]); try (first | rw [if_pos (by omega)] | rw [if_neg (by omega)]), rfl⟩
def cBr (σ : av_S) (b i : Int) : Prop := σ 0 6 = 1 ∧ (0 ≤ b ∧ b < σ 1 5) ∧ (i = 0 ∨ i = 1) ∧ σ 24 (2 * b + i) ≠ 0
theorem cBr_iff (σ : av_S) (b i : Int) : cBr σ b i ↔ (σ 0 6 = 1 ∧ (0 ≤ b ∧ b < σ 1 5) ∧ (i = 0 ∨ i = 1) ∧ σ 24 (2 * b + i) ≠ 0) := Iff.rfl
set_option maxRecDepth 100000 in
set_option maxHeartbeats 400000 in
theorem ev_L_hasBranch {sc : av_sc} {d : Nat} {σ : av_S} {b i : Int} (hb : av_in b) (hi : av_in i) (hI : iL σ) (hU : ∀ k, 0 ≤ k → k < 48 → 0 ≤ σ 24 k ∧ σ 24 k ≤ 2) : av_Ev sc m_L_hasBranch (d + 1) false 0 0 [vR 0, vI b, vI i] (hp σ) (fun r h => r = some (vI (bz (σ 0 6 = 1 ∧ (0 ≤ b ∧ b < σ 1 5) ∧ (i = 0 ∨ i = 1) ∧ σ 24 (2 * b + i) ≠ 0))) ∧ h = hp σ) := by
  obtain ⟨hn, hB, hT, hc8, hc9, hlo, hrg⟩ := id hI
  obtain ⟨hi1, hi2⟩ := hi
  refine av_ev rfl rfl (Nat.le_of_ble_eq_true rfl) rfl ?_
  refine rn_aload_n 1 d_L_hasBranch_0 rfl rfl ?_
  refine rn_getfield 4 d_L_hasBranch_1 rfl fd_L_57 rfl rfl ?_
  refine rn_if_eq 47 7 d_L_hasBranch_4 rfl rfl ⟨by omega, by omega⟩ (fun c_4 => ?_) (fun c_4 => ?_)
  · refine rn_iconst 48 d_L_hasBranch_47 rfl ?_
    exact rn_ireturn d_L_hasBranch_48 (Or.inr ⟨rfl, Or.inl rfl⟩) ⟨by rw [bz_f (by omega)], rfl⟩
  · refine rn_aload_n 8 d_L_hasBranch_7 rfl rfl ?_
    refine rn_getfield 11 d_L_hasBranch_8 rfl fd_L_25 rfl rfl ?_
    refine rn_iload_n 12 d_L_hasBranch_11 rfl rfl ?_
    refine rn_callV1 15 d_L_hasBranch_12 rfl cw_L_131 rfl (Nat.le_of_ble_eq_true rfl) (ev_G_has hb hn) ?_
    rintro _ _ ⟨rfl, rfl⟩
    refine rn_ifB_eq 47 18 d_L_hasBranch_15 rfl rfl (fun c_15 => ?_) (fun c_15 => ?_)
    · refine rn_iconst 48 d_L_hasBranch_47 rfl ?_
      exact rn_ireturn d_L_hasBranch_48 (Or.inr ⟨rfl, Or.inl rfl⟩) ⟨by rw [bz_f (by omega)], rfl⟩
    · refine rn_iload_n 19 d_L_hasBranch_18 rfl rfl ?_
      refine rn_if_eq 27 22 d_L_hasBranch_19 rfl rfl ⟨by omega, by omega⟩ (fun c_19 => ?_) (fun c_19 => ?_)
      · refine rn_aload_n 28 d_L_hasBranch_27 rfl rfl ?_
        refine rn_getfield 31 d_L_hasBranch_28 rfl fd_L_53 rfl rfl ?_
        refine rn_getfield 34 d_L_hasBranch_31 rfl fd_L_140 rfl rfl ?_
        refine rn_iconst 35 d_L_hasBranch_34 rfl ?_
        refine rn_iload_n 36 d_L_hasBranch_35 rfl rfl ?_
        refine rn_imul 37 d_L_hasBranch_36 rfl ?_
        refine rn_iload_n 38 d_L_hasBranch_37 rfl rfl ?_
        refine rn_iadd 39 d_L_hasBranch_38 rfl ?_
        refine rn_iaload 40 d_L_hasBranch_39 rfl rfl (by decide) (by omega) (by omega) ?_
        have hU1 := hU (2 * b + i) (by omega) (by omega)
        refine rn_if_eq 47 43 d_L_hasBranch_40 rfl rfl ⟨by omega, by omega⟩ (fun c_40 => ?_) (fun c_40 => ?_)
        · refine rn_iconst 48 d_L_hasBranch_47 rfl ?_
          exact rn_ireturn d_L_hasBranch_48 (Or.inr ⟨rfl, Or.inl rfl⟩) ⟨by rw [bz_f (by omega)], rfl⟩
        · refine rn_iconst 44 d_L_hasBranch_43 rfl ?_
          refine rn_goto 48 d_L_hasBranch_44 rfl ?_
          exact rn_ireturn d_L_hasBranch_48 (Or.inr ⟨rfl, Or.inr rfl⟩) ⟨by rw [bz_t (by omega)], rfl⟩
      · refine rn_iload_n 23 d_L_hasBranch_22 rfl rfl ?_
        refine rn_iconst 24 d_L_hasBranch_23 rfl ?_
        refine rn_icmp_ne 47 27 d_L_hasBranch_24 rfl rfl ⟨by omega, by omega⟩ ⟨by omega, by omega⟩ (fun c_24 => ?_) (fun c_24 => ?_)
        · refine rn_iconst 48 d_L_hasBranch_47 rfl ?_
          exact rn_ireturn d_L_hasBranch_48 (Or.inr ⟨rfl, Or.inl rfl⟩) ⟨by rw [bz_f (by omega)], rfl⟩
        · refine rn_aload_n 28 d_L_hasBranch_27 rfl rfl ?_
          refine rn_getfield 31 d_L_hasBranch_28 rfl fd_L_53 rfl rfl ?_
          refine rn_getfield 34 d_L_hasBranch_31 rfl fd_L_140 rfl rfl ?_
          refine rn_iconst 35 d_L_hasBranch_34 rfl ?_
          refine rn_iload_n 36 d_L_hasBranch_35 rfl rfl ?_
          refine rn_imul 37 d_L_hasBranch_36 rfl ?_
          refine rn_iload_n 38 d_L_hasBranch_37 rfl rfl ?_
          refine rn_iadd 39 d_L_hasBranch_38 rfl ?_
          refine rn_iaload 40 d_L_hasBranch_39 rfl rfl (by decide) (by omega) (by omega) ?_
          have hU1 := hU (2 * b + i) (by omega) (by omega)
          refine rn_if_eq 47 43 d_L_hasBranch_40 rfl rfl ⟨by omega, by omega⟩ (fun c_40 => ?_) (fun c_40 => ?_)
          · refine rn_iconst 48 d_L_hasBranch_47 rfl ?_
            exact rn_ireturn d_L_hasBranch_48 (Or.inr ⟨rfl, Or.inl rfl⟩) ⟨by rw [bz_f (by omega)], rfl⟩
          · refine rn_iconst 44 d_L_hasBranch_43 rfl ?_
            refine rn_goto 48 d_L_hasBranch_44 rfl ?_
            exact rn_ireturn d_L_hasBranch_48 (Or.inr ⟨rfl, Or.inr rfl⟩) ⟨by rw [bz_t (by omega)], rfl⟩
def aBranch (σ : av_S) (b i : Int) : Int := if (σ 0 6 = 1 ∧ (0 ≤ b ∧ b < σ 1 5) ∧ (i = 0 ∨ i = 1) ∧ σ 24 (2 * b + i) ≠ 0) then σ 24 (2 * b + i) else -3
set_option maxRecDepth 100000 in
set_option maxHeartbeats 400000 in
theorem ev_L_branch {sc : av_sc} {d : Nat} {σ : av_S} {b i : Int} (hb : av_in b) (hi : av_in i) (hI : iL σ) (hU : ∀ k, 0 ≤ k → k < 48 → 0 ≤ σ 24 k ∧ σ 24 k ≤ 2) : av_Ev sc m_L_branch (d + 2) false 0 0 [vR 0, vI b, vI i] (hp σ) (fun r h => r = some (vI (aBranch σ b i)) ∧ h = hp σ) := by
  obtain ⟨hn, hB, hT, hc8, hc9, hlo, hrg⟩ := id hI
  refine av_ev rfl rfl (Nat.le_of_ble_eq_true rfl) rfl ?_
  refine rn_aload_n 1 d_L_branch_0 rfl rfl ?_
  refine rn_iload_n 2 d_L_branch_1 rfl rfl ?_
  refine rn_iload_n 3 d_L_branch_2 rfl rfl ?_
  refine rn_callV2 6 d_L_branch_3 rfl cw_L_137 rfl (Nat.le_of_ble_eq_true rfl) (ev_L_hasBranch hb hi hI hU) ?_
  rintro _ _ ⟨rfl, rfl⟩
  refine rn_ifB_eq 25 9 d_L_branch_6 rfl rfl (fun c_6 => ?_) (fun c_6 => ?_)
  · refine rn_bipush 27 d_L_branch_25 rfl rfl ?_
    exact rn_ireturn d_L_branch_27 (Or.inl rfl) ⟨by unfold aBranch; (first | rw [if_pos (by omega)] | rw [if_neg (by omega)]); try (first | rw [if_pos (by omega)] | rw [if_neg (by omega)]), rfl⟩
  · refine rn_aload_n 10 d_L_branch_9 rfl rfl ?_
    refine rn_getfield 13 d_L_branch_10 rfl fd_L_53 rfl rfl ?_
    refine rn_getfield 16 d_L_branch_13 rfl fd_L_140 rfl rfl ?_
    refine rn_iconst 17 d_L_branch_16 rfl ?_
    refine rn_iload_n 18 d_L_branch_17 rfl rfl ?_
    refine rn_imul 19 d_L_branch_18 rfl ?_
    refine rn_iload_n 20 d_L_branch_19 rfl rfl ?_
    refine rn_iadd 21 d_L_branch_20 rfl ?_
    refine rn_iaload 22 d_L_branch_21 rfl rfl (by decide) (by omega) (by omega) ?_
    refine rn_goto 27 d_L_branch_22 rfl ?_
    exact rn_ireturn d_L_branch_27 (Or.inl rfl) ⟨by unfold aBranch; (first | rw [if_pos (by omega)] | rw [if_neg (by omega)]); try (first | rw [if_pos (by omega)] | rw [if_neg (by omega)]), rfl⟩
def aTarget (σ : av_S) (b i : Int) : Int := if (σ 0 6 = 1 ∧ (0 ≤ b ∧ b < σ 1 5) ∧ (i = 0 ∨ i = 1) ∧ σ 24 (2 * b + i) ≠ 0) then σ 23 (2 * b + i) else -3
set_option maxRecDepth 100000 in
set_option maxHeartbeats 400000 in
theorem ev_L_target {sc : av_sc} {d : Nat} {σ : av_S} {b i : Int} (hb : av_in b) (hi : av_in i) (hI : iL σ) (hU : ∀ k, 0 ≤ k → k < 48 → 0 ≤ σ 24 k ∧ σ 24 k ≤ 2) : av_Ev sc m_L_target (d + 2) false 0 0 [vR 0, vI b, vI i] (hp σ) (fun r h => r = some (vI (aTarget σ b i)) ∧ h = hp σ) := by
  obtain ⟨hn, hB, hT, hc8, hc9, hlo, hrg⟩ := id hI
  refine av_ev rfl rfl (Nat.le_of_ble_eq_true rfl) rfl ?_
  refine rn_aload_n 1 d_L_target_0 rfl rfl ?_
  refine rn_iload_n 2 d_L_target_1 rfl rfl ?_
  refine rn_iload_n 3 d_L_target_2 rfl rfl ?_
  refine rn_callV2 6 d_L_target_3 rfl cw_L_137 rfl (Nat.le_of_ble_eq_true rfl) (ev_L_hasBranch hb hi hI hU) ?_
  rintro _ _ ⟨rfl, rfl⟩
  refine rn_ifB_eq 25 9 d_L_target_6 rfl rfl (fun c_6 => ?_) (fun c_6 => ?_)
  · refine rn_bipush 27 d_L_target_25 rfl rfl ?_
    exact rn_ireturn d_L_target_27 (Or.inl rfl) ⟨by unfold aTarget; (first | rw [if_pos (by omega)] | rw [if_neg (by omega)]); try (first | rw [if_pos (by omega)] | rw [if_neg (by omega)]), rfl⟩
  · refine rn_aload_n 10 d_L_target_9 rfl rfl ?_
    refine rn_getfield 13 d_L_target_10 rfl fd_L_53 rfl rfl ?_
    refine rn_getfield 16 d_L_target_13 rfl fd_L_143 rfl rfl ?_
    refine rn_iconst 17 d_L_target_16 rfl ?_
    refine rn_iload_n 18 d_L_target_17 rfl rfl ?_
    refine rn_imul 19 d_L_target_18 rfl ?_
    refine rn_iload_n 20 d_L_target_19 rfl rfl ?_
    refine rn_iadd 21 d_L_target_20 rfl ?_
    refine rn_iaload 22 d_L_target_21 rfl rfl (by decide) (by omega) (by omega) ?_
    refine rn_goto 27 d_L_target_22 rfl ?_
    exact rn_ireturn d_L_target_27 (Or.inl rfl) ⟨by unfold aTarget; (first | rw [if_pos (by omega)] | rw [if_neg (by omega)]); try (first | rw [if_pos (by omega)] | rw [if_neg (by omega)]), rfl⟩
def aHeatOf (σ : av_S) (b e : Int) : Int := if e = -1 ∧ 0 ≤ b ∧ b < σ 1 5 then σ 8 b else if (0 ≤ b ∧ b < σ 1 5) ∧ 0 ≤ e ∧ e < σ 4 b then σ 9 (2 * b + e) else -3
set_option maxRecDepth 100000 in
set_option maxHeartbeats 400000 in
theorem ev_L_heatOf {sc : av_sc} {d : Nat} {σ : av_S} {b e : Int} (hb : av_in b) (he : av_in e) (hI : iL σ) : av_Ev sc m_L_heatOf (d + 2) false 0 0 [vR 0, vI b, vI e] (hp σ) (fun r h => r = some (vI (aHeatOf σ b e)) ∧ h = hp σ) := by
  obtain ⟨hn, hB, hT, hc8, hc9, hlo, hrg⟩ := id hI
  obtain ⟨he1, he2⟩ := id he
  refine av_ev rfl rfl (Nat.le_of_ble_eq_true rfl) rfl ?_
  refine rn_iload_n 1 d_L_heatOf_0 rfl rfl ?_
  refine rn_iconst 2 d_L_heatOf_1 rfl ?_
  refine rn_icmp_ne 26 5 d_L_heatOf_2 rfl rfl ⟨by omega, by omega⟩ ⟨by omega, by omega⟩ (fun c_2 => ?_) (fun c_2 => ?_)
  · refine rn_aload_n 27 d_L_heatOf_26 rfl rfl ?_
    refine rn_getfield 30 d_L_heatOf_27 rfl fd_L_25 rfl rfl ?_
    refine rn_iload_n 31 d_L_heatOf_30 rfl rfl ?_
    refine rn_iload_n 32 d_L_heatOf_31 rfl rfl ?_
    refine rn_callV2 35 d_L_heatOf_32 rfl cw_L_93 rfl (Nat.le_of_ble_eq_true rfl) (ev_G_hasEdge hb he hn (iL_E hI)) ?_
    rintro _ _ ⟨rfl, rfl⟩
    refine rn_ifB_eq 54 38 d_L_heatOf_35 rfl rfl (fun c_35 => ?_) (fun c_35 => ?_)
    · refine rn_bipush 56 d_L_heatOf_54 rfl rfl ?_
      first | (exfalso; omega) | exact rn_ireturn d_L_heatOf_56 (Or.inl rfl) ⟨by unfold aHeatOf; (first | rw [if_pos (by omega)] | rw [if_neg (by omega)]); try (first | rw [if_pos (by omega)] | rw [if_neg (by omega)]), rfl⟩
    · have hEb := iL_E hI b c_35.1.1 c_35.1.2
      refine rn_aload_n 39 d_L_heatOf_38 rfl rfl ?_
      refine rn_getfield 42 d_L_heatOf_39 rfl fd_L_32 rfl rfl ?_
      refine rn_getfield 45 d_L_heatOf_42 rfl fd_L_107 rfl rfl ?_
      refine rn_iconst 46 d_L_heatOf_45 rfl ?_
      refine rn_iload_n 47 d_L_heatOf_46 rfl rfl ?_
      refine rn_imul 48 d_L_heatOf_47 rfl ?_
      refine rn_iload_n 49 d_L_heatOf_48 rfl rfl ?_
      refine rn_iadd 50 d_L_heatOf_49 rfl ?_
      refine rn_iaload 51 d_L_heatOf_50 rfl rfl (by decide) (by omega) (by omega) ?_
      refine rn_goto 56 d_L_heatOf_51 rfl ?_
      first | (exfalso; omega) | exact rn_ireturn d_L_heatOf_56 (Or.inl rfl) ⟨by unfold aHeatOf; (first | rw [if_pos (by omega)] | rw [if_neg (by omega)]); try (first | rw [if_pos (by omega)] | rw [if_neg (by omega)]), rfl⟩
  · refine rn_aload_n 6 d_L_heatOf_5 rfl rfl ?_
    refine rn_getfield 9 d_L_heatOf_6 rfl fd_L_25 rfl rfl ?_
    refine rn_iload_n 10 d_L_heatOf_9 rfl rfl ?_
    refine rn_callV1 13 d_L_heatOf_10 rfl cw_L_131 rfl (Nat.le_of_ble_eq_true rfl) (ev_G_has hb hn) ?_
    rintro _ _ ⟨rfl, rfl⟩
    refine rn_ifB_eq 26 16 d_L_heatOf_13 rfl rfl (fun c_13 => ?_) (fun c_13 => ?_)
    · refine rn_aload_n 27 d_L_heatOf_26 rfl rfl ?_
      refine rn_getfield 30 d_L_heatOf_27 rfl fd_L_25 rfl rfl ?_
      refine rn_iload_n 31 d_L_heatOf_30 rfl rfl ?_
      refine rn_iload_n 32 d_L_heatOf_31 rfl rfl ?_
      refine rn_callV2 35 d_L_heatOf_32 rfl cw_L_93 rfl (Nat.le_of_ble_eq_true rfl) (ev_G_hasEdge hb he hn (iL_E hI)) ?_
      rintro _ _ ⟨rfl, rfl⟩
      refine rn_ifB_eq 54 38 d_L_heatOf_35 rfl rfl (fun c_35 => ?_) (fun c_35 => ?_)
      · refine rn_bipush 56 d_L_heatOf_54 rfl rfl ?_
        first | (exfalso; omega) | exact rn_ireturn d_L_heatOf_56 (Or.inl rfl) ⟨by unfold aHeatOf; (first | rw [if_pos (by omega)] | rw [if_neg (by omega)]); try (first | rw [if_pos (by omega)] | rw [if_neg (by omega)]), rfl⟩
      · have hEb := iL_E hI b c_35.1.1 c_35.1.2
        refine rn_aload_n 39 d_L_heatOf_38 rfl rfl ?_
        refine rn_getfield 42 d_L_heatOf_39 rfl fd_L_32 rfl rfl ?_
        refine rn_getfield 45 d_L_heatOf_42 rfl fd_L_107 rfl rfl ?_
        refine rn_iconst 46 d_L_heatOf_45 rfl ?_
        refine rn_iload_n 47 d_L_heatOf_46 rfl rfl ?_
        refine rn_imul 48 d_L_heatOf_47 rfl ?_
        refine rn_iload_n 49 d_L_heatOf_48 rfl rfl ?_
        refine rn_iadd 50 d_L_heatOf_49 rfl ?_
        refine rn_iaload 51 d_L_heatOf_50 rfl rfl (by decide) (by omega) (by omega) ?_
        refine rn_goto 56 d_L_heatOf_51 rfl ?_
        first | (exfalso; omega) | exact rn_ireturn d_L_heatOf_56 (Or.inl rfl) ⟨by unfold aHeatOf; (first | rw [if_pos (by omega)] | rw [if_neg (by omega)]); try (first | rw [if_pos (by omega)] | rw [if_neg (by omega)]), rfl⟩
    · refine rn_aload_n 17 d_L_heatOf_16 rfl rfl ?_
      refine rn_getfield 20 d_L_heatOf_17 rfl fd_L_32 rfl rfl ?_
      refine rn_getfield 23 d_L_heatOf_20 rfl fd_L_159 rfl rfl ?_
      refine rn_iload_n 24 d_L_heatOf_23 rfl rfl ?_
      refine rn_iaload 25 d_L_heatOf_24 rfl rfl (by decide) (by omega) (by omega) ?_
      exact rn_ireturn d_L_heatOf_25 (Or.inl rfl) ⟨by unfold aHeatOf; (first | rw [if_pos (by omega)] | rw [if_neg (by omega)]); try (first | rw [if_pos (by omega)] | rw [if_neg (by omega)]), rfl⟩
def aCL (σ : av_S) (w : Int) : Int := if w = 1 then σ 21 4 else if w = 2 then σ 21 5 else if w = 3 then σ 21 6 else if w = 4 then σ 13 2 else σ 13 1
set_option maxRecDepth 100000 in
set_option maxHeartbeats 400000 in
theorem ev_L_countOfLayout {sc : av_sc} {d : Nat} {σ : av_S} {w : Int} (hw : 1 ≤ w ∧ w ≤ 5) : av_Ev sc m_L_countOfLayout (d) false 0 0 [vR 0, vI w] (hp σ) (fun r h => r = some (vI (aCL σ w)) ∧ h = hp σ) := by
  refine av_ev rfl rfl (Nat.le_of_ble_eq_true rfl) rfl ?_
  refine rn_iload_n 1 d_L_countOfLayout_0 rfl rfl ?_
  rcases (show w = 1 ∨ w = 2 ∨ w = 3 ∨ w = 4 ∨ w = 5 by omega) with rfl | rfl | rfl | rfl | rfl
  · refine rn_tabIn 32 d_L_countOfLayout_1 ⟨by decide, by decide⟩ (by decide) (by decide) rfl rfl ?_
    refine rn_aload_n 33 d_L_countOfLayout_32 rfl rfl ?_
    refine rn_getfield 36 d_L_countOfLayout_33 rfl fd_L_53 rfl rfl ?_
    refine rn_getfield 39 d_L_countOfLayout_36 rfl fd_L_128 rfl rfl ?_
    exact rn_ireturn d_L_countOfLayout_39 (Or.inl rfl) ⟨rfl, rfl⟩
  · refine rn_tabIn 40 d_L_countOfLayout_1 ⟨by decide, by decide⟩ (by decide) (by decide) rfl rfl ?_
    refine rn_aload_n 41 d_L_countOfLayout_40 rfl rfl ?_
    refine rn_getfield 44 d_L_countOfLayout_41 rfl fd_L_53 rfl rfl ?_
    refine rn_getfield 47 d_L_countOfLayout_44 rfl fd_L_166 rfl rfl ?_
    exact rn_ireturn d_L_countOfLayout_47 (Or.inl rfl) ⟨rfl, rfl⟩
  · refine rn_tabIn 48 d_L_countOfLayout_1 ⟨by decide, by decide⟩ (by decide) (by decide) rfl rfl ?_
    refine rn_aload_n 49 d_L_countOfLayout_48 rfl rfl ?_
    refine rn_getfield 52 d_L_countOfLayout_49 rfl fd_L_53 rfl rfl ?_
    refine rn_getfield 55 d_L_countOfLayout_52 rfl fd_L_169 rfl rfl ?_
    exact rn_ireturn d_L_countOfLayout_55 (Or.inl rfl) ⟨rfl, rfl⟩
  · refine rn_tabIn 56 d_L_countOfLayout_1 ⟨by decide, by decide⟩ (by decide) (by decide) rfl rfl ?_
    refine rn_aload_n 57 d_L_countOfLayout_56 rfl rfl ?_
    refine rn_getfield 60 d_L_countOfLayout_57 rfl fd_L_46 rfl rfl ?_
    refine rn_getfield 63 d_L_countOfLayout_60 rfl fd_L_172 rfl rfl ?_
    exact rn_ireturn d_L_countOfLayout_63 (Or.inl rfl) ⟨rfl, rfl⟩
  · refine rn_tabOut 64 d_L_countOfLayout_1 ⟨by decide, by decide⟩ (by decide) rfl ?_
    refine rn_aload_n 65 d_L_countOfLayout_64 rfl rfl ?_
    refine rn_getfield 68 d_L_countOfLayout_65 rfl fd_L_46 rfl rfl ?_
    refine rn_getfield 71 d_L_countOfLayout_68 rfl fd_L_175 rfl rfl ?_
    exact rn_ireturn d_L_countOfLayout_71 (Or.inl rfl) ⟨rfl, rfl⟩
def aCount (σ : av_S) (w : Int) : Int := if w < 0 ∨ 5 < w then -1 else if w = 0 then σ 1 5 else if σ 0 6 = 1 then aCL σ w else 0
set_option maxRecDepth 100000 in
set_option maxHeartbeats 400000 in
theorem ev_L_count {sc : av_sc} {d : Nat} {σ : av_S} {w : Int} (hw : av_in w) (hI : iL σ) : av_Ev sc m_L_count (d + 1) false 0 0 [vR 0, vI w] (hp σ) (fun r h => r = some (vI (aCount σ w)) ∧ h = hp σ) := by
  obtain ⟨hn, hB, hT, hc8, hc9, hlo, hrg⟩ := id hI
  obtain ⟨hw1, hw2⟩ := hw
  refine av_ev rfl rfl (Nat.le_of_ble_eq_true rfl) rfl ?_
  refine rn_iload_n 1 d_L_count_0 rfl rfl ?_
  refine rn_if_lt 9 4 d_L_count_1 rfl rfl ⟨by omega, by omega⟩ (fun c_1 => ?_) (fun c_1 => ?_)
  · refine rn_iconst 10 d_L_count_9 rfl ?_
    exact rn_ireturn d_L_count_10 (Or.inl rfl) ⟨by unfold aCount; (first | rw [if_pos (by omega)] | rw [if_neg (by omega)]); try (first | rw [if_pos (by omega)] | rw [if_neg (by omega)]); try (first | rw [if_pos (by omega)] | rw [if_neg (by omega)]), rfl⟩
  · refine rn_iload_n 5 d_L_count_4 rfl rfl ?_
    refine rn_iconst 6 d_L_count_5 rfl ?_
    refine rn_icmp_le 11 9 d_L_count_6 rfl rfl ⟨by omega, by omega⟩ ⟨by omega, by omega⟩ (fun c_6 => ?_) (fun c_6 => ?_)
    · refine rn_iload_n 12 d_L_count_11 rfl rfl ?_
      refine rn_if_ne 23 15 d_L_count_12 rfl rfl ⟨by omega, by omega⟩ (fun c_12 => ?_) (fun c_12 => ?_)
      · refine rn_aload_n 24 d_L_count_23 rfl rfl ?_
        refine rn_getfield 27 d_L_count_24 rfl fd_L_57 rfl rfl ?_
        refine rn_if_eq 38 30 d_L_count_27 rfl rfl ⟨by omega, by omega⟩ (fun c_27 => ?_) (fun c_27 => ?_)
        · refine rn_iconst 39 d_L_count_38 rfl ?_
          exact rn_ireturn d_L_count_39 (Or.inl rfl) ⟨by unfold aCount; (first | rw [if_pos (by omega)] | rw [if_neg (by omega)]); try (first | rw [if_pos (by omega)] | rw [if_neg (by omega)]); try (first | rw [if_pos (by omega)] | rw [if_neg (by omega)]), rfl⟩
        · refine rn_aload_n 31 d_L_count_30 rfl rfl ?_
          refine rn_iload_n 32 d_L_count_31 rfl rfl ?_
          refine rn_callV1 35 d_L_count_32 rfl cw_L_162 rfl (Nat.le_of_ble_eq_true rfl) (ev_L_countOfLayout ⟨by omega, by omega⟩) ?_
          rintro _ _ ⟨rfl, rfl⟩
          refine rn_goto 39 d_L_count_35 rfl ?_
          exact rn_ireturn d_L_count_39 (Or.inl rfl) ⟨by unfold aCount; (first | rw [if_pos (by omega)] | rw [if_neg (by omega)]); try (first | rw [if_pos (by omega)] | rw [if_neg (by omega)]); try (first | rw [if_pos (by omega)] | rw [if_neg (by omega)]), rfl⟩
      · refine rn_aload_n 16 d_L_count_15 rfl rfl ?_
        refine rn_getfield 19 d_L_count_16 rfl fd_L_25 rfl rfl ?_
        refine rn_getfield 22 d_L_count_19 rfl fd_L_61 rfl rfl ?_
        exact rn_ireturn d_L_count_22 (Or.inl rfl) ⟨by unfold aCount; (first | rw [if_pos (by omega)] | rw [if_neg (by omega)]); try (first | rw [if_pos (by omega)] | rw [if_neg (by omega)]); try (first | rw [if_pos (by omega)] | rw [if_neg (by omega)]), rfl⟩
    · refine rn_iconst 10 d_L_count_9 rfl ?_
      exact rn_ireturn d_L_count_10 (Or.inl rfl) ⟨by unfold aCount; (first | rw [if_pos (by omega)] | rw [if_neg (by omega)]); try (first | rw [if_pos (by omega)] | rw [if_neg (by omega)]); try (first | rw [if_pos (by omega)] | rw [if_neg (by omega)]), rfl⟩
