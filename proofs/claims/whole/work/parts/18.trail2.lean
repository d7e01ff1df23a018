/-- one more, at most 1000000 -/
def inc (f : Int → Int) (b : Int) : Int → Int := uI f b (mn 1000000 (f b + 1))
def cb : List (Int × Int) → (Int → Int) → Int → Int
  | [], f => f
  | p :: r, f => cb r (inc f p.1)
def ce : List (Int × Int) → (Int → Int) → Int → Int
  | [], f => f
  | [_], f => f
  | p :: q :: r, f => ce (q :: r) (inc f (2 * p.1 + p.2))
def nS (σ : av_S) (F G : Int → Int) : av_S := up (up σ 8 F) 9 G
def bd (F : Int → Int) (n : Int) : Prop := ∀ b, 0 ≤ b → b < n → 0 ≤ F b ∧ F b ≤ 1000000
theorem bd_inc {F : Int → Int} {n b : Int} (h : bd F n) (hb : 0 ≤ b ∧ b < n) : bd (inc F b) n := by
  intro j h0 h1
  unfold inc
  by_cases hj : j = b
  · subst hj
    rw [uI_s]
    have := h j h0 h1
    unfold mn
    split <;> omega
  · rw [uI_n F _ hj]
    exact h j h0 h1
theorem bd_cb {n : Int} : ∀ (l : List (Int × Int)) (F : Int → Int), (∀ p ∈ l, 0 ≤ p.1 ∧ p.1 < n) → bd F n → bd (cb l F) n := by
  intro l
  induction l with
  | nil => intro F _ h; exact h
  | cons p r ih => intro F hl h; exact ih _ (fun q hq => hl q (List.mem_cons_of_mem _ hq)) (bd_inc h (hl p List.mem_cons_self))
theorem bd_ce {n : Int} : ∀ (l : List (Int × Int)) (F : Int → Int), (∀ p ∈ l, 0 ≤ 2 * p.1 + p.2 ∧ 2 * p.1 + p.2 < n) → bd F n → bd (ce l F) n := by
  intro l
  induction l with
  | nil => intro F _ h; exact h
  | cons p r ih =>
    intro F hl h
    cases r with
    | nil => exact h
    | cons q r => exact ih _ (fun q hq => hl q (List.mem_cons_of_mem _ hq)) (bd_inc h (hl p List.mem_cons_self))
set_option maxRecDepth 100000 in
set_option maxHeartbeats 400000 in
theorem addTrail_loop {sc : av_sc} {d n0 bc bs : Nat} {al : Bool} {σ : av_S} {m : Int} {Φ : Option av_V → av_H → Prop} (hm : σ 10 2 = m) (hm6 : m ≤ 60) :
    ∀ (r : List (Int × Int)) (i : Int) (F G : Int → Int), 0 ≤ i → i + (r.length : Int) = m → hl (σ 11) i (r.map Prod.fst) → hl (σ 12) i (r.map Prod.snd) → (∀ p ∈ r, (0 ≤ p.1 ∧ p.1 < 24) ∧ 0 ≤ p.2 ∧ p.2 ≤ 1) → bd F 24 → bd G 48 → Φ none (hp (nS σ (cb r F) (ce r G))) →
      av_Rn sc m_N_addTrail (d + 2) al n0 bc bs 2 [some (vR 7), some (vR 10), some (vI i)] [] (hp (nS σ F G)) Φ := by
  intro r
  induction r with
  | nil =>
    intro i F G h0 hi h1 h2 h3 hF hG hΦ
    simp only [List.length_nil] at hi
    refine rn_iload_n 3 d_N_addTrail_2 rfl rfl ?_
    refine rn_aload_n 4 d_N_addTrail_3 rfl rfl ?_
    refine rn_getfield 7 d_N_addTrail_4 rfl fd_N_25 rfl rfl ?_
    rw [show (nS σ F G) 10 2 = σ 10 2 from rfl]
    refine rn_icmp_ge 57 10 d_N_addTrail_7 rfl rfl ⟨by omega, by omega⟩ ⟨by omega, by omega⟩ (fun c_7 => ?_) (fun c_7 => ?_)
    · exact rn_return d_N_addTrail_57 rfl hΦ
    · omega
  | cons p r ih =>
    intro i F G h0 hi h1 h2 h3 hF hG hΦ
    have hp3 := h3 p List.mem_cons_self
    simp only [List.length_cons] at hi
    have e1 : σ 11 i = p.1 := h1.1
    have e2 : σ 12 i = p.2 := h2.1
    refine rn_iload_n 3 d_N_addTrail_2 rfl rfl ?_
    refine rn_aload_n 4 d_N_addTrail_3 rfl rfl ?_
    refine rn_getfield 7 d_N_addTrail_4 rfl fd_N_25 rfl rfl ?_
    rw [show (nS σ F G) 10 2 = σ 10 2 from rfl]
    refine rn_icmp_ge 57 10 d_N_addTrail_7 rfl rfl ⟨by omega, by omega⟩ ⟨by omega, by omega⟩ (fun c_7 => ?_) (fun c_7 => ?_)
    · omega
    · refine rn_aload_n 11 d_N_addTrail_10 rfl rfl ?_
      refine rn_aload_n 12 d_N_addTrail_11 rfl rfl ?_
      refine rn_getfield 15 d_N_addTrail_12 rfl fd_N_31 rfl rfl ?_
      refine rn_iload_n 16 d_N_addTrail_15 rfl rfl ?_
      refine rn_iaload 17 d_N_addTrail_16 rfl rfl (by decide) (by omega) (by omega) ?_
      rw [show (nS σ F G) 11 i = σ 11 i from rfl]
      rw [e1]
      refine rn_iconst 18 d_N_addTrail_17 rfl ?_
      refine rn_callV2 21 d_N_addTrail_18 rfl cw_N_34 rfl (Nat.le_of_ble_eq_true rfl) (ev_N_addToBlock hp3.1 ⟨by omega, by omega⟩ (hF p.1 hp3.1.1 hp3.1.2)) ?_
      rintro _ _ ⟨rfl, rfl⟩
      change av_Rn _ _ _ _ _ _ _ _ _ _ (hp (nS σ (inc F p.1) G)) _
      refine rn_iload_n 22 d_N_addTrail_21 rfl rfl ?_
      refine rn_iconst 23 d_N_addTrail_22 rfl ?_
      refine rn_iadd 24 d_N_addTrail_23 rfl ?_
      refine rn_aload_n 25 d_N_addTrail_24 rfl rfl ?_
      refine rn_getfield 28 d_N_addTrail_25 rfl fd_N_25 rfl rfl ?_
      rw [show (nS σ (inc F p.1) G) 10 2 = σ 10 2 from rfl]
      refine rn_icmp_ge 51 31 d_N_addTrail_28 rfl rfl ⟨by omega, by omega⟩ ⟨by omega, by omega⟩ (fun c_28 => ?_) (fun c_28 => ?_)
      · have L1 : ∀ G1 : Int → Int, bd G1 48 → Φ none (hp (nS σ (cb r (inc F p.1)) (ce r G1))) → av_Rn sc m_N_addTrail (d + 2) al n0 bc bs 51 [some (vR 7), some (vR 10), some (vI i)] [] (hp (nS σ (inc F p.1) G1)) Φ := by
          intro G1 hG1 hΦ1
          refine rn_iinc 54 d_N_addTrail_51 rfl rfl (by decide) rfl rfl ?_
          refine rn_goto 2 d_N_addTrail_54 rfl ?_
          exact ih (i + 1) _ _ (by omega) (by omega) h1.2 h2.2 (fun q hq => h3 q (List.mem_cons_of_mem _ hq)) (bd_inc hF hp3.1) hG1 hΦ1
        cases r with
        | nil =>
          simp only [List.length_nil] at hi
          first | (exfalso; omega) | exact L1 G hG hΦ
        | cons q r =>
          simp only [List.length_cons] at hi
          first | (exfalso; omega) | exact L1 (inc G (2 * p.1 + p.2)) (bd_inc hG ⟨by omega, by omega⟩) hΦ
      · refine rn_aload_n 32 d_N_addTrail_31 rfl rfl ?_
        refine rn_iconst 33 d_N_addTrail_32 rfl ?_
        refine rn_aload_n 34 d_N_addTrail_33 rfl rfl ?_
        refine rn_getfield 37 d_N_addTrail_34 rfl fd_N_31 rfl rfl ?_
        refine rn_iload_n 38 d_N_addTrail_37 rfl rfl ?_
        refine rn_iaload 39 d_N_addTrail_38 rfl rfl (by decide) (by omega) (by omega) ?_
        rw [show (nS σ (inc F p.1) G) 11 i = σ 11 i from rfl]
        rw [e1]
        refine rn_imul 40 d_N_addTrail_39 rfl ?_
        refine rn_aload_n 41 d_N_addTrail_40 rfl rfl ?_
        refine rn_getfield 44 d_N_addTrail_41 rfl fd_N_38 rfl rfl ?_
        refine rn_iload_n 45 d_N_addTrail_44 rfl rfl ?_
        refine rn_iaload 46 d_N_addTrail_45 rfl rfl (by decide) (by omega) (by omega) ?_
        rw [show (nS σ (inc F p.1) G) 12 i = σ 12 i from rfl]
        rw [e2]
        refine rn_iadd 47 d_N_addTrail_46 rfl ?_
        refine rn_iconst 48 d_N_addTrail_47 rfl ?_
        refine rn_callV2 51 d_N_addTrail_48 rfl cw_N_41 rfl (Nat.le_of_ble_eq_true rfl) (ev_N_addToEdge ⟨by omega, by omega⟩ ⟨by omega, by omega⟩ (hG (2 * p.1 + p.2) (by omega) (by omega))) ?_
        rintro _ _ ⟨rfl, rfl⟩
        change av_Rn _ _ _ _ _ _ _ _ _ _ (hp (nS σ (inc F p.1) (inc G (2 * p.1 + p.2)))) _
        have L1 : ∀ G1 : Int → Int, bd G1 48 → Φ none (hp (nS σ (cb r (inc F p.1)) (ce r G1))) → av_Rn sc m_N_addTrail (d + 2) al n0 bc bs 51 [some (vR 7), some (vR 10), some (vI i)] [] (hp (nS σ (inc F p.1) G1)) Φ := by
          intro G1 hG1 hΦ1
          refine rn_iinc 54 d_N_addTrail_51 rfl rfl (by decide) rfl rfl ?_
          refine rn_goto 2 d_N_addTrail_54 rfl ?_
          exact ih (i + 1) _ _ (by omega) (by omega) h1.2 h2.2 (fun q hq => h3 q (List.mem_cons_of_mem _ hq)) (bd_inc hF hp3.1) hG1 hΦ1
        cases r with
        | nil =>
          simp only [List.length_nil] at hi
          first | (exfalso; omega) | exact L1 G hG hΦ
        | cons q r =>
          simp only [List.length_cons] at hi
          first | (exfalso; omega) | exact L1 (inc G (2 * p.1 + p.2)) (bd_inc hG ⟨by omega, by omega⟩) hΦ
set_option maxRecDepth 100000 in
set_option maxHeartbeats 400000 in
theorem ev_N_addTrail {sc : av_sc} {d : Nat} {σ : av_S} {l : List (Int × Int)} (hm : σ 10 2 = (l.length : Int)) (hm6 : (l.length : Int) ≤ 60) (h1 : hl (σ 11) 0 (l.map Prod.fst)) (h2 : hl (σ 12) 0 (l.map Prod.snd)) (h3 : ∀ p ∈ l, (0 ≤ p.1 ∧ p.1 < 24) ∧ 0 ≤ p.2 ∧ p.2 ≤ 1) (hF : bd (σ 8) 24) (hG : bd (σ 9) 48) : av_Ev sc m_N_addTrail (d + 2) false 0 0 [vR 7, vR 10] (hp σ) (fun r h => r = none ∧ h = hp (nS σ (cb l (σ 8)) (ce l (σ 9)))) := by
  refine av_ev rfl rfl (Nat.le_of_ble_eq_true rfl) rfl ?_
  refine rn_iconst 1 d_N_addTrail_0 rfl ?_
  refine rn_istore_n 2 d_N_addTrail_1 rfl (by decide) rfl rfl ?_
  change av_Rn _ _ _ _ _ _ _ _ _ _ (hp (nS σ (σ 8) (σ 9))) _
  exact addTrail_loop hm hm6 l 0 (σ 8) (σ 9) (by omega) (by omega) h1 h2 h3 hF hG ⟨rfl, rfl⟩
