def le (un : Int → Int) (k : Int) : Int := if un k = 2 then 1 else 0
def cL (un tu : Int → Int) (b en hh : Int) : Int := if en = 0 then 1 else if en = 1 then (if un (2 * b) = 0 then 0 else 2 + le un (2 * b)) else if hh = tu b then (if un (2 * b + 1) = 0 then 1 else 3 + le un (2 * b + 1)) else 2 + le un (2 * b)
set_option maxRecDepth 100000 in
set_option maxHeartbeats 400000 in
theorem ev_C_longExtra {sc : av_sc} {d : Nat} {σ : av_S} {k : Int} (hk : 0 ≤ k ∧ k < 48) (hU : ∀ k, 0 ≤ k → k < 48 → 0 ≤ σ 24 k ∧ σ 24 k ≤ 2) : av_Ev sc m_C_longExtra (d) false 0 0 [vR 21, vI k] (hp σ) (fun r h => r = some (vI (le (σ 24) k)) ∧ h = hp σ) := by
  have hUk := hU k hk.1 hk.2
  refine av_ev rfl rfl (Nat.le_of_ble_eq_true rfl) rfl ?_
  refine rn_aload_n 1 d_C_longExtra_0 rfl rfl ?_
  refine rn_getfield 4 d_C_longExtra_1 rfl fd_C_18 rfl rfl ?_
  refine rn_iload_n 5 d_C_longExtra_4 rfl rfl ?_
  refine rn_iaload 6 d_C_longExtra_5 rfl rfl (by decide) (by omega) (by omega) ?_
  refine rn_iconst 7 d_C_longExtra_6 rfl ?_
  refine rn_icmp_ne 14 10 d_C_longExtra_7 rfl rfl ⟨by omega, by omega⟩ ⟨by omega, by omega⟩ (fun c_7 => ?_) (fun c_7 => ?_)
  · refine rn_iconst 15 d_C_longExtra_14 rfl ?_
    exact rn_ireturn d_C_longExtra_15 (Or.inl rfl) ⟨by unfold le; (first | rw [if_pos (by omega)] | rw [if_neg (by omega)]), rfl⟩
  · refine rn_iconst 11 d_C_longExtra_10 rfl ?_
    refine rn_goto 15 d_C_longExtra_11 rfl ?_
    exact rn_ireturn d_C_longExtra_15 (Or.inl rfl) ⟨by unfold le; (first | rw [if_pos (by omega)] | rw [if_neg (by omega)]), rfl⟩
set_option maxRecDepth 100000 in
set_option maxHeartbeats 400000 in
theorem ev_C_costOfLeaving {sc : av_sc} {d : Nat} {σ : av_S} {b en hh : Int} (hb : 0 ≤ b ∧ b < 24) (hen : 0 ≤ en ∧ en ≤ 2) (hh01 : hh = 0 ∨ hh = 1) (hT : σ 25 b = 0 ∨ σ 25 b = 1) (hU : ∀ k, 0 ≤ k → k < 48 → 0 ≤ σ 24 k ∧ σ 24 k ≤ 2) : av_Ev sc m_C_costOfLeaving (d + 1) false 0 0 [vR 21, vI b, vI en, vI hh] (hp σ) (fun r h => r = some (vI (cL (σ 24) (σ 25) b en hh)) ∧ h = hp σ) := by
  have hU0 := hU (2 * b) (by omega) (by omega)
  have hU1 := hU (2 * b + 1) (by omega) (by omega)
  refine av_ev rfl rfl (Nat.le_of_ble_eq_true rfl) rfl ?_
  refine rn_iconst 1 d_C_costOfLeaving_0 rfl ?_
  refine rn_iload_n 2 d_C_costOfLeaving_1 rfl rfl ?_
  refine rn_imul 3 d_C_costOfLeaving_2 rfl ?_
  refine rn_istore 5 d_C_costOfLeaving_3 rfl (by decide) rfl rfl ?_
  refine rn_iload 7 d_C_costOfLeaving_5 rfl rfl ?_
  refine rn_iconst 8 d_C_costOfLeaving_7 rfl ?_
  refine rn_iadd 9 d_C_costOfLeaving_8 rfl ?_
  refine rn_istore 11 d_C_costOfLeaving_9 rfl (by decide) rfl rfl ?_
  refine rn_iload_n 12 d_C_costOfLeaving_11 rfl rfl ?_
  refine rn_if_ne 17 15 d_C_costOfLeaving_12 rfl rfl ⟨by omega, by omega⟩ (fun c_12 => ?_) (fun c_12 => ?_)
  · refine rn_iload_n 18 d_C_costOfLeaving_17 rfl rfl ?_
    refine rn_iconst 19 d_C_costOfLeaving_18 rfl ?_
    refine rn_icmp_ne 45 22 d_C_costOfLeaving_19 rfl rfl ⟨by omega, by omega⟩ ⟨by omega, by omega⟩ (fun c_19 => ?_) (fun c_19 => ?_)
    · refine rn_iload_n 46 d_C_costOfLeaving_45 rfl rfl ?_
      refine rn_aload_n 47 d_C_costOfLeaving_46 rfl rfl ?_
      refine rn_getfield 50 d_C_costOfLeaving_47 rfl fd_C_21 rfl rfl ?_
      refine rn_iload_n 51 d_C_costOfLeaving_50 rfl rfl ?_
      refine rn_baload 52 d_C_costOfLeaving_51 rfl rfl (by decide) (by omega) (by omega) ?_
      refine rn_icmp_eq 64 55 d_C_costOfLeaving_52 rfl rfl ⟨by omega, by omega⟩ ⟨by omega, by omega⟩ (fun c_52 => ?_) (fun c_52 => ?_)
      · refine rn_aload_n 65 d_C_costOfLeaving_64 rfl rfl ?_
        refine rn_getfield 68 d_C_costOfLeaving_65 rfl fd_C_18 rfl rfl ?_
        refine rn_iload 70 d_C_costOfLeaving_68 rfl rfl ?_
        refine rn_iaload 71 d_C_costOfLeaving_70 rfl rfl (by decide) (by omega) (by omega) ?_
        refine rn_if_ne 78 74 d_C_costOfLeaving_71 rfl rfl ⟨by omega, by omega⟩ (fun c_71 => ?_) (fun c_71 => ?_)
        · refine rn_iconst 79 d_C_costOfLeaving_78 rfl ?_
          refine rn_aload_n 80 d_C_costOfLeaving_79 rfl rfl ?_
          refine rn_iload 82 d_C_costOfLeaving_80 rfl rfl ?_
          refine rn_callV1 85 d_C_costOfLeaving_82 rfl cw_C_79 rfl (Nat.le_of_ble_eq_true rfl) (ev_C_longExtra ⟨by omega, by omega⟩ hU) ?_
          rintro _ _ ⟨rfl, rfl⟩
          refine rn_iadd 86 d_C_costOfLeaving_85 rfl ?_
          exact rn_ireturn d_C_costOfLeaving_86 (Or.inl rfl) ⟨by unfold cL; (first | rw [if_pos (by omega)] | rw [if_neg (by omega)]); try (first | rw [if_pos (by omega)] | rw [if_neg (by omega)]); try (first | rw [if_pos (by omega)] | rw [if_neg (by omega)]); try (first | rw [if_pos (by omega)] | rw [if_neg (by omega)]), rfl⟩
        · refine rn_iconst 75 d_C_costOfLeaving_74 rfl ?_
          refine rn_goto 86 d_C_costOfLeaving_75 rfl ?_
          exact rn_ireturn d_C_costOfLeaving_86 (Or.inl rfl) ⟨by unfold cL; (first | rw [if_pos (by omega)] | rw [if_neg (by omega)]); try (first | rw [if_pos (by omega)] | rw [if_neg (by omega)]); try (first | rw [if_pos (by omega)] | rw [if_neg (by omega)]); try (first | rw [if_pos (by omega)] | rw [if_neg (by omega)]), rfl⟩
      · refine rn_iconst 56 d_C_costOfLeaving_55 rfl ?_
        refine rn_aload_n 57 d_C_costOfLeaving_56 rfl rfl ?_
        refine rn_iload 59 d_C_costOfLeaving_57 rfl rfl ?_
        refine rn_callV1 62 d_C_costOfLeaving_59 rfl cw_C_79 rfl (Nat.le_of_ble_eq_true rfl) (ev_C_longExtra ⟨by omega, by omega⟩ hU) ?_
        rintro _ _ ⟨rfl, rfl⟩
        refine rn_iadd 63 d_C_costOfLeaving_62 rfl ?_
        exact rn_ireturn d_C_costOfLeaving_63 (Or.inl rfl) ⟨by unfold cL; (first | rw [if_pos (by omega)] | rw [if_neg (by omega)]); try (first | rw [if_pos (by omega)] | rw [if_neg (by omega)]); try (first | rw [if_pos (by omega)] | rw [if_neg (by omega)]); try (first | rw [if_pos (by omega)] | rw [if_neg (by omega)]), rfl⟩
    · refine rn_aload_n 23 d_C_costOfLeaving_22 rfl rfl ?_
      refine rn_getfield 26 d_C_costOfLeaving_23 rfl fd_C_18 rfl rfl ?_
      refine rn_iload 28 d_C_costOfLeaving_26 rfl rfl ?_
      refine rn_iaload 29 d_C_costOfLeaving_28 rfl rfl (by decide) (by omega) (by omega) ?_
      refine rn_if_ne 36 32 d_C_costOfLeaving_29 rfl rfl ⟨by omega, by omega⟩ (fun c_29 => ?_) (fun c_29 => ?_)
      · refine rn_iconst 37 d_C_costOfLeaving_36 rfl ?_
        refine rn_aload_n 38 d_C_costOfLeaving_37 rfl rfl ?_
        refine rn_iload 40 d_C_costOfLeaving_38 rfl rfl ?_
        refine rn_callV1 43 d_C_costOfLeaving_40 rfl cw_C_79 rfl (Nat.le_of_ble_eq_true rfl) (ev_C_longExtra ⟨by omega, by omega⟩ hU) ?_
        rintro _ _ ⟨rfl, rfl⟩
        refine rn_iadd 44 d_C_costOfLeaving_43 rfl ?_
        exact rn_ireturn d_C_costOfLeaving_44 (Or.inl rfl) ⟨by unfold cL; (first | rw [if_pos (by omega)] | rw [if_neg (by omega)]); try (first | rw [if_pos (by omega)] | rw [if_neg (by omega)]); try (first | rw [if_pos (by omega)] | rw [if_neg (by omega)]); try (first | rw [if_pos (by omega)] | rw [if_neg (by omega)]), rfl⟩
      · refine rn_iconst 33 d_C_costOfLeaving_32 rfl ?_
        refine rn_goto 44 d_C_costOfLeaving_33 rfl ?_
        exact rn_ireturn d_C_costOfLeaving_44 (Or.inl rfl) ⟨by unfold cL; (first | rw [if_pos (by omega)] | rw [if_neg (by omega)]); try (first | rw [if_pos (by omega)] | rw [if_neg (by omega)]); try (first | rw [if_pos (by omega)] | rw [if_neg (by omega)]); try (first | rw [if_pos (by omega)] | rw [if_neg (by omega)]), rfl⟩
  · refine rn_iconst 16 d_C_costOfLeaving_15 rfl ?_
    exact rn_ireturn d_C_costOfLeaving_16 (Or.inl rfl) ⟨by unfold cL; (first | rw [if_pos (by omega)] | rw [if_neg (by omega)]); try (first | rw [if_pos (by omega)] | rw [if_neg (by omega)]); try (first | rw [if_pos (by omega)] | rw [if_neg (by omega)]); try (first | rw [if_pos (by omega)] | rw [if_neg (by omega)]), rfl⟩
def cS (en un tu : Int → Int) : List (Int × Int) → Int
  | [] => 0
  | p :: r => cL un tu p.1 (en p.1) (if p.2 = 0 then 1 else 0) + cS en un tu r
theorem cL_in {un tu : Int → Int} {b en hh : Int} : 0 ≤ cL un tu b en hh ∧ cL un tu b en hh ≤ 4 := by
  have h1 : ∀ k, 0 ≤ le un k ∧ le un k ≤ 1 := fun k => by unfold le; split <;> omega
  have h2 := h1 (2 * b)
  have h3 := h1 (2 * b + 1)
  unfold cL
  split
  · omega
  · split
    · split <;> omega
    · split
      · split <;> omega
      · omega
set_option maxRecDepth 100000 in
set_option maxHeartbeats 400000 in
theorem cost_loop {sc : av_sc} {d n0 bc bs : Nat} {al : Bool} {σ : av_S} {m fv xv : Int} {Φ : Option av_V → av_H → Prop} (hm : σ 10 2 = m) (hm6 : m ≤ 60) (hE : ∀ b, 0 ≤ b → b < 24 → (σ 25 b = 0 ∨ σ 25 b = 1)) (hU : ∀ k, 0 ≤ k → k < 48 → 0 ≤ σ 24 k ∧ σ 24 k ≤ 2) :
    ∀ (r : List (Int × Int)) (i sm : Int) (lf : Option av_V), 0 ≤ i → i + (r.length : Int) = m → 0 ≤ sm → sm ≤ 4 * i → hl (σ 11) i (r.map Prod.fst) → hl (σ 12) i (r.map Prod.snd) → (∀ p ∈ r, ((0 ≤ p.1 ∧ p.1 < 24) ∧ 0 ≤ σ 4 p.1 ∧ σ 4 p.1 ≤ 2) ∧ 0 ≤ p.2 ∧ p.2 ≤ 1) → Φ (some (vI (sm + cS (σ 4) (σ 24) (σ 25) r))) (hp σ) →
      av_Rn sc m_L_cost (d + 3) al n0 bc bs 38 [some (vR 0), some (vI fv), some (vI xv), some (vI sm), some (vI i), none] [] (hp σ) Φ := by
  intro r
  induction r with
  | nil =>
    intro i sm lf h0 hi hs0 hs1 h1 h2 h3 hΦ
    simp only [List.length_nil] at hi
    have e0 : sm + cS (σ 4) (σ 24) (σ 25) [] = sm := Int.add_zero sm
    rw [e0] at hΦ
    refine rn_iload 40 d_L_cost_38 rfl rfl ?_
    refine rn_aload_n 41 d_L_cost_40 rfl rfl ?_
    refine rn_getfield 44 d_L_cost_41 rfl fd_L_39 rfl rfl ?_
    refine rn_getfield 47 d_L_cost_44 rfl fd_L_91 rfl rfl ?_
    refine rn_icmp_ge 108 50 d_L_cost_47 rfl rfl ⟨by omega, by omega⟩ ⟨by omega, by omega⟩ (fun c_47 => ?_) (fun c_47 => ?_)
    · refine rn_iload_n 109 d_L_cost_108 rfl rfl ?_
      exact rn_ireturn d_L_cost_109 (Or.inl rfl) hΦ
    · omega
  | cons p r ih =>
    intro i sm lf h0 hi hs0 hs1 h1 h2 h3 hΦ
    have hp3 := h3 p List.mem_cons_self
    simp only [List.length_cons] at hi
    have e1 : σ 11 i = p.1 := h1.1
    have e2 : σ 12 i = p.2 := h2.1
    have hTp := hE p.1 hp3.1.1.1 hp3.1.1.2
    have hci := cL_in (un := σ 24) (tu := σ 25) (b := p.1) (en := σ 4 p.1) (hh := if p.2 = 0 then 1 else 0)
    have J : ∀ hh : Int, hh = (if p.2 = 0 then 1 else 0) → av_Rn sc m_L_cost (d + 3) al n0 bc bs 97 [some (vR 0), some (vI fv), some (vI xv), some (vI sm), some (vI i), some (vI p.1)] [vI hh, vI (σ 4 p.1), vI p.1, vR 21, vI sm] (hp σ) Φ := by
      intro hh ehh
      have h01 : hh = 0 ∨ hh = 1 := by rw [ehh]; split <;> omega
      subst ehh
      refine rn_callV3 100 d_L_cost_97 rfl cw_L_155 rfl (Nat.le_of_ble_eq_true rfl) (ev_C_costOfLeaving hp3.1.1 hp3.1.2 h01 hTp hU) ?_
      rintro _ _ ⟨rfl, rfl⟩
      refine rn_iadd 101 d_L_cost_100 rfl ?_
      refine rn_istore_n 102 d_L_cost_101 rfl (by decide) rfl rfl ?_
      refine rn_iinc 105 d_L_cost_102 rfl rfl (by decide) rfl rfl ?_
      refine rn_goto 38 d_L_cost_105 rfl ?_
      refine rn_kill 5 rfl ?_
      refine ih (i + 1) _ none (by omega) (by omega) (by omega) (by omega) h1.2 h2.2 (fun q hq => h3 q (List.mem_cons_of_mem _ hq)) ?_
      rw [Int.add_assoc]
      exact hΦ
    refine rn_iload 40 d_L_cost_38 rfl rfl ?_
    refine rn_aload_n 41 d_L_cost_40 rfl rfl ?_
    refine rn_getfield 44 d_L_cost_41 rfl fd_L_39 rfl rfl ?_
    refine rn_getfield 47 d_L_cost_44 rfl fd_L_91 rfl rfl ?_
    refine rn_icmp_ge 108 50 d_L_cost_47 rfl rfl ⟨by omega, by omega⟩ ⟨by omega, by omega⟩ (fun c_47 => ?_) (fun c_47 => ?_)
    · omega
    · refine rn_aload_n 51 d_L_cost_50 rfl rfl ?_
      refine rn_getfield 54 d_L_cost_51 rfl fd_L_39 rfl rfl ?_
      refine rn_getfield 57 d_L_cost_54 rfl fd_L_146 rfl rfl ?_
      refine rn_iload 59 d_L_cost_57 rfl rfl ?_
      refine rn_iaload 60 d_L_cost_59 rfl rfl (by decide) (by omega) (by omega) ?_
      rw [e1]
      refine rn_istore 62 d_L_cost_60 rfl (by decide) rfl rfl ?_
      refine rn_iload_n 63 d_L_cost_62 rfl rfl ?_
      refine rn_aload_n 64 d_L_cost_63 rfl rfl ?_
      refine rn_getfield 67 d_L_cost_64 rfl fd_L_53 rfl rfl ?_
      refine rn_iload 69 d_L_cost_67 rfl rfl ?_
      refine rn_aload_n 70 d_L_cost_69 rfl rfl ?_
      refine rn_getfield 73 d_L_cost_70 rfl fd_L_25 rfl rfl ?_
      refine rn_getfield 76 d_L_cost_73 rfl fd_L_149 rfl rfl ?_
      refine rn_iload 78 d_L_cost_76 rfl rfl ?_
      refine rn_iaload 79 d_L_cost_78 rfl rfl (by decide) (by omega) (by omega) ?_
      refine rn_aload_n 80 d_L_cost_79 rfl rfl ?_
      refine rn_getfield 83 d_L_cost_80 rfl fd_L_39 rfl rfl ?_
      refine rn_getfield 86 d_L_cost_83 rfl fd_L_152 rfl rfl ?_
      refine rn_iload 88 d_L_cost_86 rfl rfl ?_
      refine rn_iaload 89 d_L_cost_88 rfl rfl (by decide) (by omega) (by omega) ?_
      rw [e2]
      refine rn_if_ne 96 92 d_L_cost_89 rfl rfl ⟨by omega, by omega⟩ (fun c_89 => ?_) (fun c_89 => ?_)
      · refine rn_iconst 97 d_L_cost_96 rfl ?_
        exact J _ (by first | rw [if_pos (by omega)] | rw [if_neg (by omega)])
      · refine rn_iconst 93 d_L_cost_92 rfl ?_
        refine rn_goto 97 d_L_cost_93 rfl ?_
        exact J _ (by first | rw [if_pos (by omega)] | rw [if_neg (by omega)])
set_option maxRecDepth 100000 in
set_option maxHeartbeats 400000 in
theorem ev_L_cost {sc : av_sc} {d : Nat} {σ : av_S} {f x : Int} (hf : av_in f) (hx : av_in x) (hI : iL σ) (hU : ∀ k, 0 ≤ k → k < 48 → 0 ≤ σ 24 k ∧ σ 24 k ≤ 2) (hE : ∀ b, 0 ≤ b → b < 24 → (σ 25 b = 0 ∨ σ 25 b = 1)) : av_Ev sc m_L_cost (d + 3) false 0 0 [vR 0, vI f, vI x] (hp σ) (fun r h => (¬ (σ 0 6 = 1 ∧ (0 ≤ f ∧ f < 4) ∧ σ 6 f ≠ -1) ∧ r = some (vI (-1)) ∧ h = hp σ) ∨ ((σ 0 6 = 1 ∧ (0 ≤ f ∧ f < 4) ∧ σ 6 f ≠ -1) ∧ ∃ f' g' : Int → Int, r = some (vI (cS (σ 4) (σ 24) (σ 25) (wl σ f x))) ∧ h = hp (tS σ f' g' ((wl σ f x).length : Int)))) := by
  obtain ⟨hn, hB, hT, hc8, hc9, hlo, hrg⟩ := id hI
  refine av_ev rfl rfl (Nat.le_of_ble_eq_true rfl) rfl ?_
  refine rn_aload_n 1 d_L_cost_0 rfl rfl ?_
  refine rn_getfield 4 d_L_cost_1 rfl fd_L_57 rfl rfl ?_
  refine rn_if_eq 18 7 d_L_cost_4 rfl rfl ⟨by omega, by omega⟩ (fun c_4 => ?_) (fun c_4 => ?_)
  · refine rn_iconst 19 d_L_cost_18 rfl ?_
    exact rn_ireturn d_L_cost_19 (Or.inl rfl) (Or.inl ⟨(by omega), rfl, rfl⟩)
  · refine rn_aload_n 8 d_L_cost_7 rfl rfl ?_
    refine rn_getfield 11 d_L_cost_8 rfl fd_L_25 rfl rfl ?_
    refine rn_iload_n 12 d_L_cost_11 rfl rfl ?_
    refine rn_callV1 15 d_L_cost_12 rfl cw_L_79 rfl (Nat.le_of_ble_eq_true rfl) (ev_G_hasEntry hf (iL_T24 hI)) ?_
    rintro _ _ ⟨rfl, rfl⟩
    refine rn_ifB_ne 20 18 d_L_cost_15 rfl rfl (fun c_15 => ?_) (fun c_15 => ?_)
    · refine rn_aload_n 21 d_L_cost_20 rfl rfl ?_
      refine rn_getfield 24 d_L_cost_21 rfl fd_L_39 rfl rfl ?_
      refine rn_aload_n 25 d_L_cost_24 rfl rfl ?_
      refine rn_getfield 28 d_L_cost_25 rfl fd_L_25 rfl rfl ?_
      refine rn_iload_n 29 d_L_cost_28 rfl rfl ?_
      refine rn_iload_n 30 d_L_cost_29 rfl rfl ?_
      refine rn_callV3 33 d_L_cost_30 rfl cw_L_83 rfl (Nat.le_of_ble_eq_true rfl) (ev_T_follow (iL_G hI) hn.2 c_15.1 hx (iL_T hI f c_15.1.1 c_15.1.2)) ?_
      rintro _ _ ⟨rfl, f', g', hl1, hl2, rfl⟩
      have hlen : ((wl σ f x).length : Int) ≤ 60 := Int.ofNat_le.mpr (wk_len (en := σ 4) (to := σ 5) (hd := x) 60 0 (σ 6 f))
      have hok := wk_ok (hd := x) (iL_G hI) 60 0 (σ 6 f) (iL_T hI f c_15.1.1 c_15.1.2).1 (iL_T hI f c_15.1.1 c_15.1.2).2
      refine rn_iconst 34 d_L_cost_33 rfl ?_
      refine rn_istore_n 35 d_L_cost_34 rfl (by decide) rfl rfl ?_
      refine rn_iconst 36 d_L_cost_35 rfl ?_
      refine rn_istore 38 d_L_cost_36 rfl (by decide) rfl rfl ?_
      refine cost_loop (σ := tS σ f' g' ((wl σ f x).length : Int)) (m := ((wl σ f x).length : Int)) rfl hlen hE hU (wl σ f x) 0 0 none (by omega) (by omega) (by omega) (by omega) hl1 hl2 (fun p hp => ⟨⟨⟨(hok p hp).1.1, by have := (hok p hp).1.2; omega⟩, iL_E hI p.1 (hok p hp).1.1 (hok p hp).1.2⟩, (hok p hp).2⟩) (Or.inr ⟨⟨by omega, c_15⟩, f', g', ?_, rfl⟩)
      rw [Int.zero_add]
      rfl
    · refine rn_iconst 19 d_L_cost_18 rfl ?_
      exact rn_ireturn d_L_cost_19 (Or.inl rfl) (Or.inl ⟨(by omega), rfl, rfl⟩)
