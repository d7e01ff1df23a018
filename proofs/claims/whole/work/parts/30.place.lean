/-- the class's placing, its arrays and numbers named -/
def pS (σ : av_S) (OR ED HD FI BE HS BS : Int → Int) (Ch Co : Int) : av_S := up (up (up (up (up (up (up (up σ 14 OR) 15 ED) 16 HD) 17 FI) 18 BE) 19 HS) 20 BS) 13 (fun j => if j = 1 then Ch else if j = 2 then Co else σ 13 j)
/-- g below k, f from there on -/
def fl (g f : Int → Int) (k : Int) : Int → Int := fun j => if 0 ≤ j ∧ j < k then g j else f j
theorem fl_0 (g f : Int → Int) : fl g f 0 = f := by funext j; exact if_neg (by omega)
theorem fl_step {g f : Int → Int} {k z : Int} (h : 0 ≤ k) (hz : z = g k) : uI (fl g f k) k z = fl g f (k + 1) := by
  subst hz
  funext j
  simp only [uI, fl]
  by_cases hj : j = k
  · subst hj; rw [if_pos rfl, if_pos (by omega)]
  · rw [if_neg hj]
    by_cases h2 : 0 ≤ j ∧ j < k
    · rw [if_pos h2, if_pos (by omega)]
    · rw [if_neg h2, if_neg (by omega)]
theorem fl_skip {g f : Int → Int} {k : Int} (h : 0 ≤ k) (hz : g k = f k) : fl g f k = fl g f (k + 1) := by
  funext j
  simp only [fl]
  by_cases hj : j = k
  · subst hj; rw [if_neg (by omega), if_pos (by omega)]; exact hz.symm
  · by_cases h2 : 0 ≤ j ∧ j < k
    · rw [if_pos h2, if_pos (by omega)]
    · rw [if_neg h2, if_neg (by omega)]
theorem fl_at (g f : Int → Int) (k : Int) : fl g f k k = f k := if_neg (by omega)
theorem fl_in {g f : Int → Int} {k j : Int} (h : 0 ≤ j ∧ j < k) : fl g f k j = g j := if_pos h
theorem fl_out {g f : Int → Int} {k j : Int} (h : ¬ (0 ≤ j ∧ j < k)) : fl g f k j = f j := if_neg h
set_option maxRecDepth 100000 in
set_option maxHeartbeats 400000 in
theorem pbn_loop {sc : av_sc} {d n0 bc bs : Nat} {al : Bool} {σ : av_S} {OR ED HD FI BE HS BS : Int → Int} {Ch Co : Int} {Φ : Option av_V → av_H → Prop} (hn : 0 ≤ σ 1 5 ∧ σ 1 5 ≤ 24) (hΦ : Φ none (hp (pS σ (fl (fun j => j) OR (σ 1 5)) ED HD FI BE HS BS (σ 1 5) 0))) :
    ∀ (m : Nat) (k : Int), 0 ≤ k → k + (m : Int) = σ 1 5 → av_Rn sc m_P_placeByNumber d al n0 bc bs 2 [some (vR 13), some (vR 1), some (vI k)] [] (hp (pS σ (fl (fun j => j) OR k) ED HD FI BE HS BS Ch Co)) Φ := by
  intro m
  induction m with
  | zero =>
    intro k h0 hk
    obtain rfl : k = σ 1 5 := by omega
    refine rn_iload_n 3 d_P_placeByNumber_2 rfl rfl ?_
    refine rn_aload_n 4 d_P_placeByNumber_3 rfl rfl ?_
    refine rn_getfield 7 d_P_placeByNumber_4 rfl fd_P_40 rfl rfl ?_
    rw [show (pS σ (fl (fun j => j) OR (σ 1 5)) ED HD FI BE HS BS Ch Co) 1 5 = σ 1 5 from rfl]
    refine rn_icmp_ge 23 10 d_P_placeByNumber_7 rfl rfl ⟨by omega, by omega⟩ ⟨by omega, by omega⟩ (fun c_7 => ?_) (fun c_7 => ?_)
    · refine rn_aload_n 24 d_P_placeByNumber_23 rfl rfl ?_
      refine rn_aload_n 25 d_P_placeByNumber_24 rfl rfl ?_
      refine rn_getfield 28 d_P_placeByNumber_25 rfl fd_P_40 rfl rfl ?_
      rw [show (pS σ (fl (fun j => j) OR (σ 1 5)) ED HD FI BE HS BS Ch Co) 1 5 = σ 1 5 from rfl]
      refine rn_putfield 31 d_P_placeByNumber_28 rfl fp_P_15 rfl (Nat.le_of_ble_eq_true rfl) av_fitI (hs_13_1 _ _) ?_
      change av_Rn _ _ _ _ _ _ _ _ _ _ (hp (pS σ (fl (fun j => j) OR (σ 1 5)) ED HD FI BE HS BS (σ 1 5) Co)) _
      refine rn_aload_n 32 d_P_placeByNumber_31 rfl rfl ?_
      refine rn_iconst 33 d_P_placeByNumber_32 rfl ?_
      refine rn_putfield 36 d_P_placeByNumber_33 rfl fp_P_19 rfl (Nat.le_of_ble_eq_true rfl) av_fitI (hs_13_2 _ _) ?_
      change av_Rn _ _ _ _ _ _ _ _ _ _ (hp (pS σ (fl (fun j => j) OR (σ 1 5)) ED HD FI BE HS BS (σ 1 5) 0)) _
      exact rn_return d_P_placeByNumber_36 rfl hΦ
    · omega
  | succ m ih =>
    intro k h0 hk
    refine rn_iload_n 3 d_P_placeByNumber_2 rfl rfl ?_
    refine rn_aload_n 4 d_P_placeByNumber_3 rfl rfl ?_
    refine rn_getfield 7 d_P_placeByNumber_4 rfl fd_P_40 rfl rfl ?_
    rw [show (pS σ (fl (fun j => j) OR k) ED HD FI BE HS BS Ch Co) 1 5 = σ 1 5 from rfl]
    refine rn_icmp_ge 23 10 d_P_placeByNumber_7 rfl rfl ⟨by omega, by omega⟩ ⟨by omega, by omega⟩ (fun c_7 => ?_) (fun c_7 => ?_)
    · omega
    · refine rn_aload_n 11 d_P_placeByNumber_10 rfl rfl ?_
      refine rn_getfield 14 d_P_placeByNumber_11 rfl fd_P_9 rfl rfl ?_
      refine rn_iload_n 15 d_P_placeByNumber_14 rfl rfl ?_
      refine rn_iload_n 16 d_P_placeByNumber_15 rfl rfl ?_
      refine rn_iastore 17 d_P_placeByNumber_16 rfl rfl (by decide) (by omega) (by omega) (hs_14 _ _) ?_
      change av_Rn _ _ _ _ _ _ _ _ _ _ (hp (pS σ (uI (fl (fun j => j) OR k) k k) ED HD FI BE HS BS Ch Co)) _
      rw [fl_step h0 rfl]
      refine rn_iinc 20 d_P_placeByNumber_17 rfl rfl (by decide) rfl rfl ?_
      refine rn_goto 2 d_P_placeByNumber_20 rfl ?_
      exact ih (k + 1) (by omega) (by omega)
set_option maxRecDepth 100000 in
set_option maxHeartbeats 400000 in
theorem ev_P_placeByNumber {sc : av_sc} {d : Nat} {σ : av_S} {OR ED HD FI BE HS BS : Int → Int} {Ch Co : Int} (hn : 0 ≤ σ 1 5 ∧ σ 1 5 ≤ 24) : av_Ev sc m_P_placeByNumber (d) false 0 0 [vR 13, vR 1] (hp (pS σ OR ED HD FI BE HS BS Ch Co)) (fun r h => r = none ∧ h = hp (pS σ (fl (fun j => j) OR (σ 1 5)) ED HD FI BE HS BS (σ 1 5) 0)) := by
  refine av_ev rfl rfl (Nat.le_of_ble_eq_true rfl) rfl ?_
  refine rn_iconst 1 d_P_placeByNumber_0 rfl ?_
  refine rn_istore_n 2 d_P_placeByNumber_1 rfl (by decide) rfl rfl ?_
  have L := pbn_loop (sc := sc) (d := d) (n0 := (hp (pS σ OR ED HD FI BE HS BS Ch Co)).length) (bc := 0) (bs := 0) (al := false) (OR := OR) (ED := ED) (HD := HD) (FI := FI) (BE := BE) (HS := HS) (BS := BS) (Ch := Ch) (Co := Co) (Φ := fun r h => r = none ∧ h = hp (pS σ (fl (fun j => j) OR (σ 1 5)) ED HD FI BE HS BS (σ 1 5) 0)) hn ⟨rfl, rfl⟩ (σ 1 5).toNat 0 (by omega) (by omega)
  rw [fl_0] at L
  exact L
set_option maxRecDepth 100000 in
set_option maxHeartbeats 400000 in
theorem start_loop {sc : av_sc} {d n0 bc bs : Nat} {al : Bool} {σ : av_S} {OR ED HD FI BE HS BS : Int → Int} {Ch Co : Int} {Φ : Option av_V → av_H → Prop} (hn : 0 ≤ σ 1 5 ∧ σ 1 5 ≤ 24) (hΦ : Φ none (hp (pS σ OR ED HD (fl (fun j => j) FI (σ 1 5)) (fl (fun _ => -1) BE (σ 1 5)) (fl (σ 8) HS (σ 1 5)) (fl (σ 3) BS (σ 1 5)) Ch Co))) :
    ∀ (m : Nat) (k : Int), 0 ≤ k → k + (m : Int) = σ 1 5 → av_Rn sc m_P_startChains d al n0 bc bs 2 [some (vR 13), some (vR 1), some (vR 7), some (vI k)] [] (hp (pS σ OR ED HD (fl (fun j => j) FI k) (fl (fun _ => -1) BE k) (fl (σ 8) HS k) (fl (σ 3) BS k) Ch Co)) Φ := by
  intro m
  induction m with
  | zero =>
    intro k h0 hk
    obtain rfl : k = σ 1 5 := by omega
    refine rn_iload_n 3 d_P_startChains_2 rfl rfl ?_
    refine rn_aload_n 4 d_P_startChains_3 rfl rfl ?_
    refine rn_getfield 7 d_P_startChains_4 rfl fd_P_40 rfl rfl ?_
    rw [show (pS σ OR ED HD (fl (fun j => j) FI (σ 1 5)) (fl (fun _ => -1) BE (σ 1 5)) (fl (σ 8) HS (σ 1 5)) (fl (σ 3) BS (σ 1 5)) Ch Co) 1 5 = σ 1 5 from rfl]
    refine rn_icmp_ge 54 10 d_P_startChains_7 rfl rfl ⟨by omega, by omega⟩ ⟨by omega, by omega⟩ (fun c_7 => ?_) (fun c_7 => ?_)
    · exact rn_return d_P_startChains_54 rfl hΦ
    · omega
  | succ m ih =>
    intro k h0 hk
    refine rn_iload_n 3 d_P_startChains_2 rfl rfl ?_
    refine rn_aload_n 4 d_P_startChains_3 rfl rfl ?_
    refine rn_getfield 7 d_P_startChains_4 rfl fd_P_40 rfl rfl ?_
    rw [show (pS σ OR ED HD (fl (fun j => j) FI k) (fl (fun _ => -1) BE k) (fl (σ 8) HS k) (fl (σ 3) BS k) Ch Co) 1 5 = σ 1 5 from rfl]
    refine rn_icmp_ge 54 10 d_P_startChains_7 rfl rfl ⟨by omega, by omega⟩ ⟨by omega, by omega⟩ (fun c_7 => ?_) (fun c_7 => ?_)
    · omega
    · refine rn_aload_n 11 d_P_startChains_10 rfl rfl ?_
      refine rn_getfield 14 d_P_startChains_11 rfl fd_P_28 rfl rfl ?_
      refine rn_iload_n 15 d_P_startChains_14 rfl rfl ?_
      refine rn_iload_n 16 d_P_startChains_15 rfl rfl ?_
      refine rn_iastore 17 d_P_startChains_16 rfl rfl (by decide) (by omega) (by omega) (hs_17 _ _) ?_
      refine rn_aload_n 18 d_P_startChains_17 rfl rfl ?_
      refine rn_getfield 21 d_P_startChains_18 rfl fd_P_31 rfl rfl ?_
      refine rn_iload_n 22 d_P_startChains_21 rfl rfl ?_
      refine rn_iconst 23 d_P_startChains_22 rfl ?_
      refine rn_iastore 24 d_P_startChains_23 rfl rfl (by decide) (by omega) (by omega) (hs_18 _ _) ?_
      refine rn_aload_n 25 d_P_startChains_24 rfl rfl ?_
      refine rn_getfield 28 d_P_startChains_25 rfl fd_P_34 rfl rfl ?_
      refine rn_iload_n 29 d_P_startChains_28 rfl rfl ?_
      refine rn_aload_n 30 d_P_startChains_29 rfl rfl ?_
      refine rn_getfield 33 d_P_startChains_30 rfl fd_P_67 rfl rfl ?_
      refine rn_iload_n 34 d_P_startChains_33 rfl rfl ?_
      refine rn_iaload 35 d_P_startChains_34 rfl rfl (by decide) (by omega) (by omega) ?_
      refine rn_iastore 36 d_P_startChains_35 rfl rfl (by decide) (by omega) (by omega) (hs_19 _ _) ?_
      refine rn_aload_n 37 d_P_startChains_36 rfl rfl ?_
      refine rn_getfield 40 d_P_startChains_37 rfl fd_P_37 rfl rfl ?_
      refine rn_iload_n 41 d_P_startChains_40 rfl rfl ?_
      refine rn_aload_n 42 d_P_startChains_41 rfl rfl ?_
      refine rn_getfield 45 d_P_startChains_42 rfl fd_P_72 rfl rfl ?_
      refine rn_iload_n 46 d_P_startChains_45 rfl rfl ?_
      refine rn_iaload 47 d_P_startChains_46 rfl rfl (by decide) (by omega) (by omega) ?_
      refine rn_iastore 48 d_P_startChains_47 rfl rfl (by decide) (by omega) (by omega) (hs_20 _ _) ?_
      change av_Rn _ _ _ _ _ _ _ _ _ _ (hp (pS σ OR ED HD (uI (fl (fun j => j) FI k) k k) (uI (fl (fun _ => -1) BE k) k (-1)) (uI (fl (σ 8) HS k) k (σ 8 k)) (uI (fl (σ 3) BS k) k (σ 3 k)) Ch Co)) _
      rw [fl_step h0 rfl, fl_step h0 rfl, fl_step h0 rfl, fl_step h0 rfl]
      refine rn_iinc 51 d_P_startChains_48 rfl rfl (by decide) rfl rfl ?_
      refine rn_goto 2 d_P_startChains_51 rfl ?_
      exact ih (k + 1) (by omega) (by omega)
set_option maxRecDepth 100000 in
set_option maxHeartbeats 400000 in
theorem ev_P_startChains {sc : av_sc} {d : Nat} {σ : av_S} {OR ED HD FI BE HS BS : Int → Int} {Ch Co : Int} (hn : 0 ≤ σ 1 5 ∧ σ 1 5 ≤ 24) : av_Ev sc m_P_startChains (d) false 0 0 [vR 13, vR 1, vR 7] (hp (pS σ OR ED HD FI BE HS BS Ch Co)) (fun r h => r = none ∧ h = hp (pS σ OR ED HD (fl (fun j => j) FI (σ 1 5)) (fl (fun _ => -1) BE (σ 1 5)) (fl (σ 8) HS (σ 1 5)) (fl (σ 3) BS (σ 1 5)) Ch Co)) := by
  refine av_ev rfl rfl (Nat.le_of_ble_eq_true rfl) rfl ?_
  refine rn_iconst 1 d_P_startChains_0 rfl ?_
  refine rn_istore_n 2 d_P_startChains_1 rfl (by decide) rfl rfl ?_
  have L := start_loop (sc := sc) (d := d) (n0 := (hp (pS σ OR ED HD FI BE HS BS Ch Co)).length) (bc := 0) (bs := 0) (al := false) (OR := OR) (ED := ED) (HD := HD) (FI := FI) (BE := BE) (HS := HS) (BS := BS) (Ch := Ch) (Co := Co) (Φ := fun r h => r = none ∧ h = hp (pS σ OR ED HD (fl (fun j => j) FI (σ 1 5)) (fl (fun _ => -1) BE (σ 1 5)) (fl (σ 8) HS (σ 1 5)) (fl (σ 3) BS (σ 1 5)) Ch Co)) hn ⟨rfl, rfl⟩ (σ 1 5).toNat 0 (by omega) (by omega)
  rw [fl_0, fl_0, fl_0, fl_0] at L
  exact L
/-- an edge that may join -/
abbrev mJ (en to ce : Int → Int) (e : Int) : Prop := e % 2 < en (e / 2) ∧ 0 < ce e ∧ to e ≠ e / 2
theorem td {e : Int} (h : 0 ≤ e) : e.tdiv 2 = e / 2 := Int.tdiv_eq_ediv_of_nonneg h
theorem tm {e : Int} (h : 0 ≤ e) : e.tmod 2 = e % 2 := Int.tmod_eq_emod_of_nonneg h
set_option maxRecDepth 100000 in
set_option maxHeartbeats 400000 in
theorem ev_P_mayJoin {sc : av_sc} {d : Nat} {σ : av_S} {e : Int} (he : 0 ≤ e ∧ e < 48) (hE : 0 ≤ σ 4 (e / 2) ∧ σ 4 (e / 2) ≤ 2) (hc : 0 ≤ σ 9 e ∧ σ 9 e ≤ 1000000) (ht : -1 ≤ σ 5 e ∧ σ 5 e < 24) : av_Ev sc m_P_mayJoin (d) false 0 0 [vR 1, vR 7, vI e] (hp σ) (fun r h => r = some (vI (bz (mJ (σ 4) (σ 5) (σ 9) e))) ∧ h = hp σ) := by
  refine av_ev rfl rfl (Nat.le_of_ble_eq_true rfl) rfl ?_
  refine rn_iload_n 1 d_P_mayJoin_0 rfl rfl ?_
  refine rn_iconst 2 d_P_mayJoin_1 rfl ?_
  refine rn_irem 3 d_P_mayJoin_2 rfl ⟨by omega, by omega⟩ ⟨by omega, by omega⟩ (by omega) ?_
  rw [tm he.1]
  refine rn_aload_n 4 d_P_mayJoin_3 rfl rfl ?_
  refine rn_getfield 7 d_P_mayJoin_4 rfl fd_P_82 rfl rfl ?_
  refine rn_iload_n 8 d_P_mayJoin_7 rfl rfl ?_
  refine rn_iconst 9 d_P_mayJoin_8 rfl ?_
  refine rn_idiv 10 d_P_mayJoin_9 rfl ⟨by omega, by omega⟩ ⟨by omega, by omega⟩ (by omega) ?_
  rw [td he.1]
  refine rn_iaload 11 d_P_mayJoin_10 rfl rfl (by decide) (by omega) (by omega) ?_
  refine rn_icmp_ge 39 14 d_P_mayJoin_11 rfl rfl ⟨by omega, by omega⟩ ⟨by omega, by omega⟩ (fun c_11 => ?_) (fun c_11 => ?_)
  · refine rn_iconst 40 d_P_mayJoin_39 rfl ?_
    exact rn_ireturn d_P_mayJoin_40 (Or.inr ⟨rfl, Or.inl rfl⟩) ⟨by rw [bz_f (by omega)], rfl⟩
  · refine rn_aload_n 15 d_P_mayJoin_14 rfl rfl ?_
    refine rn_getfield 18 d_P_mayJoin_15 rfl fd_P_79 rfl rfl ?_
    refine rn_iload_n 19 d_P_mayJoin_18 rfl rfl ?_
    refine rn_iaload 20 d_P_mayJoin_19 rfl rfl (by decide) (by omega) (by omega) ?_
    refine rn_if_le 39 23 d_P_mayJoin_20 rfl rfl ⟨by omega, by omega⟩ (fun c_20 => ?_) (fun c_20 => ?_)
    · refine rn_iconst 40 d_P_mayJoin_39 rfl ?_
      exact rn_ireturn d_P_mayJoin_40 (Or.inr ⟨rfl, Or.inl rfl⟩) ⟨by rw [bz_f (by omega)], rfl⟩
    · refine rn_aload_n 24 d_P_mayJoin_23 rfl rfl ?_
      refine rn_getfield 27 d_P_mayJoin_24 rfl fd_P_53 rfl rfl ?_
      refine rn_iload_n 28 d_P_mayJoin_27 rfl rfl ?_
      refine rn_iaload 29 d_P_mayJoin_28 rfl rfl (by decide) (by omega) (by omega) ?_
      refine rn_iload_n 30 d_P_mayJoin_29 rfl rfl ?_
      refine rn_iconst 31 d_P_mayJoin_30 rfl ?_
      refine rn_idiv 32 d_P_mayJoin_31 rfl ⟨by omega, by omega⟩ ⟨by omega, by omega⟩ (by omega) ?_
      rw [td he.1]
      refine rn_icmp_eq 39 35 d_P_mayJoin_32 rfl rfl ⟨by omega, by omega⟩ ⟨by omega, by omega⟩ (fun c_32 => ?_) (fun c_32 => ?_)
      · refine rn_iconst 40 d_P_mayJoin_39 rfl ?_
        exact rn_ireturn d_P_mayJoin_40 (Or.inr ⟨rfl, Or.inl rfl⟩) ⟨by rw [bz_f (by omega)], rfl⟩
      · refine rn_iconst 36 d_P_mayJoin_35 rfl ?_
        refine rn_goto 40 d_P_mayJoin_36 rfl ?_
        exact rn_ireturn d_P_mayJoin_40 (Or.inr ⟨rfl, Or.inr rfl⟩) ⟨by rw [bz_t (by omega)], rfl⟩
abbrev isE (σ : av_S) (b : Int) : Prop := σ 6 (σ 2 b) = b
abbrev cold (σ : av_S) (HS : Int → Int) (b : Int) : Prop := HS b = 0 ∧ ¬ isE σ b
theorem ev_GE {sc : av_sc} {d : Nat} {σ : av_S} {OR ED HD FI BE HS BS : Int → Int} {Ch Co : Int} {b : Int} (hb : 0 ≤ b ∧ b < 24) (hF : 0 ≤ σ 2 b ∧ σ 2 b ≤ 3) (hT : -1 ≤ σ 6 (σ 2 b) ∧ σ 6 (σ 2 b) < 24) : av_Ev sc m_G_isEntry d false 0 0 [vR 1, vI b] (hp (pS σ OR ED HD FI BE HS BS Ch Co)) (fun r h => r = some (vI (bz (isE σ b))) ∧ h = hp (pS σ OR ED HD FI BE HS BS Ch Co)) := ev_G_isEntry (σ := pS σ OR ED HD FI BE HS BS Ch Co) hb hF hT
theorem bz_eq {P Q : Prop} [Decidable P] [Decidable Q] : bz P = bz Q ↔ (P ↔ Q) := by
  by_cases hP : P <;> by_cases hQ : Q
  · rw [bz_t hP, bz_t hQ]; exact ⟨fun _ => ⟨fun _ => hQ, fun _ => hP⟩, fun _ => rfl⟩
  · rw [bz_t hP, bz_f hQ]; exact ⟨fun q => by omega, fun q => absurd (q.mp hP) hQ⟩
  · rw [bz_f hP, bz_t hQ]; exact ⟨fun q => by omega, fun q => absurd (q.mpr hQ) hP⟩
  · rw [bz_f hP, bz_f hQ]; exact ⟨fun _ => ⟨fun q => absurd q hP, fun q => absurd q hQ⟩, fun _ => rfl⟩
theorem mulbd {x y : Int} (hx : 0 ≤ x ∧ x ≤ 24000000) (hy : 0 ≤ y ∧ y ≤ 960) : 0 ≤ x * y ∧ x * y ≤ 23040000000 :=
  ⟨Int.mul_nonneg hx.1 hy.1, by have := Int.mul_le_mul hx.2 hy.2 hy.1 (by omega : (0 : Int) ≤ 24000000); omega⟩
/-- the order of the chains, by their heads -/
abbrev cbf (σ : av_S) (HS BS : Int → Int) (a b : Int) : Prop := (¬ (cold σ HS a ↔ cold σ HS b) ∧ cold σ HS b) ∨ ((cold σ HS a ↔ cold σ HS b) ∧ (σ 2 a < σ 2 b ∨ (σ 2 a = σ 2 b ∧ ((¬ (isE σ a ↔ isE σ b) ∧ isE σ a) ∨ ((isE σ a ↔ isE σ b) ∧ (HS b * BS a < HS a * BS b ∨ (HS a * BS b = HS b * BS a ∧ a < b)))))))
set_option maxRecDepth 100000 in
set_option maxHeartbeats 400000 in
theorem ev_P_isCold {sc : av_sc} {d : Nat} {σ : av_S} {OR ED HD FI BE HS BS : Int → Int} {Ch Co : Int} {b : Int} (hn : 0 ≤ σ 1 5 ∧ σ 1 5 ≤ 24) (hF : ∀ b, 0 ≤ b → b < σ 1 5 → 0 ≤ σ 2 b ∧ σ 2 b ≤ 3) (hT : ∀ f, 0 ≤ f → f < 4 → -1 ≤ σ 6 f ∧ σ 6 f < 24) (hH : ∀ b, 0 ≤ b → b < σ 1 5 → 0 ≤ HS b ∧ HS b ≤ 24000000) (hb : 0 ≤ b ∧ b < σ 1 5) : av_Ev sc m_P_isCold (d + 1) false 0 0 [vR 13, vR 1, vI b] (hp (pS σ OR ED HD FI BE HS BS Ch Co)) (fun r h => r = some (vI (bz (cold σ HS b))) ∧ h = hp (pS σ OR ED HD FI BE HS BS Ch Co)) := by
  have hFb := hF b hb.1 hb.2
  have hTb := hT (σ 2 b) hFb.1 (by omega)
  have hHb := hH b hb.1 hb.2
  refine av_ev rfl rfl (Nat.le_of_ble_eq_true rfl) rfl ?_
  refine rn_aload_n 1 d_P_isCold_0 rfl rfl ?_
  refine rn_getfield 4 d_P_isCold_1 rfl fd_P_34 rfl rfl ?_
  refine rn_iload_n 5 d_P_isCold_4 rfl rfl ?_
  refine rn_iaload 6 d_P_isCold_5 rfl rfl (by decide) (by omega) (by omega) ?_
  rw [show (pS σ OR ED HD FI BE HS BS Ch Co) 19 b = HS b from rfl]
  refine rn_if_ne 21 9 d_P_isCold_6 rfl rfl ⟨by omega, by omega⟩ (fun c_6 => ?_) (fun c_6 => ?_)
  · refine rn_iconst 22 d_P_isCold_21 rfl ?_
    exact rn_ireturn d_P_isCold_22 (Or.inr ⟨rfl, Or.inl rfl⟩) ⟨by rw [bz_f (by omega)], rfl⟩
  · refine rn_aload_n 10 d_P_isCold_9 rfl rfl ?_
    refine rn_iload_n 11 d_P_isCold_10 rfl rfl ?_
    refine rn_callV1 14 d_P_isCold_11 rfl cw_P_85 rfl (Nat.le_of_ble_eq_true rfl) (ev_GE ⟨by omega, by omega⟩ hFb hTb) ?_
    rintro _ _ ⟨rfl, rfl⟩
    refine rn_ifB_ne 21 17 d_P_isCold_14 rfl rfl (fun c_14 => ?_) (fun c_14 => ?_)
    · refine rn_iconst 22 d_P_isCold_21 rfl ?_
      exact rn_ireturn d_P_isCold_22 (Or.inr ⟨rfl, Or.inl rfl⟩) ⟨by rw [bz_f (by omega)], rfl⟩
    · refine rn_iconst 18 d_P_isCold_17 rfl ?_
      refine rn_goto 22 d_P_isCold_18 rfl ?_
      exact rn_ireturn d_P_isCold_22 (Or.inr ⟨rfl, Or.inr rfl⟩) ⟨by rw [bz_t (by omega)], rfl⟩
set_option maxRecDepth 100000 in
set_option maxHeartbeats 400000 in
theorem ev_P_comesBefore {sc : av_sc} {d : Nat} {σ : av_S} {OR ED HD FI BE HS BS : Int → Int} {Ch Co : Int} {a b : Int} (hn : 0 ≤ σ 1 5 ∧ σ 1 5 ≤ 24) (hF : ∀ b, 0 ≤ b → b < σ 1 5 → 0 ≤ σ 2 b ∧ σ 2 b ≤ 3) (hT : ∀ f, 0 ≤ f → f < 4 → -1 ≤ σ 6 f ∧ σ 6 f < 24) (hH : ∀ b, 0 ≤ b → b < σ 1 5 → 0 ≤ HS b ∧ HS b ≤ 24000000) (hS : ∀ b, 0 ≤ b → b < σ 1 5 → 0 ≤ BS b ∧ BS b ≤ 960) (ha : 0 ≤ a ∧ a < σ 1 5) (hb : 0 ≤ b ∧ b < σ 1 5) : av_Ev sc m_P_comesBefore (d + 2) false 0 0 [vR 13, vR 1, vI a, vI b] (hp (pS σ OR ED HD FI BE HS BS Ch Co)) (fun r h => r = some (vI (bz (cbf σ HS BS a b))) ∧ h = hp (pS σ OR ED HD FI BE HS BS Ch Co)) := by
  have hFb := hF b hb.1 hb.2
  have hTb := hT (σ 2 b) hFb.1 (by omega)
  have hHb := hH b hb.1 hb.2
  have hFa := hF a ha.1 ha.2
  have hTa := hT (σ 2 a) hFa.1 (by omega)
  have hHa := hH a ha.1 ha.2
  have hSa := hS a ha.1 ha.2
  have hSb := hS b hb.1 hb.2
  have w1 := mulbd hHa hSb
  have w2 := mulbd hHb hSa
  refine av_ev rfl rfl (Nat.le_of_ble_eq_true rfl) rfl ?_
  refine rn_aload_n 1 d_P_comesBefore_0 rfl rfl ?_
  refine rn_aload_n 2 d_P_comesBefore_1 rfl rfl ?_
  refine rn_iload_n 3 d_P_comesBefore_2 rfl rfl ?_
  refine rn_callV2 6 d_P_comesBefore_3 rfl cw_P_93 rfl (Nat.le_of_ble_eq_true rfl) (ev_P_isCold hn hF hT hH ha) ?_
  rintro _ _ ⟨rfl, rfl⟩
  refine rn_aload_n 7 d_P_comesBefore_6 rfl rfl ?_
  refine rn_aload_n 8 d_P_comesBefore_7 rfl rfl ?_
  refine rn_iload_n 9 d_P_comesBefore_8 rfl rfl ?_
  refine rn_callV2 12 d_P_comesBefore_9 rfl cw_P_93 rfl (Nat.le_of_ble_eq_true rfl) (ev_P_isCold hn hF hT hH hb) ?_
  rintro _ _ ⟨rfl, rfl⟩
  refine rn_icmp_eq 22 15 d_P_comesBefore_12 rfl rfl bz_in bz_in (fun c_12 => ?_) (fun c_12 => ?_)
  · have q12 := bz_eq.mp c_12
    refine rn_aload_n 23 d_P_comesBefore_22 rfl rfl ?_
    refine rn_getfield 26 d_P_comesBefore_23 rfl fd_P_97 rfl rfl ?_
    refine rn_iload_n 27 d_P_comesBefore_26 rfl rfl ?_
    refine rn_iaload 28 d_P_comesBefore_27 rfl rfl (by decide) (by omega) (by omega) ?_
    rw [show (pS σ OR ED HD FI BE HS BS Ch Co) 2 a = σ 2 a from rfl]
    refine rn_aload_n 29 d_P_comesBefore_28 rfl rfl ?_
    refine rn_getfield 32 d_P_comesBefore_29 rfl fd_P_97 rfl rfl ?_
    refine rn_iload_n 33 d_P_comesBefore_32 rfl rfl ?_
    refine rn_iaload 34 d_P_comesBefore_33 rfl rfl (by decide) (by omega) (by omega) ?_
    rw [show (pS σ OR ED HD FI BE HS BS Ch Co) 2 b = σ 2 b from rfl]
    refine rn_icmp_eq 58 37 d_P_comesBefore_34 rfl rfl ⟨by omega, by omega⟩ ⟨by omega, by omega⟩ (fun c_34 => ?_) (fun c_34 => ?_)
    · refine rn_aload_n 59 d_P_comesBefore_58 rfl rfl ?_
      refine rn_iload_n 60 d_P_comesBefore_59 rfl rfl ?_
      refine rn_callV1 63 d_P_comesBefore_60 rfl cw_P_85 rfl (Nat.le_of_ble_eq_true rfl) (ev_GE ⟨by omega, by omega⟩ hFa hTa) ?_
      rintro _ _ ⟨rfl, rfl⟩
      refine rn_aload_n 64 d_P_comesBefore_63 rfl rfl ?_
      refine rn_iload_n 65 d_P_comesBefore_64 rfl rfl ?_
      refine rn_callV1 68 d_P_comesBefore_65 rfl cw_P_85 rfl (Nat.le_of_ble_eq_true rfl) (ev_GE ⟨by omega, by omega⟩ hFb hTb) ?_
      rintro _ _ ⟨rfl, rfl⟩
      refine rn_icmp_eq 77 71 d_P_comesBefore_68 rfl rfl bz_in bz_in (fun c_68 => ?_) (fun c_68 => ?_)
      · have q68 := bz_eq.mp c_68
        refine rn_aload_n 78 d_P_comesBefore_77 rfl rfl ?_
        refine rn_getfield 81 d_P_comesBefore_78 rfl fd_P_34 rfl rfl ?_
        refine rn_iload_n 82 d_P_comesBefore_81 rfl rfl ?_
        refine rn_iaload 83 d_P_comesBefore_82 rfl rfl (by decide) (by omega) (by omega) ?_
        rw [show (pS σ OR ED HD FI BE HS BS Ch Co) 19 a = HS a from rfl]
        refine rn_i2l 84 d_P_comesBefore_83 rfl ⟨by omega, by omega⟩ ?_
        refine rn_aload_n 85 d_P_comesBefore_84 rfl rfl ?_
        refine rn_getfield 88 d_P_comesBefore_85 rfl fd_P_37 rfl rfl ?_
        refine rn_iload_n 89 d_P_comesBefore_88 rfl rfl ?_
        refine rn_iaload 90 d_P_comesBefore_89 rfl rfl (by decide) (by omega) (by omega) ?_
        rw [show (pS σ OR ED HD FI BE HS BS Ch Co) 20 b = BS b from rfl]
        refine rn_i2l 91 d_P_comesBefore_90 rfl ⟨by omega, by omega⟩ ?_
        refine rn_lmul 92 d_P_comesBefore_91 rfl ?_
        refine rn_lstore 94 d_P_comesBefore_92 rfl (by decide) rfl rfl ?_
        refine rn_aload_n 95 d_P_comesBefore_94 rfl rfl ?_
        refine rn_getfield 98 d_P_comesBefore_95 rfl fd_P_34 rfl rfl ?_
        refine rn_iload_n 99 d_P_comesBefore_98 rfl rfl ?_
        refine rn_iaload 100 d_P_comesBefore_99 rfl rfl (by decide) (by omega) (by omega) ?_
        rw [show (pS σ OR ED HD FI BE HS BS Ch Co) 19 b = HS b from rfl]
        refine rn_i2l 101 d_P_comesBefore_100 rfl ⟨by omega, by omega⟩ ?_
        refine rn_aload_n 102 d_P_comesBefore_101 rfl rfl ?_
        refine rn_getfield 105 d_P_comesBefore_102 rfl fd_P_37 rfl rfl ?_
        refine rn_iload_n 106 d_P_comesBefore_105 rfl rfl ?_
        refine rn_iaload 107 d_P_comesBefore_106 rfl rfl (by decide) (by omega) (by omega) ?_
        rw [show (pS σ OR ED HD FI BE HS BS Ch Co) 20 a = BS a from rfl]
        refine rn_i2l 108 d_P_comesBefore_107 rfl ⟨by omega, by omega⟩ ?_
        refine rn_lmul 109 d_P_comesBefore_108 rfl ?_
        refine rn_lstore 111 d_P_comesBefore_109 rfl (by decide) rfl rfl ?_
        refine rn_lload 113 d_P_comesBefore_111 rfl rfl ?_
        refine rn_lload 115 d_P_comesBefore_113 rfl rfl ?_
        refine rn_lcmp 116 d_P_comesBefore_115 rfl ⟨by omega, by omega⟩ ⟨by omega, by omega⟩ ?_
        refine rn_if_eq 135 119 d_P_comesBefore_116 rfl rfl (by unfold av_in; split; omega; (try split) <;> omega) (fun c_116 => ?_) (fun c_116 => ?_)
        · have q116 : HS a * BS b = HS b * BS a := by
            by_cases z1 : HS b * BS a < HS a * BS b
            · rw [if_pos z1] at c_116; omega
            · rw [if_neg z1] at c_116
              by_cases z2 : HS a * BS b = HS b * BS a
              · exact z2
              · rw [if_neg z2] at c_116; omega
          refine rn_iload_n 136 d_P_comesBefore_135 rfl rfl ?_
          refine rn_iload_n 137 d_P_comesBefore_136 rfl rfl ?_
          refine rn_icmp_ge 144 140 d_P_comesBefore_137 rfl rfl ⟨by omega, by omega⟩ ⟨by omega, by omega⟩ (fun c_137 => ?_) (fun c_137 => ?_)
          · refine rn_iconst 145 d_P_comesBefore_144 rfl ?_
            refine rn_ireturn d_P_comesBefore_145 (Or.inr ⟨rfl, Or.inl rfl⟩) ⟨?_, rfl⟩
            rw [bz_f]
            rintro (z | ⟨-, z | ⟨-, z | ⟨-, z | z⟩⟩⟩)
            · exact z.1 q12
            · omega
            · exact z.1 q68
            · omega
            · omega
          · refine rn_iconst 141 d_P_comesBefore_140 rfl ?_
            refine rn_goto 145 d_P_comesBefore_141 rfl ?_
            exact rn_ireturn d_P_comesBefore_145 (Or.inr ⟨rfl, Or.inr rfl⟩) ⟨by rw [bz_t (Or.inr ⟨q12, Or.inr ⟨c_34, Or.inr ⟨q68, Or.inr ⟨q116, by omega⟩⟩⟩⟩)], rfl⟩
        · have q116 : HS a * BS b ≠ HS b * BS a := fun z => c_116 (by rw [if_neg (by omega), if_pos z])
          refine rn_lload 121 d_P_comesBefore_119 rfl rfl ?_
          refine rn_lload 123 d_P_comesBefore_121 rfl rfl ?_
          refine rn_lcmp 124 d_P_comesBefore_123 rfl ⟨by omega, by omega⟩ ⟨by omega, by omega⟩ ?_
          refine rn_if_le 131 127 d_P_comesBefore_124 rfl rfl (by unfold av_in; split; omega; (try split) <;> omega) (fun c_124 => ?_) (fun c_124 => ?_)
          · refine rn_iconst 132 d_P_comesBefore_131 rfl ?_
            refine rn_goto 145 d_P_comesBefore_132 rfl ?_
            have q124 : HS a * BS b < HS b * BS a := by
                have z3 := c_124
                by_cases z1 : HS b * BS a < HS a * BS b
                · rw [if_pos z1] at z3; omega
                · omega
            refine rn_ireturn d_P_comesBefore_145 (Or.inr ⟨rfl, Or.inl rfl⟩) ⟨?_, rfl⟩
            rw [bz_f]
            rintro (z | ⟨-, z | ⟨-, z | ⟨-, z | z⟩⟩⟩)
            · exact z.1 q12
            · omega
            · exact z.1 q68
            · omega
            · omega
          · refine rn_iconst 128 d_P_comesBefore_127 rfl ?_
            refine rn_goto 145 d_P_comesBefore_128 rfl ?_
            have q124 : HS b * BS a < HS a * BS b := by
                have z3 := c_124
                by_cases z1 : HS b * BS a < HS a * BS b
                · exact z1
                · rw [if_neg z1] at z3; split at z3 <;> omega
            exact rn_ireturn d_P_comesBefore_145 (Or.inr ⟨rfl, Or.inr rfl⟩) ⟨by rw [bz_t (Or.inr ⟨q12, Or.inr ⟨c_34, Or.inr ⟨q68, Or.inl (by omega)⟩⟩⟩)], rfl⟩
      · refine rn_aload_n 72 d_P_comesBefore_71 rfl rfl ?_
        refine rn_iload_n 73 d_P_comesBefore_72 rfl rfl ?_
        refine rn_callV1 76 d_P_comesBefore_73 rfl cw_P_85 rfl (Nat.le_of_ble_eq_true rfl) (ev_GE ⟨by omega, by omega⟩ hFa hTa) ?_
        rintro _ _ ⟨rfl, rfl⟩
        have q68 : ¬ (isE σ a ↔ isE σ b) := fun z => c_68 (bz_eq.mpr z)
        exact rn_ireturn d_P_comesBefore_76 (Or.inr ⟨rfl, bz_01⟩) ⟨congrArg (fun z => some (vI z)) (bz_eq.mpr ⟨fun z => Or.inr ⟨q12, Or.inr ⟨c_34, Or.inl ⟨q68, z⟩⟩⟩, fun z => by
          rcases z with z | ⟨-, z | ⟨-, z | z⟩⟩
          · exact absurd q12 z.1
          · omega
          · exact z.2
          · exact absurd z.1 q68⟩), rfl⟩
    · refine rn_aload_n 38 d_P_comesBefore_37 rfl rfl ?_
      refine rn_getfield 41 d_P_comesBefore_38 rfl fd_P_97 rfl rfl ?_
      refine rn_iload_n 42 d_P_comesBefore_41 rfl rfl ?_
      refine rn_iaload 43 d_P_comesBefore_42 rfl rfl (by decide) (by omega) (by omega) ?_
      rw [show (pS σ OR ED HD FI BE HS BS Ch Co) 2 a = σ 2 a from rfl]
      refine rn_aload_n 44 d_P_comesBefore_43 rfl rfl ?_
      refine rn_getfield 47 d_P_comesBefore_44 rfl fd_P_97 rfl rfl ?_
      refine rn_iload_n 48 d_P_comesBefore_47 rfl rfl ?_
      refine rn_iaload 49 d_P_comesBefore_48 rfl rfl (by decide) (by omega) (by omega) ?_
      rw [show (pS σ OR ED HD FI BE HS BS Ch Co) 2 b = σ 2 b from rfl]
      refine rn_icmp_ge 56 52 d_P_comesBefore_49 rfl rfl ⟨by omega, by omega⟩ ⟨by omega, by omega⟩ (fun c_49 => ?_) (fun c_49 => ?_)
      · refine rn_iconst 57 d_P_comesBefore_56 rfl ?_
        first
          | exact rn_ireturn d_P_comesBefore_57 (Or.inr ⟨rfl, Or.inr rfl⟩) ⟨by rw [bz_t (Or.inr ⟨q12, Or.inl (by omega)⟩)], rfl⟩
          | (refine rn_ireturn d_P_comesBefore_57 (Or.inr ⟨rfl, Or.inl rfl⟩) ⟨?_, rfl⟩
             rw [bz_f]
             rintro (z | ⟨-, z | z⟩)
             · exact z.1 q12
             · omega
             · omega)
      · refine rn_iconst 53 d_P_comesBefore_52 rfl ?_
        refine rn_goto 57 d_P_comesBefore_53 rfl ?_
        first
          | exact rn_ireturn d_P_comesBefore_57 (Or.inr ⟨rfl, Or.inr rfl⟩) ⟨by rw [bz_t (Or.inr ⟨q12, Or.inl (by omega)⟩)], rfl⟩
          | (refine rn_ireturn d_P_comesBefore_57 (Or.inr ⟨rfl, Or.inl rfl⟩) ⟨?_, rfl⟩
             rw [bz_f]
             rintro (z | ⟨-, z | z⟩)
             · exact z.1 q12
             · omega
             · omega)
  · refine rn_aload_n 16 d_P_comesBefore_15 rfl rfl ?_
    refine rn_aload_n 17 d_P_comesBefore_16 rfl rfl ?_
    refine rn_iload_n 18 d_P_comesBefore_17 rfl rfl ?_
    refine rn_callV2 21 d_P_comesBefore_18 rfl cw_P_93 rfl (Nat.le_of_ble_eq_true rfl) (ev_P_isCold hn hF hT hH hb) ?_
    rintro _ _ ⟨rfl, rfl⟩
    have q12 : ¬ (cold σ HS a ↔ cold σ HS b) := fun z => c_12 (bz_eq.mpr z)
    exact rn_ireturn d_P_comesBefore_21 (Or.inr ⟨rfl, bz_01⟩) ⟨congrArg (fun z => some (vI z)) (bz_eq.mpr ⟨fun z => Or.inl ⟨q12, z⟩, fun z => by
      rcases z with z | z
      · exact z.2
      · exact absurd z.1 q12⟩), rfl⟩
