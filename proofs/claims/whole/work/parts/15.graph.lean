set_option maxRecDepth 100000 in
set_option maxHeartbeats 400000 in
theorem ev_G_has {sc : av_sc} {d : Nat} {σ : av_S} {b : Int} (hb : av_in b) (hn : 0 ≤ σ 1 5 ∧ σ 1 5 ≤ 24) : av_Ev sc m_G_has (d) false 0 0 [vR 1, vI b] (hp σ) (fun r h => r = some (vI (bz (0 ≤ b ∧ b < σ 1 5))) ∧ h = hp σ) := by
  obtain ⟨hb1, hb2⟩ := hb
  refine av_ev rfl rfl (Nat.le_of_ble_eq_true rfl) rfl ?_
  refine rn_iload_n 1 d_G_has_0 rfl rfl ?_
  refine rn_if_lt 16 4 d_G_has_1 rfl rfl ⟨by omega, by omega⟩ (fun c_1 => ?_) (fun c_1 => ?_)
  · refine rn_iconst 17 d_G_has_16 rfl ?_
    exact rn_ireturn d_G_has_17 (Or.inr ⟨rfl, Or.inl rfl⟩) ⟨by rw [bz_f (by omega)], rfl⟩
  · refine rn_iload_n 5 d_G_has_4 rfl rfl ?_
    refine rn_aload_n 6 d_G_has_5 rfl rfl ?_
    refine rn_getfield 9 d_G_has_6 rfl fd_G_27 rfl rfl ?_
    refine rn_icmp_ge 16 12 d_G_has_9 rfl rfl ⟨by omega, by omega⟩ ⟨by omega, by omega⟩ (fun c_9 => ?_) (fun c_9 => ?_)
    · refine rn_iconst 17 d_G_has_16 rfl ?_
      exact rn_ireturn d_G_has_17 (Or.inr ⟨rfl, Or.inl rfl⟩) ⟨by rw [bz_f (by omega)], rfl⟩
    · refine rn_iconst 13 d_G_has_12 rfl ?_
      refine rn_goto 17 d_G_has_13 rfl ?_
      exact rn_ireturn d_G_has_17 (Or.inr ⟨rfl, Or.inr rfl⟩) ⟨by rw [bz_t (by omega)], rfl⟩
set_option maxRecDepth 100000 in
set_option maxHeartbeats 400000 in
theorem ev_G_hasEdge {sc : av_sc} {d : Nat} {σ : av_S} {b e : Int} (hb : av_in b) (he : av_in e) (hn : 0 ≤ σ 1 5 ∧ σ 1 5 ≤ 24) (hE : ∀ b, 0 ≤ b → b < σ 1 5 → 0 ≤ σ 4 b ∧ σ 4 b ≤ 2) : av_Ev sc m_G_hasEdge (d + 1) false 0 0 [vR 1, vI b, vI e] (hp σ) (fun r h => r = some (vI (bz ((0 ≤ b ∧ b < σ 1 5) ∧ 0 ≤ e ∧ e < σ 4 b))) ∧ h = hp σ) := by
  obtain ⟨he1, he2⟩ := id he
  refine av_ev rfl rfl (Nat.le_of_ble_eq_true rfl) rfl ?_
  refine rn_aload_n 1 d_G_hasEdge_0 rfl rfl ?_
  refine rn_iload_n 2 d_G_hasEdge_1 rfl rfl ?_
  refine rn_callV1 5 d_G_hasEdge_2 rfl cw_G_41 rfl (Nat.le_of_ble_eq_true rfl) (ev_G_has hb hn) ?_
  rintro _ _ ⟨rfl, rfl⟩
  refine rn_ifB_eq 26 8 d_G_hasEdge_5 rfl rfl (fun c_5 => ?_) (fun c_5 => ?_)
  · refine rn_iconst 27 d_G_hasEdge_26 rfl ?_
    exact rn_ireturn d_G_hasEdge_27 (Or.inr ⟨rfl, Or.inl rfl⟩) ⟨by rw [bz_f (by omega)], rfl⟩
  · refine rn_iload_n 9 d_G_hasEdge_8 rfl rfl ?_
    have hE1 := hE b c_5.1 c_5.2
    refine rn_if_lt 26 12 d_G_hasEdge_9 rfl rfl ⟨by omega, by omega⟩ (fun c_9 => ?_) (fun c_9 => ?_)
    · refine rn_iconst 27 d_G_hasEdge_26 rfl ?_
      exact rn_ireturn d_G_hasEdge_27 (Or.inr ⟨rfl, Or.inl rfl⟩) ⟨by rw [bz_f (by omega)], rfl⟩
    · refine rn_iload_n 13 d_G_hasEdge_12 rfl rfl ?_
      refine rn_aload_n 14 d_G_hasEdge_13 rfl rfl ?_
      refine rn_getfield 17 d_G_hasEdge_14 rfl fd_G_18 rfl rfl ?_
      refine rn_iload_n 18 d_G_hasEdge_17 rfl rfl ?_
      refine rn_iaload 19 d_G_hasEdge_18 rfl rfl (by decide) (by omega) (by omega) ?_
      refine rn_icmp_ge 26 22 d_G_hasEdge_19 rfl rfl ⟨by omega, by omega⟩ ⟨by omega, by omega⟩ (fun c_19 => ?_) (fun c_19 => ?_)
      · refine rn_iconst 27 d_G_hasEdge_26 rfl ?_
        exact rn_ireturn d_G_hasEdge_27 (Or.inr ⟨rfl, Or.inl rfl⟩) ⟨by rw [bz_f (by omega)], rfl⟩
      · refine rn_iconst 23 d_G_hasEdge_22 rfl ?_
        refine rn_goto 27 d_G_hasEdge_23 rfl ?_
        exact rn_ireturn d_G_hasEdge_27 (Or.inr ⟨rfl, Or.inr rfl⟩) ⟨by rw [bz_t (by omega)], rfl⟩
set_option maxRecDepth 100000 in
set_option maxHeartbeats 400000 in
theorem ev_G_hasEntry {sc : av_sc} {d : Nat} {σ : av_S} {f : Int} (hf : av_in f) (hT : ∀ f, 0 ≤ f → f < 4 → -1 ≤ σ 6 f ∧ σ 6 f < 24) : av_Ev sc m_G_hasEntry (d) false 0 0 [vR 1, vI f] (hp σ) (fun r h => r = some (vI (bz ((0 ≤ f ∧ f < 4) ∧ σ 6 f ≠ -1))) ∧ h = hp σ) := by
  obtain ⟨hf1, hf2⟩ := id hf
  refine av_ev rfl rfl (Nat.le_of_ble_eq_true rfl) rfl ?_
  refine rn_iload_n 1 d_G_hasEntry_0 rfl rfl ?_
  refine rn_if_lt 23 4 d_G_hasEntry_1 rfl rfl ⟨by omega, by omega⟩ (fun c_1 => ?_) (fun c_1 => ?_)
  · refine rn_iconst 24 d_G_hasEntry_23 rfl ?_
    exact rn_ireturn d_G_hasEntry_24 (Or.inr ⟨rfl, Or.inl rfl⟩) ⟨by rw [bz_f (by omega)], rfl⟩
  · refine rn_iload_n 5 d_G_hasEntry_4 rfl rfl ?_
    refine rn_iconst 6 d_G_hasEntry_5 rfl ?_
    refine rn_icmp_ge 23 9 d_G_hasEntry_6 rfl rfl ⟨by omega, by omega⟩ ⟨by omega, by omega⟩ (fun c_6 => ?_) (fun c_6 => ?_)
    · refine rn_iconst 24 d_G_hasEntry_23 rfl ?_
      exact rn_ireturn d_G_hasEntry_24 (Or.inr ⟨rfl, Or.inl rfl⟩) ⟨by rw [bz_f (by omega)], rfl⟩
    · have hT1 := hT f c_1 c_6
      refine rn_aload_n 10 d_G_hasEntry_9 rfl rfl ?_
      refine rn_getfield 13 d_G_hasEntry_10 rfl fd_G_24 rfl rfl ?_
      refine rn_iload_n 14 d_G_hasEntry_13 rfl rfl ?_
      refine rn_iaload 15 d_G_hasEntry_14 rfl rfl (by decide) (by omega) (by omega) ?_
      refine rn_iconst 16 d_G_hasEntry_15 rfl ?_
      refine rn_icmp_eq 23 19 d_G_hasEntry_16 rfl rfl ⟨by omega, by omega⟩ ⟨by omega, by omega⟩ (fun c_16 => ?_) (fun c_16 => ?_)
      · refine rn_iconst 24 d_G_hasEntry_23 rfl ?_
        exact rn_ireturn d_G_hasEntry_24 (Or.inr ⟨rfl, Or.inl rfl⟩) ⟨by rw [bz_f (by omega)], rfl⟩
      · refine rn_iconst 20 d_G_hasEntry_19 rfl ?_
        refine rn_goto 24 d_G_hasEntry_20 rfl ?_
        exact rn_ireturn d_G_hasEntry_24 (Or.inr ⟨rfl, Or.inr rfl⟩) ⟨by rw [bz_t (by omega)], rfl⟩
set_option maxRecDepth 100000 in
set_option maxHeartbeats 400000 in
theorem ev_G_canLead {sc : av_sc} {d : Nat} {σ : av_S} {b y : Int} (hb : av_in b) (hy : av_in y) (hn : 0 ≤ σ 1 5 ∧ σ 1 5 ≤ 24) (hF : ∀ b, 0 ≤ b → b < σ 1 5 → 0 ≤ σ 2 b ∧ σ 2 b ≤ 3) : av_Ev sc m_G_canLead (d + 1) false 0 0 [vR 1, vI b, vI y] (hp σ) (fun r h => r = some (vI (bz ((0 ≤ b ∧ b < σ 1 5) ∧ (0 ≤ y ∧ y < σ 1 5) ∧ σ 2 b = σ 2 y))) ∧ h = hp σ) := by
  refine av_ev rfl rfl (Nat.le_of_ble_eq_true rfl) rfl ?_
  refine rn_aload_n 1 d_G_canLead_0 rfl rfl ?_
  refine rn_iload_n 2 d_G_canLead_1 rfl rfl ?_
  refine rn_callV1 5 d_G_canLead_2 rfl cw_G_41 rfl (Nat.le_of_ble_eq_true rfl) (ev_G_has hb hn) ?_
  rintro _ _ ⟨rfl, rfl⟩
  refine rn_ifB_eq 35 8 d_G_canLead_5 rfl rfl (fun c_5 => ?_) (fun c_5 => ?_)
  · refine rn_iconst 36 d_G_canLead_35 rfl ?_
    exact rn_ireturn d_G_canLead_36 (Or.inr ⟨rfl, Or.inl rfl⟩) ⟨by rw [bz_f (by omega)], rfl⟩
  · refine rn_aload_n 9 d_G_canLead_8 rfl rfl ?_
    refine rn_iload_n 10 d_G_canLead_9 rfl rfl ?_
    refine rn_callV1 13 d_G_canLead_10 rfl cw_G_41 rfl (Nat.le_of_ble_eq_true rfl) (ev_G_has hy hn) ?_
    rintro _ _ ⟨rfl, rfl⟩
    refine rn_ifB_eq 35 16 d_G_canLead_13 rfl rfl (fun c_13 => ?_) (fun c_13 => ?_)
    · refine rn_iconst 36 d_G_canLead_35 rfl ?_
      exact rn_ireturn d_G_canLead_36 (Or.inr ⟨rfl, Or.inl rfl⟩) ⟨by rw [bz_f (by omega)], rfl⟩
    · have hF1 := hF b c_5.1 c_5.2
      have hF2 := hF y c_13.1 c_13.2
      refine rn_aload_n 17 d_G_canLead_16 rfl rfl ?_
      refine rn_getfield 20 d_G_canLead_17 rfl fd_G_9 rfl rfl ?_
      refine rn_iload_n 21 d_G_canLead_20 rfl rfl ?_
      refine rn_iaload 22 d_G_canLead_21 rfl rfl (by decide) (by omega) (by omega) ?_
      refine rn_aload_n 23 d_G_canLead_22 rfl rfl ?_
      refine rn_getfield 26 d_G_canLead_23 rfl fd_G_9 rfl rfl ?_
      refine rn_iload_n 27 d_G_canLead_26 rfl rfl ?_
      refine rn_iaload 28 d_G_canLead_27 rfl rfl (by decide) (by omega) (by omega) ?_
      refine rn_icmp_ne 35 31 d_G_canLead_28 rfl rfl ⟨by omega, by omega⟩ ⟨by omega, by omega⟩ (fun c_28 => ?_) (fun c_28 => ?_)
      · refine rn_iconst 36 d_G_canLead_35 rfl ?_
        exact rn_ireturn d_G_canLead_36 (Or.inr ⟨rfl, Or.inl rfl⟩) ⟨by rw [bz_f (by omega)], rfl⟩
      · refine rn_iconst 32 d_G_canLead_31 rfl ?_
        refine rn_goto 36 d_G_canLead_32 rfl ?_
        exact rn_ireturn d_G_canLead_36 (Or.inr ⟨rfl, Or.inr rfl⟩) ⟨by rw [bz_t (by omega)], rfl⟩
set_option maxRecDepth 100000 in
set_option maxHeartbeats 400000 in
theorem ev_G_isEntry {sc : av_sc} {d : Nat} {σ : av_S} {b : Int} (hb : 0 ≤ b ∧ b < 24) (hF : 0 ≤ σ 2 b ∧ σ 2 b ≤ 3) (hT : -1 ≤ σ 6 (σ 2 b) ∧ σ 6 (σ 2 b) < 24) : av_Ev sc m_G_isEntry (d) false 0 0 [vR 1, vI b] (hp σ) (fun r h => r = some (vI (bz (σ 6 (σ 2 b) = b))) ∧ h = hp σ) := by
  refine av_ev rfl rfl (Nat.le_of_ble_eq_true rfl) rfl ?_
  refine rn_aload_n 1 d_G_isEntry_0 rfl rfl ?_
  refine rn_getfield 4 d_G_isEntry_1 rfl fd_G_24 rfl rfl ?_
  refine rn_aload_n 5 d_G_isEntry_4 rfl rfl ?_
  refine rn_getfield 8 d_G_isEntry_5 rfl fd_G_9 rfl rfl ?_
  refine rn_iload_n 9 d_G_isEntry_8 rfl rfl ?_
  refine rn_iaload 10 d_G_isEntry_9 rfl rfl (by decide) (by omega) (by omega) ?_
  refine rn_iaload 11 d_G_isEntry_10 rfl rfl (by decide) (by omega) (by omega) ?_
  refine rn_iload_n 12 d_G_isEntry_11 rfl rfl ?_
  refine rn_icmp_ne 19 15 d_G_isEntry_12 rfl rfl ⟨by omega, by omega⟩ ⟨by omega, by omega⟩ (fun c_12 => ?_) (fun c_12 => ?_)
  · refine rn_iconst 20 d_G_isEntry_19 rfl ?_
    exact rn_ireturn d_G_isEntry_20 (Or.inr ⟨rfl, Or.inl rfl⟩) ⟨by rw [bz_f (by omega)], rfl⟩
  · refine rn_iconst 16 d_G_isEntry_15 rfl ?_
    refine rn_goto 20 d_G_isEntry_16 rfl ?_
    exact rn_ireturn d_G_isEntry_20 (Or.inr ⟨rfl, Or.inr rfl⟩) ⟨by rw [bz_t (by omega)], rfl⟩
def sG_setEnd (σ : av_S) (b k x y : Int) : av_S := up (up (up σ 4 (uI (σ 4) b k)) 5 (uI (σ 5) (2 * b) x)) 5 (uI (uI (σ 5) (2 * b) x) (2 * b + 1) y)
set_option maxRecDepth 100000 in
set_option maxHeartbeats 400000 in
theorem ev_G_setEnd {sc : av_sc} {d : Nat} {σ : av_S} {b k x y : Int} (hb : 0 ≤ b ∧ b < 24) : av_Ev sc m_G_setEnd (d) false 0 0 [vR 1, vI b, vI k, vI x, vI y] (hp σ) (fun r h => r = none ∧ h = hp (sG_setEnd σ b k x y)) := by
  refine av_ev rfl rfl (Nat.le_of_ble_eq_true rfl) rfl ?_
  refine rn_aload_n 1 d_G_setEnd_0 rfl rfl ?_
  refine rn_getfield 4 d_G_setEnd_1 rfl fd_G_18 rfl rfl ?_
  refine rn_iload_n 5 d_G_setEnd_4 rfl rfl ?_
  refine rn_iload_n 6 d_G_setEnd_5 rfl rfl ?_
  refine rn_iastore 7 d_G_setEnd_6 rfl rfl (by decide) (by omega) (by omega) (hs_4 _ _) ?_
  refine rn_aload_n 8 d_G_setEnd_7 rfl rfl ?_
  refine rn_getfield 11 d_G_setEnd_8 rfl fd_G_21 rfl rfl ?_
  refine rn_iconst 12 d_G_setEnd_11 rfl ?_
  refine rn_iload_n 13 d_G_setEnd_12 rfl rfl ?_
  refine rn_imul 14 d_G_setEnd_13 rfl ?_
  refine rn_iload_n 15 d_G_setEnd_14 rfl rfl ?_
  refine rn_iastore 16 d_G_setEnd_15 rfl rfl (by decide) (by omega) (by omega) (hs_5 _ _) ?_
  refine rn_aload_n 17 d_G_setEnd_16 rfl rfl ?_
  refine rn_getfield 20 d_G_setEnd_17 rfl fd_G_21 rfl rfl ?_
  refine rn_iconst 21 d_G_setEnd_20 rfl ?_
  refine rn_iload_n 22 d_G_setEnd_21 rfl rfl ?_
  refine rn_imul 23 d_G_setEnd_22 rfl ?_
  refine rn_iconst 24 d_G_setEnd_23 rfl ?_
  refine rn_iadd 25 d_G_setEnd_24 rfl ?_
  refine rn_iload 27 d_G_setEnd_25 rfl rfl ?_
  refine rn_iastore 28 d_G_setEnd_27 rfl rfl (by decide) (by omega) (by omega) (hs_5 _ _) ?_
  exact rn_return d_G_setEnd_28 rfl ⟨rfl, rfl⟩
def sG_add0 (σ : av_S) (f u : Int) : av_S := sG_setEnd (up (up σ 2 (uI (σ 2) (σ 1 5) f)) 3 (uI (σ 3) (σ 1 5) u)) (σ 1 5) 0 (-1) (-1)
def sG_add1 (σ : av_S) (f n : Int) : av_S := if σ 6 f = -1 then up σ 6 (uI (σ 6) f n) else σ
def sG_add2 (σ : av_S) (n : Int) : av_S := up σ 1 (uI (σ 1) 5 (n + 1))
def sG_add (σ : av_S) (f u : Int) : av_S := sG_add2 (sG_add1 (sG_add0 σ f u) f (σ 1 5)) (σ 1 5)
set_option maxRecDepth 100000 in
set_option maxHeartbeats 400000 in
theorem ev_G_add {sc : av_sc} {d : Nat} {σ : av_S} {f u : Int} (hn : 0 ≤ σ 1 5 ∧ σ 1 5 < 24) (hf : 0 ≤ f ∧ f < 4) (hT : -1 ≤ σ 6 f ∧ σ 6 f < 24) : av_Ev sc m_G_add (d + 1) false 0 0 [vR 1, vI f, vI u] (hp σ) (fun r h => r = some (vI (σ 1 5)) ∧ h = hp (sG_add σ f u)) := by
  refine av_ev rfl rfl (Nat.le_of_ble_eq_true rfl) rfl ?_
  refine rn_aload_n 1 d_G_add_0 rfl rfl ?_
  refine rn_getfield 4 d_G_add_1 rfl fd_G_27 rfl rfl ?_
  refine rn_istore_n 5 d_G_add_4 rfl (by decide) rfl rfl ?_
  refine rn_aload_n 6 d_G_add_5 rfl rfl ?_
  refine rn_getfield 9 d_G_add_6 rfl fd_G_9 rfl rfl ?_
  refine rn_iload_n 10 d_G_add_9 rfl rfl ?_
  refine rn_iload_n 11 d_G_add_10 rfl rfl ?_
  refine rn_iastore 12 d_G_add_11 rfl rfl (by decide) (by omega) (by omega) (hs_2 _ _) ?_
  refine rn_aload_n 13 d_G_add_12 rfl rfl ?_
  refine rn_getfield 16 d_G_add_13 rfl fd_G_15 rfl rfl ?_
  refine rn_iload_n 17 d_G_add_16 rfl rfl ?_
  refine rn_iload_n 18 d_G_add_17 rfl rfl ?_
  refine rn_iastore 19 d_G_add_18 rfl rfl (by decide) (by omega) (by omega) (hs_3 _ _) ?_
  refine rn_aload_n 20 d_G_add_19 rfl rfl ?_
  refine rn_iload_n 21 d_G_add_20 rfl rfl ?_
  refine rn_iconst 22 d_G_add_21 rfl ?_
  refine rn_iconst 23 d_G_add_22 rfl ?_
  refine rn_iconst 24 d_G_add_23 rfl ?_
  refine rn_callV4 27 d_G_add_24 rfl cw_G_37 rfl (Nat.le_of_ble_eq_true rfl) (ev_G_setEnd ⟨by omega, by omega⟩) ?_
  rintro _ _ ⟨rfl, rfl⟩
  change av_Rn _ _ _ _ _ _ _ _ _ _ (hp (sG_add0 σ f u)) _
  have hT0 : (sG_add0 σ f u) 6 f = σ 6 f := rfl
  refine rn_aload_n 28 d_G_add_27 rfl rfl ?_
  refine rn_getfield 31 d_G_add_28 rfl fd_G_24 rfl rfl ?_
  refine rn_iload_n 32 d_G_add_31 rfl rfl ?_
  refine rn_iaload 33 d_G_add_32 rfl rfl (by decide) (by omega) (by omega) ?_
  refine rn_iconst 34 d_G_add_33 rfl ?_
  refine rn_icmp_ne 44 37 d_G_add_34 rfl rfl ⟨by omega, by omega⟩ ⟨by omega, by omega⟩ (fun c_34 => ?_) (fun c_34 => ?_)
  · refine rn_aload_n 45 d_G_add_44 rfl rfl ?_
    refine rn_dup 46 d_G_add_45 rfl rfl ?_
    refine rn_getfield 49 d_G_add_46 rfl fd_G_27 rfl rfl ?_
    refine rn_iconst 50 d_G_add_49 rfl ?_
    refine rn_iadd 51 d_G_add_50 rfl ?_
    refine rn_putfield 54 d_G_add_51 rfl fp_G_27 rfl (Nat.le_of_ble_eq_true rfl) av_fitI (hs_1_5 _ _) ?_
    refine rn_iload_n 55 d_G_add_54 rfl rfl ?_
    refine rn_ireturn d_G_add_55 (Or.inl rfl) ⟨rfl, ?_⟩
    unfold sG_add sG_add1
    first | rw [if_pos (by omega)] | rw [if_neg (by omega)]
    rfl
  · refine rn_aload_n 38 d_G_add_37 rfl rfl ?_
    refine rn_getfield 41 d_G_add_38 rfl fd_G_24 rfl rfl ?_
    refine rn_iload_n 42 d_G_add_41 rfl rfl ?_
    refine rn_iload_n 43 d_G_add_42 rfl rfl ?_
    refine rn_iastore 44 d_G_add_43 rfl rfl (by decide) (by omega) (by omega) (hs_6 _ _) ?_
    refine rn_aload_n 45 d_G_add_44 rfl rfl ?_
    refine rn_dup 46 d_G_add_45 rfl rfl ?_
    refine rn_getfield 49 d_G_add_46 rfl fd_G_27 rfl rfl ?_
    refine rn_iconst 50 d_G_add_49 rfl ?_
    refine rn_iadd 51 d_G_add_50 rfl ?_
    refine rn_putfield 54 d_G_add_51 rfl fp_G_27 rfl (Nat.le_of_ble_eq_true rfl) av_fitI (hs_1_5 _ _) ?_
    refine rn_iload_n 55 d_G_add_54 rfl rfl ?_
    refine rn_ireturn d_G_add_55 (Or.inl rfl) ⟨rfl, ?_⟩
    unfold sG_add sG_add1
    first | rw [if_pos (by omega)] | rw [if_neg (by omega)]
    rfl
def mn (x y : Int) : Int := if y < x then y else x
def sN_addToBlock (σ : av_S) (b n : Int) : av_S := up σ 8 (uI (σ 8) b (mn 1000000 (σ 8 b + n)))
set_option maxRecDepth 100000 in
set_option maxHeartbeats 400000 in
theorem ev_N_addToBlock {sc : av_sc} {d : Nat} {σ : av_S} {b n : Int} (hb : 0 ≤ b ∧ b < 24) (hn : 0 ≤ n ∧ n ≤ 1000000) (hc : 0 ≤ σ 8 b ∧ σ 8 b ≤ 1000000) : av_Ev sc m_N_addToBlock (d + 1) false 0 0 [vR 7, vI b, vI n] (hp σ) (fun r h => r = none ∧ h = hp (sN_addToBlock σ b n)) := by
  refine av_ev rfl rfl (Nat.le_of_ble_eq_true rfl) rfl ?_
  refine rn_aload_n 1 d_N_addToBlock_0 rfl rfl ?_
  refine rn_getfield 4 d_N_addToBlock_1 rfl fd_N_9 rfl rfl ?_
  refine rn_iload_n 5 d_N_addToBlock_4 rfl rfl ?_
  refine rn_ldc 7 d_N_addToBlock_5 rfl 1000000 lc_N_18 rfl ?_
  refine rn_aload_n 8 d_N_addToBlock_7 rfl rfl ?_
  refine rn_getfield 11 d_N_addToBlock_8 rfl fd_N_9 rfl rfl ?_
  refine rn_iload_n 12 d_N_addToBlock_11 rfl rfl ?_
  refine rn_iaload 13 d_N_addToBlock_12 rfl rfl (by decide) (by omega) (by omega) ?_
  refine rn_iload_n 14 d_N_addToBlock_13 rfl rfl ?_
  refine rn_iadd 15 d_N_addToBlock_14 rfl ?_
  refine rn_min 18 d_N_addToBlock_15 rfl cw_N_19 (Nat.le_of_ble_eq_true rfl) ⟨by omega, by omega⟩ ⟨by omega, by omega⟩ ?_
  refine rn_iastore 19 d_N_addToBlock_18 rfl rfl (by decide) (by omega) (by omega) (hs_8 _ _) ?_
  exact rn_return d_N_addToBlock_19 rfl ⟨rfl, rfl⟩
def sN_addToEdge (σ : av_S) (b n : Int) : av_S := up σ 9 (uI (σ 9) b (mn 1000000 (σ 9 b + n)))
set_option maxRecDepth 100000 in
set_option maxHeartbeats 400000 in
theorem ev_N_addToEdge {sc : av_sc} {d : Nat} {σ : av_S} {b n : Int} (hb : 0 ≤ b ∧ b < 48) (hn : 0 ≤ n ∧ n ≤ 1000000) (hc : 0 ≤ σ 9 b ∧ σ 9 b ≤ 1000000) : av_Ev sc m_N_addToEdge (d + 1) false 0 0 [vR 7, vI b, vI n] (hp σ) (fun r h => r = none ∧ h = hp (sN_addToEdge σ b n)) := by
  refine av_ev rfl rfl (Nat.le_of_ble_eq_true rfl) rfl ?_
  refine rn_aload_n 1 d_N_addToEdge_0 rfl rfl ?_
  refine rn_getfield 4 d_N_addToEdge_1 rfl fd_N_15 rfl rfl ?_
  refine rn_iload_n 5 d_N_addToEdge_4 rfl rfl ?_
  refine rn_ldc 7 d_N_addToEdge_5 rfl 1000000 lc_N_18 rfl ?_
  refine rn_aload_n 8 d_N_addToEdge_7 rfl rfl ?_
  refine rn_getfield 11 d_N_addToEdge_8 rfl fd_N_15 rfl rfl ?_
  refine rn_iload_n 12 d_N_addToEdge_11 rfl rfl ?_
  refine rn_iaload 13 d_N_addToEdge_12 rfl rfl (by decide) (by omega) (by omega) ?_
  refine rn_iload_n 14 d_N_addToEdge_13 rfl rfl ?_
  refine rn_iadd 15 d_N_addToEdge_14 rfl ?_
  refine rn_min 18 d_N_addToEdge_15 rfl cw_N_19 (Nat.le_of_ble_eq_true rfl) ⟨by omega, by omega⟩ ⟨by omega, by omega⟩ ?_
  refine rn_iastore 19 d_N_addToEdge_18 rfl rfl (by decide) (by omega) (by omega) (hs_9 _ _) ?_
  exact rn_return d_N_addToEdge_19 rfl ⟨rfl, rfl⟩
def sN_clearEdges (σ : av_S) (b : Int) : av_S := up (up σ 9 (uI (σ 9) (2 * b) 0)) 9 (uI (uI (σ 9) (2 * b) 0) (2 * b + 1) 0)
set_option maxRecDepth 100000 in
set_option maxHeartbeats 400000 in
theorem ev_N_clearEdges {sc : av_sc} {d : Nat} {σ : av_S} {b : Int} (hb : 0 ≤ b ∧ b < 24) : av_Ev sc m_N_clearEdges (d) false 0 0 [vR 7, vI b] (hp σ) (fun r h => r = none ∧ h = hp (sN_clearEdges σ b)) := by
  refine av_ev rfl rfl (Nat.le_of_ble_eq_true rfl) rfl ?_
  refine rn_aload_n 1 d_N_clearEdges_0 rfl rfl ?_
  refine rn_getfield 4 d_N_clearEdges_1 rfl fd_N_15 rfl rfl ?_
  refine rn_iconst 5 d_N_clearEdges_4 rfl ?_
  refine rn_iload_n 6 d_N_clearEdges_5 rfl rfl ?_
  refine rn_imul 7 d_N_clearEdges_6 rfl ?_
  refine rn_iconst 8 d_N_clearEdges_7 rfl ?_
  refine rn_iastore 9 d_N_clearEdges_8 rfl rfl (by decide) (by omega) (by omega) (hs_9 _ _) ?_
  refine rn_aload_n 10 d_N_clearEdges_9 rfl rfl ?_
  refine rn_getfield 13 d_N_clearEdges_10 rfl fd_N_15 rfl rfl ?_
  refine rn_iconst 14 d_N_clearEdges_13 rfl ?_
  refine rn_iload_n 15 d_N_clearEdges_14 rfl rfl ?_
  refine rn_imul 16 d_N_clearEdges_15 rfl ?_
  refine rn_iconst 17 d_N_clearEdges_16 rfl ?_
  refine rn_iadd 18 d_N_clearEdges_17 rfl ?_
  refine rn_iconst 19 d_N_clearEdges_18 rfl ?_
  refine rn_iastore 20 d_N_clearEdges_19 rfl rfl (by decide) (by omega) (by omega) (hs_9 _ _) ?_
  exact rn_return d_N_clearEdges_20 rfl ⟨rfl, rfl⟩
def sN_clear (σ : av_S) : av_S := up (up σ 8 (fun _ => 0)) 9 (fun _ => 0)
set_option maxRecDepth 100000 in
set_option maxHeartbeats 400000 in
theorem ev_N_clear {sc : av_sc} {d : Nat} {σ : av_S} : av_Ev sc m_N_clear (d + 1) false 0 0 [vR 7] (hp σ) (fun r h => r = none ∧ h = hp (sN_clear σ)) := by
  refine av_ev rfl rfl (Nat.le_of_ble_eq_true rfl) rfl ?_
  refine rn_aload_n 1 d_N_clear_0 rfl rfl ?_
  refine rn_getfield 4 d_N_clear_1 rfl fd_N_9 rfl rfl ?_
  refine rn_iconst 5 d_N_clear_4 rfl ?_
  refine rn_callS2 8 d_N_clear_5 rfl cw_N_44 (Nat.le_of_ble_eq_true rfl) (ev_A_fill (f := σ 8) rfl (by decide)) ?_
  rintro _ _ ⟨rfl, rfl⟩
  refine rn_aload_n 9 d_N_clear_8 rfl rfl ?_
  refine rn_getfield 12 d_N_clear_9 rfl fd_N_15 rfl rfl ?_
  refine rn_iconst 13 d_N_clear_12 rfl ?_
  refine rn_callS2 16 d_N_clear_13 rfl cw_N_44 (Nat.le_of_ble_eq_true rfl) (ev_A_fill (f := σ 9) rfl (by decide)) ?_
  rintro _ _ ⟨rfl, rfl⟩
  exact rn_return d_N_clear_16 rfl ⟨rfl, rfl⟩
