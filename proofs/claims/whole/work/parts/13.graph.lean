set_option maxRecDepth 100000 in
set_option maxHeartbeats 4000000 in
/-- Graph.has -/
theorem ev_G_has {sc : av_sc} {d : Nat} {σ : av_S} {b : Int} (hb : av_in b) (hn : 0 ≤ σ 1 5 ∧ σ 1 5 ≤ 24) : av_Ev sc m_G_has (d) false 0 0 [vR 1, vI b] (hp σ) (fun r h => r = some (vI (bz (0 ≤ b ∧ b < σ 1 5))) ∧ h = hp σ) := by
  obtain ⟨hb1, hb2⟩ := hb
  refine av_ev rfl rfl (Nat.le_of_ble_eq_true rfl) rfl ?_
  refine rn_iload_n 1 d_G_has_0 rfl rfl ?_
  refine rn_if_lt 16 4 d_G_has_1 rfl rfl ⟨by omega, by omega⟩ (fun c_1 => ?_) (fun c_1 => ?_)
  · refine rn_iconst 17 d_G_has_16 rfl ?_
    exact rn_ireturn d_G_has_17 (Or.inr ⟨rfl, Or.inl rfl⟩) ⟨by rw [bz_f (by omega)], rfl⟩
  · refine rn_iload_n 5 d_G_has_4 rfl rfl ?_
    refine rn_aload_n 6 d_G_has_5 rfl rfl ?_
    refine rn_getfield 9 d_G_has_6 rfl fd_G_27 rfl rfl ?_
    refine rn_icmp_ge 16 12 d_G_has_9 rfl rfl ⟨by omega, by omega⟩ ⟨by omega, by omega⟩ (fun c_9 => ?_) (fun c_9 => ?_)
    · refine rn_iconst 17 d_G_has_16 rfl ?_
      exact rn_ireturn d_G_has_17 (Or.inr ⟨rfl, Or.inl rfl⟩) ⟨by rw [bz_f (by omega)], rfl⟩
    · refine rn_iconst 13 d_G_has_12 rfl ?_
      refine rn_goto 17 d_G_has_13 rfl ?_
      exact rn_ireturn d_G_has_17 (Or.inr ⟨rfl, Or.inr rfl⟩) ⟨by rw [bz_t (by omega)], rfl⟩
set_option maxRecDepth 100000 in
set_option maxHeartbeats 4000000 in
/-- Graph.hasEdge -/
theorem ev_G_hasEdge {sc : av_sc} {d : Nat} {σ : av_S} {b e : Int} (hb : av_in b) (he : av_in e) (hn : 0 ≤ σ 1 5 ∧ σ 1 5 ≤ 24) (hE : ∀ b, 0 ≤ b → b < σ 1 5 → 0 ≤ σ 4 b ∧ σ 4 b ≤ 2) : av_Ev sc m_G_hasEdge (d + 1) false 0 0 [vR 1, vI b, vI e] (hp σ) (fun r h => r = some (vI (bz ((0 ≤ b ∧ b < σ 1 5) ∧ 0 ≤ e ∧ e < σ 4 b))) ∧ h = hp σ) := by
  obtain ⟨he1, he2⟩ := id he
  refine av_ev rfl rfl (Nat.le_of_ble_eq_true rfl) rfl ?_
  refine rn_aload_n 1 d_G_hasEdge_0 rfl rfl ?_
  refine rn_iload_n 2 d_G_hasEdge_1 rfl rfl ?_
  refine rn_callV1 5 d_G_hasEdge_2 rfl cw_G_41 rfl (Nat.le_of_ble_eq_true rfl) (ev_G_has hb hn) ?_
  rintro _ _ ⟨rfl, rfl⟩
  refine rn_ifB_eq 26 8 d_G_hasEdge_5 rfl rfl (fun c_5 => ?_) (fun c_5 => ?_)
  · refine rn_iconst 27 d_G_hasEdge_26 rfl ?_
    exact rn_ireturn d_G_hasEdge_27 (Or.inr ⟨rfl, Or.inl rfl⟩) ⟨by rw [bz_f (by omega)], rfl⟩
  · refine rn_iload_n 9 d_G_hasEdge_8 rfl rfl ?_
    have hE1 := hE b c_5.1 c_5.2
    refine rn_if_lt 26 12 d_G_hasEdge_9 rfl rfl ⟨by omega, by omega⟩ (fun c_9 => ?_) (fun c_9 => ?_)
    · refine rn_iconst 27 d_G_hasEdge_26 rfl ?_
      exact rn_ireturn d_G_hasEdge_27 (Or.inr ⟨rfl, Or.inl rfl⟩) ⟨by rw [bz_f (by omega)], rfl⟩
    · refine rn_iload_n 13 d_G_hasEdge_12 rfl rfl ?_
      refine rn_aload_n 14 d_G_hasEdge_13 rfl rfl ?_
      refine rn_getfield 17 d_G_hasEdge_14 rfl fd_G_18 rfl rfl ?_
      refine rn_iload_n 18 d_G_hasEdge_17 rfl rfl ?_
      refine rn_iaload 19 d_G_hasEdge_18 rfl rfl (by decide) (by omega) (by omega) ?_
      refine rn_icmp_ge 26 22 d_G_hasEdge_19 rfl rfl ⟨by omega, by omega⟩ ⟨by omega, by omega⟩ (fun c_19 => ?_) (fun c_19 => ?_)
      · refine rn_iconst 27 d_G_hasEdge_26 rfl ?_
        exact rn_ireturn d_G_hasEdge_27 (Or.inr ⟨rfl, Or.inl rfl⟩) ⟨by rw [bz_f (by omega)], rfl⟩
      · refine rn_iconst 23 d_G_hasEdge_22 rfl ?_
        refine rn_goto 27 d_G_hasEdge_23 rfl ?_
        exact rn_ireturn d_G_hasEdge_27 (Or.inr ⟨rfl, Or.inr rfl⟩) ⟨by rw [bz_t (by omega)], rfl⟩
