theorem plO_keep {σ τ : av_S} {G U T : Int → Int} {k : Nat} (e1 : τ 1 = σ 1) (e4 : τ 4 = σ 4) (e5 : τ 5 = σ 5) (e14 : τ 14 = σ 14) (h : plO σ G U T k) : plO τ G U T k := by
  unfold plO qG0 qG1 qU0 qU1 qT nxI at h ⊢
  rw [e1, e4, e5, e14]
  exact h
theorem adS_keep {σ τ : av_S} {ST U : Int → Int} (e1 : τ 1 = σ 1) (e3 : τ 3 = σ 3) (e4 : τ 4 = σ 4) (e14 : τ 14 = σ 14) (h : adS σ ST U) : adS τ ST U := by
  unfold adS adC cuC at h ⊢
  rw [e1, e3, e4, e14]
  exact h
theorem adC_keep {σ τ : av_S} {U : Int → Int} {k : Nat} (e3 : τ 3 = σ 3) (e4 : τ 4 = σ 4) (e14 : τ 14 = σ 14) : adC σ U k = adC τ U k := by
  unfold adC cuC
  rw [e3, e4, e14]
theorem bnC_keep {σ τ : av_S} {k : Nat} (e1 : τ 1 = σ 1) (e4 : τ 4 = σ 4) (e5 : τ 5 = σ 5) (e14 : τ 14 = σ 14) : bnC σ k = bnC τ k := by
  unfold bnC qU0 qU1 nxI
  rw [e1, e4, e5, e14]
theorem iO_keep {σ τ : av_S} (e1 : τ 1 = σ 1) (e14 : τ 14 = σ 14) (h : iO σ) : iO τ := by
  unfold iO at h ⊢
  rw [e1, e14]
  exact h
theorem kp_cells {σ : av_S} {OR ED HD FI BE HS BS ST G V T : Int → Int} {Ch Co a b c : Int} {f : Int → Int} : ∀ k : Nat, (1 ≤ k ∧ k ≤ 12) ∨ 26 ≤ k → (up (kS (pS σ OR ED HD FI BE HS BS Ch Co) ST G V T a b c) 0 f) k = σ k := by
  intro k hk
  unfold kS pS
  rw [up_n _ _ (by omega), up_n _ _ (by omega), up_n _ _ (by omega), up_n _ _ (by omega), up_n _ _ (by omega), up_n _ _ (by omega), up_n _ _ (by omega), up_n _ _ (by omega), up_n _ _ (by omega), up_n _ _ (by omega), up_n _ _ (by omega), up_n _ _ (by omega), up_n _ _ (by omega), up_n _ _ (by omega)]
theorem oD1_perm {σ : av_S} {HS BS HD TT ln A : Int → Int} {m t : Nat} (hn : 0 ≤ σ 1 5) (h : oD1 σ HS BS HD TT ln A m t) : (∀ k, 0 ≤ k → k < σ 1 5 → 0 ≤ TT k ∧ TT k < σ 1 5) ∧ (∀ i j, 0 ≤ i → i < j → j < σ 1 5 → TT i ≠ TT j) ∧ ∀ b, 0 ≤ b → b < σ 1 5 → ∃ k : Nat, (k : Int) < σ 1 5 ∧ TT (k : Int) = b := by
  obtain ⟨d1, d2, d3, d5, d6⟩ := h
  have cc : (((σ 1 5).toNat : Nat) : Int) = σ 1 5 := by omega
  have P := tO_perm d6 (fun b q0 q1 => by
    have w := (d2.1 b q0 q1).1
    obtain ⟨i, i0, i1, i2⟩ := d5.2.1 _ w.1 (by omega) (cI_hd d2 q0 q1).1
    exact ⟨i.toNat, by omega, by rw [show ((i.toNat : Nat) : Int) = i by omega, i2]⟩) (fun c c' q0 q1 e => by
    rcases Nat.lt_trichotomy c c' with w | w | w
    · have z := d5.2.2.1 (c : Int) (c' : Int) (by omega) (by omega) (by omega)
      rw [e] at z
      exact (cbf_as z z).elim
    · exact w
    · have z := d5.2.2.1 (c' : Int) (c : Int) (by omega) (by omega) (by omega)
      rw [e] at z
      exact (cbf_as z z).elim)
  rw [cc] at P
  exact P
theorem iO_fl {σ : av_S} {TT OR ED HD FI BE HS BS : Int → Int} {Ch Co : Int} (h : (∀ k, 0 ≤ k → k < σ 1 5 → 0 ≤ TT k ∧ TT k < σ 1 5) ∧ (∀ i j, 0 ≤ i → i < j → j < σ 1 5 → TT i ≠ TT j) ∧ ∀ b, 0 ≤ b → b < σ 1 5 → ∃ k : Nat, (k : Int) < σ 1 5 ∧ TT (k : Int) = b) : iO (pS σ (fl TT OR (σ 1 5)) ED HD FI BE HS BS Ch Co) := by
  show (∀ k, 0 ≤ k → k < σ 1 5 → 0 ≤ fl TT OR (σ 1 5) k ∧ fl TT OR (σ 1 5) k < σ 1 5) ∧ (∀ i j, 0 ≤ i → i < j → j < σ 1 5 → fl TT OR (σ 1 5) i ≠ fl TT OR (σ 1 5) j) ∧ ∀ b, 0 ≤ b → b < σ 1 5 → ∃ k : Nat, (k : Int) < σ 1 5 ∧ fl TT OR (σ 1 5) (k : Int) = b
  refine ⟨fun k a b => by rw [fl_in ⟨a, b⟩]; exact h.1 k a b, fun i j a b c => by rw [fl_in ⟨a, by omega⟩, fl_in ⟨by omega, c⟩]; exact h.2.1 i j a b c, fun b a c => ?_⟩
  obtain ⟨k, k1, k2⟩ := h.2.2 b a c
  exact ⟨k, k1, by rw [fl_in ⟨by omega, k1⟩]; exact k2⟩
set_option maxRecDepth 100000 in
set_option maxHeartbeats 400000 in
theorem lay_tail {sc : av_sc} {d n0 : Nat} {σ : av_S} {OR ED HD FI BE HS BS : Int → Int} {Ch Co : Int} {md : Int} (hI : iL σ) (hU : ∀ i, 0 ≤ i → i < 48 → 0 ≤ σ 24 i ∧ σ 24 i ≤ 2) (hT : ∀ b, 0 ≤ b → b < 24 → σ 25 b = 0 ∨ σ 25 b = 1) (hO : iO (pS σ OR ED HD FI BE HS BS Ch Co)) (hok : σ 1 5 ≠ 0 ∧ (md = 0 ∨ md = 1)) (hD : ((md = 0 ∧ Ch = σ 1 5 ∧ Co = 0 ∧ ∀ k, 0 ≤ k → k < σ 1 5 → OR k = k) ∨ (md = 1 ∧ ∃ (HS BS HD TT ln A : Int → Int) (m t : Nat), oD1 σ HS BS HD TT ln A m t ∧ Ch = (m : Int) ∧ Co = sm (fun c => if cold σ HS (HD c) then ln c else 0) m ∧ ∀ k, 0 ≤ k → k < σ 1 5 → OR k = TT k))) : av_Rn sc m_L_layout (d + 5) false n0 0 0 54 [some (vR 0), some (vI md)] [] (hp (pS σ OR ED HD FI BE HS BS Ch Co)) (fun r h => (¬ (σ 1 5 ≠ 0 ∧ (md = 0 ∨ md = 1)) ∧ r = some (vI (-1)) ∧ h = hp σ) ∨ ((σ 1 5 ≠ 0 ∧ (md = 0 ∨ md = 1)) ∧ ∃ σ1 : av_S, cLy σ σ1 md ∧ r = some (vI (σ1 21 4)) ∧ h = hp σ1)) := by
  have hn := hI.1
  have hr := hI.2.2.2.2.2.2
  have hE : ∀ b, 0 ≤ b → b < σ 1 5 → (0 ≤ σ 4 b ∧ σ 4 b ≤ 2) ∧ (∀ e, 0 ≤ e → e < σ 4 b → 0 ≤ σ 5 (2 * b + e) ∧ σ 5 (2 * b + e) < σ 1 5) ∧ (∀ e, σ 4 b ≤ e → 0 ≤ e → e ≤ 1 → σ 5 (2 * b + e) = -1) := fun b q0 q1 => ⟨(hI.2.1 b q0 q1).2.2.1, fun e p0 p1 => ((hI.2.1 b q0 q1).2.2.2.1 e p0 p1).1, (hI.2.1 b q0 q1).2.2.2.2⟩
  have hB : ∀ b, 0 ≤ b → b < σ 1 5 → 1 ≤ σ 3 b ∧ σ 3 b ≤ 40 := fun b q0 q1 => (hI.2.1 b q0 q1).2.1
  refine rn_aload_n 55 d_L_layout_54 rfl rfl ?_
  refine rn_getfield 58 d_L_layout_55 rfl fd_L_53 rfl rfl ?_
  refine rn_aload_n 59 d_L_layout_58 rfl rfl ?_
  refine rn_getfield 62 d_L_layout_59 rfl fd_L_25 rfl rfl ?_
  refine rn_aload_n 63 d_L_layout_62 rfl rfl ?_
  refine rn_getfield 66 d_L_layout_63 rfl fd_L_46 rfl rfl ?_
  refine rn_getfield 69 d_L_layout_66 rfl fd_L_121 rfl rfl ?_
  refine rn_aload_n 70 d_L_layout_69 rfl rfl ?_
  refine rn_getfield 73 d_L_layout_70 rfl fd_L_18 rfl rfl ?_
  rw [show (pS σ OR ED HD FI BE HS BS Ch Co) 0 0 = σ 0 0 from rfl]
  refine rn_callV3 76 d_L_layout_73 rfl cw_L_124 rfl (Nat.le_of_ble_eq_true rfl) (ev_C_lay (σ := pS σ OR ED HD FI BE HS BS Ch Co) (rg := σ 0 0) hn hO hE hB ⟨by omega, by omega⟩ hU hT) ?_
  rintro _ _ ⟨rfl, G, U, T, V, ST, mm, h1, h2, h3, h4, h5, h6, rfl⟩
  change av_Rn _ _ _ _ _ _ _ _ _ _ (hp (kS (pS σ OR ED HD FI BE HS BS Ch Co) ST G V T (adC (pS σ OR ED HD FI BE HS BS Ch Co) V (σ 1 5).toNat) (bnC (pS σ OR ED HD FI BE HS BS Ch Co) (σ 1 5).toNat) (sm (lgU V) (σ 1 5).toNat))) _
  refine rn_aload_n 77 d_L_layout_76 rfl rfl ?_
  refine rn_iconst 78 d_L_layout_77 rfl ?_
  refine rn_putfield 81 d_L_layout_78 rfl fp_L_57 rfl (Nat.le_of_ble_eq_true rfl) (av_fitZ (by omega)) (hs_0_6 _ _) ?_
  change av_Rn _ _ _ _ _ _ _ _ _ _ (hp (up (kS (pS σ OR ED HD FI BE HS BS Ch Co) ST G V T (adC (pS σ OR ED HD FI BE HS BS Ch Co) V (σ 1 5).toNat) (bnC (pS σ OR ED HD FI BE HS BS Ch Co) (σ 1 5).toNat) (sm (lgU V) (σ 1 5).toNat)) 0 (uI (σ 0) 6 1))) _
  refine rn_aload_n 82 d_L_layout_81 rfl rfl ?_
  refine rn_getfield 85 d_L_layout_82 rfl fd_L_53 rfl rfl ?_
  refine rn_getfield 88 d_L_layout_85 rfl fd_L_128 rfl rfl ?_
  exact rn_ireturn d_L_layout_88 (Or.inl rfl) (Or.inr ⟨hok, up (kS (pS σ OR ED HD FI BE HS BS Ch Co) ST G V T (adC (pS σ OR ED HD FI BE HS BS Ch Co) V (σ 1 5).toNat) (bnC (pS σ OR ED HD FI BE HS BS Ch Co) (σ 1 5).toNat) (sm (lgU V) (σ 1 5).toNat)) 0 (uI (σ 0) 6 1), ⟨kp_cells, up_s _ _ _, hD, iO_keep (σ := pS σ OR ED HD FI BE HS BS Ch Co) rfl rfl hO, U, mm, plO_keep (σ := pS σ OR ED HD FI BE HS BS Ch Co) rfl rfl rfl rfl h1, h2, rnds_keep (σ := pS σ OR ED HD FI BE HS BS Ch Co) (τ := up (kS (pS σ OR ED HD FI BE HS BS Ch Co) ST G V T (adC (pS σ OR ED HD FI BE HS BS Ch Co) V (σ 1 5).toNat) (bnC (pS σ OR ED HD FI BE HS BS Ch Co) (σ 1 5).toNat) (sm (lgU V) (σ 1 5).toNat)) 0 (uI (σ 0) 6 1)) rfl rfl rfl rfl mm U V h3, adS_keep (σ := pS σ OR ED HD FI BE HS BS Ch Co) rfl rfl rfl rfl h4, h5, h6, adC_keep (σ := pS σ OR ED HD FI BE HS BS Ch Co) rfl rfl rfl, bnC_keep (σ := pS σ OR ED HD FI BE HS BS Ch Co) rfl rfl rfl rfl, rfl⟩, rfl, rfl⟩)
set_option maxRecDepth 100000 in
set_option maxHeartbeats 400000 in
theorem ev_L_layout {sc : av_sc} {d : Nat} {σ : av_S} {md : Int} (hmd : av_in md) (hI : iL σ) (hU : ∀ i, 0 ≤ i → i < 48 → 0 ≤ σ 24 i ∧ σ 24 i ≤ 2) (hT : ∀ b, 0 ≤ b → b < 24 → σ 25 b = 0 ∨ σ 25 b = 1) : av_Ev sc m_L_layout (d + 5) false 0 0 [vR 0, vI md] (hp σ) (fun r h => (¬ (σ 1 5 ≠ 0 ∧ (md = 0 ∨ md = 1)) ∧ r = some (vI (-1)) ∧ h = hp σ) ∨ ((σ 1 5 ≠ 0 ∧ (md = 0 ∨ md = 1)) ∧ ∃ σ1 : av_S, cLy σ σ1 md ∧ r = some (vI (σ1 21 4)) ∧ h = hp σ1)) := by
  have hn := hI.1
  obtain ⟨m1, m2⟩ := id hmd
  refine av_ev rfl rfl (Nat.le_of_ble_eq_true rfl) rfl ?_
  refine rn_aload_n 1 d_L_layout_0 rfl rfl ?_
  refine rn_getfield 4 d_L_layout_1 rfl fd_L_25 rfl rfl ?_
  refine rn_getfield 7 d_L_layout_4 rfl fd_L_61 rfl rfl ?_
  refine rn_if_eq 19 10 d_L_layout_7 rfl rfl ⟨by omega, by omega⟩ (fun c_7 => ?_) (fun c_7 => ?_)
  · refine rn_iconst 20 d_L_layout_19 rfl ?_
    exact rn_ireturn d_L_layout_20 (Or.inl rfl) (Or.inl ⟨by omega, rfl, rfl⟩)
  · refine rn_iload_n 11 d_L_layout_10 rfl rfl ?_
    refine rn_if_lt 19 14 d_L_layout_11 rfl rfl ⟨by omega, by omega⟩ (fun c_11 => ?_) (fun c_11 => ?_)
    · refine rn_iconst 20 d_L_layout_19 rfl ?_
      exact rn_ireturn d_L_layout_20 (Or.inl rfl) (Or.inl ⟨by omega, rfl, rfl⟩)
    · refine rn_iload_n 15 d_L_layout_14 rfl rfl ?_
      refine rn_iconst 16 d_L_layout_15 rfl ?_
      refine rn_icmp_le 21 19 d_L_layout_16 rfl rfl ⟨by omega, by omega⟩ ⟨by omega, by omega⟩ (fun c_16 => ?_) (fun c_16 => ?_)
      · refine rn_iload_n 22 d_L_layout_21 rfl rfl ?_
        refine rn_if_ne 39 25 d_L_layout_22 rfl rfl ⟨by omega, by omega⟩ (fun c_22 => ?_) (fun c_22 => ?_)
        · change av_Rn _ _ _ _ _ _ _ _ _ _ (hp (pS σ (σ 14) (σ 15) (σ 16) (σ 17) (σ 18) (σ 19) (σ 20) (σ 13 1) (σ 13 2))) _
          refine rn_aload_n 40 d_L_layout_39 rfl rfl ?_
          refine rn_getfield 43 d_L_layout_40 rfl fd_L_46 rfl rfl ?_
          refine rn_aload_n 44 d_L_layout_43 rfl rfl ?_
          refine rn_getfield 47 d_L_layout_44 rfl fd_L_25 rfl rfl ?_
          refine rn_aload_n 48 d_L_layout_47 rfl rfl ?_
          refine rn_getfield 51 d_L_layout_48 rfl fd_L_32 rfl rfl ?_
          refine rn_callV2 54 d_L_layout_51 rfl cw_L_117 rfl (Nat.le_of_ble_eq_true rfl) (ev_P_placeByChains hI) ?_
          rintro _ _ ⟨rfl, HS', BS', HD', TT, ln, A, FI', BE', m, t, hoD, rfl⟩
          first
            | exact lay_tail hI hU hT (iO_fl ⟨fun k a b => ⟨a, b⟩, fun i j a b c => by omega, fun b a c => ⟨b.toNat, by omega, by omega⟩⟩) ⟨by omega, by omega⟩ (Or.inl ⟨by omega, rfl, rfl, fun k a b => fl_in ⟨a, b⟩⟩)
            | exact lay_tail hI hU hT (iO_fl (oD1_perm hn.1 hoD)) ⟨by omega, by omega⟩ (Or.inr ⟨by omega, HS', BS', HD', TT, ln, A, m, t, hoD, rfl, rfl, fun k a b => fl_in ⟨a, b⟩⟩)
        · change av_Rn _ _ _ _ _ _ _ _ _ _ (hp (pS σ (σ 14) (σ 15) (σ 16) (σ 17) (σ 18) (σ 19) (σ 20) (σ 13 1) (σ 13 2))) _
          refine rn_aload_n 26 d_L_layout_25 rfl rfl ?_
          refine rn_getfield 29 d_L_layout_26 rfl fd_L_46 rfl rfl ?_
          refine rn_aload_n 30 d_L_layout_29 rfl rfl ?_
          refine rn_getfield 33 d_L_layout_30 rfl fd_L_25 rfl rfl ?_
          refine rn_callV1 36 d_L_layout_33 rfl cw_L_113 rfl (Nat.le_of_ble_eq_true rfl) (ev_P_placeByNumber hn) ?_
          rintro _ _ ⟨rfl, rfl⟩
          refine rn_goto 54 d_L_layout_36 rfl ?_
          first
            | exact lay_tail hI hU hT (iO_fl ⟨fun k a b => ⟨a, b⟩, fun i j a b c => by omega, fun b a c => ⟨b.toNat, by omega, by omega⟩⟩) ⟨by omega, by omega⟩ (Or.inl ⟨by omega, rfl, rfl, fun k a b => fl_in ⟨a, b⟩⟩)
            | exact lay_tail hI hU hT (iO_fl (oD1_perm hn.1 hoD)) ⟨by omega, by omega⟩ (Or.inr ⟨by omega, HS', BS', HD', TT, ln, A, m, t, hoD, rfl, rfl, fun k a b => fl_in ⟨a, b⟩⟩)
      · refine rn_iconst 20 d_L_layout_19 rfl ?_
        exact rn_ireturn d_L_layout_20 (Or.inl rfl) (Or.inl ⟨by omega, rfl, rfl⟩)
