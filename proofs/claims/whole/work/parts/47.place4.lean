theorem iS_congr {P Q : Int → Prop} {Rl : Int → Int → Prop} {A : Int → Int} {m e : Int} (h : iS P Rl A m e) (hPQ : ∀ b, 0 ≤ b → b < e → (P b ↔ Q b)) : iS Q Rl A m e := by
  obtain ⟨h1, h2, h3, h4, h5⟩ := h
  refine ⟨fun i a b => ⟨(h1 i a b).1, (hPQ _ (h1 i a b).1.1 (h1 i a b).1.2).mp (h1 i a b).2⟩, fun q a b c => h2 q a b ((hPQ q a b).mpr c), h3, h4, h5⟩
/-- the class's chains of a layout by chains: the edges A, t of them; heads HD, m of them; the order TT, in pieces of ln -/
abbrev jO (σ : av_S) (A : Int → Int) (t : Nat) : (Int → Int) × (Int → Int) := jall (σ 1 5).toNat (σ 5) (σ 2) (σ 6) (fun j => j, fun _ => 0) A t
def oD1 (σ : av_S) (HS BS HD TT ln A : Int → Int) (m t : Nat) : Prop :=
  iED (mJ (σ 4) (σ 5) (σ 9)) (σ 9) A (t : Int) (2 * σ 1 5) ∧
  cI (σ 1 5).toNat (σ 2) (fun b => b = σ 6 (σ 2 b)) (jO σ A t).1 (jO σ A t).2 ∧
  ((∀ c, 0 ≤ c → c < σ 1 5 → (jO σ A t).1 c = c → HS c = suF (σ 8) (jO σ A t).1 c (σ 1 5).toNat ∧ BS c = suF (σ 3) (jO σ A t).1 c (σ 1 5).toNat) ∧ ∀ b, 0 ≤ b → b < σ 1 5 → (0 ≤ HS b ∧ HS b ≤ 24000000) ∧ (1 ≤ BS b ∧ BS b ≤ 960)) ∧
  iS (fun b => (jO σ A t).1 b = b) (cbf σ HS BS) HD (m : Int) (σ 1 5) ∧
  tO (σ 1 5).toNat m (jO σ A t).1 (jO σ A t).2 HD TT ln
theorem wr_ok {n m : Nat} {ht bo FI BE HS BS fn : Int → Int} {E : Int → Prop} {J : (Int → Int) × (Int → Int)} {HD TT ln : Int → Int} {Rl : Int → Int → Prop} (h : iJ n ht bo FI BE HS BS J) (hc : cI n fn E J.1 J.2) (hS : iS (fun b => J.1 b = b) Rl HD (m : Int) (n : Int)) (hT : tO n m J.1 J.2 HD TT ln) : (∀ c : Nat, c < m → TT (sm ln c) = HD (c : Int)) ∧ ∀ (c : Nat) (i : Int), c < m → 0 ≤ i → i < ln (c : Int) → (0 ≤ TT (sm ln c + i) ∧ TT (sm ln c + i) < (n : Int)) ∧ BE (TT (sm ln c + i)) = if i + 1 < ln (c : Int) then TT (sm ln c + i + 1) else -1 := by
  obtain ⟨t1, t2, t3, t4⟩ := hT
  constructor
  · intro c hcm
    obtain ⟨s1, s2⟩ := hS.1 (c : Int) (by omega) (by omega)
    have p := ((hc.1 _ s1.1 s1.2).2.2.1).mpr s2
    have w := (t4 c _ hcm s1.1 s1.2 s2).2
    rw [p, Int.add_zero] at w
    exact w
  · intro c i hcm h0 h1
    obtain ⟨a1, a2, a3⟩ := t3 c i hcm h0 h1
    refine ⟨a1, ?_⟩
    have l := (t1 c hcm).2
    rcases h.2.1 _ a1.1 a1.2 with ⟨b1, b2⟩ | ⟨b1, b2, b3⟩
    · rw [a2, l, a3] at b2
      rw [if_neg (by omega)]; exact b1
    · rw [a2] at b2
      rw [a3] at b3
      have w := t4 c _ hcm b1.1 b1.2 b2
      rw [b3] at w
      rw [if_pos w.1.2, ← w.2, show sm ln c + i + 1 = sm ln c + (i + 1) by omega]
theorem iS_cs {P : Int → Prop} {σ : av_S} {HS BS A : Int → Int} {m e : Int} (h : iS P (cbf σ HS BS) A m e) : m ≤ e := h.2.2.2.2
set_option maxRecDepth 100000 in
set_option maxHeartbeats 400000 in
theorem pbc_loop {sc : av_sc} {d n0 : Nat} {σ : av_S} {OR A HD : Int → Int} {Ch Co : Int} {t : Nat} {Φ : Option av_V → av_H → Prop} (hI : iL σ) (hA : iED (mJ (σ 4) (σ 5) (σ 9)) (σ 9) A (t : Int) (2 * σ 1 5))
    (hΦ : ∀ FI BE HS BS : Int → Int, iJ (σ 1 5).toNat (σ 8) (σ 3) FI BE HS BS (jO σ A t) → cI (σ 1 5).toNat (σ 2) (fun b => b = σ 6 (σ 2 b)) (jO σ A t).1 (jO σ A t).2 → av_Rn sc m_P_placeByChains (d + 4) false n0 0 0 54 [some (vR 13), some (vR 1), some (vR 7), some (vI (t : Int)), some (vI (t : Int))] [] (hp (pS σ OR A HD FI BE HS BS Ch Co)) Φ) :
    ∀ (z k : Nat) (FI BE HS BS : Int → Int), k + z = t → iJ (σ 1 5).toNat (σ 8) (σ 3) FI BE HS BS (jO σ A k) → av_Rn sc m_P_placeByChains (d + 4) false n0 0 0 16 [some (vR 13), some (vR 1), some (vR 7), some (vI (t : Int)), some (vI (k : Int))] [] (hp (pS σ OR A HD FI BE HS BS Ch Co)) Φ := by
  have hn := hI.1
  have hF := iL_F hI
  have hT := iL_T24 hI
  have cc : (((σ 1 5).toNat : Nat) : Int) = σ 1 5 := by omega
  have hAA : ∀ i : Nat, i < t → (0 ≤ A (i : Int) / 2 ∧ A (i : Int) / 2 < (((σ 1 5).toNat : Nat) : Int)) ∧ (0 ≤ σ 5 (A (i : Int)) ∧ σ 5 (A (i : Int)) < (((σ 1 5).toNat : Nat) : Int)) ∧ σ 2 (A (i : Int) / 2) = σ 2 (σ 5 (A (i : Int))) := by
    intro i hi
    obtain ⟨q1, q2, -⟩ := hA.1 (i : Int) (by omega) (by omega)
    have q3 := (hI.2.1 (A (i : Int) / 2) (by omega) (by omega)).2.2.2.1 (A (i : Int) % 2) (by omega) q2
    rw [show 2 * (A (i : Int) / 2) + A (i : Int) % 2 = A (i : Int) by omega] at q3
    exact ⟨⟨by omega, by omega⟩, ⟨by omega, by omega⟩, q3.2.symm⟩
  have hcI : ∀ k : Nat, k ≤ t → cI (σ 1 5).toNat (σ 2) (fun b => b = σ 6 (σ 2 b)) (jO σ A k).1 (jO σ A k).2 := cI_jall (s0 := (fun j => j, fun _ => 0)) (cI_start (fun b _ _ => ⟨rfl, rfl⟩)) t hAA
  have hh : ∀ b, 0 ≤ b → b < (((σ 1 5).toNat : Nat) : Int) → 0 ≤ σ 8 b ∧ σ 8 b ≤ 1000000 := fun b q0 q1 => hI.2.2.2.1 b q0 (by omega)
  have hbo : ∀ b, 0 ≤ b → b < (((σ 1 5).toNat : Nat) : Int) → 1 ≤ σ 3 b ∧ σ 3 b ≤ 40 := fun b q0 q1 => (hI.2.1 b q0 (by omega)).2.1
  intro z
  induction z with
  | zero =>
    intro k FI BE HS BS hz hJ
    obtain rfl : k = t := by omega
    have ht48 := hA.2.2.2.2
    refine rn_iload 18 d_P_placeByChains_16 rfl rfl ?_
    refine rn_iload_n 19 d_P_placeByChains_18 rfl rfl ?_
    refine rn_icmp_ge 54 22 d_P_placeByChains_19 rfl rfl ⟨by omega, by omega⟩ ⟨by omega, by omega⟩ (fun c_19 => ?_) (fun c_19 => ?_)
    · exact hΦ FI BE HS BS hJ (hcI k (by omega))
    · omega
  | succ z ih =>
    intro k FI BE HS BS hz hJ
    obtain ⟨x1, x2, x3⟩ := hAA k (by omega)
    have hAk := (hA.1 (k : Int) (by omega) (by omega)).1
    have ht48 := hA.2.2.2.2
    have hck := hcI k (by omega)
    have hFI : ∀ b, 0 ≤ b → b < σ 1 5 → 0 ≤ FI b ∧ FI b < σ 1 5 := fun b q0 q1 => by rw [hJ.1 b q0 (by omega)]; have w := (hck.1 b q0 (by omega)).1; omega
    have hBE : ∀ b, 0 ≤ b → b < σ 1 5 → -1 ≤ BE b ∧ BE b < 24 := fun b q0 q1 => by rcases hJ.2.1 b q0 (by omega) with ⟨w, -⟩ | ⟨w, -⟩ <;> omega
    have X : ∀ FI BE HS BS : Int → Int, iJ (σ 1 5).toNat (σ 8) (σ 3) FI BE HS BS (jO σ A (k + 1)) → av_Rn sc m_P_placeByChains (d + 4) false n0 0 0 48 [some (vR 13), some (vR 1), some (vR 7), some (vI (t : Int)), some (vI (k : Int))] [] (hp (pS σ OR A HD FI BE HS BS Ch Co)) Φ := by
      intro FI BE HS BS hJ'
      refine rn_iinc 51 d_P_placeByChains_48 rfl rfl (by decide) rfl rfl ?_
      refine rn_goto 16 d_P_placeByChains_51 rfl ?_
      exact ih (k + 1) FI BE HS BS (by omega) hJ'
    have hst : jO σ A (k + 1) = jst (σ 1 5).toNat (σ 5) (σ 2) (σ 6) (jO σ A k) (A (k : Int)) := rfl
    have hif := jC_iff (to := σ 5) (fn := σ 2) (en := σ 6) (e := A (k : Int)) hJ hck x1 x2
    refine rn_iload 18 d_P_placeByChains_16 rfl rfl ?_
    refine rn_iload_n 19 d_P_placeByChains_18 rfl rfl ?_
    refine rn_icmp_ge 54 22 d_P_placeByChains_19 rfl rfl ⟨by omega, by omega⟩ ⟨by omega, by omega⟩ (fun c_19 => ?_) (fun c_19 => ?_)
    · omega
    · refine rn_aload_n 23 d_P_placeByChains_22 rfl rfl ?_
      refine rn_aload_n 24 d_P_placeByChains_23 rfl rfl ?_
      refine rn_aload_n 25 d_P_placeByChains_24 rfl rfl ?_
      refine rn_getfield 28 d_P_placeByChains_25 rfl fd_P_22 rfl rfl ?_
      refine rn_iload 30 d_P_placeByChains_28 rfl rfl ?_
      refine rn_iaload 31 d_P_placeByChains_30 rfl rfl (by decide) (by omega) (by omega) ?_
      rw [show (pS σ OR A HD FI BE HS BS Ch Co) 15 (k : Int) = A (k : Int) from rfl]
      refine rn_iconst 32 d_P_placeByChains_31 rfl ?_
      refine rn_idiv 33 d_P_placeByChains_32 rfl ⟨by omega, by omega⟩ ⟨by omega, by omega⟩ (by omega) ?_
      rw [td (by omega)]
      refine rn_aload_n 34 d_P_placeByChains_33 rfl rfl ?_
      refine rn_getfield 37 d_P_placeByChains_34 rfl fd_P_53 rfl rfl ?_
      refine rn_aload_n 38 d_P_placeByChains_37 rfl rfl ?_
      refine rn_getfield 41 d_P_placeByChains_38 rfl fd_P_22 rfl rfl ?_
      refine rn_iload 43 d_P_placeByChains_41 rfl rfl ?_
      refine rn_iaload 44 d_P_placeByChains_43 rfl rfl (by decide) (by omega) (by omega) ?_
      rw [show (pS σ OR A HD FI BE HS BS Ch Co) 15 (k : Int) = A (k : Int) from rfl]
      refine rn_iaload 45 d_P_placeByChains_44 rfl rfl (by decide) (by omega) (by omega) ?_
      rw [show (pS σ OR A HD FI BE HS BS Ch Co) 5 (A (k : Int)) = σ 5 (A (k : Int)) from rfl]
      refine rn_callV3 48 d_P_placeByChains_45 rfl cw_P_56 rfl (Nat.le_of_ble_eq_true rfl) (ev_P_joinAlong hn hFI hBE hF hT ⟨x1.1, by omega⟩ ⟨x2.1, by omega⟩) ?_
      rintro _ _ ⟨rfl, hq⟩
      rcases hq with ⟨nc, rfl⟩ | ⟨cq, rfl⟩
      · refine X FI BE HS BS ?_
        rw [hst, jst_no (fun w => nc (hif.mpr w))]; exact hJ
      · refine X _ _ _ _ ?_
        have w := iJ_join (to := σ 5) (fn := σ 2) (en := σ 6) (e := A (k : Int)) (by omega) hh hbo hJ hck x1 x2 (hif.mp cq)
        rw [cc] at w
        rw [hst]; exact w
set_option maxRecDepth 100000 in
set_option maxHeartbeats 400000 in
theorem ev_P_placeByChains {sc : av_sc} {d : Nat} {σ : av_S} {OR ED HD FI BE HS BS : Int → Int} {Ch Co : Int} (hI : iL σ) : av_Ev sc m_P_placeByChains (d + 4) false 0 0 [vR 13, vR 1, vR 7] (hp (pS σ OR ED HD FI BE HS BS Ch Co)) (fun r h => r = none ∧ ∃ (HS' BS' HD' TT ln A FI' BE' : Int → Int) (m t : Nat), oD1 σ HS' BS' HD' TT ln A m t ∧ h = hp (pS σ (fl TT OR (σ 1 5)) A (HD') (FI') (BE') (HS') (BS') ((m : Int)) (sm (fun c => if cold σ HS' (HD' c) then ln c else 0) m))) := by
  have hn := hI.1
  have hF := iL_F hI
  have hT := iL_T24 hI
  have cc : (((σ 1 5).toNat : Nat) : Int) = σ 1 5 := by omega
  have hte : ∀ e, 0 ≤ e → e < 2 * σ 1 5 → -1 ≤ σ 5 e ∧ σ 5 e < 24 := by
    intro e q0 q1
    have w := (iL_G hI (e / 2) (by omega) (by omega)).2 (e % 2) (by omega) (by omega)
    rw [show 2 * (e / 2) + e % 2 = e by omega] at w
    omega
  refine av_ev rfl rfl (Nat.le_of_ble_eq_true rfl) rfl ?_
  refine rn_aload_n 1 d_P_placeByChains_0 rfl rfl ?_
  refine rn_aload_n 2 d_P_placeByChains_1 rfl rfl ?_
  refine rn_aload_n 3 d_P_placeByChains_2 rfl rfl ?_
  refine rn_callV2 6 d_P_placeByChains_3 rfl cw_P_45 rfl (Nat.le_of_ble_eq_true rfl) (ev_P_startChains hn) ?_
  rintro _ _ ⟨rfl, rfl⟩
  refine rn_aload_n 7 d_P_placeByChains_6 rfl rfl ?_
  refine rn_aload_n 8 d_P_placeByChains_7 rfl rfl ?_
  refine rn_aload_n 9 d_P_placeByChains_8 rfl rfl ?_
  refine rn_callV2 12 d_P_placeByChains_9 rfl cw_P_49 rfl (Nat.le_of_ble_eq_true rfl) (ev_P_sortEdges hn (iL_E hI) hI.2.2.2.2.1 hte) ?_
  rintro _ _ ⟨A, m, rfl, hA, rfl⟩
  refine rn_istore_n 13 d_P_placeByChains_12 rfl (by decide) rfl rfl ?_
  refine rn_iconst 14 d_P_placeByChains_13 rfl ?_
  refine rn_istore 16 d_P_placeByChains_14 rfl (by decide) rfl rfl ?_
  obtain ⟨t, rfl⟩ : ∃ t : Nat, m = (t : Int) := ⟨m.toNat, by have := hA.2.2.2.1; omega⟩
  refine pbc_loop hI hA (fun FI BE HS BS hJ hc => ?_) t 0 _ _ _ _ (by omega) (iJ_start (by omega) (fun b q0 q1 => hI.2.2.2.1 b q0 (by omega)) (fun b q0 q1 => (hI.2.1 b q0 (by omega)).2.1) (fun b q0 q1 => ⟨fl_in ⟨q0, by omega⟩, fl_in ⟨q0, by omega⟩, fl_in ⟨q0, by omega⟩, fl_in ⟨q0, by omega⟩⟩))
  have hFI : ∀ b, 0 ≤ b → b < σ 1 5 → 0 ≤ FI b ∧ FI b < σ 1 5 := fun b q0 q1 => by rw [hJ.1 b q0 (by omega)]; have w := (hc.1 b q0 (by omega)).1; omega
  have hH : ∀ b, 0 ≤ b → b < σ 1 5 → 0 ≤ HS b ∧ HS b ≤ 24000000 := fun b q0 q1 => (hJ.2.2.2 b q0 (by omega)).1
  have hS1 : ∀ b, 0 ≤ b → b < σ 1 5 → 1 ≤ BS b ∧ BS b ≤ 960 := fun b q0 q1 => (hJ.2.2.2 b q0 (by omega)).2
  have hS : ∀ b, 0 ≤ b → b < σ 1 5 → 0 ≤ BS b ∧ BS b ≤ 960 := fun b q0 q1 => by have := hS1 b q0 q1; omega
  refine rn_aload_n 55 d_P_placeByChains_54 rfl rfl ?_
  refine rn_aload_n 56 d_P_placeByChains_55 rfl rfl ?_
  refine rn_callV1 59 d_P_placeByChains_56 rfl cw_P_60 rfl (Nat.le_of_ble_eq_true rfl) (ev_P_sortHeads hn hF hT hH hS (fun a b c p q r => cbf_tr (hS1 a p.1 p.2).1 (hS1 b q.1 q.2).1 (hS1 c r.1 r.2).1) (fun a b _ _ w => cbf_to w) hFI) ?_
  rintro _ _ ⟨rfl, HD', m', hiS, rfl⟩
  obtain ⟨m, rfl⟩ : ∃ m : Nat, m' = (m : Int) := ⟨m'.toNat, by have := hiS.2.2.2.1; omega⟩
  have hiS1 : iS (fun b => (jO σ A t).1 b = b) (cbf σ HS BS) HD' (m : Int) (σ 1 5) := iS_congr hiS (fun b q0 q1 => by rw [hJ.1 b q0 (by omega)])
  have hiS2 : iS (fun b => (jO σ A t).1 b = b) (cbf σ HS BS) HD' (m : Int) ((((σ 1 5).toNat : Nat)) : Int) := by rw [cc]; exact hiS1
  obtain ⟨TT, ln, hTO⟩ := tO_ex hc hiS2 (fun x y _ _ a b => cbf_as a b)
  obtain ⟨hT0, hTB⟩ := wr_ok hJ hc hiS2 hTO
  rw [cc] at hTB
  have hm24 : m ≤ 24 := by have := hiS1.2.2.2.2; omega
  refine rn_aload_n 60 d_P_placeByChains_59 rfl rfl ?_
  refine rn_aload_n 61 d_P_placeByChains_60 rfl rfl ?_
  refine rn_callV1 64 d_P_placeByChains_61 rfl cw_P_64 rfl (Nat.le_of_ble_eq_true rfl) (ev_P_writeOrder (TT := TT) (ln := ln) (m := m) hn (fun c q => (hTO.1 c q).1) (hTO.2.1.trans cc) hT0 hTB hF hT hH hm24) ?_
  rintro _ _ ⟨rfl, rfl⟩
  exact rn_return d_P_placeByChains_64 rfl ⟨rfl, HS, BS, HD', TT, ln, A, FI, BE, m, t, ⟨hA, hc, ⟨fun c q0 q1 => hJ.2.2.1 c q0 (by omega), fun b q0 q1 => ⟨hH b q0 q1, hS1 b q0 q1⟩⟩, hiS1, hTO⟩, rfl⟩
