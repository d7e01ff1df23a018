/-- the block placed behind place j -/
def nxI (σ : av_S) (j : Int) : Int := if j + 1 < σ 1 5 then σ 14 (j + 1) else -1
def qU0 (σ : av_S) (j : Int) : Int := plU0 (σ 4 (σ 14 j)) (σ 5 (2 * σ 14 j)) (nxI σ j)
def qU1 (σ : av_S) (j : Int) : Int := plU1 (σ 4 (σ 14 j)) (σ 5 (2 * σ 14 j)) (σ 5 (2 * σ 14 j + 1)) (nxI σ j)
def qG0 (σ : av_S) (j : Int) : Int := plG0 (σ 4 (σ 14 j)) (σ 5 (2 * σ 14 j)) (σ 5 (2 * σ 14 j + 1)) (nxI σ j)
def qG1 (σ : av_S) (j : Int) : Int := plG1 (σ 4 (σ 14 j)) (σ 5 (2 * σ 14 j)) (σ 5 (2 * σ 14 j + 1)) (nxI σ j)
def qT (σ : av_S) (j : Int) : Int := plT (σ 4 (σ 14 j)) (σ 5 (2 * σ 14 j)) (σ 5 (2 * σ 14 j + 1)) (nxI σ j)
/-- the branches of the blocks at the places below k are as planned -/
def plO (σ : av_S) (G U T : Int → Int) (k : Nat) : Prop := ∀ j : Nat, j < k → (G (2 * σ 14 (j : Int)) = qG0 σ (j : Int) ∧ G (2 * σ 14 (j : Int) + 1) = qG1 σ (j : Int)) ∧ (U (2 * σ 14 (j : Int)) = qU0 σ (j : Int) ∧ U (2 * σ 14 (j : Int) + 1) = qU1 σ (j : Int)) ∧ T (σ 14 (j : Int)) = qT σ (j : Int)
def bnC (σ : av_S) (k : Nat) : Int := sm (fun j => qU0 σ j + qU1 σ j) k
/-- the order is one of all blocks -/
def iO (σ : av_S) : Prop := (∀ k, 0 ≤ k → k < σ 1 5 → 0 ≤ σ 14 k ∧ σ 14 k < σ 1 5) ∧ (∀ i j, 0 ≤ i → i < j → j < σ 1 5 → σ 14 i ≠ σ 14 j) ∧ ∀ b, 0 ≤ b → b < σ 1 5 → ∃ k : Nat, (k : Int) < σ 1 5 ∧ σ 14 (k : Int) = b
theorem uI2_at {f : Int → Int} {b p q : Int} : uI (uI f (2 * b) p) (2 * b + 1) q (2 * b) = p ∧ uI (uI f (2 * b) p) (2 * b + 1) q (2 * b + 1) = q := by
  constructor
  · rw [uI_n _ _ (by omega), uI_s]
  · exact uI_s _ _ _
theorem uI2_off {f : Int → Int} {b p q j : Int} (h : j ≠ 2 * b) (h2 : j ≠ 2 * b + 1) : uI (uI f (2 * b) p) (2 * b + 1) q j = f j := by
  rw [uI_n _ _ h2, uI_n _ _ h]
theorem plO_step {σ : av_S} {G U T : Int → Int} {k : Nat} (hI : iO σ) (hk : (k : Int) < σ 1 5) (h : plO σ G U T k) : plO σ (uI (uI G (2 * σ 14 (k : Int)) (qG0 σ (k : Int))) (2 * σ 14 (k : Int) + 1) (qG1 σ (k : Int))) (uI (uI U (2 * σ 14 (k : Int)) (qU0 σ (k : Int))) (2 * σ 14 (k : Int) + 1) (qU1 σ (k : Int))) (uI T (σ 14 (k : Int)) (qT σ (k : Int))) (k + 1) := by
  intro j hj
  by_cases hjk : j = k
  · subst hjk
    exact ⟨uI2_at, uI2_at, uI_s _ _ _⟩
  · have hne := hI.2.1 (j : Int) (k : Int) (by omega) (by omega) hk
    have := h j (by omega)
    rw [uI2_off (by omega) (by omega), uI2_off (by omega) (by omega), uI2_off (by omega) (by omega), uI2_off (by omega) (by omega), uI_n _ _ hne]
    exact this
theorem qU_bd (σ : av_S) (j : Int) : (0 ≤ qU0 σ j ∧ qU0 σ j ≤ 2) ∧ (0 ≤ qU1 σ j ∧ qU1 σ j ≤ 2) := by
  constructor
  · unfold qU0 plU0; split
    · split <;> omega
    · split <;> omega
  · unfold qU1 plU1; split <;> omega
theorem qT_bd (σ : av_S) (j : Int) : qT σ j = 0 ∨ qT σ j = 1 := by
  unfold qT plT; split
  · exact Or.inr rfl
  · exact Or.inl rfl
theorem uI2_bd {f : Int → Int} {b p q : Int} (h : ∀ i, 0 ≤ i → i < 48 → 0 ≤ f i ∧ f i ≤ 2) (hp : 0 ≤ p ∧ p ≤ 2) (hq : 0 ≤ q ∧ q ≤ 2) : ∀ i, 0 ≤ i → i < 48 → 0 ≤ uI (uI f (2 * b) p) (2 * b + 1) q i ∧ uI (uI f (2 * b) p) (2 * b + 1) q i ≤ 2 := by
  intro i h0 h1
  by_cases e1 : i = 2 * b + 1
  · rw [e1, uI_s]; exact hq
  · rw [uI_n _ _ e1]
    by_cases e2 : i = 2 * b
    · rw [e2, uI_s]; exact hp
    · rw [uI_n _ _ e2]; exact h i h0 h1
theorem uIT_bd {f : Int → Int} {b p : Int} (h : ∀ i, 0 ≤ i → i < 24 → f i = 0 ∨ f i = 1) (hp : p = 0 ∨ p = 1) : ∀ i, 0 ≤ i → i < 24 → uI f b p i = 0 ∨ uI f b p i = 1 := by
  intro i h0 h1
  by_cases e2 : i = b
  · rw [e2, uI_s]; exact hp
  · rw [uI_n _ _ e2]; exact h i h0 h1
set_option maxRecDepth 100000 in
set_option maxHeartbeats 400000 in
theorem lay_choose {sc : av_sc} {d n0 bc bs : Nat} {al : Bool} {σ : av_S} {ST : Int → Int} {Ln rg : Int} {Φ : Option av_V → av_H → Prop} (hn : 0 ≤ σ 1 5 ∧ σ 1 5 ≤ 24) (hI : iO σ) (hE : ∀ b, 0 ≤ b → b < σ 1 5 → (0 ≤ σ 4 b ∧ σ 4 b ≤ 2) ∧ (-1 ≤ σ 5 (2 * b) ∧ σ 5 (2 * b) < 24) ∧ (-1 ≤ σ 5 (2 * b + 1) ∧ σ 5 (2 * b + 1) < 24))
    (hΦ : ∀ G U T : Int → Int, plO σ G U T (σ 1 5).toNat → (∀ i, 0 ≤ i → i < 48 → 0 ≤ U i ∧ U i ≤ 2) → (∀ b, 0 ≤ b → b < 24 → T b = 0 ∨ T b = 1) → av_Rn sc m_C_lay (d + 2) al n0 bc bs 58 [some (vR 21), some (vR 1), some (vR 14), some (vI rg), some (vI (σ 1 5))] [] (hp (kS σ ST G U T Ln (bnC σ (σ 1 5).toNat) 0)) Φ) :
    ∀ (m k : Nat) (G U T : Int → Int), (k : Int) + (m : Int) = σ 1 5 → plO σ G U T k → (∀ i, 0 ≤ i → i < 48 → 0 ≤ U i ∧ U i ≤ 2) → (∀ b, 0 ≤ b → b < 24 → T b = 0 ∨ T b = 1) → av_Rn sc m_C_lay (d + 2) al n0 bc bs 13 [some (vR 21), some (vR 1), some (vR 14), some (vI rg), some (vI (k : Int))] [] (hp (kS σ ST G U T Ln (bnC σ k) 0)) Φ := by
  intro m
  induction m with
  | zero =>
    intro k G U T hk hP hUb hTb
    have ek : (k : Int) = σ 1 5 := by omega
    obtain rfl : k = (σ 1 5).toNat := by omega
    refine rn_iload 15 d_C_lay_13 rfl rfl ?_
    refine rn_aload_n 16 d_C_lay_15 rfl rfl ?_
    refine rn_getfield 19 d_C_lay_16 rfl fd_C_35 rfl rfl ?_
    rw [show (kS σ ST G U T Ln (bnC σ (σ 1 5).toNat) 0) 1 5 = σ 1 5 from rfl]
    refine rn_icmp_ge 58 22 d_C_lay_19 rfl rfl ⟨by omega, by omega⟩ ⟨by omega, by omega⟩ (fun c_19 => ?_) (fun c_19 => ?_)
    · rw [ek]
      exact hΦ G U T hP hUb hTb
    · omega
  | succ m ih =>
    intro k G U T hk hP hUb hTb
    have hOk := hI.1 (k : Int) (by omega) (by omega)
    have hEk := hE _ hOk.1 hOk.2
    have J : ∀ nx : Int, nx = nxI σ (k : Int) → av_Rn sc m_C_lay (d + 2) al n0 bc bs 49 [some (vR 21), some (vR 1), some (vR 14), some (vI rg), some (vI (k : Int))] [vI nx, vI (σ 14 (k : Int)), vR 1, vR 21] (hp (kS σ ST G U T Ln (bnC σ k) 0)) Φ := by
      intro nx enx
      have hnx : -1 ≤ nx ∧ nx < 24 := by
        rw [enx]; unfold nxI; split
        · have := hI.1 ((k : Int) + 1) (by omega) (by omega); omega
        · omega
      subst enx
      refine rn_callV3 52 d_C_lay_49 rfl cw_C_40 rfl (Nat.le_of_ble_eq_true rfl) (ev_C_chooseBranches ⟨by omega, by omega⟩ hnx hEk.1 hEk.2.1 hEk.2.2) ?_
      rintro _ _ ⟨rfl, rfl⟩
      change av_Rn _ _ _ _ _ _ _ _ _ _ (hp (kS σ ST (uI (uI G (2 * (σ 14 (k : Int))) (qG0 σ (k : Int))) (2 * (σ 14 (k : Int)) + 1) (qG1 σ (k : Int))) (uI (uI U (2 * (σ 14 (k : Int))) (qU0 σ (k : Int))) (2 * (σ 14 (k : Int)) + 1) (qU1 σ (k : Int))) (uI T (σ 14 (k : Int)) (qT σ (k : Int))) Ln (bnC σ k + qU0 σ (k : Int) + qU1 σ (k : Int)) 0)) _
      rw [show bnC σ k + qU0 σ (k : Int) + qU1 σ (k : Int) = bnC σ (k + 1) by show _ = bnC σ k + (qU0 σ (k : Int) + qU1 σ (k : Int)); omega]
      refine rn_iinc 55 d_C_lay_52 rfl rfl (by decide) rfl rfl ?_
      refine rn_goto 13 d_C_lay_55 rfl ?_
      exact ih (k + 1) _ _ _ (by omega) (plO_step hI (by omega) hP) (uI2_bd hUb (qU_bd σ (k : Int)).1 (qU_bd σ (k : Int)).2) (uIT_bd hTb (qT_bd σ (k : Int)))
    refine rn_iload 15 d_C_lay_13 rfl rfl ?_
    refine rn_aload_n 16 d_C_lay_15 rfl rfl ?_
    refine rn_getfield 19 d_C_lay_16 rfl fd_C_35 rfl rfl ?_
    rw [show (kS σ ST G U T Ln (bnC σ k) 0) 1 5 = σ 1 5 from rfl]
    refine rn_icmp_ge 58 22 d_C_lay_19 rfl rfl ⟨by omega, by omega⟩ ⟨by omega, by omega⟩ (fun c_19 => ?_) (fun c_19 => ?_)
    · omega
    · refine rn_aload_n 23 d_C_lay_22 rfl rfl ?_
      refine rn_aload_n 24 d_C_lay_23 rfl rfl ?_
      refine rn_aload_n 25 d_C_lay_24 rfl rfl ?_
      refine rn_iload 27 d_C_lay_25 rfl rfl ?_
      refine rn_iaload 28 d_C_lay_27 rfl rfl (by decide) (by omega) (by omega) ?_
      rw [show (kS σ ST G U T Ln (bnC σ k) 0) 14 (k : Int) = (σ 14 (k : Int)) from rfl]
      refine rn_iload 30 d_C_lay_28 rfl rfl ?_
      refine rn_iconst 31 d_C_lay_30 rfl ?_
      refine rn_iadd 32 d_C_lay_31 rfl ?_
      refine rn_aload_n 33 d_C_lay_32 rfl rfl ?_
      refine rn_getfield 36 d_C_lay_33 rfl fd_C_35 rfl rfl ?_
      rw [show (kS σ ST G U T Ln (bnC σ k) 0) 1 5 = σ 1 5 from rfl]
      refine rn_icmp_ge 48 39 d_C_lay_36 rfl rfl ⟨by omega, by omega⟩ ⟨by omega, by omega⟩ (fun c_36 => ?_) (fun c_36 => ?_)
      · refine rn_iconst 49 d_C_lay_48 rfl ?_
        exact J _ (by unfold nxI; (first | rw [if_pos (by omega)] | rw [if_neg (by omega)]))
      · refine rn_aload_n 40 d_C_lay_39 rfl rfl ?_
        refine rn_iload 42 d_C_lay_40 rfl rfl ?_
        refine rn_iconst 43 d_C_lay_42 rfl ?_
        refine rn_iadd 44 d_C_lay_43 rfl ?_
        refine rn_iaload 45 d_C_lay_44 rfl rfl (by decide) (by omega) (by omega) ?_
        rw [show (kS σ ST G U T Ln (bnC σ k) 0) 14 ((k : Int) + 1) = σ 14 ((k : Int) + 1) from rfl]
        refine rn_goto 49 d_C_lay_45 rfl ?_
        exact J _ (by unfold nxI; (first | rw [if_pos (by omega)] | rw [if_neg (by omega)]))
/-- addresses by the units -/
def adS (σ : av_S) (ST U : Int → Int) : Prop := ∀ k : Nat, (k : Int) < σ 1 5 → ST (σ 14 (k : Int)) = adC σ U k
def rnd (σ : av_S) (G : Int → Int) (rg : Int) (U U' : Int → Int) : Prop := ∃ ST : Int → Int, adS σ ST U ∧ nxU (σ 3) ST G U rg U' (σ 1 5).toNat ∧ grN (σ 3) ST G U rg (σ 1 5).toNat
def rnds (σ : av_S) (G : Int → Int) (rg : Int) : Nat → (Int → Int) → (Int → Int) → Prop
  | 0, U, V => U = V
  | m + 1, U, V => ∃ U1, rnd σ G rg U U1 ∧ rnds σ G rg m U1 V
def lgU (U : Int → Int) (j : Int) : Int := bz (U (2 * j) = 2) + bz (U (2 * j + 1) = 2)
theorem sm_add {f g : Int → Int} : ∀ n : Nat, sm (fun j => f j + g j) n = sm f n + sm g n := by
  intro n
  induction n with
  | zero => rfl
  | succ n ih => show sm (fun j => f j + g j) n + (f n + g n) = (sm f n + f n) + (sm g n + g n); omega
theorem sm_congr {f g : Int → Int} : ∀ n : Nat, (∀ j : Nat, j < n → f (j : Int) = g (j : Int)) → sm f n = sm g n := by
  intro n
  induction n with
  | zero => intro _; rfl
  | succ n ih => intro h; show sm f n + f n = sm g n + g n; rw [ih (fun j hj => h j (by omega)), h n (by omega)]
theorem lgU_nx {bo ST G U U' : Int → Int} {rg : Int} {n : Nat} (h : nxU bo ST G U rg U' n) : sm (lgU U') n = sm (lgU U) n + grS bo ST G U rg n := by
  unfold grS
  rw [← sm_add]
  refine sm_congr n fun j hj => ?_
  obtain ⟨h1, h2⟩ := h.1 j hj
  show lgU U' (j : Int) = lgU U (j : Int) + (bz (P0 bo ST G U rg (j : Int)) + bz (P1 bo ST G U rg (j : Int)))
  unfold lgU
  rw [h1, h2]
  have a0 : bz ((if P0 bo ST G U rg (j : Int) then 2 else U (2 * (j : Int))) = 2) = bz (U (2 * (j : Int)) = 2) + bz (P0 bo ST G U rg (j : Int)) := by
    by_cases p : P0 bo ST G U rg (j : Int)
    · simp only [if_pos p]; rw [bz_t trivial, bz_t p, bz_f (by have := p.1; omega)]; rfl
    · simp only [if_neg p]; rw [bz_f p]; omega
  have a1 : bz ((if P1 bo ST G U rg (j : Int) then 2 else U (2 * (j : Int) + 1)) = 2) = bz (U (2 * (j : Int) + 1) = 2) + bz (P1 bo ST G U rg (j : Int)) := by
    by_cases p : P1 bo ST G U rg (j : Int)
    · simp only [if_pos p]; rw [bz_t trivial, bz_t p, bz_f (by have := p.1; omega)]; rfl
    · simp only [if_neg p]; rw [bz_f p]; omega
  rw [a0, a1]; omega
theorem nxU_bd {bo ST G U U' : Int → Int} {rg : Int} {n : Nat} (h : nxU bo ST G U rg U' n) (i : Int) (h0 : 0 ≤ i) : U' i = 2 ∨ U' i = U i := by
  by_cases hi : 2 * (n : Int) ≤ i
  · exact Or.inr (h.2 i hi)
  · obtain ⟨j, hj⟩ : ∃ j : Nat, (j : Int) = i / 2 := ⟨(i / 2).toNat, by omega⟩
    obtain ⟨h1, h2⟩ := h.1 j (by omega)
    rcases (show i = 2 * (j : Int) ∨ i = 2 * (j : Int) + 1 by omega) with e | e
    · rw [e, h1]; split
      · exact Or.inl rfl
      · exact Or.inr rfl
    · rw [e, h2]; split
      · exact Or.inl rfl
      · exact Or.inr rfl
theorem adC_bd {σ : av_S} {U : Int → Int} (hn : 0 ≤ σ 1 5 ∧ σ 1 5 ≤ 24) (hI : iO σ) (hB : ∀ b, 0 ≤ b → b < σ 1 5 → 1 ≤ σ 3 b ∧ σ 3 b ≤ 40) (hU : ∀ i, 0 ≤ i → i < 48 → 0 ≤ U i ∧ U i ≤ 2) : ∀ k : Nat, (k : Int) ≤ σ 1 5 → 0 ≤ adC σ U k ∧ adC σ U k ≤ 45 * (k : Int) := by
  intro k
  induction k with
  | zero => intro _; exact ⟨Int.le_refl 0, Int.le_refl 0⟩
  | succ k ih =>
    intro hk
    have h1 := ih (by omega)
    have hO := hI.1 (k : Int) (by omega) (by omega)
    have hb := hB _ hO.1 hO.2
    have u0 := hU (2 * σ 14 (k : Int)) (by omega) (by omega)
    have u1 := hU (2 * σ 14 (k : Int) + 1) (by omega) (by omega)
    have e : adC σ U (k + 1) = adC σ U k + cuC σ U (σ 14 (k : Int)) := rfl
    have c : 0 ≤ cuC σ U (σ 14 (k : Int)) ∧ cuC σ U (σ 14 (k : Int)) ≤ 45 := by unfold cuC; split <;> omega
    omega
theorem adS_bd {σ : av_S} {ST U : Int → Int} (hn : 0 ≤ σ 1 5 ∧ σ 1 5 ≤ 24) (hI : iO σ) (hB : ∀ b, 0 ≤ b → b < σ 1 5 → 1 ≤ σ 3 b ∧ σ 3 b ≤ 40) (hU : ∀ i, 0 ≤ i → i < 48 → 0 ≤ U i ∧ U i ≤ 2) (h : adS σ ST U) : ∀ b, 0 ≤ b → b < σ 1 5 → 0 ≤ ST b ∧ ST b ≤ 10000 := by
  intro b h0 h1
  obtain ⟨k, hk, rfl⟩ := hI.2.2 b h0 h1
  have := adC_bd hn hI hB hU k (by omega)
  rw [h k hk]
  omega
set_option maxRecDepth 100000 in
set_option maxHeartbeats 400000 in
theorem lay_rounds {sc : av_sc} {d n0 bc bs : Nat} {al : Bool} {σ : av_S} {G T : Int → Int} {Bn rg : Int} {Φ : Option av_V → av_H → Prop} (hn : 0 ≤ σ 1 5 ∧ σ 1 5 ≤ 24) (hI : iO σ) (hE : ∀ b, 0 ≤ b → b < σ 1 5 → 0 ≤ σ 4 b ∧ σ 4 b ≤ 2) (hB : ∀ b, 0 ≤ b → b < σ 1 5 → 1 ≤ σ 3 b ∧ σ 3 b ≤ 40) (hr : 0 ≤ rg ∧ rg ≤ 400) :
    ∀ (m : Nat) (rd : Int) (U ST : Int → Int), 0 ≤ rd → rd + (m : Int) = 48 → adS σ ST U → (∀ i, 0 ≤ i → i < 48 → 0 ≤ U i ∧ U i ≤ 2) → (∀ i, 0 ≤ i → i < 2 * σ 1 5 → U i = 1 → 0 ≤ G i ∧ G i < σ 1 5) →
      (∀ (m' : Nat) (V ST' : Int → Int), m' ≤ m → rnds σ G rg m' U V → adS σ ST' V → (∀ i, 0 ≤ i → i < 48 → 0 ≤ V i ∧ V i ≤ 2) → (¬ grN (σ 3) ST' G V rg (σ 1 5).toNat ∨ m' = m) → Φ none (hp (kS σ (ST') G V T (adC σ V (σ 1 5).toNat) Bn (sm (lgU V) (σ 1 5).toNat)))) →
      av_Rn sc m_C_lay (d + 3) al n0 bc bs 67 [some (vR 21), some (vR 1), some (vR 14), some (vI rg), some (vI rd)] [] (hp (kS σ ST G U T (adC σ U (σ 1 5).toNat) Bn (sm (lgU U) (σ 1 5).toNat))) Φ := by
  intro m
  induction m with
  | zero =>
    intro rd U ST h0 hm hS hU hG hΦ
    refine rn_iload 69 d_C_lay_67 rfl rfl ?_
    refine rn_bipush 71 d_C_lay_69 rfl rfl ?_
    refine rn_icmp_ge 95 74 d_C_lay_71 rfl rfl ⟨by omega, by omega⟩ ⟨by omega, by omega⟩ (fun c_71 => ?_) (fun c_71 => ?_)
    · exact rn_return d_C_lay_95 rfl (hΦ 0 U ST (Nat.le_refl 0) rfl hS hU (Or.inr rfl))
    · omega
  | succ m ih =>
    intro rd U ST h0 hm hS hU hG hΦ
    refine rn_iload 69 d_C_lay_67 rfl rfl ?_
    refine rn_bipush 71 d_C_lay_69 rfl rfl ?_
    refine rn_icmp_ge 95 74 d_C_lay_71 rfl rfl ⟨by omega, by omega⟩ ⟨by omega, by omega⟩ (fun c_71 => ?_) (fun c_71 => ?_)
    · omega
    · refine rn_aload_n 75 d_C_lay_74 rfl rfl ?_
      refine rn_aload_n 76 d_C_lay_75 rfl rfl ?_
      refine rn_iload_n 77 d_C_lay_76 rfl rfl ?_
      refine rn_callV2 80 d_C_lay_77 rfl cw_C_48 rfl (Nat.le_of_ble_eq_true rfl) (ev_C_lengthen hn hB hU hG (adS_bd hn hI hB hU hS) hr) ?_
      rintro _ _ ⟨U', g, rfl, hg01, hg, hN, rfl⟩
      rw [← lgU_nx hN]
      refine rn_if_eq 95 83 d_C_lay_80 rfl rfl ⟨by omega, by omega⟩ (fun c_80 => ?_) (fun c_80 => ?_)
      · have hng : ¬ grN (σ 3) ST G U rg (σ 1 5).toNat := fun q => by have := hg.mpr q; omega
        have eU : ∀ i, 0 ≤ i → U' i = U i := by
          intro i hi
          by_cases hi2 : 2 * (((σ 1 5).toNat : Nat) : Int) ≤ i
          · exact hN.2 i hi2
          · obtain ⟨j, hj⟩ : ∃ j : Nat, (j : Int) = i / 2 := ⟨(i / 2).toNat, by omega⟩
            obtain ⟨h1, h2⟩ := hN.1 j (by omega)
            rw [if_neg (fun q => hng ⟨j, by omega, Or.inl q⟩)] at h1
            rw [if_neg (fun q => hng ⟨j, by omega, Or.inr q⟩)] at h2
            rcases (show i = 2 * (j : Int) ∨ i = 2 * (j : Int) + 1 by omega) with e | e
            · rw [e]; exact h1
            · rw [e]; exact h2
        refine rn_arr (q := 24) (t := 0) (n := 48) (f := U') (g := U) rfl (fun j q1 q2 => eU j q1) ?_
        have eO : sm (lgU U') (σ 1 5).toNat = sm (lgU U) (σ 1 5).toNat := sm_congr _ (fun j _ => by unfold lgU; rw [eU _ (by omega), eU _ (by omega)])
        rw [eO]
        change av_Rn _ _ _ _ _ _ _ _ _ _ (hp (kS σ ST G U T (adC σ U (σ 1 5).toNat) Bn (sm (lgU U) (σ 1 5).toNat))) _
        exact rn_return d_C_lay_95 rfl (hΦ 0 U ST (Nat.zero_le _) rfl hS hU (Or.inl hng))
      · refine rn_aload_n 84 d_C_lay_83 rfl rfl ?_
        refine rn_aload_n 85 d_C_lay_84 rfl rfl ?_
        refine rn_aload_n 86 d_C_lay_85 rfl rfl ?_
        refine rn_callV2 89 d_C_lay_86 rfl cw_C_44 rfl (Nat.le_of_ble_eq_true rfl) (ev_C_measure hn hI.1 hI.2.1 hE) ?_
        rintro _ _ ⟨rfl, ST1, hS1, rfl⟩
        refine rn_iinc 92 d_C_lay_89 rfl rfl (by decide) rfl rfl ?_
        refine rn_goto 67 d_C_lay_92 rfl ?_
        have hgr : grN (σ 3) ST G U rg (σ 1 5).toNat := hg.mp (by omega)
        refine ih (rd + 1) U' ST1 (by omega) (by omega) hS1 (fun i q0 q1 => ?_) (fun i q0 q1 q2 => ?_) (fun m' V ST' z1 z2 z3 z4 z5 => hΦ (m' + 1) V ST' (by omega) ⟨U', ⟨ST, hS, hN, hgr⟩, z2⟩ z3 z4 (by rcases z5 with z5 | z5; exact Or.inl z5; exact Or.inr (by omega)))
        · have := hU i q0 q1
          rcases nxU_bd hN i q0 with e | e <;> omega
        · refine hG i q0 q1 ?_
          rcases nxU_bd hN i q0 with e | e <;> omega
/-- a planned branch leads to a block -/
theorem plG_ok {σ : av_S} {G U T : Int → Int} (hn : 0 ≤ σ 1 5 ∧ σ 1 5 ≤ 24) (hI : iO σ) (hE : ∀ b, 0 ≤ b → b < σ 1 5 → (0 ≤ σ 4 b ∧ σ 4 b ≤ 2) ∧ (∀ e, 0 ≤ e → e < σ 4 b → 0 ≤ σ 5 (2 * b + e) ∧ σ 5 (2 * b + e) < σ 1 5) ∧ (∀ e, σ 4 b ≤ e → 0 ≤ e → e ≤ 1 → σ 5 (2 * b + e) = -1)) (hP : plO σ G U T (σ 1 5).toNat) : ∀ i, 0 ≤ i → i < 2 * σ 1 5 → U i = 1 → 0 ≤ G i ∧ G i < σ 1 5 := by
  intro i h0 h1 hu
  obtain ⟨k, hk, hkb⟩ := hI.2.2 (i / 2) (by omega) (by omega)
  obtain ⟨⟨g0, g1⟩, ⟨u0, u1⟩, -⟩ := hP k (by omega)
  have hO := hI.1 (k : Int) (by omega) hk
  obtain ⟨e1, e2, e3⟩ := hE _ hO.1 hO.2
  have x0 := e2 0 (by omega)
  have x1 := e2 1 (by omega)
  rw [Int.add_zero] at x0
  rcases (show i = 2 * σ 14 (k : Int) ∨ i = 2 * σ 14 (k : Int) + 1 by omega) with e | e
  · rw [e] at hu ⊢
    rw [u0] at hu
    rw [g0]
    unfold qU0 plU0 at hu
    unfold qG0 plG0
    by_cases c1 : σ 4 (σ 14 (k : Int)) = 1
    · rw [if_pos c1] at hu ⊢
      by_cases c2 : σ 5 (2 * σ 14 (k : Int)) = nxI σ (k : Int)
      · rw [if_pos c2] at hu; omega
      · rw [if_neg c2]; exact x0 (by omega)
    · rw [if_neg c1] at hu ⊢
      by_cases c2 : σ 4 (σ 14 (k : Int)) = 2
      · rw [if_pos c2]; split
        · exact x1 (by omega)
        · exact x0 (by omega)
      · rw [if_neg c2] at hu; omega
  · rw [e] at hu ⊢
    rw [u1] at hu
    rw [g1]
    unfold qU1 plU1 at hu
    unfold qG1 plG1
    split at hu
    · rename_i c; rw [if_pos c]; exact x1 (by omega)
    · omega
theorem lgU_0 {σ : av_S} {G U T : Int → Int} (hI : iO σ) (hP : plO σ G U T (σ 1 5).toNat) (hn : 0 ≤ σ 1 5 ∧ σ 1 5 ≤ 24) : sm (lgU U) (σ 1 5).toNat = 0 := by
  have : ∀ k : Nat, (k : Int) ≤ σ 1 5 → sm (lgU U) k = 0 := by
    intro k
    induction k with
    | zero => intro _; rfl
    | succ k ih =>
      intro hk
      show sm (lgU U) k + lgU U (k : Int) = 0
      rw [ih (by omega)]
      obtain ⟨j, hj, hjb⟩ := hI.2.2 (k : Int) (by omega) (by omega)
      obtain ⟨-, ⟨u0, u1⟩, -⟩ := hP j (by omega)
      rw [hjb] at u0 u1
      unfold lgU
      rw [u0, u1, bz_f, bz_f]
      · rfl
      · unfold qU1 plU1; split <;> omega
      · unfold qU0 plU0; split
        · split <;> omega
        · split <;> omega
  exact this _ (by omega)
set_option maxRecDepth 100000 in
set_option maxHeartbeats 400000 in
theorem ev_C_lay {sc : av_sc} {d : Nat} {σ : av_S} {rg : Int} (hn : 0 ≤ σ 1 5 ∧ σ 1 5 ≤ 24) (hI : iO σ) (hE : ∀ b, 0 ≤ b → b < σ 1 5 → (0 ≤ σ 4 b ∧ σ 4 b ≤ 2) ∧ (∀ e, 0 ≤ e → e < σ 4 b → 0 ≤ σ 5 (2 * b + e) ∧ σ 5 (2 * b + e) < σ 1 5) ∧ (∀ e, σ 4 b ≤ e → 0 ≤ e → e ≤ 1 → σ 5 (2 * b + e) = -1)) (hB : ∀ b, 0 ≤ b → b < σ 1 5 → 1 ≤ σ 3 b ∧ σ 3 b ≤ 40) (hr : 0 ≤ rg ∧ rg ≤ 400) (hU0 : ∀ i, 0 ≤ i → i < 48 → 0 ≤ σ 24 i ∧ σ 24 i ≤ 2) (hT0 : ∀ b, 0 ≤ b → b < 24 → σ 25 b = 0 ∨ σ 25 b = 1) : av_Ev sc m_C_lay (d + 3) false 0 0 [vR 21, vR 1, vR 14, vI rg] (hp σ) (fun r h => r = none ∧ ∃ (G U T V ST : Int → Int) (m : Nat), plO σ G U T (σ 1 5).toNat ∧ (∀ b, 0 ≤ b → b < 24 → T b = 0 ∨ T b = 1) ∧ rnds σ G rg m U V ∧ adS σ ST V ∧ (∀ i, 0 ≤ i → i < 48 → 0 ≤ V i ∧ V i ≤ 2) ∧ (¬ grN (σ 3) ST G V rg (σ 1 5).toNat ∨ m = 48) ∧ h = hp (kS σ ST G V T (adC σ V (σ 1 5).toNat) (bnC σ (σ 1 5).toNat) (sm (lgU V) (σ 1 5).toNat))) := by
  have hE1 : ∀ b, 0 ≤ b → b < σ 1 5 → (0 ≤ σ 4 b ∧ σ 4 b ≤ 2) ∧ (-1 ≤ σ 5 (2 * b) ∧ σ 5 (2 * b) < 24) ∧ (-1 ≤ σ 5 (2 * b + 1) ∧ σ 5 (2 * b + 1) < 24) := by
    intro b q0 q1
    obtain ⟨e1, e2, e3⟩ := hE b q0 q1
    have x0 := e2 0 (by omega)
    have x1 := e2 1 (by omega)
    have y0 := e3 0
    have y1 := e3 1
    rw [Int.add_zero] at x0 y0
    refine ⟨e1, ?_, ?_⟩
    · by_cases c : 0 < σ 4 b
      · have := x0 c; omega
      · have := y0 (by omega) (by omega) (by omega); omega
    · by_cases c : 1 < σ 4 b
      · have := x1 c; omega
      · have := y1 (by omega) (by omega) (by omega); omega
  refine av_ev rfl rfl (Nat.le_of_ble_eq_true rfl) rfl ?_
  refine rn_aload_n 1 d_C_lay_0 rfl rfl ?_
  refine rn_iconst 2 d_C_lay_1 rfl ?_
  refine rn_putfield 5 d_C_lay_2 rfl fp_C_29 rfl (Nat.le_of_ble_eq_true rfl) av_fitI (hs_21_5 _ _) ?_
  refine rn_aload_n 6 d_C_lay_5 rfl rfl ?_
  refine rn_iconst 7 d_C_lay_6 rfl ?_
  refine rn_putfield 10 d_C_lay_7 rfl fp_C_32 rfl (Nat.le_of_ble_eq_true rfl) av_fitI (hs_21_6 _ _) ?_
  refine rn_iconst 11 d_C_lay_10 rfl ?_
  refine rn_istore 13 d_C_lay_11 rfl (by decide) rfl rfl ?_
  change av_Rn _ _ _ _ _ _ _ _ _ _ (hp (kS σ (σ 22) (σ 23) (σ 24) (σ 25) (σ 21 4) (bnC σ 0) 0)) _
  refine lay_choose (d := d + 1) hn hI hE1 (fun G U T hP hUb hTb => ?_) (σ 1 5).toNat 0 (σ 23) (σ 24) (σ 25) (by omega) (fun j hj => by omega) hU0 hT0
  refine rn_aload_n 59 d_C_lay_58 rfl rfl ?_
  refine rn_aload_n 60 d_C_lay_59 rfl rfl ?_
  refine rn_aload_n 61 d_C_lay_60 rfl rfl ?_
  refine rn_callV2 64 d_C_lay_61 rfl cw_C_44 rfl (Nat.le_of_ble_eq_true rfl) (ev_C_measure hn hI.1 hI.2.1 (fun b q0 q1 => (hE b q0 q1).1)) ?_
  rintro _ _ ⟨rfl, ST1, hS1, rfl⟩
  refine rn_iconst 65 d_C_lay_64 rfl ?_
  refine rn_istore 67 d_C_lay_65 rfl (by decide) rfl rfl ?_
  have L := lay_rounds (sc := sc) (d := d) (n0 := (hp σ).length) (bc := 0) (bs := 0) (al := false) (T := T) (Bn := bnC σ (σ 1 5).toNat) (Φ := fun r h => r = none ∧ ∃ (G U T V ST : Int → Int) (m : Nat), plO σ G U T (σ 1 5).toNat ∧ (∀ b, 0 ≤ b → b < 24 → T b = 0 ∨ T b = 1) ∧ rnds σ G rg m U V ∧ adS σ ST V ∧ (∀ i, 0 ≤ i → i < 48 → 0 ≤ V i ∧ V i ≤ 2) ∧ (¬ grN (σ 3) ST G V rg (σ 1 5).toNat ∨ m = 48) ∧ h = hp (kS σ ST G V T (adC σ V (σ 1 5).toNat) (bnC σ (σ 1 5).toNat) (sm (lgU V) (σ 1 5).toNat))) hn hI (fun b q0 q1 => (hE b q0 q1).1) hB hr 48 0 U ST1 (by omega) (by omega) hS1 hUb (plG_ok hn hI hE hP) (fun m' V ST' z1 z2 z3 z4 z5 => ⟨rfl, G, U, T, V, ST', m', hP, hTb, z2, z3, z4, z5, rfl⟩)
  rw [lgU_0 hI hP hn] at L
  exact L
