theorem ior01 {x : Int} {P : Prop} [Decidable P] (hx : x = 0 ∨ x = 1) : Int32.ofInt x ||| Int32.ofInt (bz P) = Int32.ofInt (bz (x = 1 ∨ P)) := by
  by_cases hP : P
  · rw [bz_t hP, bz_t (Or.inr hP)]
    rcases hx with rfl | rfl <;> rfl
  · rw [bz_f hP]
    rcases hx with rfl | rfl
    · rw [bz_f (fun q => q.elim (fun z => by cases z) hP)]; rfl
    · rw [bz_t (Or.inl rfl)]; rfl
/-- a slot grows in a round: U the units, ST the addresses of the round -/
abbrev P0 (bo ST G U : Int → Int) (rg j : Int) : Prop := U (2 * j) = 1 ∧ rg < ab (ST j + bo j - ST (G (2 * j)))
abbrev P1 (bo ST G U : Int → Int) (rg j : Int) : Prop := U (2 * j + 1) = 1 ∧ rg < ab (ST j + bo j + U (2 * j) - ST (G (2 * j + 1)))
/-- the units behind the round, for the blocks below k -/
def nxU (bo ST G U : Int → Int) (rg : Int) (U' : Int → Int) (k : Nat) : Prop := (∀ j : Nat, j < k → U' (2 * (j : Int)) = (if P0 bo ST G U rg (j : Int) then 2 else U (2 * (j : Int))) ∧ U' (2 * (j : Int) + 1) = (if P1 bo ST G U rg (j : Int) then 2 else U (2 * (j : Int) + 1))) ∧ ∀ i, 2 * (k : Int) ≤ i → U' i = U i
def grN (bo ST G U : Int → Int) (rg : Int) (k : Nat) : Prop := ∃ j : Nat, j < k ∧ (P0 bo ST G U rg (j : Int) ∨ P1 bo ST G U rg (j : Int))
def grS (bo ST G U : Int → Int) (rg : Int) (k : Nat) : Int := sm (fun j => bz (P0 bo ST G U rg j) + bz (P1 bo ST G U rg j)) k
theorem nxU_step {bo ST G U U1 U2 : Int → Int} {rg : Int} {k : Nat} {V : Int → Int} (h : nxU bo ST G U rg V k) (h1 : U1 = if P0 bo ST G U rg (k : Int) then uI V (2 * (k : Int)) 2 else V) (h2 : U2 = if P1 bo ST G U rg (k : Int) then uI U1 (2 * (k : Int) + 1) 2 else U1) : nxU bo ST G U rg U2 (k + 1) := by
  have a1 : ∀ i, i ≠ 2 * (k : Int) → U1 i = V i := by
    intro i hi
    rw [h1]
    split
    · exact uI_n V 2 hi
    · rfl
  have a2 : ∀ i, i ≠ 2 * (k : Int) + 1 → U2 i = U1 i := by
    intro i hi
    rw [h2]
    split
    · exact uI_n U1 2 hi
    · rfl
  refine ⟨fun j hj => ?_, fun i hi => ?_⟩
  · by_cases hjk : j = k
    · subst hjk
      constructor
      · rw [a2 _ (by omega), h1]
        split
        · exact uI_s V _ 2
        · exact h.2 _ (by omega)
      · rw [h2]
        split
        · exact uI_s U1 _ 2
        · rw [a1 _ (by omega)]; exact h.2 _ (by omega)
    · have := h.1 j (by omega)
      rw [a2 _ (by omega), a1 _ (by omega), a2 _ (by omega), a1 _ (by omega)]
      exact this
  · rw [a2 _ (by omega), a1 _ (by omega)]
    exact h.2 i (by omega)
set_option maxRecDepth 100000 in
set_option maxHeartbeats 400000 in
theorem lengthen_loop {sc : av_sc} {d n0 bc bs : Nat} {al : Bool} {σ : av_S} {ST G U0 T : Int → Int} {Ln Bn O0 rg : Int} {Φ : Option av_V → av_H → Prop} (hn : 0 ≤ σ 1 5 ∧ σ 1 5 ≤ 24) (hB : ∀ b, 0 ≤ b → b < σ 1 5 → 1 ≤ σ 3 b ∧ σ 3 b ≤ 40) (hU : ∀ i, 0 ≤ i → i < 48 → 0 ≤ U0 i ∧ U0 i ≤ 2) (hG : ∀ i, 0 ≤ i → i < 2 * σ 1 5 → U0 i = 1 → 0 ≤ G i ∧ G i < σ 1 5) (hST : ∀ b, 0 ≤ b → b < σ 1 5 → 0 ≤ ST b ∧ ST b ≤ 10000) (hr : 0 ≤ rg ∧ rg ≤ 400)
    (hΦ : ∀ (U' : Int → Int) (g : Int), (g = 0 ∨ g = 1) → (g = 1 ↔ grN (σ 3) ST G U0 rg (σ 1 5).toNat) → nxU (σ 3) ST G U0 rg U' (σ 1 5).toNat → Φ (some (vI g)) (hp (kS σ ST G (U') T Ln Bn (O0 + grS (σ 3) ST G U0 rg (σ 1 5).toNat)))) :
    ∀ (m k : Nat) (U : Int → Int) (g : Int), (k : Int) + (m : Int) = σ 1 5 → (g = 0 ∨ g = 1) → (g = 1 ↔ grN (σ 3) ST G U0 rg k) → nxU (σ 3) ST G U0 rg U k → av_Rn sc m_C_lengthen (d + 2) al n0 bc bs 5 [some (vR 21), some (vR 1), some (vI rg), some (vI g), some (vI (k : Int)), none, none] [] (hp (kS σ ST G U T Ln Bn (O0 + grS (σ 3) ST G U0 rg k))) Φ := by
  intro m
  induction m with
  | zero =>
    intro k U g hk hg01 hg hU'
    obtain rfl : k = (σ 1 5).toNat := by omega
    refine rn_iload 7 d_C_lengthen_5 rfl rfl ?_
    refine rn_aload_n 8 d_C_lengthen_7 rfl rfl ?_
    refine rn_getfield 11 d_C_lengthen_8 rfl fd_C_35 rfl rfl ?_
    rw [show (kS σ ST G U T Ln Bn (O0 + grS (σ 3) ST G U0 rg (σ 1 5).toNat)) 1 5 = σ 1 5 from rfl]
    refine rn_icmp_ge 81 14 d_C_lengthen_11 rfl rfl ⟨by omega, by omega⟩ ⟨by omega, by omega⟩ (fun c_11 => ?_) (fun c_11 => ?_)
    · refine rn_iload_n 82 d_C_lengthen_81 rfl rfl ?_
      exact rn_ireturn d_C_lengthen_82 (Or.inr ⟨rfl, hg01⟩) (hΦ U g hg01 hg hU')
    · omega
  | succ m ih =>
    intro k U g hk hg01 hg hU'
    have hBk := hB (k : Int) (by omega) (by omega)
    have hSTk := hST (k : Int) (by omega) (by omega)
    have eU0 : U (2 * (k : Int)) = U0 (2 * (k : Int)) := hU'.2 _ (by omega)
    have eU1 : U (2 * (k : Int) + 1) = U0 (2 * (k : Int) + 1) := hU'.2 _ (by omega)
    have b0 := hU (2 * (k : Int)) (by omega) (by omega)
    have b1 := hU (2 * (k : Int) + 1) (by omega) (by omega)
    have g0 : U (2 * (k : Int)) = 1 → (0 ≤ G (2 * (k : Int)) ∧ G (2 * (k : Int)) < 24) ∧ 0 ≤ ST (G (2 * (k : Int))) ∧ ST (G (2 * (k : Int))) ≤ 10000 := fun q => by
      have z := hG (2 * (k : Int)) (by omega) (by omega) (by omega)
      exact ⟨⟨z.1, by omega⟩, hST _ z.1 z.2⟩
    have g1 : U (2 * (k : Int) + 1) = 1 → (0 ≤ G (2 * (k : Int) + 1) ∧ G (2 * (k : Int) + 1) < 24) ∧ 0 ≤ ST (G (2 * (k : Int) + 1)) ∧ ST (G (2 * (k : Int) + 1)) ≤ 10000 := fun q => by
      have z := hG (2 * (k : Int) + 1) (by omega) (by omega) (by omega)
      exact ⟨⟨z.1, by omega⟩, hST _ z.1 z.2⟩
    refine rn_iload 7 d_C_lengthen_5 rfl rfl ?_
    refine rn_aload_n 8 d_C_lengthen_7 rfl rfl ?_
    refine rn_getfield 11 d_C_lengthen_8 rfl fd_C_35 rfl rfl ?_
    rw [show (kS σ ST G U T Ln Bn (O0 + grS (σ 3) ST G U0 rg k)) 1 5 = σ 1 5 from rfl]
    refine rn_icmp_ge 81 14 d_C_lengthen_11 rfl rfl ⟨by omega, by omega⟩ ⟨by omega, by omega⟩ (fun c_11 => ?_) (fun c_11 => ?_)
    · omega
    · refine rn_aload_n 15 d_C_lengthen_14 rfl rfl ?_
      refine rn_getfield 18 d_C_lengthen_15 rfl fd_C_9 rfl rfl ?_
      refine rn_iload 20 d_C_lengthen_18 rfl rfl ?_
      refine rn_iaload 21 d_C_lengthen_20 rfl rfl (by decide) (by omega) (by omega) ?_
      rw [show (kS σ ST G U T Ln Bn (O0 + grS (σ 3) ST G U0 rg k)) 22 (k : Int) = ST (k : Int) from rfl]
      refine rn_aload_n 22 d_C_lengthen_21 rfl rfl ?_
      refine rn_getfield 25 d_C_lengthen_22 rfl fd_C_66 rfl rfl ?_
      refine rn_iload 27 d_C_lengthen_25 rfl rfl ?_
      refine rn_iaload 28 d_C_lengthen_27 rfl rfl (by decide) (by omega) (by omega) ?_
      rw [show (kS σ ST G U T Ln Bn (O0 + grS (σ 3) ST G U0 rg k)) 3 (k : Int) = σ 3 (k : Int) from rfl]
      refine rn_iadd 29 d_C_lengthen_28 rfl ?_
      refine rn_istore 31 d_C_lengthen_29 rfl (by decide) rfl rfl ?_
      refine rn_iload 33 d_C_lengthen_31 rfl rfl ?_
      refine rn_aload_n 34 d_C_lengthen_33 rfl rfl ?_
      refine rn_getfield 37 d_C_lengthen_34 rfl fd_C_18 rfl rfl ?_
      refine rn_iconst 38 d_C_lengthen_37 rfl ?_
      refine rn_iload 40 d_C_lengthen_38 rfl rfl ?_
      refine rn_imul 41 d_C_lengthen_40 rfl ?_
      refine rn_iaload 42 d_C_lengthen_41 rfl rfl (by decide) (by omega) (by omega) ?_
      rw [show (kS σ ST G U T Ln Bn (O0 + grS (σ 3) ST G U0 rg k)) 24 (2 * (k : Int)) = U (2 * (k : Int)) from rfl]
      refine rn_iadd 43 d_C_lengthen_42 rfl ?_
      refine rn_istore 45 d_C_lengthen_43 rfl (by decide) rfl rfl ?_
      refine rn_iload_n 46 d_C_lengthen_45 rfl rfl ?_
      refine rn_aload_n 47 d_C_lengthen_46 rfl rfl ?_
      refine rn_iconst 48 d_C_lengthen_47 rfl ?_
      refine rn_iload 50 d_C_lengthen_48 rfl rfl ?_
      refine rn_imul 51 d_C_lengthen_50 rfl ?_
      refine rn_iload 53 d_C_lengthen_51 rfl rfl ?_
      refine rn_iload_n 54 d_C_lengthen_53 rfl rfl ?_
      refine rn_callV3 57 d_C_lengthen_54 rfl cw_C_69 rfl (Nat.le_of_ble_eq_true rfl) (ev_C_lengthenOne ⟨by omega, by omega⟩ ⟨by omega, by omega⟩ g0 ⟨by omega, by omega⟩ hr) ?_
      rintro _ _ ⟨rfl, rfl⟩
      obtain ⟨U1, hU1⟩ : ∃ U1, U1 = (if (U (2 * (k : Int)) = 1 ∧ rg < ab (ST (k : Int) + σ 3 (k : Int) - ST (G (2 * (k : Int))))) then uI U (2 * (k : Int)) 2 else U) := ⟨_, rfl⟩
      obtain ⟨O1, hO1⟩ : ∃ O1 : Int, O1 = (if (U (2 * (k : Int)) = 1 ∧ rg < ab (ST (k : Int) + σ 3 (k : Int) - ST (G (2 * (k : Int))))) then O0 + grS (σ 3) ST G U0 rg k + 1 else O0 + grS (σ 3) ST G U0 rg k) := ⟨_, rfl⟩
      rw [← hU1, ← hO1]
      have e11 : U1 (2 * (k : Int) + 1) = U (2 * (k : Int) + 1) := by rw [hU1]; split; exact uI_n U 2 (by omega); rfl
      have q0 : (U (2 * (k : Int)) = 1 ∧ rg < ab (ST (k : Int) + σ 3 (k : Int) - ST (G (2 * (k : Int))))) ↔ P0 (σ 3) ST G U0 rg (k : Int) := by rw [eU0]
      refine rn_ior 58 d_C_lengthen_57 rfl _ (ior01 hg01) ?_
      refine rn_istore_n 59 d_C_lengthen_58 rfl (by decide) rfl rfl ?_
      refine rn_iload_n 60 d_C_lengthen_59 rfl rfl ?_
      refine rn_aload_n 61 d_C_lengthen_60 rfl rfl ?_
      refine rn_iconst 62 d_C_lengthen_61 rfl ?_
      refine rn_iload 64 d_C_lengthen_62 rfl rfl ?_
      refine rn_imul 65 d_C_lengthen_64 rfl ?_
      refine rn_iconst 66 d_C_lengthen_65 rfl ?_
      refine rn_iadd 67 d_C_lengthen_66 rfl ?_
      refine rn_iload 69 d_C_lengthen_67 rfl rfl ?_
      refine rn_iload_n 70 d_C_lengthen_69 rfl rfl ?_
      refine rn_callV3 73 d_C_lengthen_70 rfl cw_C_69 rfl (Nat.le_of_ble_eq_true rfl) (ev_C_lengthenOne ⟨by omega, by omega⟩ ⟨by omega, by omega⟩ (fun q => g1 (by omega)) ⟨by omega, by omega⟩ hr) ?_
      rintro _ _ ⟨rfl, rfl⟩
      obtain ⟨U2, hU2⟩ : ∃ U2, U2 = (if (U1 (2 * (k : Int) + 1) = 1 ∧ rg < ab (ST (k : Int) + σ 3 (k : Int) + U (2 * (k : Int)) - ST (G (2 * (k : Int) + 1)))) then uI U1 (2 * (k : Int) + 1) 2 else U1) := ⟨_, rfl⟩
      obtain ⟨O2, hO2⟩ : ∃ O2 : Int, O2 = (if (U1 (2 * (k : Int) + 1) = 1 ∧ rg < ab (ST (k : Int) + σ 3 (k : Int) + U (2 * (k : Int)) - ST (G (2 * (k : Int) + 1)))) then O1 + 1 else O1) := ⟨_, rfl⟩
      rw [← hU2, ← hO2]
      have q1 : (U1 (2 * (k : Int) + 1) = 1 ∧ rg < ab (ST (k : Int) + σ 3 (k : Int) + U (2 * (k : Int)) - ST (G (2 * (k : Int) + 1)))) ↔ P1 (σ 3) ST G U0 rg (k : Int) := by rw [e11, eU1, eU0]
      refine rn_ior 74 d_C_lengthen_73 rfl _ (ior01 bz_01) ?_
      refine rn_istore_n 75 d_C_lengthen_74 rfl (by decide) rfl rfl ?_
      refine rn_iinc 78 d_C_lengthen_75 rfl rfl (by decide) rfl rfl ?_
      refine rn_goto 5 d_C_lengthen_78 rfl ?_
      refine rn_kill 5 rfl ?_
      refine rn_kill 6 rfl ?_
      have eO : O2 = O0 + grS (σ 3) ST G U0 rg (k + 1) := by
        show O2 = O0 + (grS (σ 3) ST G U0 rg k + (bz (P0 (σ 3) ST G U0 rg (k : Int)) + bz (P1 (σ 3) ST G U0 rg (k : Int))))
        rw [hO2, hO1]
        by_cases p0 : P0 (σ 3) ST G U0 rg (k : Int) <;> by_cases p1 : P1 (σ 3) ST G U0 rg (k : Int)
        · rw [if_pos (q1.mpr p1), if_pos (q0.mpr p0), bz_t p0, bz_t p1]; omega
        · rw [if_neg (fun z => p1 (q1.mp z)), if_pos (q0.mpr p0), bz_t p0, bz_f p1]; omega
        · rw [if_pos (q1.mpr p1), if_neg (fun z => p0 (q0.mp z)), bz_f p0, bz_t p1]; omega
        · rw [if_neg (fun z => p1 (q1.mp z)), if_neg (fun z => p0 (q0.mp z)), bz_f p0, bz_f p1]; omega
      rw [eO]
      refine ih (k + 1) U2 _ (by omega) bz_01 ?_ ?_
      · rw [bz_iff, bz_iff]
        constructor
        · rintro ((z | z) | z)
          · obtain ⟨j, hj, hz⟩ := hg.mp z; exact ⟨j, by omega, hz⟩
          · exact ⟨k, by omega, Or.inl (q0.mp z)⟩
          · exact ⟨k, by omega, Or.inr (q1.mp z)⟩
        · rintro ⟨j, hj, hz⟩
          by_cases hjk : j = k
          · subst hjk
            rcases hz with hz | hz
            · exact Or.inl (Or.inr (q0.mpr hz))
            · exact Or.inr (q1.mpr hz)
          · exact Or.inl (Or.inl (hg.mpr ⟨j, by omega, hz⟩))
      · refine nxU_step hU' (U1 := U1) ?_ ?_
        · rw [hU1]; by_cases p0 : P0 (σ 3) ST G U0 rg (k : Int)
          · rw [if_pos p0, if_pos (q0.mpr p0)]
          · rw [if_neg p0, if_neg (fun z => p0 (q0.mp z))]
        · rw [hU2]; by_cases p1 : P1 (σ 3) ST G U0 rg (k : Int)
          · rw [if_pos p1, if_pos (q1.mpr p1)]
          · rw [if_neg p1, if_neg (fun z => p1 (q1.mp z))]
set_option maxRecDepth 100000 in
set_option maxHeartbeats 400000 in
theorem ev_C_lengthen {sc : av_sc} {d : Nat} {σ : av_S} {ST G U0 T : Int → Int} {Ln Bn On rg : Int} (hn : 0 ≤ σ 1 5 ∧ σ 1 5 ≤ 24) (hB : ∀ b, 0 ≤ b → b < σ 1 5 → 1 ≤ σ 3 b ∧ σ 3 b ≤ 40) (hU : ∀ i, 0 ≤ i → i < 48 → 0 ≤ U0 i ∧ U0 i ≤ 2) (hG : ∀ i, 0 ≤ i → i < 2 * σ 1 5 → U0 i = 1 → 0 ≤ G i ∧ G i < σ 1 5) (hST : ∀ b, 0 ≤ b → b < σ 1 5 → 0 ≤ ST b ∧ ST b ≤ 10000) (hr : 0 ≤ rg ∧ rg ≤ 400) : av_Ev sc m_C_lengthen (d + 2) false 0 0 [vR 21, vR 1, vI rg] (hp (kS σ ST G U0 T Ln Bn On)) (fun r h => ∃ (U' : Int → Int) (g : Int), r = some (vI g) ∧ (g = 0 ∨ g = 1) ∧ (g = 1 ↔ grN (σ 3) ST G U0 rg (σ 1 5).toNat) ∧ nxU (σ 3) ST G U0 rg U' (σ 1 5).toNat ∧ h = hp (kS σ ST G (U') T Ln Bn (On + grS (σ 3) ST G U0 rg (σ 1 5).toNat))) := by
  refine av_ev rfl rfl (Nat.le_of_ble_eq_true rfl) rfl ?_
  refine rn_iconst 1 d_C_lengthen_0 rfl ?_
  refine rn_istore_n 2 d_C_lengthen_1 rfl (by decide) rfl rfl ?_
  refine rn_iconst 3 d_C_lengthen_2 rfl ?_
  refine rn_istore 5 d_C_lengthen_3 rfl (by decide) rfl rfl ?_
  have L := lengthen_loop (sc := sc) (d := d) (n0 := (hp (kS σ ST G U0 T Ln Bn On)).length) (bc := 0) (bs := 0) (al := false) (T := T) (Ln := Ln) (Bn := Bn) (O0 := On) (Φ := fun r h => ∃ (U' : Int → Int) (g : Int), r = some (vI g) ∧ (g = 0 ∨ g = 1) ∧ (g = 1 ↔ grN (σ 3) ST G U0 rg (σ 1 5).toNat) ∧ nxU (σ 3) ST G U0 rg U' (σ 1 5).toNat ∧ h = hp (kS σ ST G (U') T Ln Bn (On + grS (σ 3) ST G U0 rg (σ 1 5).toNat))) hn hB hU hG hST hr (fun U' g h1 h2 h3 => ⟨U', g, rfl, h1, h2, h3, rfl⟩) (σ 1 5).toNat 0 U0 0 (by omega) (Or.inl rfl) ⟨fun q => by omega, fun q => by obtain ⟨j, hj, -⟩ := q; omega⟩ ⟨fun j hj => by omega, fun i _ => rfl⟩
  rw [show On + grS (σ 3) ST G U0 rg 0 = On from Int.add_zero On] at L
  exact L
