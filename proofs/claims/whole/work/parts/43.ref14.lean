def nxM (σ : av_S) (j : Int) : Int := if j + 1 < σ 26 1 then σ 37 (j + 1) else -1
/-- the reference's branches of the blocks at the places below k -/
def plM (σ : av_S) (BR TG LN TU : Int → Int) (k : Nat) : Prop := ∀ j : Nat, j < k → BR (σ 37 (j : Int)) = brP (σ 29 (σ 37 (j : Int))) (σ 30 (2 * σ 37 (j : Int))) (σ 30 (2 * σ 37 (j : Int) + 1)) (nxM σ (j : Int)) ∧ (TG (2 * σ 37 (j : Int)) = tgP (σ 29 (σ 37 (j : Int))) (σ 30 (2 * σ 37 (j : Int))) (σ 30 (2 * σ 37 (j : Int) + 1)) (nxM σ (j : Int)) ∧ TG (2 * σ 37 (j : Int) + 1) = σ 30 (2 * σ 37 (j : Int) + 1)) ∧ (LN (2 * σ 37 (j : Int)) = 1 ∧ LN (2 * σ 37 (j : Int) + 1) = 1) ∧ TU (σ 37 (j : Int)) = plT (σ 29 (σ 37 (j : Int))) (σ 30 (2 * σ 37 (j : Int))) (σ 30 (2 * σ 37 (j : Int) + 1)) (nxM σ (j : Int))
/-- the order is one of all blocks -/
def iOM (σ : av_S) : Prop := (∀ k, 0 ≤ k → k < σ 26 1 → 0 ≤ σ 37 k ∧ σ 37 k < σ 26 1) ∧ (∀ i j, 0 ≤ i → i < j → j < σ 26 1 → σ 37 i ≠ σ 37 j) ∧ ∀ b, 0 ≤ b → b < σ 26 1 → ∃ k : Nat, (k : Int) < σ 26 1 ∧ σ 37 (k : Int) = b
theorem plM_step {σ : av_S} {BR TG LN TU : Int → Int} {k : Nat} (hI : iOM σ) (hk : (k : Int) < σ 26 1) (h : plM σ BR TG LN TU k) : plM σ (uI BR (σ 37 (k : Int)) (brP (σ 29 (σ 37 (k : Int))) (σ 30 (2 * σ 37 (k : Int))) (σ 30 (2 * σ 37 (k : Int) + 1)) (nxM σ (k : Int)))) (uI (uI TG (2 * σ 37 (k : Int)) (tgP (σ 29 (σ 37 (k : Int))) (σ 30 (2 * σ 37 (k : Int))) (σ 30 (2 * σ 37 (k : Int) + 1)) (nxM σ (k : Int)))) (2 * σ 37 (k : Int) + 1) (σ 30 (2 * σ 37 (k : Int) + 1))) (uI (uI LN (2 * σ 37 (k : Int)) 1) (2 * σ 37 (k : Int) + 1) 1) (uI TU (σ 37 (k : Int)) (plT (σ 29 (σ 37 (k : Int))) (σ 30 (2 * σ 37 (k : Int))) (σ 30 (2 * σ 37 (k : Int) + 1)) (nxM σ (k : Int)))) (k + 1) := by
  intro j hj
  by_cases c : j = k
  · subst c
    exact ⟨uI_s _ _ _, uI2_at, uI2_at, uI_s _ _ _⟩
  · have q := hI.2.1 (j : Int) (k : Int) (by omega) (by omega) hk
    obtain ⟨a1, ⟨a2, a3⟩, ⟨a4, a5⟩, a6⟩ := h j (by omega)
    rw [uI_n _ _ q, uI_n _ _ q, uI2_off (by omega) (by omega), uI2_off (by omega) (by omega), uI2_off (by omega) (by omega), uI2_off (by omega) (by omega)]
    exact ⟨a1, ⟨a2, a3⟩, ⟨a4, a5⟩, a6⟩
set_option maxRecDepth 100000 in
set_option maxHeartbeats 400000 in
theorem brM_loop {sc : av_sc} {d n0 bc bs : Nat} {al : Bool} {σ : av_S} {md : Int} {Φ : Option av_V → av_H → Prop} (hI : iM σ) (hO : iOM σ) (hT : ∀ k, 0 ≤ k → k < 48 → 0 ≤ σ 30 k ∧ σ 30 k < 24)
    (hΦ : ∀ BR TG LN TU : Int → Int, plM σ BR TG LN TU (σ 26 1).toNat → av_Rn sc m_M_layout (d + 2) al n0 bc bs 86 [some (vR 26), some (vI md), none] [] (hp (rS σ (σ 37) BR TG LN TU (σ 42))) Φ) :
    ∀ (m k : Nat) (BR TG LN TU : Int → Int), (k : Int) + (m : Int) = σ 26 1 → plM σ BR TG LN TU k → av_Rn sc m_M_layout (d + 2) al n0 bc bs 40 [some (vR 26), some (vI md), some (vI (k : Int))] [] (hp (rS σ (σ 37) BR TG LN TU (σ 42))) Φ := by
  have hn := hI.1
  intro m
  induction m with
  | zero =>
    intro k BR TG LN TU hk hP
    have ek : (k : Int) = σ 26 1 := by omega
    obtain rfl : k = (σ 26 1).toNat := by omega
    refine rn_iload_n 41 d_M_layout_40 rfl rfl ?_
    refine rn_aload_n 42 d_M_layout_41 rfl rfl ?_
    refine rn_getfield 45 d_M_layout_42 rfl fd_M_7 rfl rfl ?_
    rw [show (rS σ (σ 37) BR TG LN TU (σ 42)) 26 1 = σ 26 1 from rfl]
    refine rn_icmp_ge 86 48 d_M_layout_45 rfl rfl ⟨by omega, by omega⟩ ⟨by omega, by omega⟩ (fun c_45 => ?_) (fun c_45 => ?_)
    · exact rn_kill 2 rfl (hΦ BR TG LN TU hP)
    · omega
  | succ m ih =>
    intro k BR TG LN TU hk hP
    have hOk := hO.1 (k : Int) (by omega) (by omega)
    have hEk := (hI.2.1 _ hOk.1 hOk.2).2.2
    have J : ∀ nx : Int, nx = nxM σ (k : Int) → av_Rn sc m_M_layout (d + 2) al n0 bc bs 77 [some (vR 26), some (vI md), some (vI (k : Int))] [vI nx, vI (σ 37 (k : Int)), vR 26] (hp (rS σ (σ 37) BR TG LN TU (σ 42))) Φ := by
      intro nx enx
      have hnx : -1 ≤ nx ∧ nx < 24 := by
        rw [enx]; unfold nxM; split
        · have := hO.1 ((k : Int) + 1) (by omega) (by omega); omega
        · omega
      subst enx
      refine rn_callV2 80 d_M_layout_77 rfl cw_M_135 rfl (Nat.le_of_ble_eq_true rfl) (ev_M_branchesOf ⟨by omega, by omega⟩ hnx (show 0 ≤ σ 29 (σ 37 (k : Int)) ∧ σ 29 (σ 37 (k : Int)) ≤ 2 from hEk.1) hT) ?_
      rintro _ _ ⟨rfl, rfl⟩
      refine rn_iinc 83 d_M_layout_80 rfl rfl (by decide) rfl rfl ?_
      refine rn_goto 40 d_M_layout_83 rfl ?_
      exact ih (k + 1) _ _ _ _ (by omega) (plM_step hO (by omega) hP)
    refine rn_iload_n 41 d_M_layout_40 rfl rfl ?_
    refine rn_aload_n 42 d_M_layout_41 rfl rfl ?_
    refine rn_getfield 45 d_M_layout_42 rfl fd_M_7 rfl rfl ?_
    rw [show (rS σ (σ 37) BR TG LN TU (σ 42)) 26 1 = σ 26 1 from rfl]
    refine rn_icmp_ge 86 48 d_M_layout_45 rfl rfl ⟨by omega, by omega⟩ ⟨by omega, by omega⟩ (fun c_45 => ?_) (fun c_45 => ?_)
    · omega
    · refine rn_aload_n 49 d_M_layout_48 rfl rfl ?_
      refine rn_aload_n 50 d_M_layout_49 rfl rfl ?_
      refine rn_getfield 53 d_M_layout_50 rfl fd_M_58 rfl rfl ?_
      refine rn_iload_n 54 d_M_layout_53 rfl rfl ?_
      refine rn_iaload 55 d_M_layout_54 rfl rfl (by decide) (by omega) (by omega) ?_
      rw [show (rS σ (σ 37) BR TG LN TU (σ 42)) 37 (k : Int) = σ 37 (k : Int) from rfl]
      refine rn_iload_n 56 d_M_layout_55 rfl rfl ?_
      refine rn_iconst 57 d_M_layout_56 rfl ?_
      refine rn_iadd 58 d_M_layout_57 rfl ?_
      refine rn_aload_n 59 d_M_layout_58 rfl rfl ?_
      refine rn_getfield 62 d_M_layout_59 rfl fd_M_7 rfl rfl ?_
      rw [show (rS σ (σ 37) BR TG LN TU (σ 42)) 26 1 = σ 26 1 from rfl]
      refine rn_icmp_ge 76 65 d_M_layout_62 rfl rfl ⟨by omega, by omega⟩ ⟨by omega, by omega⟩ (fun c_62 => ?_) (fun c_62 => ?_)
      · refine rn_iconst 77 d_M_layout_76 rfl ?_
        exact J _ (by unfold nxM; (first | rw [if_pos (by omega)] | rw [if_neg (by omega)]))
      · refine rn_aload_n 66 d_M_layout_65 rfl rfl ?_
        refine rn_getfield 69 d_M_layout_66 rfl fd_M_58 rfl rfl ?_
        refine rn_iload_n 70 d_M_layout_69 rfl rfl ?_
        refine rn_iconst 71 d_M_layout_70 rfl ?_
        refine rn_iadd 72 d_M_layout_71 rfl ?_
        refine rn_iaload 73 d_M_layout_72 rfl rfl (by decide) (by omega) (by omega) ?_
        rw [show (rS σ (σ 37) BR TG LN TU (σ 42)) 37 ((k : Int) + 1) = σ 37 ((k : Int) + 1) from rfl]
        refine rn_goto 77 d_M_layout_73 rfl ?_
        exact J _ (by unfold nxM; (first | rw [if_pos (by omega)] | rw [if_neg (by omega)]))
/-- the reference's layout, with its rounds counted -/
def rE (σ : av_S) (BR TG LN TU GR : Int → Int) (ed : Int) : av_S := up (rS σ (σ 37) BR TG LN TU GR) 26 (uI (σ 26) 2 ed)
def qE (σ : av_S) (BR TG LN : Int → Int) : av_S := rE σ BR TG LN (σ 41) (σ 42) 0
def lnM (σ : av_S) (ps : Int → Nat) (BR TG LN : Int → Int) : Int → Int := fl (fun k => if cG (qE σ BR TG LN) ps k then 2 else LN k) LN (2 * σ 26 1)
def grM (σ : av_S) (ps : Int → Nat) (BR TG LN : Int → Int) : Prop := ∃ k, 0 ≤ k ∧ k < 2 * σ 26 1 ∧ cG (qE σ BR TG LN) ps k
def rM (σ : av_S) (ps : Int → Nat) (BR TG : Int → Int) : Nat → (Int → Int) → (Int → Int) → Prop
  | 0, LN, V => LN = V
  | m + 1, LN, V => grM σ ps BR TG LN ∧ rM σ ps BR TG m (lnM σ ps BR TG LN) V
def shM (LN : Int → Int) (n : Nat) : Int := sm (fun k => bz (¬ LN k = 2)) n
def bLN (σ : av_S) (LN : Int → Int) : Prop := ∀ k, 0 ≤ k → k < 2 * σ 26 1 → LN k = 1 ∨ LN k = 2
theorem lnM_bd {σ : av_S} {ps : Int → Nat} {BR TG LN : Int → Int} (h : bLN σ LN) : bLN σ (lnM σ ps BR TG LN) := by
  intro k h0 h1
  unfold lnM
  rw [fl_in ⟨h0, h1⟩]
  split
  · exact Or.inr rfl
  · exact h k h0 h1
theorem sm_lt {f g : Int → Int} : ∀ n : Nat, (∀ j : Nat, j < n → f (j : Int) ≤ g (j : Int)) → (sm f n ≤ sm g n) ∧ ((∃ j : Nat, j < n ∧ f (j : Int) < g (j : Int)) → sm f n < sm g n) := by
  intro n
  induction n with
  | zero => intro _; exact ⟨Int.le_refl _, fun ⟨j, h, _⟩ => by omega⟩
  | succ n ih =>
    intro h
    obtain ⟨i1, i2⟩ := ih (fun j hj => h j (by omega))
    have hn := h n (by omega)
    have e1 : sm f (n + 1) = sm f n + f (n : Int) := rfl
    have e2 : sm g (n + 1) = sm g n + g (n : Int) := rfl
    refine ⟨by omega, fun ⟨j, h1, h2⟩ => ?_⟩
    by_cases c : j = n
    · rw [c] at h2; omega
    · have := i2 ⟨j, by omega, h2⟩; omega
theorem shM_0 (LN : Int → Int) : ∀ n : Nat, 0 ≤ shM LN n := by
  intro n
  induction n with
  | zero => exact Int.le_refl _
  | succ n ih =>
    have e : shM LN (n + 1) = shM LN n + bz (¬ LN (n : Int) = 2) := rfl
    have : bz (¬ LN (n : Int) = 2) = 0 ∨ bz (¬ LN (n : Int) = 2) = 1 := bz_01
    omega
theorem shM_lt {σ : av_S} {ps : Int → Nat} {BR TG LN : Int → Int} (hn : 0 ≤ σ 26 1) (h : grM σ ps BR TG LN) : shM (lnM σ ps BR TG LN) (2 * σ 26 1).toNat < shM LN (2 * σ 26 1).toNat := by
  have key : ∀ k, 0 ≤ k → k < 2 * σ 26 1 → lnM σ ps BR TG LN k = if cG (qE σ BR TG LN) ps k then 2 else LN k := fun k a b => fl_in ⟨a, b⟩
  refine (sm_lt _ (fun j hj => ?_)).2 ?_
  · rw [key _ (by omega) (by omega)]
    by_cases c : cG (qE σ BR TG LN) ps (j : Int)
    · rw [if_pos c, bz_f (by omega)]
      have : bz (¬ LN (j : Int) = 2) = 0 ∨ bz (¬ LN (j : Int) = 2) = 1 := bz_01
      omega
    · rw [if_neg c]; exact Int.le_refl _
  · obtain ⟨k, k0, k1, k2⟩ := h
    refine ⟨k.toNat, by omega, ?_⟩
    rw [show ((k.toNat : Nat) : Int) = k by omega, key k k0 k1, if_pos k2, bz_f (by omega)]
    have : ¬ LN k = 2 := k2.2.1
    rw [bz_t this]
    omega
set_option maxRecDepth 100000 in
set_option maxHeartbeats 400000 in
theorem lenM_loop {sc : av_sc} {d n0 : Nat} {σ : av_S} {BR TG TU : Int → Int} {ps : Int → Nat} {md : Int} {Φ : Option av_V → av_H → Prop} (hI : iM σ) (hO : iOM σ) (hP : iPs σ ps) (hBR : ∀ b, 0 ≤ b → b < σ 26 1 → (0 ≤ BR b ∧ BR b ≤ 2) ∧ (TU b = 0 ∨ TU b = 1)) (hTG : ∀ k, 0 ≤ k → k < 2 * σ 26 1 → k % 2 < BR (k / 2) → 0 ≤ TG k ∧ TG k < σ 26 1) :
    ∀ (z : Nat) (LN GR : Int → Int) (ed : Int), shM LN (2 * σ 26 1).toNat < (z : Int) → bLN σ LN → (∀ (m : Nat) (V GR : Int → Int) (ed : Int), rM σ ps BR TG m LN V → bLN σ V → ¬ grM σ ps BR TG V → Φ (some (vI (sm (uM (qE σ BR TG V)) (σ 26 1).toNat))) (hp (rE σ BR TG V TU GR ed))) → av_Rn sc m_M_layout (d + 3) false n0 0 0 86 [some (vR 26), some (vI md), none] [] (hp (rE σ BR TG LN TU GR ed)) Φ := by
  have hn := hI.1
  intro z
  induction z with
  | zero =>
    intro LN GR ed hz hb hΦ
    have := shM_0 LN (2 * σ 26 1).toNat
    omega
  | succ z ih =>
    intro LN GR ed hz hb hΦ
    have hL : iLM (rE σ BR TG LN TU GR ed) := fun b q0 q1 => by
      have q1 : b < σ 26 1 := q1
      have x := hBR b q0 q1
      have x0 := hb (2 * b) (by omega) (by omega)
      have x1 := hb (2 * b + 1) (by omega) (by omega)
      have y0 : 1 ≤ LN (2 * b) ∧ LN (2 * b) ≤ 2 := by omega
      have y1 : 1 ≤ LN (2 * b + 1) ∧ LN (2 * b + 1) ≤ 2 := by omega
      exact ⟨x.1, y0, y1, x.2⟩
    refine rn_aload_n 87 d_M_layout_86 rfl rfl ?_
    refine rn_callV0 90 d_M_layout_87 rfl cw_M_139 rfl (Nat.le_of_ble_eq_true rfl) (ev_M_lengthen (σ := rE σ BR TG LN TU GR ed) (ps := ps) hI hL hO.1 hP hTG) ?_
    rintro _ h9 ⟨w, rfl, w01, hw, hh⟩
    have hw : w = 1 ↔ grM σ ps BR TG LN := hw
    have key : ∃ G2 : Int → Int, h9 = hp (rE σ BR TG (lnM σ ps BR TG LN) TU G2 ed) := by
      refine ⟨fl (fun k => bz (cG (rE σ BR TG LN TU GR ed) ps k)) GR (2 * σ 26 1), hh.trans ?_⟩
      have e : lnM σ ps BR TG LN = fl (fun k => if fl (fun k => bz (cG (rE σ BR TG LN TU GR ed) ps k)) GR (2 * σ 26 1) k = 1 then 2 else LN k) LN (2 * σ 26 1) := by
        funext k
        unfold lnM fl
        by_cases c : 0 ≤ k ∧ k < 2 * σ 26 1
        · rw [if_pos c, if_pos c]; dsimp only; rw [if_pos c]
          by_cases c2 : cG (rE σ BR TG LN TU GR ed) ps k
          · rw [bz_t c2]; exact if_pos c2
          · rw [bz_f c2]; exact if_neg c2
        · rw [if_neg c, if_neg c]
      rw [e]
      rfl
    obtain ⟨G2, rfl⟩ := key
    refine rn_if_eq 106 93 d_M_layout_90 rfl rfl ⟨by omega, by omega⟩ (fun c_90 => ?_) (fun c_90 => ?_)
    · have ng : ¬ grM σ ps BR TG LN := fun g => by have := hw.mpr g; omega
      have e : lnM σ ps BR TG LN = LN := by
        funext k
        unfold lnM fl
        split
        · rename_i c; exact if_neg (fun c2 => ng ⟨k, c.1, c.2, c2⟩)
        · rfl
      have hL2 : iLM (rE σ BR TG (lnM σ ps BR TG LN) TU G2 ed) := by rw [e]; exact hL
      refine rn_aload_n 107 d_M_layout_106 rfl rfl ?_
      refine rn_callV0 110 d_M_layout_107 rfl cw_M_142 rfl (Nat.le_of_ble_eq_true rfl) (ev_M_total (σ := rE σ BR TG (lnM σ ps BR TG LN) TU G2 ed) hI hL2) ?_
      rintro _ _ ⟨rfl, rfl⟩
      rw [e]
      exact rn_ireturn d_M_layout_110 (Or.inl rfl) (hΦ 0 LN G2 ed rfl hb ng)
    · refine rn_aload_n 94 d_M_layout_93 rfl rfl ?_
      refine rn_dup 95 d_M_layout_94 rfl rfl ?_
      refine rn_getfield 98 d_M_layout_95 rfl fd_M_13 rfl rfl ?_
      rw [show (rE σ BR TG (lnM σ ps BR TG LN) TU G2 ed) 26 2 = ed from rfl]
      refine rn_iconst 99 d_M_layout_98 rfl ?_
      refine rn_iadd 100 d_M_layout_99 rfl ?_
      refine rn_putfield 103 d_M_layout_100 rfl fp_M_13 rfl (Nat.le_of_ble_eq_true rfl) av_fitI (hs_26_2 _ _) ?_
      change av_Rn _ _ _ _ _ _ _ _ _ _ (hp (rE σ BR TG (lnM σ ps BR TG LN) TU G2 (ed + 1))) _
      refine rn_goto 86 d_M_layout_103 rfl ?_
      have g : grM σ ps BR TG LN := hw.mp (by omega)
      exact ih _ _ _ (by have := shM_lt hn.1 g; omega) (lnM_bd hb) (fun m V GR ed a1 a2 a3 => hΦ (m + 1) V GR ed ⟨g, a1⟩ a2 a3)
