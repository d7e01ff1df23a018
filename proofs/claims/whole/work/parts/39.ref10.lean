/-- one join, if it is one; and the joins along the first t of the edges A -/
abbrev jC (n : Nat) (to fn en : Int → Int) (CH PL : Int → Int) (e : Int) : Prop := PL (e / 2) = szF CH (CH (e / 2)) n - 1 ∧ PL (to e) = 0 ∧ CH (e / 2) ≠ CH (to e) ∧ to e ≠ en (fn (to e))
def jst (n : Nat) (to fn en : Int → Int) (s : (Int → Int) × (Int → Int)) (e : Int) : (Int → Int) × (Int → Int) := if jC n to fn en s.1 s.2 e then (fl (fun b => if s.1 b = s.1 (to e) then s.1 (e / 2) else s.1 b) s.1 (n : Int), fl (fun b => if s.1 b = s.1 (to e) then s.2 b + szF s.1 (s.1 (e / 2)) n else s.2 b) s.2 (n : Int)) else s
def jall (n : Nat) (to fn en : Int → Int) (s0 : (Int → Int) × (Int → Int)) (A : Int → Int) : Nat → (Int → Int) × (Int → Int)
  | 0 => s0
  | t + 1 => jst n to fn en (jall n to fn en s0 A t) (A (t : Int))
theorem jst_no {n : Nat} {to fn en : Int → Int} {s : (Int → Int) × (Int → Int)} {e : Int} (h : ¬ jC n to fn en s.1 s.2 e) : jst n to fn en s e = s := if_neg h
theorem jst_yes {n : Nat} {to fn en : Int → Int} {s : (Int → Int) × (Int → Int)} {e : Int} (h : jC n to fn en s.1 s.2 e) : jst n to fn en s e = (fl (fun b => if s.1 b = s.1 (to e) then s.1 (e / 2) else s.1 b) s.1 (n : Int), fl (fun b => if s.1 b = s.1 (to e) then s.2 b + szF s.1 (s.1 (e / 2)) n else s.2 b) s.2 (n : Int)) := if_pos h
theorem cI_jst {n : Nat} {to fn en : Int → Int} {s : (Int → Int) × (Int → Int)} {e : Int} (h : cI n fn (fun b => b = en (fn b)) s.1 s.2) (hx : 0 ≤ e / 2 ∧ e / 2 < (n : Int)) (hy : 0 ≤ to e ∧ to e < (n : Int)) (hf : fn (e / 2) = fn (to e)) : cI n fn (fun b => b = en (fn b)) (jst n to fn en s e).1 (jst n to fn en s e).2 := by
  unfold jst
  split
  · rename_i c
    exact cI_join h hx hy c.1 c.2.1 c.2.2.1 c.2.2.2 hf (fun b h0 h1 => by dsimp only; rw [fl_in ⟨h0, h1⟩]) (fun b h0 h1 => by dsimp only; rw [fl_in ⟨h0, h1⟩])
  · exact h
theorem cI_jall {n : Nat} {to fn en A : Int → Int} {s0 : (Int → Int) × (Int → Int)} (h : cI n fn (fun b => b = en (fn b)) s0.1 s0.2) (m : Nat) (hA : ∀ i : Nat, i < m → (0 ≤ A (i : Int) / 2 ∧ A (i : Int) / 2 < (n : Int)) ∧ (0 ≤ to (A (i : Int)) ∧ to (A (i : Int)) < (n : Int)) ∧ fn (A (i : Int) / 2) = fn (to (A (i : Int)))) : ∀ t : Nat, t ≤ m → cI n fn (fun b => b = en (fn b)) (jall n to fn en s0 A t).1 (jall n to fn en s0 A t).2 := by
  intro t
  induction t with
  | zero => intro _; exact h
  | succ t ih =>
    intro ht
    obtain ⟨a1, a2, a3⟩ := hA t (by omega)
    exact cI_jst (ih (by omega)) a1 a2 a3
theorem eR_as {ce : Int → Int} {a b : Int} (h : eR ce a b) (h2 : eR ce b a) : False := by unfold eR at h h2; omega
def mc (σ : av_S) (CH PL TK : Int → Int) (ed : Int) : av_S := up (up (up (up σ 33 CH) 34 PL) 35 TK) 26 (uI (σ 26) 2 ed)
/-- which edge the reference finds -/
theorem bsM_is {σ : av_S} {CH PL TK A : Int → Int} {ed m e : Int} {t : Nat} (hA : iED (mJM σ) (σ 32) A m (2 * σ 26 1)) (ht : (t : Int) ≤ m) (hTK : ∀ k, 0 ≤ k → k < 48 → TK k = 0 ∨ TK k = 1) (hn : 0 ≤ σ 26 1 ∧ σ 26 1 ≤ 24) (hT : ∀ k, 0 ≤ k → k < 2 * σ 26 1 → (TK k = 1 ↔ ∃ i, 0 ≤ i ∧ i < (t : Int) ∧ A i = k)) (h : bsM (mc σ CH PL TK ed) (2 * σ 26 1) e) : ((t : Int) < m ∧ e = A (t : Int)) ∨ ((t : Int) = m ∧ e = -1) := by
  obtain ⟨h1, h2, h3, h4, h5⟩ := hA
  have h : (e = -1 ∧ ∀ j, 0 ≤ j → j < 2 * σ 26 1 → ¬ (TK j = 0 ∧ mJM σ j)) ∨ ((0 ≤ e ∧ e < 2 * σ 26 1) ∧ (TK e = 0 ∧ mJM σ e) ∧ ∀ j, 0 ≤ j → j < 2 * σ 26 1 → (TK j = 0 ∧ mJM σ j) → j ≠ e → eR (σ 32) e j) := h
  have free : ∀ i, (t : Int) ≤ i → i < m → TK (A i) = 0 := by
    intro i a b
    have q := (h1 i (by omega) b).1
    rcases hTK (A i) q.1 (by omega) with z | z
    · exact z
    · obtain ⟨j, j0, j1, j2⟩ := (hT (A i) q.1 q.2).mp z
      have w := h3 j i j0 (by omega) b
      rw [j2] at w
      unfold eR at w; omega
  by_cases c : (t : Int) < m
  · left
    refine ⟨c, ?_⟩
    have q := h1 (t : Int) (by omega) c
    have el : TK (A (t : Int)) = 0 ∧ mJM σ (A (t : Int)) := ⟨free _ (Int.le_refl _) c, q.2⟩
    rcases h with ⟨-, z⟩ | ⟨z1, z2, z3⟩
    · exact absurd el (z _ q.1.1 q.1.2)
    · obtain ⟨i, i0, i1, i2⟩ := h2 e z1.1 z1.2 z2.2
      have ti : (t : Int) ≤ i := by
        rcases Int.lt_or_le i (t : Int) with w | w
        · have := (hT e z1.1 z1.2).mpr ⟨i, i0, w, i2⟩; omega
        · exact w
      by_cases w : i = (t : Int)
      · rw [← i2, w]
      · have w1 := h3 (t : Int) i (by omega) (by omega) i1
        rw [i2] at w1
        by_cases w2 : A (t : Int) = e
        · exact w2.symm
        · exact (eR_as w1 (z3 _ q.1.1 q.1.2 el w2)).elim
  · right
    refine ⟨by omega, ?_⟩
    rcases h with ⟨z, -⟩ | ⟨z1, z2, -⟩
    · exact z
    · obtain ⟨i, i0, i1, i2⟩ := h2 e z1.1 z1.2 z2.2
      have := (hT e z1.1 z1.2).mpr ⟨i, i0, by omega, i2⟩
      omega
set_option maxRecDepth 100000 in
set_option maxHeartbeats 400000 in
theorem chains_loop {sc : av_sc} {d n0 : Nat} {σ : av_S} {en A : Int → Int} {s0 : (Int → Int) × (Int → Int)} {m : Nat} {Φ : Option av_V → av_H → Prop} (hI : iM σ) (hEN : ∀ f, 0 ≤ f → f ≤ 3 → iEM σ f (en f)) (hTO : ∀ k, 0 ≤ k → k < 48 → 0 ≤ σ 30 k ∧ σ 30 k < 24) (hy : ∀ k, 0 ≤ k → k < 2 * σ 26 1 → k % 2 < σ 29 (k / 2) → σ 30 k < σ 26 1 ∧ σ 27 (k / 2) = σ 27 (σ 30 k)) (hA : iED (mJM σ) (σ 32) A (m : Int) (2 * σ 26 1)) (h0 : cI (σ 26 1).toNat (σ 27) (fun b => b = en (σ 27 b)) s0.1 s0.2)
    (hΦ : ∀ (TK : Int → Int) (ed : Int), (∀ k, 0 ≤ k → k < 48 → TK k = 0 ∨ TK k = 1) → Φ none (hp (mc σ (jall (σ 26 1).toNat (σ 30) (σ 27) en s0 A m).1 (jall (σ 26 1).toNat (σ 30) (σ 27) en s0 A m).2 TK ed))) :
    ∀ (z t : Nat) (TK : Int → Int) (ed : Int), t + z = m → (∀ k, 0 ≤ k → k < 48 → TK k = 0 ∨ TK k = 1) → (∀ k, 0 ≤ k → k < 2 * σ 26 1 → (TK k = 1 ↔ ∃ i, 0 ≤ i ∧ i < (t : Int) ∧ A i = k)) → av_Rn sc m_M_makeChains (d + 3) false n0 0 0 50 [some (vR 26), some (vI 1), none] [] (hp (mc σ (jall (σ 26 1).toNat (σ 30) (σ 27) en s0 A t).1 (jall (σ 26 1).toNat (σ 30) (σ 27) en s0 A t).2 TK ed)) Φ := by
  obtain ⟨hn, hB, hc31, hc32, hlo, hrg⟩ := id hI
  have hAA : ∀ i : Nat, i < m → (0 ≤ A (i : Int) / 2 ∧ A (i : Int) / 2 < (((σ 26 1).toNat : Nat) : Int)) ∧ (0 ≤ σ 30 (A (i : Int)) ∧ σ 30 (A (i : Int)) < (((σ 26 1).toNat : Nat) : Int)) ∧ σ 27 (A (i : Int) / 2) = σ 27 (σ 30 (A (i : Int))) := by
    intro i hi
    obtain ⟨q1, q2⟩ := hA.1 (i : Int) (by omega) (by omega)
    have q3 := hy (A (i : Int)) q1.1 q1.2 q2.1
    have q4 := hTO (A (i : Int)) q1.1 (by omega)
    exact ⟨⟨by omega, by omega⟩, ⟨q4.1, by omega⟩, q3.2⟩
  have hcI := cI_jall h0 m hAA
  intro z
  induction z with
  | zero =>
    intro t TK ed hz hTK hT
    obtain rfl : t = m := by omega
    have hc := hcI t (by omega)
    have w1 : ∀ b, 0 ≤ b → b < σ 26 1 → 0 ≤ (jall (σ 26 1).toNat (σ 30) (σ 27) en s0 A t).1 b ∧ (jall (σ 26 1).toNat (σ 30) (σ 27) en s0 A t).1 b < 24 := fun b q0 q1 => by have w := (hc.1 b q0 (by omega)).1; exact ⟨w.1, by omega⟩
    have w2 : ∀ b, 0 ≤ b → b < σ 26 1 → 0 ≤ (jall (σ 26 1).toNat (σ 30) (σ 27) en s0 A t).2 b ∧ (jall (σ 26 1).toNat (σ 30) (σ 27) en s0 A t).2 b < 24 := fun b q0 q1 => by have w := (hc.1 b q0 (by omega)).2.1; have w2 := szF_0 (CH := (jall (σ 26 1).toNat (σ 30) (σ 27) en s0 A t).1) (c := (jall (σ 26 1).toNat (σ 30) (σ 27) en s0 A t).1 b) (σ 26 1).toNat; exact ⟨w.1, by omega⟩
    refine rn_iload_n 51 d_M_makeChains_50 rfl rfl ?_
    refine rn_iconst 52 d_M_makeChains_51 rfl ?_
    refine rn_icmp_ne 75 55 d_M_makeChains_52 rfl rfl ⟨by omega, by omega⟩ ⟨by omega, by omega⟩ (fun c_52 => ?_) (fun c_52 => ?_)
    · exact absurd rfl c_52
    · refine rn_aload_n 56 d_M_makeChains_55 rfl rfl ?_
      refine rn_callV0 59 d_M_makeChains_56 rfl cw_M_104 rfl (Nat.le_of_ble_eq_true rfl) (ev_M_joinOne (σ := mc σ (jall (σ 26 1).toNat (σ 30) (σ 27) en s0 A t).1 (jall (σ 26 1).toNat (σ 30) (σ 27) en s0 A t).2 TK ed) (en := en) hI w1 w2 hEN hTK hTO (fun k q0 q1 q2 => (hy k q0 q1 q2).1)) ?_
      rintro _ _ ⟨e, he, hq⟩
      rcases bsM_is hA (by omega) hTK hn hT he with ⟨q, -⟩ | ⟨-, rfl⟩
      · omega
      rcases hq with ⟨-, rfl, rfl⟩ | ⟨q, -⟩
      case inr => omega
      refine rn_if_eq 75 62 d_M_makeChains_59 rfl rfl ⟨by decide, by decide⟩ (fun c_59 => ?_) (fun c_59 => ?_)
      · exact rn_return d_M_makeChains_75 rfl (hΦ TK ed hTK)
      · exact absurd rfl c_59
  | succ z ih =>
    intro t TK ed hz hTK hT
    have hc := hcI t (by omega)
    have w1 : ∀ b, 0 ≤ b → b < σ 26 1 → 0 ≤ (jall (σ 26 1).toNat (σ 30) (σ 27) en s0 A t).1 b ∧ (jall (σ 26 1).toNat (σ 30) (σ 27) en s0 A t).1 b < 24 := fun b q0 q1 => by have w := (hc.1 b q0 (by omega)).1; exact ⟨w.1, by omega⟩
    have w2 : ∀ b, 0 ≤ b → b < σ 26 1 → 0 ≤ (jall (σ 26 1).toNat (σ 30) (σ 27) en s0 A t).2 b ∧ (jall (σ 26 1).toNat (σ 30) (σ 27) en s0 A t).2 b < 24 := fun b q0 q1 => by have w := (hc.1 b q0 (by omega)).2.1; have w2 := szF_0 (CH := (jall (σ 26 1).toNat (σ 30) (σ 27) en s0 A t).1) (c := (jall (σ 26 1).toNat (σ 30) (σ 27) en s0 A t).1 b) (σ 26 1).toNat; exact ⟨w.1, by omega⟩
    have hTK' : ∀ k, 0 ≤ k → k < 48 → uI TK (A (t : Int)) 1 k = 0 ∨ uI TK (A (t : Int)) 1 k = 1 := by
      intro k q0 q1
      by_cases e : k = A (t : Int)
      · rw [e, uI_s]; exact Or.inr rfl
      · rw [uI_n _ _ e]; exact hTK k q0 q1
    have hT' : ∀ k, 0 ≤ k → k < 2 * σ 26 1 → (uI TK (A (t : Int)) 1 k = 1 ↔ ∃ i, 0 ≤ i ∧ i < ((t + 1 : Nat) : Int) ∧ A i = k) := by
      intro k q0 q1
      by_cases e : k = A (t : Int)
      · rw [e, uI_s]; exact ⟨fun _ => ⟨(t : Int), by omega, by omega, rfl⟩, fun _ => rfl⟩
      · rw [uI_n _ _ e, hT k q0 q1]
        constructor
        · rintro ⟨i, a, b, c⟩; exact ⟨i, a, by omega, c⟩
        · rintro ⟨i, a, b, c⟩
          by_cases w : i = (t : Int)
          · subst w; exact absurd c.symm e
          · exact ⟨i, a, by omega, c⟩
    refine rn_iload_n 51 d_M_makeChains_50 rfl rfl ?_
    refine rn_iconst 52 d_M_makeChains_51 rfl ?_
    refine rn_icmp_ne 75 55 d_M_makeChains_52 rfl rfl ⟨by omega, by omega⟩ ⟨by omega, by omega⟩ (fun c_52 => ?_) (fun c_52 => ?_)
    · exact absurd rfl c_52
    · refine rn_aload_n 56 d_M_makeChains_55 rfl rfl ?_
      refine rn_callV0 59 d_M_makeChains_56 rfl cw_M_104 rfl (Nat.le_of_ble_eq_true rfl) (ev_M_joinOne (σ := mc σ (jall (σ 26 1).toNat (σ 30) (σ 27) en s0 A t).1 (jall (σ 26 1).toNat (σ 30) (σ 27) en s0 A t).2 TK ed) (en := en) hI w1 w2 hEN hTK hTO (fun k q0 q1 q2 => (hy k q0 q1 q2).1)) ?_
      rintro _ h9 ⟨e, he, hq⟩
      rcases bsM_is hA (by omega) hTK hn hT he with ⟨-, rfl⟩ | ⟨q, -⟩
      case inr => omega
      rcases hq with ⟨q, -⟩ | ⟨-, rfl, hq⟩
      · have := (hA.1 (t : Int) (by omega) (by omega)).1.1; omega
      have hst : jall (σ 26 1).toNat (σ 30) (σ 27) en s0 A (t + 1) = jst (σ 26 1).toNat (σ 30) (σ 27) en (jall (σ 26 1).toNat (σ 30) (σ 27) en s0 A t) (A (t : Int)) := rfl
      have key : h9 = hp (mc σ (jall (σ 26 1).toNat (σ 30) (σ 27) en s0 A (t + 1)).1 (jall (σ 26 1).toNat (σ 30) (σ 27) en s0 A (t + 1)).2 (uI TK (A (t : Int)) 1) ed) := by
        rcases hq with ⟨nc, hh⟩ | ⟨cc, hh⟩
        · rw [hst, jst_no (n := (σ 26 1).toNat) (to := σ 30) (fn := σ 27) (en := en) (s := jall (σ 26 1).toNat (σ 30) (σ 27) en s0 A t) (e := A (t : Int)) nc]; exact hh
        · rw [hst, jst_yes (n := (σ 26 1).toNat) (to := σ 30) (fn := σ 27) (en := en) (s := jall (σ 26 1).toNat (σ 30) (σ 27) en s0 A t) (e := A (t : Int)) cc]; refine hh.trans ?_
          rw [show (((σ 26 1).toNat : Nat) : Int) = σ 26 1 by omega]
          rfl
      rw [key]
      refine rn_if_eq 75 62 d_M_makeChains_59 rfl rfl ⟨by decide, by decide⟩ (fun c_59 => ?_) (fun c_59 => ?_)
      · omega
      · refine rn_aload_n 63 d_M_makeChains_62 rfl rfl ?_
        refine rn_dup 64 d_M_makeChains_63 rfl rfl ?_
        refine rn_getfield 67 d_M_makeChains_64 rfl fd_M_13 rfl rfl ?_
        rw [show (mc σ (jall (σ 26 1).toNat (σ 30) (σ 27) en s0 A (t + 1)).1 (jall (σ 26 1).toNat (σ 30) (σ 27) en s0 A (t + 1)).2 (uI TK (A (t : Int)) 1) ed) 26 2 = ed from rfl]
        refine rn_iconst 68 d_M_makeChains_67 rfl ?_
        refine rn_iadd 69 d_M_makeChains_68 rfl ?_
        refine rn_putfield 72 d_M_makeChains_69 rfl fp_M_13 rfl (Nat.le_of_ble_eq_true rfl) av_fitI (hs_26_2 _ _) ?_
        change av_Rn _ _ _ _ _ _ _ _ _ _ (hp (mc σ (jall (σ 26 1).toNat (σ 30) (σ 27) en s0 A (t + 1)).1 (jall (σ 26 1).toNat (σ 30) (σ 27) en s0 A (t + 1)).2 (uI TK (A (t : Int)) 1) (ed + 1))) _
        refine rn_goto 50 d_M_makeChains_72 rfl ?_
        exact ih (t + 1) _ _ (by omega) hTK' hT'
