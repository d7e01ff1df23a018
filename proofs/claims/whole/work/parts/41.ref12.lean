/-- the reference while it puts the order -/
def mo (σ : av_S) (PD OR : Int → Int) (Co Ch : Int) : av_S := up (up (up σ 36 PD) 37 OR) 26 (fun j => if j = 3 then Co else if j = 4 then Ch else σ 26 j)
/-- c is the best chain of the blocks below k that aren't placed -/
def piC (CH PD : Int → Int) (Rl : Int → Int → Prop) (k c : Int) : Prop := (c = -1 ∧ ∀ b, 0 ≤ b → b < k → PD b ≠ 0) ∨ ((∃ b, 0 ≤ b ∧ b < k ∧ PD b = 0 ∧ c = CH b) ∧ ∀ b, 0 ≤ b → b < k → PD b = 0 → CH b = c ∨ Rl c (CH b))
section
variable {CH PD : Int → Int} {Rl : Int → Int → Prop} {k c : Int}
theorem piC_skip (h : piC CH PD Rl k c) (hk : PD k ≠ 0) : piC CH PD Rl (k + 1) c := by
  rcases h with ⟨a, h⟩ | ⟨⟨b, b0, b1, b2, b3⟩, h⟩
  · refine Or.inl ⟨a, fun b q0 q1 => ?_⟩
    by_cases e : b = k
    · rw [e]; exact hk
    · exact h b q0 (by omega)
  · refine Or.inr ⟨⟨b, b0, by omega, b2, b3⟩, fun b q0 q1 q2 => ?_⟩
    by_cases e : b = k
    · rw [e] at q2; exact absurd q2 hk
    · exact h b q0 (by omega) q2
theorem piC_keep (h : piC CH PD Rl k c) (hc : 0 ≤ c) (hk : CH k = c ∨ Rl c (CH k)) : piC CH PD Rl (k + 1) c := by
  rcases h with ⟨a, h⟩ | ⟨⟨b, b0, b1, b2, b3⟩, h⟩
  · omega
  · refine Or.inr ⟨⟨b, b0, by omega, b2, b3⟩, fun b q0 q1 q2 => ?_⟩
    by_cases e : b = k
    · rw [e]; exact hk
    · exact h b q0 (by omega) q2
theorem piC_new (h : piC CH PD Rl k c) (h0 : 0 ≤ k) (hp : PD k = 0) (hk : 0 ≤ c → Rl (CH k) c) (htr : 0 ≤ c → ∀ b, 0 ≤ b → b < k → Rl (CH k) c → Rl c (CH b) → Rl (CH k) (CH b)) (hr : ∀ b, 0 ≤ b → b < k → 0 ≤ CH b) : piC CH PD Rl (k + 1) (CH k) := by
  refine Or.inr ⟨⟨k, h0, by omega, hp, rfl⟩, fun b q0 q1 q2 => ?_⟩
  by_cases e : b = k
  · rw [e]; exact Or.inl rfl
  · rcases h with ⟨a, h⟩ | ⟨⟨x, b0, b1, b2, b3⟩, h⟩
    · exact absurd q2 (h b q0 (by omega))
    · have w := hr x b0 b1
      have hk := hk (by omega)
      right
      rcases h b q0 (by omega) q2 with e | e
      · rw [e]; exact hk
      · exact htr (by omega) b q0 (by omega) hk e
theorem piC_bd {n : Int} (h : piC CH PD Rl k c) (hk : k ≤ n) (hr : ∀ b, 0 ≤ b → b < n → 0 ≤ CH b ∧ CH b < n) (hn : 0 ≤ n) : -1 ≤ c ∧ (c < n ∨ c = -1) ∧ (∀ z : Int, z = c → 0 ≤ z → ∃ b, 0 ≤ b ∧ b < k ∧ c = CH b) := by
  rcases h with ⟨a, h⟩ | ⟨⟨x, b0, b1, b2, b3⟩, h⟩
  · exact ⟨by omega, Or.inr a, fun _ _ _ => by omega⟩
  · have := hr x b0 (by omega); exact ⟨by omega, Or.inl (by omega), fun _ _ _ => ⟨x, b0, b1, b3⟩⟩
end
theorem pick_is {CH PD HD : Int → Int} {Rl : Int → Int → Prop} {n c : Int} {m t : Nat} (hS : iS (fun b => CH b = b) Rl HD (m : Int) n) (ht : t < m) (hP : ∀ b, 0 ≤ b → b < n → (PD b = 0 ↔ ∀ i, 0 ≤ i → i < (t : Int) → CH b ≠ HD i)) (has : ∀ x y, (0 ≤ x ∧ x < n) → (0 ≤ y ∧ y < n) → Rl x y → Rl y x → False) (hr : ∀ b, 0 ≤ b → b < n → (0 ≤ CH b ∧ CH b < n) ∧ CH (CH b) = CH b) (h : piC CH PD Rl n c) : c = HD (t : Int) := by
  obtain ⟨s1, s2, s3, s4, s5⟩ := hS
  have q := s1 (t : Int) (by omega) (by omega)
  have q2 : CH (HD (t : Int)) = HD (t : Int) := q.2
  have p0 : PD (HD (t : Int)) = 0 := (hP _ q.1.1 q.1.2).mpr (fun i i0 i1 e => by
    rw [q2] at e
    have w := s3 i (t : Int) i0 i1 (by omega)
    rw [← e] at w
    exact has _ _ q.1 q.1 w w)
  rcases h with ⟨a, h⟩ | ⟨⟨b, b0, b1, b2, b3⟩, h⟩
  · exact absurd p0 (h _ q.1.1 q.1.2)
  · have w := hr b b0 b1
    obtain ⟨j, j0, j1, j2⟩ := s2 (CH b) w.1.1 w.1.2 w.2
    have tj : (t : Int) ≤ j := by
      rcases Int.lt_or_le j (t : Int) with z | z
      · exact absurd j2.symm ((hP b b0 b1).mp b2 j j0 z)
      · exact z
    rcases h _ q.1.1 q.1.2 p0 with e | e
    · rw [q2] at e; exact e.symm
    · rw [q2] at e
      by_cases w2 : j = (t : Int)
      · rw [b3, ← j2, w2]
      · have w1 := s3 (t : Int) j (by omega) (by omega) j1
        rw [j2, ← b3] at w1
        have w3 : 0 ≤ c ∧ c < n := by rw [b3]; exact w.1
        exact (has _ _ q.1 w3 w1 e).elim
/-- the order while a chain's blocks are written -/
def fo (TT base : Int → Int) (nn L k : Int) : Int → Int := fun p => if (nn ≤ p ∧ p < nn + L) ∧ TT p < k then TT p else base p
theorem fo_0 {TT base : Int → Int} {nn L : Int} (h : ∀ i, 0 ≤ i → i < L → 0 ≤ TT (nn + i)) : fo TT base nn L 0 = base := by
  funext p
  refine if_neg (fun w => ?_)
  have := h (p - nn) (by omega) (by omega)
  rw [show nn + (p - nn) = p by omega] at this
  omega
theorem fo_n {TT f : Int → Int} {nn L n : Int} (h0 : 0 ≤ nn) (hL : 0 ≤ L) (h : ∀ i, 0 ≤ i → i < L → TT (nn + i) < n) : fo TT (fl TT f nn) nn L n = fl TT f (nn + L) := by
  funext p
  unfold fo fl
  by_cases c : nn ≤ p ∧ p < nn + L
  · have := h (p - nn) (by omega) (by omega)
    rw [show nn + (p - nn) = p by omega] at this
    rw [if_pos ⟨c, this⟩, if_pos (by omega)]
  · rw [if_neg (fun w => c w.1)]
    by_cases c2 : 0 ≤ p ∧ p < nn
    · rw [if_pos c2, if_pos (by omega)]
    · rw [if_neg c2, if_neg (by omega)]
theorem fo_in {TT base : Int → Int} {nn L k q : Int} (hq : 0 ≤ q ∧ q < L) (hT : TT (nn + q) = k) (hu : ∀ i, 0 ≤ i → i < L → TT (nn + i) = k → i = q) : uI (fo TT base nn L k) (nn + q) k = fo TT base nn L (k + 1) := by
  funext p
  by_cases e : p = nn + q
  · rw [e, uI_s]; unfold fo; rw [hT, if_pos (by omega)]
  · rw [uI_n _ _ e]
    unfold fo
    by_cases c : nn ≤ p ∧ p < nn + L
    · have : TT p ≠ k := fun w => by
        have := hu (p - nn) (by omega) (by omega) (by rw [show nn + (p - nn) = p by omega]; exact w)
        omega
      by_cases c2 : TT p < k
      · rw [if_pos ⟨c, c2⟩, if_pos ⟨c, by omega⟩]
      · rw [if_neg (fun w => c2 w.2), if_neg (fun w => c2 (by omega))]
    · rw [if_neg (fun w => c w.1), if_neg (fun w => c w.1)]
theorem fo_out {TT base : Int → Int} {nn L k : Int} (hu : ∀ i, 0 ≤ i → i < L → TT (nn + i) ≠ k) : fo TT base nn L k = fo TT base nn L (k + 1) := by
  funext p
  unfold fo
  by_cases c : nn ≤ p ∧ p < nn + L
  · have : TT p ≠ k := fun w => hu (p - nn) (by omega) (by omega) (by rw [show nn + (p - nn) = p by omega]; exact w)
    by_cases c2 : TT p < k
    · rw [if_pos ⟨c, c2⟩, if_pos ⟨c, by omega⟩]
    · rw [if_neg (fun w => c2 w.2), if_neg (fun w => c2 (by omega))]
  · rw [if_neg (fun w => c w.1), if_neg (fun w => c w.1)]
set_option maxRecDepth 100000 in
set_option maxHeartbeats 400000 in
theorem pick_loop {sc : av_sc} {d n0 : Nat} {σ : av_S} {PD OR : Int → Int} {Co Ch md nn : Int} {Rl : Int → Int → Prop} [DecidableRel Rl] {Φ : Option av_V → av_H → Prop} (hn : 0 ≤ σ 26 1 ∧ σ 26 1 ≤ 24) (hmd : md = 0 ∨ md = 1) (hr : ∀ b, 0 ≤ b → b < σ 26 1 → (0 ≤ σ 33 b ∧ σ 33 b < σ 26 1) ∧ σ 33 (σ 33 b) = σ 33 b) (hPB : ∀ b, 0 ≤ b → b < σ 26 1 → PD b = 0 ∨ PD b = 1) (hbf : md = 1 → ∀ (PD OR : Int → Int) (Co Ch x y : Int), ((0 ≤ x ∧ x < σ 26 1) ∧ σ 33 x = x) → ((0 ≤ y ∧ y < σ 26 1) ∧ σ 33 y = y) → x ≠ y → av_Ev sc m_M_before (d + 2) false 0 0 [vR 26, vI x, vI y] (hp (mo σ PD OR Co Ch)) (fun r h => r = some (vI (bz (Rl x y))) ∧ h = hp (mo σ PD OR Co Ch))) (htr : ∀ x y z, (0 ≤ x ∧ x < σ 26 1) → (0 ≤ y ∧ y < σ 26 1) → (0 ≤ z ∧ z < σ 26 1) → Rl x y → Rl y z → Rl x z) (hto : ∀ x y, (0 ≤ x ∧ x < σ 26 1) → (0 ≤ y ∧ y < σ 26 1) → x ≠ y → ¬ Rl x y → Rl y x) (hm0 : md = 0 → ∀ b, 0 ≤ b → b < σ 26 1 → σ 33 b = b) (hm1 : md = 0 → ∀ x y, x < y → Rl x y) (hΦ : ∀ c : Int, piC (σ 33) PD Rl (σ 26 1) c → av_Rn sc m_M_putOrder (d + 3) false n0 0 0 119 [some (vR 26), some (vI md), some (vI nn), some (vI c), none, none] [] (hp (mo σ PD OR Co Ch)) Φ) :
    ∀ (m : Nat) (k c : Int), 0 ≤ k → k + (m : Int) = σ 26 1 → piC (σ 33) PD Rl k c → av_Rn sc m_M_putOrder (d + 3) false n0 0 0 48 [some (vR 26), some (vI md), some (vI nn), some (vI c), some (vI k), none] [] (hp (mo σ PD OR Co Ch)) Φ := by
  intro m
  induction m with
  | zero =>
    intro k c h0 hk hc
    obtain rfl : k = σ 26 1 := by omega
    refine rn_iload 50 d_M_putOrder_48 rfl rfl ?_
    refine rn_aload_n 51 d_M_putOrder_50 rfl rfl ?_
    refine rn_getfield 54 d_M_putOrder_51 rfl fd_M_7 rfl rfl ?_
    rw [show (mo σ PD OR Co Ch) 26 1 = σ 26 1 from rfl]
    refine rn_icmp_ge 119 57 d_M_putOrder_54 rfl rfl ⟨by omega, by omega⟩ ⟨by omega, by omega⟩ (fun c_54 => ?_) (fun c_54 => ?_)
    · exact rn_kill 4 rfl (hΦ c hc)
    · omega
  | succ m ih =>
    intro k c h0 hk hc
    obtain ⟨g1, g2, g3⟩ := piC_bd (n := σ 26 1) hc (by omega) (fun b q0 q1 => (hr b q0 q1).1) hn.1
    obtain ⟨r1, r2⟩ := hr k h0 (by omega)
    have r0 : ∀ b, 0 ≤ b → b < k → 0 ≤ σ 33 b := fun b q0 q1 => (hr b q0 (by omega)).1.1
    have pk := hPB k h0 (by omega)
    have hdc : 0 ≤ c → (0 ≤ c ∧ c < σ 26 1) ∧ σ 33 c = c := fun h => by
      obtain ⟨b, b0, b1, rfl⟩ := g3 _ rfl h
      exact hr b b0 (by omega)
    refine rn_iload 50 d_M_putOrder_48 rfl rfl ?_
    refine rn_aload_n 51 d_M_putOrder_50 rfl rfl ?_
    refine rn_getfield 54 d_M_putOrder_51 rfl fd_M_7 rfl rfl ?_
    rw [show (mo σ PD OR Co Ch) 26 1 = σ 26 1 from rfl]
    refine rn_icmp_ge 119 57 d_M_putOrder_54 rfl rfl ⟨by omega, by omega⟩ ⟨by omega, by omega⟩ (fun c_54 => ?_) (fun c_54 => ?_)
    · omega
    · refine rn_aload_n 58 d_M_putOrder_57 rfl rfl ?_
      refine rn_getfield 61 d_M_putOrder_58 rfl fd_M_55 rfl rfl ?_
      refine rn_iload 63 d_M_putOrder_61 rfl rfl ?_
      refine rn_baload 64 d_M_putOrder_63 rfl rfl (by decide) (by omega) (by omega) ?_
      rw [show (mo σ PD OR Co Ch) 36 k = PD k from rfl]
      refine rn_if_eq 70 67 d_M_putOrder_64 rfl rfl ⟨by omega, by omega⟩ (fun c_64 => ?_) (fun c_64 => ?_)
      · refine rn_iload_n 71 d_M_putOrder_70 rfl rfl ?_
        refine rn_if_lt 105 74 d_M_putOrder_71 rfl rfl ⟨by omega, by omega⟩ (fun c_71 => ?_) (fun c_71 => ?_)
        · refine rn_aload_n 106 d_M_putOrder_105 rfl rfl ?_
          refine rn_getfield 109 d_M_putOrder_106 rfl fd_M_45 rfl rfl ?_
          refine rn_iload 111 d_M_putOrder_109 rfl rfl ?_
          refine rn_iaload 112 d_M_putOrder_111 rfl rfl (by decide) (by omega) (by omega) ?_
          rw [show (mo σ PD OR Co Ch) 33 k = σ 33 k from rfl]
          refine rn_istore_n 113 d_M_putOrder_112 rfl (by decide) rfl rfl ?_
          refine rn_iinc 116 d_M_putOrder_113 rfl rfl (by decide) rfl rfl ?_
          refine rn_goto 48 d_M_putOrder_116 rfl ?_
          exact ih (k + 1) _ (by omega) (by omega) (piC_new hc h0 c_64 (fun w => absurd c_71 (by omega)) (fun w => absurd c_71 (by omega)) r0)
        · refine rn_iload_n 75 d_M_putOrder_74 rfl rfl ?_
          refine rn_iconst 76 d_M_putOrder_75 rfl ?_
          refine rn_icmp_ne 113 79 d_M_putOrder_76 rfl rfl ⟨by omega, by omega⟩ ⟨by omega, by omega⟩ (fun c_76 => ?_) (fun c_76 => ?_)
          · refine rn_iinc 116 d_M_putOrder_113 rfl rfl (by decide) rfl rfl ?_
            refine rn_goto 48 d_M_putOrder_116 rfl ?_
            exact ih (k + 1) c (by omega) (by omega) (piC_keep hc (by omega) (by have e0 := hm0 (by omega); obtain ⟨b, b0, b1, e⟩ := g3 _ rfl (by omega); rw [e0 b b0 (by omega)] at e; right; rw [e0 k h0 (by omega)]; exact hm1 (by omega) _ _ (by omega)))
          · refine rn_aload_n 80 d_M_putOrder_79 rfl rfl ?_
            refine rn_getfield 83 d_M_putOrder_80 rfl fd_M_45 rfl rfl ?_
            refine rn_iload 85 d_M_putOrder_83 rfl rfl ?_
            refine rn_iaload 86 d_M_putOrder_85 rfl rfl (by decide) (by omega) (by omega) ?_
            refine rn_iload_n 87 d_M_putOrder_86 rfl rfl ?_
            rw [show (mo σ PD OR Co Ch) 33 k = σ 33 k from rfl]
            refine rn_icmp_eq 113 90 d_M_putOrder_87 rfl rfl ⟨by omega, by omega⟩ ⟨by omega, by omega⟩ (fun c_87 => ?_) (fun c_87 => ?_)
            · refine rn_iinc 116 d_M_putOrder_113 rfl rfl (by decide) rfl rfl ?_
              refine rn_goto 48 d_M_putOrder_116 rfl ?_
              exact ih (k + 1) c (by omega) (by omega) (piC_keep hc (by omega) (Or.inl c_87))
            · refine rn_aload_n 91 d_M_putOrder_90 rfl rfl ?_
              refine rn_aload_n 92 d_M_putOrder_91 rfl rfl ?_
              refine rn_getfield 95 d_M_putOrder_92 rfl fd_M_45 rfl rfl ?_
              refine rn_iload 97 d_M_putOrder_95 rfl rfl ?_
              refine rn_iaload 98 d_M_putOrder_97 rfl rfl (by decide) (by omega) (by omega) ?_
              refine rn_iload_n 99 d_M_putOrder_98 rfl rfl ?_
              rw [show (mo σ PD OR Co Ch) 33 k = σ 33 k from rfl]
              refine rn_callV2 102 d_M_putOrder_99 rfl cw_M_118 rfl (Nat.le_of_ble_eq_true rfl) (hbf (by omega) PD OR Co Ch _ _ ⟨r1, r2⟩ (hdc (by omega)) c_87) ?_
              rintro _ _ ⟨rfl, rfl⟩
              refine rn_ifB_eq 113 105 d_M_putOrder_102 rfl rfl (fun c_102 => ?_) (fun c_102 => ?_)
              · refine rn_iinc 116 d_M_putOrder_113 rfl rfl (by decide) rfl rfl ?_
                refine rn_goto 48 d_M_putOrder_116 rfl ?_
                exact ih (k + 1) c (by omega) (by omega) (piC_keep hc (by omega) (Or.inr (hto _ _ r1 (hdc (by omega)).1 c_87 c_102)))
              · refine rn_aload_n 106 d_M_putOrder_105 rfl rfl ?_
                refine rn_getfield 109 d_M_putOrder_106 rfl fd_M_45 rfl rfl ?_
                refine rn_iload 111 d_M_putOrder_109 rfl rfl ?_
                refine rn_iaload 112 d_M_putOrder_111 rfl rfl (by decide) (by omega) (by omega) ?_
                rw [show (mo σ PD OR Co Ch) 33 k = σ 33 k from rfl]
                refine rn_istore_n 113 d_M_putOrder_112 rfl (by decide) rfl rfl ?_
                refine rn_iinc 116 d_M_putOrder_113 rfl rfl (by decide) rfl rfl ?_
                refine rn_goto 48 d_M_putOrder_116 rfl ?_
                exact ih (k + 1) _ (by omega) (by omega) (piC_new hc h0 c_64 (fun _ => c_102) (fun _ b q0 q1 a1 a2 => htr _ _ _ r1 (hdc (by omega)).1 (hr b q0 (by omega)).1 a1 a2) r0)
      · refine rn_goto 113 d_M_putOrder_67 rfl ?_
        refine rn_iinc 116 d_M_putOrder_113 rfl rfl (by decide) rfl rfl ?_
        refine rn_goto 48 d_M_putOrder_116 rfl ?_
        exact ih (k + 1) c (by omega) (by omega) (piC_skip hc c_64)
set_option maxRecDepth 100000 in
set_option maxHeartbeats 400000 in
theorem fill_loopM {sc : av_sc} {d n0 : Nat} {σ : av_S} {PD TT : Int → Int} {Co Ch md nn c L : Int} {Φ : Option av_V → av_H → Prop} (hn : 0 ≤ σ 26 1 ∧ σ 26 1 ≤ 24) (hr : ∀ b, 0 ≤ b → b < σ 26 1 → (0 ≤ σ 33 b ∧ σ 33 b < σ 26 1) ∧ σ 33 (σ 33 b) = σ 33 b) (hc : 0 ≤ c ∧ c < 24) (hnn : 0 ≤ nn ∧ nn + L ≤ σ 26 1) (hL : 0 ≤ L)
    (h1 : ∀ i, 0 ≤ i → i < L → (0 ≤ TT (nn + i) ∧ TT (nn + i) < σ 26 1) ∧ σ 33 (TT (nn + i)) = c ∧ σ 34 (TT (nn + i)) = i) (h2 : ∀ b, 0 ≤ b → b < σ 26 1 → σ 33 b = c → (0 ≤ σ 34 b ∧ σ 34 b < L) ∧ TT (nn + σ 34 b) = b)
    (hΦ : av_Rn sc m_M_putOrder d false n0 0 0 35 [some (vR 26), some (vI md), some (vI (nn + L)), none, none, none] [] (hp (mo σ (fl (fun b => if σ 33 b = c then 1 else PD b) PD (σ 26 1)) (fl TT (σ 37) (nn + L)) Co Ch)) Φ) :
    ∀ (m : Nat) (k : Int), 0 ≤ k → k + (m : Int) = σ 26 1 → av_Rn sc m_M_putOrder d false n0 0 0 163 [some (vR 26), some (vI md), some (vI nn), some (vI c), some (vI L), some (vI k)] [] (hp (mo σ (fl (fun b => if σ 33 b = c then 1 else PD b) PD k) (fo TT (fl TT (σ 37) nn) nn L k) Co Ch)) Φ := by
  intro m
  induction m with
  | zero =>
    intro k h0 hk
    obtain rfl : k = σ 26 1 := by omega
    refine rn_iload 165 d_M_putOrder_163 rfl rfl ?_
    refine rn_aload_n 166 d_M_putOrder_165 rfl rfl ?_
    refine rn_getfield 169 d_M_putOrder_166 rfl fd_M_7 rfl rfl ?_
    rw [show (mo σ (fl (fun b => if σ 33 b = c then 1 else PD b) PD (σ 26 1)) (fo TT (fl TT (σ 37) nn) nn L (σ 26 1)) Co Ch) 26 1 = σ 26 1 from rfl]
    refine rn_icmp_ge 216 172 d_M_putOrder_169 rfl rfl ⟨by omega, by omega⟩ ⟨by omega, by omega⟩ (fun c_169 => ?_) (fun c_169 => ?_)
    · refine rn_iload_n 217 d_M_putOrder_216 rfl rfl ?_
      refine rn_iload 219 d_M_putOrder_217 rfl rfl ?_
      refine rn_iadd 220 d_M_putOrder_219 rfl ?_
      refine rn_istore_n 221 d_M_putOrder_220 rfl (by decide) rfl rfl ?_
      refine rn_goto 35 d_M_putOrder_221 rfl ?_
      refine rn_kill 3 rfl (rn_kill 4 rfl (rn_kill 5 rfl ?_))
      rw [fo_n hnn.1 hL (fun i a b => (h1 i a b).1.2)]
      exact hΦ
    · omega
  | succ m ih =>
    intro k h0 hk
    have w0 := hr k h0 (by omega)
    refine rn_iload 165 d_M_putOrder_163 rfl rfl ?_
    refine rn_aload_n 166 d_M_putOrder_165 rfl rfl ?_
    refine rn_getfield 169 d_M_putOrder_166 rfl fd_M_7 rfl rfl ?_
    rw [show (mo σ (fl (fun b => if σ 33 b = c then 1 else PD b) PD k) (fo TT (fl TT (σ 37) nn) nn L k) Co Ch) 26 1 = σ 26 1 from rfl]
    refine rn_icmp_ge 216 172 d_M_putOrder_169 rfl rfl ⟨by omega, by omega⟩ ⟨by omega, by omega⟩ (fun c_169 => ?_) (fun c_169 => ?_)
    · omega
    · refine rn_aload_n 173 d_M_putOrder_172 rfl rfl ?_
      refine rn_getfield 176 d_M_putOrder_173 rfl fd_M_45 rfl rfl ?_
      refine rn_iload 178 d_M_putOrder_176 rfl rfl ?_
      refine rn_iaload 179 d_M_putOrder_178 rfl rfl (by decide) (by omega) (by omega) ?_
      rw [show (mo σ (fl (fun b => if σ 33 b = c then 1 else PD b) PD k) (fo TT (fl TT (σ 37) nn) nn L k) Co Ch) 33 k = σ 33 k from rfl]
      refine rn_iload_n 180 d_M_putOrder_179 rfl rfl ?_
      refine rn_icmp_eq 186 183 d_M_putOrder_180 rfl rfl ⟨by omega, by omega⟩ ⟨by omega, by omega⟩ (fun c_180 => ?_) (fun c_180 => ?_)
      · have w2 := h2 k h0 (by omega) c_180
        refine rn_aload_n 187 d_M_putOrder_186 rfl rfl ?_
        refine rn_getfield 190 d_M_putOrder_187 rfl fd_M_58 rfl rfl ?_
        refine rn_iload_n 191 d_M_putOrder_190 rfl rfl ?_
        refine rn_aload_n 192 d_M_putOrder_191 rfl rfl ?_
        refine rn_getfield 195 d_M_putOrder_192 rfl fd_M_48 rfl rfl ?_
        refine rn_iload 197 d_M_putOrder_195 rfl rfl ?_
        refine rn_iaload 198 d_M_putOrder_197 rfl rfl (by decide) (by omega) (by omega) ?_
        rw [show (mo σ (fl (fun b => if σ 33 b = c then 1 else PD b) PD k) (fo TT (fl TT (σ 37) nn) nn L k) Co Ch) 34 k = σ 34 k from rfl]
        refine rn_iadd 199 d_M_putOrder_198 rfl ?_
        refine rn_iload 201 d_M_putOrder_199 rfl rfl ?_
        refine rn_iastore 202 d_M_putOrder_201 rfl rfl (by decide) (by omega) (by omega) (hs_37 _ _) ?_
        change av_Rn _ _ _ _ _ _ _ _ _ _ (hp (mo σ (fl (fun b => if σ 33 b = c then 1 else PD b) PD k) (uI (fo TT (fl TT (σ 37) nn) nn L k) (nn + σ 34 k) k) Co Ch)) _
        refine rn_aload_n 203 d_M_putOrder_202 rfl rfl ?_
        refine rn_getfield 206 d_M_putOrder_203 rfl fd_M_55 rfl rfl ?_
        refine rn_iload 208 d_M_putOrder_206 rfl rfl ?_
        refine rn_iconst 209 d_M_putOrder_208 rfl ?_
        refine rn_bastore 210 d_M_putOrder_209 rfl rfl (by decide) (by omega) (by omega) (by omega) (hs_36 _ _) ?_
        refine rn_iinc 213 d_M_putOrder_210 rfl rfl (by decide) rfl rfl ?_
        refine rn_goto 163 d_M_putOrder_213 rfl ?_
        change av_Rn _ _ _ _ _ _ _ _ _ _ (hp (mo σ (uI (fl (fun b => if σ 33 b = c then 1 else PD b) PD k) k 1) (uI (fo TT (fl TT (σ 37) nn) nn L k) (nn + σ 34 k) k) Co Ch)) _
        rw [fl_step h0 (by rw [if_pos c_180]), fo_in w2.1 w2.2 (fun i a b e => by have := (h1 i a b).2.2; rw [e] at this; omega)]
        exact ih (k + 1) (by omega) (by omega)
      · refine rn_goto 210 d_M_putOrder_183 rfl ?_
        refine rn_iinc 213 d_M_putOrder_210 rfl rfl (by decide) rfl rfl ?_
        refine rn_goto 163 d_M_putOrder_213 rfl ?_
        rw [fl_skip h0 (show (fun b => if σ 33 b = c then 1 else PD b) k = PD k from if_neg c_180), fo_out (fun i a b e => by have := (h1 i a b).2.1; rw [e] at this; exact c_180 this)]
        exact ih (k + 1) (by omega) (by omega)
