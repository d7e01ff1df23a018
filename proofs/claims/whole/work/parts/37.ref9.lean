/-- an edge that the reference may still take -/
abbrev mJM (σ : av_S) (e : Int) : Prop := e % 2 < σ 29 (e / 2) ∧ ¬ σ 32 e = 0 ∧ ¬ σ 30 e = e / 2
abbrev elM (σ : av_S) (e : Int) : Prop := σ 35 e = 0 ∧ mJM σ e
/-- the best of those below k, or -1 -/
def bsM (σ : av_S) (k b : Int) : Prop := (b = -1 ∧ ∀ j, 0 ≤ j → j < k → ¬ elM σ j) ∨ ((0 ≤ b ∧ b < k) ∧ elM σ b ∧ ∀ j, 0 ≤ j → j < k → elM σ j → j ≠ b → eR (σ 32) b j)
theorem bsM_skip {σ : av_S} {k b : Int} (h : bsM σ k b) (hk : ¬ elM σ k) : bsM σ (k + 1) b := by
  rcases h with ⟨h1, h2⟩ | ⟨h1, h2, h3⟩
  · refine Or.inl ⟨h1, fun j a c => ?_⟩
    by_cases e : j = k
    · subst e; exact hk
    · exact h2 j a (by omega)
  · refine Or.inr ⟨⟨h1.1, by omega⟩, h2, fun j a c d e => ?_⟩
    by_cases f : j = k
    · subst f; exact absurd d hk
    · exact h3 j a (by omega) d e
theorem bsM_keep {σ : av_S} {k b : Int} (h : bsM σ k b) (hb : 0 ≤ b) (hc : σ 32 k ≤ σ 32 b) : bsM σ (k + 1) b := by
  rcases h with ⟨h1, h2⟩ | ⟨h1, h2, h3⟩
  · omega
  · refine Or.inr ⟨⟨h1.1, by omega⟩, h2, fun j a c d e => ?_⟩
    by_cases f : j = k
    · subst f; unfold eR; omega
    · exact h3 j a (by omega) d e
theorem bsM_new {σ : av_S} {k b : Int} (h : bsM σ k b) (h0 : 0 ≤ k) (hk : elM σ k) (hc : b < 0 ∨ σ 32 b < σ 32 k) : bsM σ (k + 1) k := by
  refine Or.inr ⟨⟨h0, by omega⟩, hk, fun j a c d e => ?_⟩
  rcases h with ⟨h1, h2⟩ | ⟨h1, h2, h3⟩
  · exact absurd d (h2 j a (by omega))
  · by_cases f : j = b
    · subst f; unfold eR; omega
    · have := h3 j a (by omega) d f
      unfold eR at this ⊢; omega
set_option maxRecDepth 100000 in
set_option maxHeartbeats 400000 in
theorem joinM_loop {sc : av_sc} {d n0 bc bs : Nat} {al : Bool} {σ : av_S} {e : Int} {Φ : Option av_V → av_H → Prop} (hn : 0 ≤ σ 26 1 ∧ σ 26 1 ≤ 24) (hCH : ∀ b, 0 ≤ b → b < σ 26 1 → 0 ≤ σ 33 b ∧ σ 33 b < 24) (hd : 0 ≤ (σ 33 (σ 30 e)) ∧ (σ 33 (σ 30 e)) < 24) (hΦ : Φ (some (vI 1)) (hp (up (up (up σ 35 (uI (σ 35) e 1)) 33 (fl (fun b => if σ 33 b = (σ 33 (σ 30 e)) then (σ 33 (e / 2)) else σ 33 b) (σ 33) (σ 26 1))) 34 (fl (fun b => if σ 33 b = (σ 33 (σ 30 e)) then σ 34 b + szM σ (σ 33 (e / 2)) (σ 26 1).toNat else σ 34 b) (σ 34) (σ 26 1))))) :
    ∀ (z : Nat) (k : Int), 0 ≤ k → k + (z : Int) = σ 26 1 → av_Rn sc m_M_joinOne (d + 1) al n0 bc bs 184 [some (vR 26), some (vI e), some (vI (e / 2)), some (vI (σ 30 e)), some (vI (σ 33 (e / 2))), some (vI (σ 33 (σ 30 e))), some (vI (szM σ (σ 33 (e / 2)) (σ 26 1).toNat)), some (vI k)] [] (hp (up (up (up σ 35 (uI (σ 35) e 1)) 33 (fl (fun b => if σ 33 b = (σ 33 (σ 30 e)) then (σ 33 (e / 2)) else σ 33 b) (σ 33) k)) 34 (fl (fun b => if σ 33 b = (σ 33 (σ 30 e)) then σ 34 b + szM σ (σ 33 (e / 2)) (σ 26 1).toNat else σ 34 b) (σ 34) k))) Φ := by
  intro z
  induction z with
  | zero =>
    intro k h0 hz
    obtain rfl : k = σ 26 1 := by omega
    refine rn_iload 186 d_M_joinOne_184 rfl rfl ?_
    refine rn_aload_n 187 d_M_joinOne_186 rfl rfl ?_
    refine rn_getfield 190 d_M_joinOne_187 rfl fd_M_7 rfl rfl ?_
    rw [show (up (up (up σ 35 (uI (σ 35) e 1)) 33 (fl (fun b => if σ 33 b = (σ 33 (σ 30 e)) then (σ 33 (e / 2)) else σ 33 b) (σ 33) (σ 26 1))) 34 (fl (fun b => if σ 33 b = (σ 33 (σ 30 e)) then σ 34 b + szM σ (σ 33 (e / 2)) (σ 26 1).toNat else σ 34 b) (σ 34) (σ 26 1))) 26 1 = σ 26 1 from rfl]
    refine rn_icmp_ge 235 193 d_M_joinOne_190 rfl rfl ⟨by omega, by omega⟩ ⟨by omega, by omega⟩ (fun c_190 => ?_) (fun c_190 => ?_)
    · refine rn_iconst 236 d_M_joinOne_235 rfl ?_
      exact rn_ireturn d_M_joinOne_236 (Or.inr ⟨rfl, Or.inr rfl⟩) hΦ
    · omega
  | succ z ih =>
    intro k h0 hz
    have hk1 := hCH k h0 (by omega)
    refine rn_iload 186 d_M_joinOne_184 rfl rfl ?_
    refine rn_aload_n 187 d_M_joinOne_186 rfl rfl ?_
    refine rn_getfield 190 d_M_joinOne_187 rfl fd_M_7 rfl rfl ?_
    rw [show (up (up (up σ 35 (uI (σ 35) e 1)) 33 (fl (fun b => if σ 33 b = (σ 33 (σ 30 e)) then (σ 33 (e / 2)) else σ 33 b) (σ 33) k)) 34 (fl (fun b => if σ 33 b = (σ 33 (σ 30 e)) then σ 34 b + szM σ (σ 33 (e / 2)) (σ 26 1).toNat else σ 34 b) (σ 34) k)) 26 1 = σ 26 1 from rfl]
    refine rn_icmp_ge 235 193 d_M_joinOne_190 rfl rfl ⟨by omega, by omega⟩ ⟨by omega, by omega⟩ (fun c_190 => ?_) (fun c_190 => ?_)
    · omega
    · refine rn_aload_n 194 d_M_joinOne_193 rfl rfl ?_
      refine rn_getfield 197 d_M_joinOne_194 rfl fd_M_45 rfl rfl ?_
      refine rn_iload 199 d_M_joinOne_197 rfl rfl ?_
      refine rn_iaload 200 d_M_joinOne_199 rfl rfl (by decide) (by omega) (by omega) ?_
      rw [show (up (up (up σ 35 (uI (σ 35) e 1)) 33 (fl (fun b => if σ 33 b = (σ 33 (σ 30 e)) then (σ 33 (e / 2)) else σ 33 b) (σ 33) k)) 34 (fl (fun b => if σ 33 b = (σ 33 (σ 30 e)) then σ 34 b + szM σ (σ 33 (e / 2)) (σ 26 1).toNat else σ 34 b) (σ 34) k)) 33 k = fl (fun b => if σ 33 b = (σ 33 (σ 30 e)) then (σ 33 (e / 2)) else σ 33 b) (σ 33) k k from rfl]
      rw [fl_at]
      refine rn_iload 202 d_M_joinOne_200 rfl rfl ?_
      refine rn_icmp_eq 208 205 d_M_joinOne_202 rfl rfl ⟨by omega, by omega⟩ ⟨by omega, by omega⟩ (fun c_202 => ?_) (fun c_202 => ?_)
      · refine rn_aload_n 209 d_M_joinOne_208 rfl rfl ?_
        refine rn_getfield 212 d_M_joinOne_209 rfl fd_M_45 rfl rfl ?_
        refine rn_iload 214 d_M_joinOne_212 rfl rfl ?_
        refine rn_iload 216 d_M_joinOne_214 rfl rfl ?_
        refine rn_iastore 217 d_M_joinOne_216 rfl rfl (by decide) (by omega) (by omega) (hs_33 _ _) ?_
        change av_Rn _ _ _ _ _ _ _ _ _ _ (hp (up (up (up σ 35 (uI (σ 35) e 1)) 33 (uI (fl (fun b => if σ 33 b = (σ 33 (σ 30 e)) then (σ 33 (e / 2)) else σ 33 b) (σ 33) k) k (σ 33 (e / 2)))) 34 (fl (fun b => if σ 33 b = (σ 33 (σ 30 e)) then σ 34 b + szM σ (σ 33 (e / 2)) (σ 26 1).toNat else σ 34 b) (σ 34) k))) _
        refine rn_aload_n 218 d_M_joinOne_217 rfl rfl ?_
        refine rn_getfield 221 d_M_joinOne_218 rfl fd_M_48 rfl rfl ?_
        refine rn_iload 223 d_M_joinOne_221 rfl rfl ?_
        refine rn_dup2 224 d_M_joinOne_223 rfl rfl rfl ?_
        refine rn_iaload 225 d_M_joinOne_224 rfl rfl (by decide) (by omega) (by omega) ?_
        rw [show (up (up (up σ 35 (uI (σ 35) e 1)) 33 (uI (fl (fun b => if σ 33 b = (σ 33 (σ 30 e)) then (σ 33 (e / 2)) else σ 33 b) (σ 33) k) k (σ 33 (e / 2)))) 34 (fl (fun b => if σ 33 b = (σ 33 (σ 30 e)) then σ 34 b + szM σ (σ 33 (e / 2)) (σ 26 1).toNat else σ 34 b) (σ 34) k)) 34 k = fl (fun b => if σ 33 b = (σ 33 (σ 30 e)) then σ 34 b + szM σ (σ 33 (e / 2)) (σ 26 1).toNat else σ 34 b) (σ 34) k k from rfl]
        rw [fl_at]
        refine rn_iload 227 d_M_joinOne_225 rfl rfl ?_
        refine rn_iadd 228 d_M_joinOne_227 rfl ?_
        refine rn_iastore 229 d_M_joinOne_228 rfl rfl (by decide) (by omega) (by omega) (hs_34 _ _) ?_
        by_cases hq : σ 33 k = (σ 33 (σ 30 e))
        · first | (exfalso; omega) | (change av_Rn _ _ _ _ _ _ _ _ _ _ (hp (up (up (up σ 35 (uI (σ 35) e 1)) 33 (uI (fl (fun b => if σ 33 b = (σ 33 (σ 30 e)) then (σ 33 (e / 2)) else σ 33 b) (σ 33) k) k (σ 33 (e / 2)))) 34 (uI (fl (fun b => if σ 33 b = (σ 33 (σ 30 e)) then σ 34 b + szM σ (σ 33 (e / 2)) (σ 26 1).toNat else σ 34 b) (σ 34) k) k (σ 34 k + szM σ (σ 33 (e / 2)) (σ 26 1).toNat)))) _; rw [fl_step (g := (fun b => if σ 33 b = (σ 33 (σ 30 e)) then (σ 33 (e / 2)) else σ 33 b)) (f := σ 33) (k := k) (z := (σ 33 (e / 2))) h0 (if_pos hq).symm, fl_step (g := (fun b => if σ 33 b = (σ 33 (σ 30 e)) then σ 34 b + szM σ (σ 33 (e / 2)) (σ 26 1).toNat else σ 34 b)) (f := σ 34) (k := k) (z := σ 34 k + szM σ (σ 33 (e / 2)) (σ 26 1).toNat) h0 (if_pos hq).symm]; refine rn_iinc 232 d_M_joinOne_229 rfl rfl (by decide) rfl rfl ?_; refine rn_goto 184 d_M_joinOne_232 rfl ?_; exact ih (k + 1) (by omega) (by omega))
        · first | (exfalso; omega) | (rw [fl_skip (g := (fun b => if σ 33 b = (σ 33 (σ 30 e)) then (σ 33 (e / 2)) else σ 33 b)) (f := σ 33) (k := k) h0 (if_neg hq), fl_skip (g := (fun b => if σ 33 b = (σ 33 (σ 30 e)) then σ 34 b + szM σ (σ 33 (e / 2)) (σ 26 1).toNat else σ 34 b)) (f := σ 34) (k := k) h0 (if_neg hq)]; refine rn_iinc 232 d_M_joinOne_229 rfl rfl (by decide) rfl rfl ?_; refine rn_goto 184 d_M_joinOne_232 rfl ?_; exact ih (k + 1) (by omega) (by omega))
      · refine rn_goto 229 d_M_joinOne_205 rfl ?_
        by_cases hq : σ 33 k = (σ 33 (σ 30 e))
        · first | (exfalso; omega) | (change av_Rn _ _ _ _ _ _ _ _ _ _ (hp (up (up (up σ 35 (uI (σ 35) e 1)) 33 (uI (fl (fun b => if σ 33 b = (σ 33 (σ 30 e)) then (σ 33 (e / 2)) else σ 33 b) (σ 33) k) k (σ 33 (e / 2)))) 34 (uI (fl (fun b => if σ 33 b = (σ 33 (σ 30 e)) then σ 34 b + szM σ (σ 33 (e / 2)) (σ 26 1).toNat else σ 34 b) (σ 34) k) k (σ 34 k + szM σ (σ 33 (e / 2)) (σ 26 1).toNat)))) _; rw [fl_step (g := (fun b => if σ 33 b = (σ 33 (σ 30 e)) then (σ 33 (e / 2)) else σ 33 b)) (f := σ 33) (k := k) (z := (σ 33 (e / 2))) h0 (if_pos hq).symm, fl_step (g := (fun b => if σ 33 b = (σ 33 (σ 30 e)) then σ 34 b + szM σ (σ 33 (e / 2)) (σ 26 1).toNat else σ 34 b)) (f := σ 34) (k := k) (z := σ 34 k + szM σ (σ 33 (e / 2)) (σ 26 1).toNat) h0 (if_pos hq).symm]; refine rn_iinc 232 d_M_joinOne_229 rfl rfl (by decide) rfl rfl ?_; refine rn_goto 184 d_M_joinOne_232 rfl ?_; exact ih (k + 1) (by omega) (by omega))
        · first | (exfalso; omega) | (rw [fl_skip (g := (fun b => if σ 33 b = (σ 33 (σ 30 e)) then (σ 33 (e / 2)) else σ 33 b)) (f := σ 33) (k := k) h0 (if_neg hq), fl_skip (g := (fun b => if σ 33 b = (σ 33 (σ 30 e)) then σ 34 b + szM σ (σ 33 (e / 2)) (σ 26 1).toNat else σ 34 b)) (f := σ 34) (k := k) h0 (if_neg hq)]; refine rn_iinc 232 d_M_joinOne_229 rfl rfl (by decide) rfl rfl ?_; refine rn_goto 184 d_M_joinOne_232 rfl ?_; exact ih (k + 1) (by omega) (by omega))
set_option maxRecDepth 100000 in
set_option maxHeartbeats 400000 in
theorem joinM_end {sc : av_sc} {d n0 : Nat} {σ : av_S} {e k : Int} {en : Int → Int} (hI : iM σ) (hCH : ∀ b, 0 ≤ b → b < σ 26 1 → 0 ≤ σ 33 b ∧ σ 33 b < 24) (hPL : ∀ b, 0 ≤ b → b < σ 26 1 → 0 ≤ σ 34 b ∧ σ 34 b < 24) (hEN : ∀ f, 0 ≤ f → f ≤ 3 → iEM σ f (en f)) (hTK : ∀ k, 0 ≤ k → k < 48 → σ 35 k = 0 ∨ σ 35 k = 1) (hTO : ∀ k, 0 ≤ k → k < 48 → 0 ≤ σ 30 k ∧ σ 30 k < 24) (he : -1 ≤ e ∧ e < 2 * σ 26 1) (hy : 0 ≤ e → σ 30 e < σ 26 1) :
    av_Rn sc m_M_joinOne (d + 2) false n0 0 0 88 [some (vR 26), some (vI e), some (vI k), none, none, none, none, none] [] (hp σ) (fun r h => ((e = -1 ∧ r = some (vI 0) ∧ h = hp σ) ∨ (0 ≤ e ∧ r = some (vI 1) ∧ ((¬ (σ 34 (e / 2) = szM σ (σ 33 (e / 2)) (σ 26 1).toNat - 1 ∧ σ 34 (σ 30 e) = 0 ∧ (σ 33 (e / 2)) ≠ (σ 33 (σ 30 e)) ∧ (σ 30 e) ≠ en (σ 27 (σ 30 e))) ∧ h = hp (up σ 35 (uI (σ 35) e 1))) ∨ ((σ 34 (e / 2) = szM σ (σ 33 (e / 2)) (σ 26 1).toNat - 1 ∧ σ 34 (σ 30 e) = 0 ∧ (σ 33 (e / 2)) ≠ (σ 33 (σ 30 e)) ∧ (σ 30 e) ≠ en (σ 27 (σ 30 e))) ∧ h = hp (up (up (up σ 35 (uI (σ 35) e 1)) 33 (fl (fun b => if σ 33 b = (σ 33 (σ 30 e)) then (σ 33 (e / 2)) else σ 33 b) (σ 33) (σ 26 1))) 34 (fl (fun b => if σ 33 b = (σ 33 (σ 30 e)) then σ 34 b + szM σ (σ 33 (e / 2)) (σ 26 1).toNat else σ 34 b) (σ 34) (σ 26 1)))))))) := by
  obtain ⟨hn, hB, hc31, hc32, hlo, hrg⟩ := id hI
  refine rn_iload_n 89 d_M_joinOne_88 rfl rfl ?_
  refine rn_if_ge 94 92 d_M_joinOne_89 rfl rfl ⟨by omega, by omega⟩ (fun c_89 => ?_) (fun c_89 => ?_)
  · have hy1 := hy (by omega)
    have hyT := hTO e (by omega) (by omega)
    have hcx := hCH (e / 2) (by omega) (by omega)
    have hcy := hCH (σ 30 e) (by omega) (by omega)
    have hpx := hPL (e / 2) (by omega) (by omega)
    have hpy := hPL (σ 30 e) (by omega) (by omega)
    have hFy := (hB (σ 30 e) (by omega) (by omega)).1
    have hEy := hEN (σ 27 (σ 30 e)) hFy.1 hFy.2
    have hey : -1 ≤ en (σ 27 (σ 30 e)) ∧ en (σ 27 (σ 30 e)) < 24 := by rcases hEy with ⟨q, -⟩ | ⟨q, -⟩ <;> omega
    have hsz : 0 ≤ szM σ (σ 33 (e / 2)) (σ 26 1).toNat ∧ szM σ (σ 33 (e / 2)) (σ 26 1).toNat ≤ 24 := by
      have L : ∀ k : Nat, 0 ≤ szM σ (σ 33 (e / 2)) k ∧ szM σ (σ 33 (e / 2)) k ≤ (k : Int) := by
        intro k; induction k with
        | zero => exact ⟨Int.le_refl 0, Int.le_refl 0⟩
        | succ k ih =>
          have e1 : szM σ (σ 33 (e / 2)) (k + 1) = szM σ (σ 33 (e / 2)) k + bz (σ 33 (k : Int) = (σ 33 (e / 2))) := rfl
          rcases bz_01 (P := σ 33 (k : Int) = (σ 33 (e / 2))) with q | q <;> omega
      have := L (σ 26 1).toNat; omega
    refine rn_aload_n 95 d_M_joinOne_94 rfl rfl ?_
    refine rn_getfield 98 d_M_joinOne_95 rfl fd_M_51 rfl rfl ?_
    refine rn_iload_n 99 d_M_joinOne_98 rfl rfl ?_
    refine rn_iconst 100 d_M_joinOne_99 rfl ?_
    refine rn_bastore 101 d_M_joinOne_100 rfl rfl (by decide) (by omega) (by omega) (by omega) (hs_35 _ _) ?_
    change av_Rn _ _ _ _ _ _ _ _ _ _ (hp (up σ 35 (uI (σ 35) e 1))) _
    refine rn_iload_n 102 d_M_joinOne_101 rfl rfl ?_
    refine rn_iconst 103 d_M_joinOne_102 rfl ?_
    refine rn_idiv 104 d_M_joinOne_103 rfl ⟨by omega, by omega⟩ ⟨by omega, by omega⟩ (by omega) ?_
    rw [td (by omega)]
    refine rn_istore_n 105 d_M_joinOne_104 rfl (by decide) rfl rfl ?_
    refine rn_aload_n 106 d_M_joinOne_105 rfl rfl ?_
    refine rn_getfield 109 d_M_joinOne_106 rfl fd_M_36 rfl rfl ?_
    refine rn_iload_n 110 d_M_joinOne_109 rfl rfl ?_
    refine rn_iaload 111 d_M_joinOne_110 rfl rfl (by decide) (by omega) (by omega) ?_
    rw [show (up σ 35 (uI (σ 35) e 1)) 30 e = (σ 30 e) from rfl]
    refine rn_istore_n 112 d_M_joinOne_111 rfl (by decide) rfl rfl ?_
    refine rn_aload_n 113 d_M_joinOne_112 rfl rfl ?_
    refine rn_getfield 116 d_M_joinOne_113 rfl fd_M_45 rfl rfl ?_
    refine rn_iload_n 117 d_M_joinOne_116 rfl rfl ?_
    refine rn_iaload 118 d_M_joinOne_117 rfl rfl (by decide) (by omega) (by omega) ?_
    rw [show (up σ 35 (uI (σ 35) e 1)) 33 (e / 2) = (σ 33 (e / 2)) from rfl]
    refine rn_istore 120 d_M_joinOne_118 rfl (by decide) rfl rfl ?_
    refine rn_aload_n 121 d_M_joinOne_120 rfl rfl ?_
    refine rn_getfield 124 d_M_joinOne_121 rfl fd_M_45 rfl rfl ?_
    refine rn_iload_n 125 d_M_joinOne_124 rfl rfl ?_
    refine rn_iaload 126 d_M_joinOne_125 rfl rfl (by decide) (by omega) (by omega) ?_
    rw [show (up σ 35 (uI (σ 35) e 1)) 33 (σ 30 e) = (σ 33 (σ 30 e)) from rfl]
    refine rn_istore 128 d_M_joinOne_126 rfl (by decide) rfl rfl ?_
    refine rn_aload_n 129 d_M_joinOne_128 rfl rfl ?_
    refine rn_iload 131 d_M_joinOne_129 rfl rfl ?_
    refine rn_callV1 134 d_M_joinOne_131 rfl cw_M_101 rfl (Nat.le_of_ble_eq_true rfl) (ev_M_size (σ := up σ 35 (uI (σ 35) e 1)) hn hCH ⟨by omega, by omega⟩) ?_
    rintro _ _ ⟨rfl, rfl⟩
    change av_Rn _ _ _ _ _ _ _ _ _ (vI (szM σ (σ 33 (e / 2)) (σ 26 1).toNat) :: _) _ _
    refine rn_istore 136 d_M_joinOne_134 rfl (by decide) rfl rfl ?_
    refine rn_aload_n 137 d_M_joinOne_136 rfl rfl ?_
    refine rn_getfield 140 d_M_joinOne_137 rfl fd_M_48 rfl rfl ?_
    refine rn_iload_n 141 d_M_joinOne_140 rfl rfl ?_
    refine rn_iaload 142 d_M_joinOne_141 rfl rfl (by decide) (by omega) (by omega) ?_
    rw [show (up σ 35 (uI (σ 35) e 1)) 34 (e / 2) = σ 34 (e / 2) from rfl]
    refine rn_iload 144 d_M_joinOne_142 rfl rfl ?_
    refine rn_iconst 145 d_M_joinOne_144 rfl ?_
    refine rn_isub 146 d_M_joinOne_145 rfl ?_
    refine rn_icmp_ne 179 149 d_M_joinOne_146 rfl rfl ⟨by omega, by omega⟩ ⟨by omega, by omega⟩ (fun c_146 => ?_) (fun c_146 => ?_)
    · refine rn_iconst 180 d_M_joinOne_179 rfl ?_
      exact rn_ireturn d_M_joinOne_180 (Or.inr ⟨rfl, Or.inr rfl⟩) (Or.inr ⟨by omega, rfl, Or.inl ⟨(by intro z; first | exact c_146 z.1 | exact c_155 z.2.1 | exact z.2.2.1 c_162 | exact z.2.2.2 c_176), rfl⟩⟩)
    · refine rn_aload_n 150 d_M_joinOne_149 rfl rfl ?_
      refine rn_getfield 153 d_M_joinOne_150 rfl fd_M_48 rfl rfl ?_
      refine rn_iload_n 154 d_M_joinOne_153 rfl rfl ?_
      refine rn_iaload 155 d_M_joinOne_154 rfl rfl (by decide) (by omega) (by omega) ?_
      rw [show (up σ 35 (uI (σ 35) e 1)) 34 (σ 30 e) = σ 34 (σ 30 e) from rfl]
      refine rn_if_ne 179 158 d_M_joinOne_155 rfl rfl ⟨by omega, by omega⟩ (fun c_155 => ?_) (fun c_155 => ?_)
      · refine rn_iconst 180 d_M_joinOne_179 rfl ?_
        exact rn_ireturn d_M_joinOne_180 (Or.inr ⟨rfl, Or.inr rfl⟩) (Or.inr ⟨by omega, rfl, Or.inl ⟨(by intro z; first | exact c_146 z.1 | exact c_155 z.2.1 | exact z.2.2.1 c_162 | exact z.2.2.2 c_176), rfl⟩⟩)
      · refine rn_iload 160 d_M_joinOne_158 rfl rfl ?_
        refine rn_iload 162 d_M_joinOne_160 rfl rfl ?_
        refine rn_icmp_eq 179 165 d_M_joinOne_162 rfl rfl ⟨by omega, by omega⟩ ⟨by omega, by omega⟩ (fun c_162 => ?_) (fun c_162 => ?_)
        · refine rn_iconst 180 d_M_joinOne_179 rfl ?_
          exact rn_ireturn d_M_joinOne_180 (Or.inr ⟨rfl, Or.inr rfl⟩) (Or.inr ⟨by omega, rfl, Or.inl ⟨(by intro z; first | exact c_146 z.1 | exact c_155 z.2.1 | exact z.2.2.1 c_162 | exact z.2.2.2 c_176), rfl⟩⟩)
        · refine rn_iload_n 166 d_M_joinOne_165 rfl rfl ?_
          refine rn_aload_n 167 d_M_joinOne_166 rfl rfl ?_
          refine rn_aload_n 168 d_M_joinOne_167 rfl rfl ?_
          refine rn_getfield 171 d_M_joinOne_168 rfl fd_M_26 rfl rfl ?_
          refine rn_iload_n 172 d_M_joinOne_171 rfl rfl ?_
          refine rn_iaload 173 d_M_joinOne_172 rfl rfl (by decide) (by omega) (by omega) ?_
          rw [show (up σ 35 (uI (σ 35) e 1)) 27 (σ 30 e) = σ 27 (σ 30 e) from rfl]
          refine rn_callV1 176 d_M_joinOne_173 rfl cw_M_88 rfl (Nat.le_of_ble_eq_true rfl) (ev_M_entry (σ := up σ 35 (uI (σ 35) e 1)) hn (fun b q0 q1 => (hB b q0 q1).1) hFy hEy) ?_
          rintro _ _ ⟨rfl, rfl⟩
          refine rn_icmp_ne 181 179 d_M_joinOne_176 rfl rfl ⟨by omega, by omega⟩ ⟨by omega, by omega⟩ (fun c_176 => ?_) (fun c_176 => ?_)
          · refine rn_iconst 182 d_M_joinOne_181 rfl ?_
            refine rn_istore 184 d_M_joinOne_182 rfl (by decide) rfl rfl ?_
            have L := joinM_loop (sc := sc) (d := d + 1) (n0 := n0) (bc := 0) (bs := 0) (al := false) (e := e) (Φ := fun r h => ((e = -1 ∧ r = some (vI 0) ∧ h = hp σ) ∨ (0 ≤ e ∧ r = some (vI 1) ∧ ((¬ (σ 34 (e / 2) = szM σ (σ 33 (e / 2)) (σ 26 1).toNat - 1 ∧ σ 34 (σ 30 e) = 0 ∧ (σ 33 (e / 2)) ≠ (σ 33 (σ 30 e)) ∧ (σ 30 e) ≠ en (σ 27 (σ 30 e))) ∧ h = hp (up σ 35 (uI (σ 35) e 1))) ∨ ((σ 34 (e / 2) = szM σ (σ 33 (e / 2)) (σ 26 1).toNat - 1 ∧ σ 34 (σ 30 e) = 0 ∧ (σ 33 (e / 2)) ≠ (σ 33 (σ 30 e)) ∧ (σ 30 e) ≠ en (σ 27 (σ 30 e))) ∧ h = hp (up (up (up σ 35 (uI (σ 35) e 1)) 33 (fl (fun b => if σ 33 b = (σ 33 (σ 30 e)) then (σ 33 (e / 2)) else σ 33 b) (σ 33) (σ 26 1))) 34 (fl (fun b => if σ 33 b = (σ 33 (σ 30 e)) then σ 34 b + szM σ (σ 33 (e / 2)) (σ 26 1).toNat else σ 34 b) (σ 34) (σ 26 1)))))))) hn hCH hcy (Or.inr ⟨by omega, rfl, Or.inr ⟨⟨c_146, c_155, c_162, c_176⟩, rfl⟩⟩) (σ 26 1).toNat 0 (by omega) (by omega)
            rw [fl_0, fl_0] at L
            exact L
          · refine rn_iconst 180 d_M_joinOne_179 rfl ?_
            exact rn_ireturn d_M_joinOne_180 (Or.inr ⟨rfl, Or.inr rfl⟩) (Or.inr ⟨by omega, rfl, Or.inl ⟨(by intro z; first | exact c_146 z.1 | exact c_155 z.2.1 | exact z.2.2.1 c_162 | exact z.2.2.2 c_176), rfl⟩⟩)
  · refine rn_iconst 93 d_M_joinOne_92 rfl ?_
    exact rn_ireturn d_M_joinOne_93 (Or.inr ⟨rfl, Or.inl rfl⟩) (Or.inl ⟨by omega, rfl, rfl⟩)
set_option maxRecDepth 100000 in
set_option maxHeartbeats 400000 in
theorem bestM_loop {sc : av_sc} {d n0 : Nat} {σ : av_S} {Φ : Option av_V → av_H → Prop} (hI : iM σ) (hTK : ∀ k, 0 ≤ k → k < 48 → σ 35 k = 0 ∨ σ 35 k = 1) (hTO : ∀ k, 0 ≤ k → k < 48 → 0 ≤ σ 30 k ∧ σ 30 k < 24) (hΦ : ∀ e : Int, bsM σ (2 * σ 26 1) e → av_Rn sc m_M_joinOne (d + 2) false n0 0 0 88 [some (vR 26), some (vI e), some (vI (2 * σ 26 1)), none, none, none, none, none] [] (hp σ) Φ) :
    ∀ (z : Nat) (k b : Int), 0 ≤ k → k + (z : Int) = 2 * σ 26 1 → bsM σ k b → av_Rn sc m_M_joinOne (d + 2) false n0 0 0 4 [some (vR 26), some (vI b), some (vI k), none, none, none, none, none] [] (hp σ) Φ := by
  obtain ⟨hn, hB, hc31, hc32, hlo, hrg⟩ := id hI
  intro z
  induction z with
  | zero =>
    intro k b h0 hz hb
    obtain rfl : k = 2 * σ 26 1 := by omega
    refine rn_iload_n 5 d_M_joinOne_4 rfl rfl ?_
    refine rn_aload_n 6 d_M_joinOne_5 rfl rfl ?_
    refine rn_getfield 9 d_M_joinOne_6 rfl fd_M_7 rfl rfl ?_
    refine rn_iconst 10 d_M_joinOne_9 rfl ?_
    refine rn_imul 11 d_M_joinOne_10 rfl ?_
    rw [Int.mul_comm (σ 26 1) 2]
    refine rn_icmp_ge 88 14 d_M_joinOne_11 rfl rfl ⟨by omega, by omega⟩ ⟨by omega, by omega⟩ (fun c_11 => ?_) (fun c_11 => ?_)
    · exact hΦ b hb
    · omega
  | succ z ih =>
    intro k b h0 hz hb
    have hE := (hB (k / 2) (by omega) (by omega)).2.2.1
    have hck := hc32 k h0 (by omega)
    have htk := hTK k h0 (by omega)
    have hto := hTO k h0 (by omega)
    have hbi : -1 ≤ b ∧ b < k := by rcases hb with ⟨q, -⟩ | ⟨q, -⟩ <;> omega
    have hcb : 0 ≤ b → 0 ≤ σ 32 b ∧ σ 32 b ≤ 1000000 := fun q => hc32 b q (by omega)
    have X : ∀ b' : Int, bsM σ (k + 1) b' → av_Rn sc m_M_joinOne (d + 2) false n0 0 0 82 [some (vR 26), some (vI b'), some (vI k), none, none, none, none, none] [] (hp σ) Φ := by
      intro b' hb'
      refine rn_iinc 85 d_M_joinOne_82 rfl rfl (by decide) rfl rfl ?_
      refine rn_goto 4 d_M_joinOne_85 rfl ?_
      exact ih (k + 1) b' (by omega) (by omega) hb'
    refine rn_iload_n 5 d_M_joinOne_4 rfl rfl ?_
    refine rn_aload_n 6 d_M_joinOne_5 rfl rfl ?_
    refine rn_getfield 9 d_M_joinOne_6 rfl fd_M_7 rfl rfl ?_
    refine rn_iconst 10 d_M_joinOne_9 rfl ?_
    refine rn_imul 11 d_M_joinOne_10 rfl ?_
    rw [Int.mul_comm (σ 26 1) 2]
    refine rn_icmp_ge 88 14 d_M_joinOne_11 rfl rfl ⟨by omega, by omega⟩ ⟨by omega, by omega⟩ (fun c_11 => ?_) (fun c_11 => ?_)
    · omega
    · refine rn_aload_n 15 d_M_joinOne_14 rfl rfl ?_
      refine rn_getfield 18 d_M_joinOne_15 rfl fd_M_51 rfl rfl ?_
      refine rn_iload_n 19 d_M_joinOne_18 rfl rfl ?_
      refine rn_baload 20 d_M_joinOne_19 rfl rfl (by decide) (by omega) (by omega) ?_
      refine rn_if_ne 82 23 d_M_joinOne_20 rfl rfl ⟨by omega, by omega⟩ (fun c_20 => ?_) (fun c_20 => ?_)
      · first
          | exact X b (bsM_skip hb (fun q => by omega))
          | exact X b (bsM_keep hb c_62 (by omega))
          | exact X k (bsM_new hb h0 ⟨by omega, by omega, by omega, by omega⟩ (by omega))
      · refine rn_iload_n 24 d_M_joinOne_23 rfl rfl ?_
        refine rn_iconst 25 d_M_joinOne_24 rfl ?_
        refine rn_irem 26 d_M_joinOne_25 rfl ⟨by omega, by omega⟩ ⟨by omega, by omega⟩ (by omega) ?_
        rw [tm h0]
        refine rn_aload_n 27 d_M_joinOne_26 rfl rfl ?_
        refine rn_getfield 30 d_M_joinOne_27 rfl fd_M_33 rfl rfl ?_
        refine rn_iload_n 31 d_M_joinOne_30 rfl rfl ?_
        refine rn_iconst 32 d_M_joinOne_31 rfl ?_
        refine rn_idiv 33 d_M_joinOne_32 rfl ⟨by omega, by omega⟩ ⟨by omega, by omega⟩ (by omega) ?_
        rw [td h0]
        refine rn_iaload 34 d_M_joinOne_33 rfl rfl (by decide) (by omega) (by omega) ?_
        refine rn_icmp_ge 82 37 d_M_joinOne_34 rfl rfl ⟨by omega, by omega⟩ ⟨by omega, by omega⟩ (fun c_34 => ?_) (fun c_34 => ?_)
        · first
            | exact X b (bsM_skip hb (fun q => by omega))
            | exact X b (bsM_keep hb c_62 (by omega))
            | exact X k (bsM_new hb h0 ⟨by omega, by omega, by omega, by omega⟩ (by omega))
        · refine rn_aload_n 38 d_M_joinOne_37 rfl rfl ?_
          refine rn_getfield 41 d_M_joinOne_38 rfl fd_M_42 rfl rfl ?_
          refine rn_iload_n 42 d_M_joinOne_41 rfl rfl ?_
          refine rn_iaload 43 d_M_joinOne_42 rfl rfl (by decide) (by omega) (by omega) ?_
          refine rn_if_eq 82 46 d_M_joinOne_43 rfl rfl ⟨by omega, by omega⟩ (fun c_43 => ?_) (fun c_43 => ?_)
          · first
              | exact X b (bsM_skip hb (fun q => by omega))
              | exact X b (bsM_keep hb c_62 (by omega))
              | exact X k (bsM_new hb h0 ⟨by omega, by omega, by omega, by omega⟩ (by omega))
          · refine rn_aload_n 47 d_M_joinOne_46 rfl rfl ?_
            refine rn_getfield 50 d_M_joinOne_47 rfl fd_M_36 rfl rfl ?_
            refine rn_iload_n 51 d_M_joinOne_50 rfl rfl ?_
            refine rn_iaload 52 d_M_joinOne_51 rfl rfl (by decide) (by omega) (by omega) ?_
            refine rn_iload_n 53 d_M_joinOne_52 rfl rfl ?_
            refine rn_iconst 54 d_M_joinOne_53 rfl ?_
            refine rn_idiv 55 d_M_joinOne_54 rfl ⟨by omega, by omega⟩ ⟨by omega, by omega⟩ (by omega) ?_
            rw [td h0]
            refine rn_icmp_ne 61 58 d_M_joinOne_55 rfl rfl ⟨by omega, by omega⟩ ⟨by omega, by omega⟩ (fun c_55 => ?_) (fun c_55 => ?_)
            · refine rn_iload_n 62 d_M_joinOne_61 rfl rfl ?_
              refine rn_if_lt 80 65 d_M_joinOne_62 rfl rfl ⟨by omega, by omega⟩ (fun c_62 => ?_) (fun c_62 => ?_)
              · refine rn_iload_n 81 d_M_joinOne_80 rfl rfl ?_
                refine rn_istore_n 82 d_M_joinOne_81 rfl (by decide) rfl rfl ?_
                first
                  | exact X b (bsM_skip hb (fun q => by omega))
                  | exact X b (bsM_keep hb c_62 (by omega))
                  | exact X k (bsM_new hb h0 ⟨by omega, by omega, by omega, by omega⟩ (by omega))
              · have hcb1 := hcb c_62
                refine rn_aload_n 66 d_M_joinOne_65 rfl rfl ?_
                refine rn_getfield 69 d_M_joinOne_66 rfl fd_M_42 rfl rfl ?_
                refine rn_iload_n 70 d_M_joinOne_69 rfl rfl ?_
                refine rn_iaload 71 d_M_joinOne_70 rfl rfl (by decide) (by omega) (by omega) ?_
                refine rn_aload_n 72 d_M_joinOne_71 rfl rfl ?_
                refine rn_getfield 75 d_M_joinOne_72 rfl fd_M_42 rfl rfl ?_
                refine rn_iload_n 76 d_M_joinOne_75 rfl rfl ?_
                refine rn_iaload 77 d_M_joinOne_76 rfl rfl (by decide) (by omega) (by omega) ?_
                refine rn_icmp_le 82 80 d_M_joinOne_77 rfl rfl ⟨by omega, by omega⟩ ⟨by omega, by omega⟩ (fun c_77 => ?_) (fun c_77 => ?_)
                · first
                    | exact X b (bsM_skip hb (fun q => by omega))
                    | exact X b (bsM_keep hb c_62 (by omega))
                    | exact X k (bsM_new hb h0 ⟨by omega, by omega, by omega, by omega⟩ (by omega))
                · refine rn_iload_n 81 d_M_joinOne_80 rfl rfl ?_
                  refine rn_istore_n 82 d_M_joinOne_81 rfl (by decide) rfl rfl ?_
                  first
                    | exact X b (bsM_skip hb (fun q => by omega))
                    | exact X b (bsM_keep hb c_62 (by omega))
                    | exact X k (bsM_new hb h0 ⟨by omega, by omega, by omega, by omega⟩ (by omega))
            · refine rn_goto 82 d_M_joinOne_58 rfl ?_
              first
                | exact X b (bsM_skip hb (fun q => by omega))
                | exact X b (bsM_keep hb c_62 (by omega))
                | exact X k (bsM_new hb h0 ⟨by omega, by omega, by omega, by omega⟩ (by omega))
set_option maxRecDepth 100000 in
set_option maxHeartbeats 400000 in
theorem ev_M_joinOne {sc : av_sc} {d : Nat} {σ : av_S} {en : Int → Int} (hI : iM σ) (hCH : ∀ b, 0 ≤ b → b < σ 26 1 → 0 ≤ σ 33 b ∧ σ 33 b < 24) (hPL : ∀ b, 0 ≤ b → b < σ 26 1 → 0 ≤ σ 34 b ∧ σ 34 b < 24) (hEN : ∀ f, 0 ≤ f → f ≤ 3 → iEM σ f (en f)) (hTK : ∀ k, 0 ≤ k → k < 48 → σ 35 k = 0 ∨ σ 35 k = 1) (hTO : ∀ k, 0 ≤ k → k < 48 → 0 ≤ σ 30 k ∧ σ 30 k < 24) (hy : ∀ k, 0 ≤ k → k < 2 * σ 26 1 → k % 2 < σ 29 (k / 2) → σ 30 k < σ 26 1) : av_Ev sc m_M_joinOne (d + 2) false 0 0 [vR 26] (hp σ) (fun r h => ∃ e : Int, bsM σ (2 * σ 26 1) e ∧ ((e = -1 ∧ r = some (vI 0) ∧ h = hp σ) ∨ (0 ≤ e ∧ r = some (vI 1) ∧ ((¬ (σ 34 (e / 2) = szM σ (σ 33 (e / 2)) (σ 26 1).toNat - 1 ∧ σ 34 (σ 30 e) = 0 ∧ (σ 33 (e / 2)) ≠ (σ 33 (σ 30 e)) ∧ (σ 30 e) ≠ en (σ 27 (σ 30 e))) ∧ h = hp (up σ 35 (uI (σ 35) e 1))) ∨ ((σ 34 (e / 2) = szM σ (σ 33 (e / 2)) (σ 26 1).toNat - 1 ∧ σ 34 (σ 30 e) = 0 ∧ (σ 33 (e / 2)) ≠ (σ 33 (σ 30 e)) ∧ (σ 30 e) ≠ en (σ 27 (σ 30 e))) ∧ h = hp (up (up (up σ 35 (uI (σ 35) e 1)) 33 (fl (fun b => if σ 33 b = (σ 33 (σ 30 e)) then (σ 33 (e / 2)) else σ 33 b) (σ 33) (σ 26 1))) 34 (fl (fun b => if σ 33 b = (σ 33 (σ 30 e)) then σ 34 b + szM σ (σ 33 (e / 2)) (σ 26 1).toNat else σ 34 b) (σ 34) (σ 26 1)))))))) := by
  obtain ⟨hn, hB, hc31, hc32, hlo, hrg⟩ := id hI
  refine av_ev rfl rfl (Nat.le_of_ble_eq_true rfl) rfl ?_
  refine rn_iconst 1 d_M_joinOne_0 rfl ?_
  refine rn_istore_n 2 d_M_joinOne_1 rfl (by decide) rfl rfl ?_
  refine rn_iconst 3 d_M_joinOne_2 rfl ?_
  refine rn_istore_n 4 d_M_joinOne_3 rfl (by decide) rfl rfl ?_
  refine bestM_loop hI hTK hTO (fun e he => ?_) (2 * σ 26 1).toNat 0 (-1) (by omega) (by omega) (Or.inl ⟨rfl, fun j q0 q1 => by omega⟩)
  refine av_Rn.mono (joinM_end (en := en) hI hCH hPL hEN hTK hTO (by rcases he with ⟨q, -⟩ | ⟨q, -⟩ <;> omega) (fun q => ?_)) (fun r h q => ⟨e, he, q⟩)
  rcases he with ⟨q1, -⟩ | ⟨q1, q2, -⟩
  · omega
  · exact hy e q1.1 q1.2 q2.2.1
