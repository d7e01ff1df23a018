def adM (σ : av_S) (k : Nat) : Int := sm (fun j => uM σ (σ 37 j)) k
theorem uM_bd {σ : av_S} {b : Int} (h1 : iMB σ b) (h2 : iLB σ b) : 1 ≤ uM σ b ∧ uM σ b ≤ 45 := by
  obtain ⟨-, a2, a3, -⟩ := h1
  obtain ⟨b1, b2, b3, -⟩ := h2
  unfold uM
  split <;> split <;> split <;> omega
theorem adM_bd {σ : av_S} (hI : iM σ) (hL : iLM σ) (hO : ∀ k, 0 ≤ k → k < σ 26 1 → 0 ≤ σ 37 k ∧ σ 37 k < σ 26 1) : ∀ k : Nat, (k : Int) ≤ σ 26 1 → 0 ≤ adM σ k ∧ adM σ k ≤ 45 * (k : Int) := by
  intro k
  induction k with
  | zero => intro _; exact ⟨Int.le_refl 0, Int.le_refl 0⟩
  | succ k ih =>
    intro hk
    have h1 := ih (by omega)
    have h2 := hO (k : Int) (by omega) (by omega)
    have h3 := uM_bd (hI.2.1 _ h2.1 h2.2) (hL _ h2.1 h2.2)
    have e : adM σ (k + 1) = adM σ k + uM σ (σ 37 (k : Int)) := rfl
    omega
/-- the places of the blocks in the reference's order -/
def iPs (σ : av_S) (ps : Int → Nat) : Prop := ∀ b, 0 ≤ b → b < σ 26 1 → ((ps b : Nat) : Int) < σ 26 1 ∧ σ 37 ((ps b : Nat) : Int) = b ∧ ∀ j, 0 ≤ j → j < ((ps b : Nat) : Int) → σ 37 j ≠ b
def dM (σ : av_S) (ps : Int → Nat) (k : Int) : Int := adM σ (ps (k / 2)) + σ 28 (k / 2) + (if k % 2 = 1 then σ 40 (k - 1) else 0) - adM σ (ps (σ 39 k))
abbrev cG (σ : av_S) (ps : Int → Nat) (k : Int) : Prop := k % 2 < σ 38 (k / 2) ∧ ¬ σ 40 k = 2 ∧ (σ 26 0 < dM σ ps k ∨ dM σ ps k < -σ 26 0)
theorem ev_addr {sc : av_sc} {d : Nat} {σ : av_S} {F : Int → Int} {b : Int} {ps : Int → Nat} (hI : iM σ) (hL : iLM σ) (hO : ∀ k, 0 ≤ k → k < σ 26 1 → 0 ≤ σ 37 k ∧ σ 37 k < σ 26 1) (hP : iPs σ ps) (hb : 0 ≤ b ∧ b < σ 26 1) : av_Ev sc m_M_addressOf (d + 1) false 0 0 [vR 26, vI b] (hp (up σ 42 F)) (fun r h => r = some (vI (adM σ (ps b))) ∧ h = hp (up σ 42 F)) :=
  ev_M_addressOf (σ := up σ 42 F) (p := ps b) hI hL hO hb (hP b hb.1 hb.2).1 (hP b hb.1 hb.2).2.1 (hP b hb.1 hb.2).2.2
set_option maxRecDepth 100000 in
set_option maxHeartbeats 400000 in
theorem lenM_2 {sc : av_sc} {d n0 bc bs : Nat} {al : Bool} {σ : av_S} {F : Int → Int} {w : Int} {Φ : Option av_V → av_H → Prop} (hn : 0 ≤ σ 26 1 ∧ σ 26 1 ≤ 24) (hw : w = 0 ∨ w = 1) (hF : ∀ k, 0 ≤ k → k < 2 * σ 26 1 → F k = 0 ∨ F k = 1) (hΦ : Φ (some (vI w)) (hp (up (up σ 42 F) 40 (fl (fun k => if F k = 1 then 2 else σ 40 k) (σ 40) (2 * σ 26 1))))) :
    ∀ (z : Nat) (k : Int), 0 ≤ k → k + (z : Int) = 2 * σ 26 1 → av_Rn sc m_M_lengthen (d + 2) al n0 bc bs 147 [some (vR 26), some (vI w), some (vI k), none, none, none] [] (hp (up (up σ 42 F) 40 (fl (fun k => if F k = 1 then 2 else σ 40 k) (σ 40) k))) Φ := by
  intro z
  induction z with
  | zero =>
    intro k h0 hz
    obtain rfl : k = 2 * σ 26 1 := by omega
    refine rn_iload_n 148 d_M_lengthen_147 rfl rfl ?_
    refine rn_aload_n 149 d_M_lengthen_148 rfl rfl ?_
    refine rn_getfield 152 d_M_lengthen_149 rfl fd_M_7 rfl rfl ?_
    rw [show (up (up σ 42 F) 40 (fl (fun k => if F k = 1 then 2 else σ 40 k) (σ 40) (2 * σ 26 1))) 26 1 = σ 26 1 from rfl]
    refine rn_iconst 153 d_M_lengthen_152 rfl ?_
    refine rn_imul 154 d_M_lengthen_153 rfl ?_
    rw [Int.mul_comm (σ 26 1) 2]
    refine rn_icmp_ge 179 157 d_M_lengthen_154 rfl rfl ⟨by omega, by omega⟩ ⟨by omega, by omega⟩ (fun c_154 => ?_) (fun c_154 => ?_)
    · refine rn_iload_n 180 d_M_lengthen_179 rfl rfl ?_
      exact rn_ireturn d_M_lengthen_180 (Or.inr ⟨rfl, hw⟩) hΦ
    · omega
  | succ z ih =>
    intro k h0 hz
    have hFk := hF k h0 (by omega)
    refine rn_iload_n 148 d_M_lengthen_147 rfl rfl ?_
    refine rn_aload_n 149 d_M_lengthen_148 rfl rfl ?_
    refine rn_getfield 152 d_M_lengthen_149 rfl fd_M_7 rfl rfl ?_
    rw [show (up (up σ 42 F) 40 (fl (fun k => if F k = 1 then 2 else σ 40 k) (σ 40) k)) 26 1 = σ 26 1 from rfl]
    refine rn_iconst 153 d_M_lengthen_152 rfl ?_
    refine rn_imul 154 d_M_lengthen_153 rfl ?_
    rw [Int.mul_comm (σ 26 1) 2]
    refine rn_icmp_ge 179 157 d_M_lengthen_154 rfl rfl ⟨by omega, by omega⟩ ⟨by omega, by omega⟩ (fun c_154 => ?_) (fun c_154 => ?_)
    · omega
    · refine rn_aload_n 158 d_M_lengthen_157 rfl rfl ?_
      refine rn_getfield 161 d_M_lengthen_158 rfl fd_M_73 rfl rfl ?_
      refine rn_iload_n 162 d_M_lengthen_161 rfl rfl ?_
      refine rn_baload 163 d_M_lengthen_162 rfl rfl (by decide) (by omega) (by omega) ?_
      rw [show (up (up σ 42 F) 40 (fl (fun k => if F k = 1 then 2 else σ 40 k) (σ 40) k)) 42 k = F k from rfl]
      refine rn_if_eq 173 166 d_M_lengthen_163 rfl rfl ⟨by omega, by omega⟩ (fun c_163 => ?_) (fun c_163 => ?_)
      · by_cases hF1 : F k = 1
        · first | (exfalso; omega) | (change av_Rn _ _ _ _ _ _ _ _ _ _ (hp (up (up σ 42 F) 40 (uI (fl (fun k => if F k = 1 then 2 else σ 40 k) (σ 40) k) k 2))) _; rw [fl_step (g := (fun k => if F k = 1 then 2 else σ 40 k)) (f := σ 40) (k := k) (z := 2) h0 (if_pos hF1).symm]; refine rn_iinc 176 d_M_lengthen_173 rfl rfl (by decide) rfl rfl ?_; refine rn_goto 147 d_M_lengthen_176 rfl ?_; exact ih (k + 1) (by omega) (by omega))
        · first | (exfalso; omega) | (rw [fl_skip (g := (fun k => if F k = 1 then 2 else σ 40 k)) (f := σ 40) (k := k) h0 (if_neg hF1)]; refine rn_iinc 176 d_M_lengthen_173 rfl rfl (by decide) rfl rfl ?_; refine rn_goto 147 d_M_lengthen_176 rfl ?_; exact ih (k + 1) (by omega) (by omega))
      · refine rn_aload_n 167 d_M_lengthen_166 rfl rfl ?_
        refine rn_getfield 170 d_M_lengthen_167 rfl fd_M_67 rfl rfl ?_
        refine rn_iload_n 171 d_M_lengthen_170 rfl rfl ?_
        refine rn_iconst 172 d_M_lengthen_171 rfl ?_
        refine rn_iastore 173 d_M_lengthen_172 rfl rfl (by decide) (by omega) (by omega) (hs_40 _ _) ?_
        by_cases hF1 : F k = 1
        · first | (exfalso; omega) | (change av_Rn _ _ _ _ _ _ _ _ _ _ (hp (up (up σ 42 F) 40 (uI (fl (fun k => if F k = 1 then 2 else σ 40 k) (σ 40) k) k 2))) _; rw [fl_step (g := (fun k => if F k = 1 then 2 else σ 40 k)) (f := σ 40) (k := k) (z := 2) h0 (if_pos hF1).symm]; refine rn_iinc 176 d_M_lengthen_173 rfl rfl (by decide) rfl rfl ?_; refine rn_goto 147 d_M_lengthen_176 rfl ?_; exact ih (k + 1) (by omega) (by omega))
        · first | (exfalso; omega) | (rw [fl_skip (g := (fun k => if F k = 1 then 2 else σ 40 k)) (f := σ 40) (k := k) h0 (if_neg hF1)]; refine rn_iinc 176 d_M_lengthen_173 rfl rfl (by decide) rfl rfl ?_; refine rn_goto 147 d_M_lengthen_176 rfl ?_; exact ih (k + 1) (by omega) (by omega))
set_option maxRecDepth 100000 in
set_option maxHeartbeats 400000 in
theorem lenM_1 {sc : av_sc} {d n0 bc bs : Nat} {al : Bool} {σ : av_S} {ps : Int → Nat} {Φ : Option av_V → av_H → Prop} (hI : iM σ) (hL : iLM σ) (hO : ∀ k, 0 ≤ k → k < σ 26 1 → 0 ≤ σ 37 k ∧ σ 37 k < σ 26 1) (hP : iPs σ ps) (hTG : ∀ k, 0 ≤ k → k < 2 * σ 26 1 → k % 2 < σ 38 (k / 2) → 0 ≤ σ 39 k ∧ σ 39 k < σ 26 1) (hΦ : ∀ w : Int, (w = 0 ∨ w = 1) → (w = 1 ↔ ∃ k, 0 ≤ k ∧ k < 2 * σ 26 1 ∧ cG σ ps k) → Φ (some (vI w)) (hp (up (up σ 42 (fl (fun k => bz (cG σ ps k)) (σ 42) (2 * σ 26 1))) 40 (fl (fun k => if fl (fun k => bz (cG σ ps k)) (σ 42) (2 * σ 26 1) k = 1 then 2 else σ 40 k) (σ 40) (2 * σ 26 1))))) :
    ∀ (z : Nat) (k w : Int), 0 ≤ k → k + (z : Int) = 2 * σ 26 1 → (w = 0 ∨ w = 1) → (w = 1 ↔ ∃ j, 0 ≤ j ∧ j < k ∧ cG σ ps j) → av_Rn sc m_M_lengthen (d + 2) al n0 bc bs 4 [some (vR 26), some (vI w), some (vI k), none, none, none] [] (hp (up σ 42 (fl (fun k => bz (cG σ ps k)) (σ 42) k))) Φ := by
  obtain ⟨hn, hB, hc31, hc32, hlo, hrg⟩ := id hI
  intro z
  induction z with
  | zero =>
    intro k w h0 hz hw hw1
    obtain rfl : k = 2 * σ 26 1 := by omega
    refine rn_iload_n 5 d_M_lengthen_4 rfl rfl ?_
    refine rn_aload_n 6 d_M_lengthen_5 rfl rfl ?_
    refine rn_getfield 9 d_M_lengthen_6 rfl fd_M_7 rfl rfl ?_
    rw [show (up σ 42 (fl (fun k => bz (cG σ ps k)) (σ 42) (2 * σ 26 1))) 26 1 = σ 26 1 from rfl]
    refine rn_iconst 10 d_M_lengthen_9 rfl ?_
    refine rn_imul 11 d_M_lengthen_10 rfl ?_
    rw [Int.mul_comm (σ 26 1) 2]
    refine rn_icmp_ge 145 14 d_M_lengthen_11 rfl rfl ⟨by omega, by omega⟩ ⟨by omega, by omega⟩ (fun c_11 => ?_) (fun c_11 => ?_)
    · refine rn_iconst 146 d_M_lengthen_145 rfl ?_
      refine rn_istore_n 147 d_M_lengthen_146 rfl (by decide) rfl rfl ?_
      change av_Rn _ _ _ _ _ _ _ _ _ _ (hp (up (up σ 42 (fl (fun k => bz (cG σ ps k)) (σ 42) (2 * σ 26 1))) 40 (σ 40))) _
      have L := lenM_2 (sc := sc) (d := d) (n0 := n0) (bc := bc) (bs := bs) (al := al) (σ := σ) (F := fl (fun k => bz (cG σ ps k)) (σ 42) (2 * σ 26 1)) (Φ := Φ) hn hw (fun j q0 q1 => by rw [fl_in ⟨q0, q1⟩]; exact bz_01) (hΦ w hw hw1) (2 * σ 26 1).toNat 0 (by omega) (by omega)
      rw [fl_0] at L
      exact L
    · omega
  | succ z ih =>
    intro k w h0 hz hw hw1
    have hLb := hL (k / 2) (by omega) (by omega)
    have hBb := hB (k / 2) (by omega) (by omega)
    have hbr := hLb.1
    have hbo := hBb.2.1
    have hlk : 1 ≤ σ 40 k ∧ σ 40 k ≤ 2 := by
      rcases (show k = 2 * (k / 2) ∨ k = 2 * (k / 2) + 1 by omega) with q | q
      · rw [q]; exact hLb.2.1
      · rw [q]; exact hLb.2.2.1
    have X : ∀ (v : Int) (o1 o2 o3 : Option av_V), (v = 0 ∨ v = 1) → (v = 1 ↔ w = 1 ∨ cG σ ps k) → av_Rn sc m_M_lengthen (d + 2) al n0 bc bs 139 [some (vR 26), some (vI v), some (vI k), o1, o2, o3] [] (hp (up σ 42 (fl (fun k => bz (cG σ ps k)) (σ 42) (k + 1)))) Φ := by
      intro v o1 o2 o3 hv hv1
      refine rn_kill 3 rfl ?_
      refine rn_kill 4 rfl ?_
      refine rn_kill 5 rfl ?_
      refine rn_iinc 142 d_M_lengthen_139 rfl rfl (by decide) rfl rfl ?_
      refine rn_goto 4 d_M_lengthen_142 rfl ?_
      refine ih (k + 1) v (by omega) (by omega) hv ?_
      rw [hv1, hw1]
      constructor
      · rintro (⟨j, q0, q1, q2⟩ | q)
        · exact ⟨j, q0, by omega, q2⟩
        · exact ⟨k, h0, by omega, q⟩
      · rintro ⟨j, q0, q1, q2⟩
        by_cases hj : j = k
        · exact Or.inr (hj ▸ q2)
        · exact Or.inl ⟨j, q0, by omega, q2⟩
    have NG : ∀ (o1 o2 o3 : Option av_V), ¬ cG σ ps k → av_Rn sc m_M_lengthen (d + 2) al n0 bc bs 139 [some (vR 26), some (vI w), some (vI k), o1, o2, o3] [] (hp (up σ 42 (uI (fl (fun k => bz (cG σ ps k)) (σ 42) k) k (0)))) Φ := by
      intro o1 o2 o3 hng
      rw [fl_step (g := (fun k => bz (cG σ ps k))) (f := σ 42) (k := k) (z := 0) h0 (bz_f hng).symm]
      exact X w o1 o2 o3 hw ⟨Or.inl, fun q => q.elim id (fun q => absurd q hng)⟩
    refine rn_iload_n 5 d_M_lengthen_4 rfl rfl ?_
    refine rn_aload_n 6 d_M_lengthen_5 rfl rfl ?_
    refine rn_getfield 9 d_M_lengthen_6 rfl fd_M_7 rfl rfl ?_
    rw [show (up σ 42 (fl (fun k => bz (cG σ ps k)) (σ 42) k)) 26 1 = σ 26 1 from rfl]
    refine rn_iconst 10 d_M_lengthen_9 rfl ?_
    refine rn_imul 11 d_M_lengthen_10 rfl ?_
    rw [Int.mul_comm (σ 26 1) 2]
    refine rn_icmp_ge 145 14 d_M_lengthen_11 rfl rfl ⟨by omega, by omega⟩ ⟨by omega, by omega⟩ (fun c_11 => ?_) (fun c_11 => ?_)
    · omega
    · refine rn_iload_n 15 d_M_lengthen_14 rfl rfl ?_
      refine rn_iconst 16 d_M_lengthen_15 rfl ?_
      refine rn_idiv 17 d_M_lengthen_16 rfl ⟨by omega, by omega⟩ ⟨by omega, by omega⟩ (by omega) ?_
      rw [td h0]
      refine rn_istore_n 18 d_M_lengthen_17 rfl (by decide) rfl rfl ?_
      refine rn_iload_n 19 d_M_lengthen_18 rfl rfl ?_
      refine rn_iconst 20 d_M_lengthen_19 rfl ?_
      refine rn_irem 21 d_M_lengthen_20 rfl ⟨by omega, by omega⟩ ⟨by omega, by omega⟩ (by omega) ?_
      rw [tm h0]
      refine rn_istore 23 d_M_lengthen_21 rfl (by decide) rfl rfl ?_
      refine rn_aload_n 24 d_M_lengthen_23 rfl rfl ?_
      refine rn_getfield 27 d_M_lengthen_24 rfl fd_M_73 rfl rfl ?_
      refine rn_iload_n 28 d_M_lengthen_27 rfl rfl ?_
      refine rn_iconst 29 d_M_lengthen_28 rfl ?_
      refine rn_bastore 30 d_M_lengthen_29 rfl rfl (by decide) (by omega) (by omega) (by omega) (hs_42 _ _) ?_
      change av_Rn _ _ _ _ _ _ _ _ _ _ (hp (up σ 42 (uI (fl (fun k => bz (cG σ ps k)) (σ 42) k) k (0)))) _
      refine rn_iload 32 d_M_lengthen_30 rfl rfl ?_
      refine rn_aload_n 33 d_M_lengthen_32 rfl rfl ?_
      refine rn_getfield 36 d_M_lengthen_33 rfl fd_M_61 rfl rfl ?_
      refine rn_iload_n 37 d_M_lengthen_36 rfl rfl ?_
      refine rn_iaload 38 d_M_lengthen_37 rfl rfl (by decide) (by omega) (by omega) ?_
      rw [show (up σ 42 (uI (fl (fun k => bz (cG σ ps k)) (σ 42) k) k (0))) 38 (k / 2) = σ 38 (k / 2) from rfl]
      refine rn_icmp_ge 139 41 d_M_lengthen_38 rfl rfl ⟨by omega, by omega⟩ ⟨by omega, by omega⟩ (fun c_38 => ?_) (fun c_38 => ?_)
      · exact NG _ _ _ (fun q => by first | exact absurd q.1 (by omega) | exact q.2.1 c_48)
      · refine rn_aload_n 42 d_M_lengthen_41 rfl rfl ?_
        refine rn_getfield 45 d_M_lengthen_42 rfl fd_M_67 rfl rfl ?_
        refine rn_iload_n 46 d_M_lengthen_45 rfl rfl ?_
        refine rn_iaload 47 d_M_lengthen_46 rfl rfl (by decide) (by omega) (by omega) ?_
        rw [show (up σ 42 (uI (fl (fun k => bz (cG σ ps k)) (σ 42) k) k (0))) 40 k = σ 40 k from rfl]
        refine rn_iconst 48 d_M_lengthen_47 rfl ?_
        refine rn_icmp_ne 54 51 d_M_lengthen_48 rfl rfl ⟨by omega, by omega⟩ ⟨by omega, by omega⟩ (fun c_48 => ?_) (fun c_48 => ?_)
        · have J : ∀ u : Int, u = (if k % 2 = 1 then σ 40 (k - 1) else 0) → av_Rn sc m_M_lengthen (d + 2) al n0 bc bs 84 [some (vR 26), some (vI w), some (vI k), some (vI (k / 2)), some (vI (k % 2)), none] [vI u, vI (adM σ (ps (k / 2)) + σ 28 (k / 2))] (hp (up σ 42 (uI (fl (fun k => bz (cG σ ps k)) (σ 42) k) k (0)))) Φ := by
            intro u eu
            have hu : 0 ≤ u ∧ u ≤ 2 := by
              rw [eu]
              split
              · have q : σ 40 (k - 1) = σ 40 (2 * (k / 2)) := by congr 1; omega
                rw [q]; have := hLb.2.1; omega
              · omega
            have hTk := hTG k h0 (by omega) c_38
            have a1 := adM_bd hI hL hO (ps (k / 2)) (by have := (hP (k / 2) (by omega) (by omega)).1; omega)
            have a2 := adM_bd hI hL hO (ps (σ 39 k)) (by have := (hP (σ 39 k) hTk.1 hTk.2).1; omega)
            have p1 := (hP (k / 2) (by omega) (by omega)).1
            have p2 := (hP (σ 39 k) hTk.1 hTk.2).1
            have eD : adM σ (ps (k / 2)) + σ 28 (k / 2) + u - adM σ (ps (σ 39 k)) = dM σ ps k := by unfold dM; rw [eu]
            have hD : -5000 ≤ dM σ ps k ∧ dM σ ps k ≤ 5000 := by omega
            have JJ : ∀ v : Int, v = bz (cG σ ps k) → av_Rn sc m_M_lengthen (d + 2) al n0 bc bs 127 [some (vR 26), some (vI w), some (vI k), some (vI (k / 2)), some (vI (k % 2)), some (vI (dM σ ps k))] [vI v, vI k, vR 42] (hp (up σ 42 (uI (fl (fun k => bz (cG σ ps k)) (σ 42) k) k (0)))) Φ := by
              intro v ev
              have hv01 : v = 0 ∨ v = 1 := by rw [ev]; exact bz_01
              refine rn_bastore 128 d_M_lengthen_127 rfl rfl (by decide) (by omega) (by omega) (by omega) (hs_42 _ _) ?_
              change av_Rn _ _ _ _ _ _ _ _ _ _ (hp (up σ 42 (uI (uI (fl (fun k => bz (cG σ ps k)) (σ 42) k) k 0) k v))) _
              rw [uIT rfl, fl_step (g := (fun k => bz (cG σ ps k))) (f := σ 42) (k := k) (z := v) h0 ev]
              refine rn_aload_n 129 d_M_lengthen_128 rfl rfl ?_
              refine rn_getfield 132 d_M_lengthen_129 rfl fd_M_73 rfl rfl ?_
              refine rn_iload_n 133 d_M_lengthen_132 rfl rfl ?_
              refine rn_baload 134 d_M_lengthen_133 rfl rfl (by decide) (by omega) (by omega) ?_
              rw [show (up σ 42 (fl (fun k => bz (cG σ ps k)) (σ 42) (k + 1))) 42 k = fl (fun k => bz (cG σ ps k)) (σ 42) (k + 1) k from rfl]
              rw [fl_in ⟨h0, by omega⟩, ← ev]
              refine rn_if_eq 139 137 d_M_lengthen_134 rfl rfl ⟨by omega, by omega⟩ (fun c_134 => ?_) (fun c_134 => ?_)
              · by_cases hc : cG σ ps k
                · have e1 : v = 1 := by rw [ev, bz_t hc]
                  first | (exfalso; omega) | exact X 1 _ _ _ (Or.inr rfl) ⟨fun _ => Or.inr hc, fun _ => rfl⟩
                · have e1 : v = 0 := by rw [ev, bz_f hc]
                  first | (exfalso; omega) | exact X w _ _ _ hw ⟨Or.inl, fun q => q.elim id (fun q => absurd q hc)⟩
              · refine rn_iconst 138 d_M_lengthen_137 rfl ?_
                refine rn_istore_n 139 d_M_lengthen_138 rfl (by decide) rfl rfl ?_
                by_cases hc : cG σ ps k
                · have e1 : v = 1 := by rw [ev, bz_t hc]
                  first | (exfalso; omega) | exact X 1 _ _ _ (Or.inr rfl) ⟨fun _ => Or.inr hc, fun _ => rfl⟩
                · have e1 : v = 0 := by rw [ev, bz_f hc]
                  first | (exfalso; omega) | exact X w _ _ _ hw ⟨Or.inl, fun q => q.elim id (fun q => absurd q hc)⟩
            refine rn_iadd 85 d_M_lengthen_84 rfl ?_
            refine rn_aload_n 86 d_M_lengthen_85 rfl rfl ?_
            refine rn_aload_n 87 d_M_lengthen_86 rfl rfl ?_
            refine rn_getfield 90 d_M_lengthen_87 rfl fd_M_64 rfl rfl ?_
            refine rn_iload_n 91 d_M_lengthen_90 rfl rfl ?_
            refine rn_iaload 92 d_M_lengthen_91 rfl rfl (by decide) (by omega) (by omega) ?_
            rw [show (up σ 42 (uI (fl (fun k => bz (cG σ ps k)) (σ 42) k) k (0))) 39 k = σ 39 k from rfl]
            refine rn_callV1 95 d_M_lengthen_92 rfl cw_M_125 rfl (Nat.le_of_ble_eq_true rfl) (ev_addr hI hL hO hP hTk) ?_
            rintro _ _ ⟨rfl, rfl⟩
            refine rn_isub 96 d_M_lengthen_95 rfl ?_
            rw [eD]
            refine rn_istore 98 d_M_lengthen_96 rfl (by decide) rfl rfl ?_
            refine rn_aload_n 99 d_M_lengthen_98 rfl rfl ?_
            refine rn_getfield 102 d_M_lengthen_99 rfl fd_M_73 rfl rfl ?_
            refine rn_iload_n 103 d_M_lengthen_102 rfl rfl ?_
            refine rn_iload 105 d_M_lengthen_103 rfl rfl ?_
            refine rn_aload_n 106 d_M_lengthen_105 rfl rfl ?_
            refine rn_getfield 109 d_M_lengthen_106 rfl fd_M_76 rfl rfl ?_
            rw [show (up σ 42 (uI (fl (fun k => bz (cG σ ps k)) (σ 42) k) k (0))) 26 0 = σ 26 0 from rfl]
            refine rn_icmp_gt 122 112 d_M_lengthen_109 rfl rfl ⟨by omega, by omega⟩ ⟨by omega, by omega⟩ (fun c_109 => ?_) (fun c_109 => ?_)
            · refine rn_iconst 123 d_M_lengthen_122 rfl ?_
              refine rn_goto 127 d_M_lengthen_123 rfl ?_
              by_cases hc : cG σ ps k
              · first | (exfalso; omega) | exact JJ 1 (bz_t hc).symm
              · first | (exfalso; exact hc ⟨c_38, c_48, by omega⟩) | exact JJ 0 (bz_f hc).symm
            · refine rn_iload 114 d_M_lengthen_112 rfl rfl ?_
              refine rn_aload_n 115 d_M_lengthen_114 rfl rfl ?_
              refine rn_getfield 118 d_M_lengthen_115 rfl fd_M_76 rfl rfl ?_
              rw [show (up σ 42 (uI (fl (fun k => bz (cG σ ps k)) (σ 42) k) k (0))) 26 0 = σ 26 0 from rfl]
              refine rn_ineg 119 d_M_lengthen_118 rfl ?_
              refine rn_icmp_ge 126 122 d_M_lengthen_119 rfl rfl ⟨by omega, by omega⟩ ⟨by omega, by omega⟩ (fun c_119 => ?_) (fun c_119 => ?_)
              · refine rn_iconst 127 d_M_lengthen_126 rfl ?_
                by_cases hc : cG σ ps k
                · first | (exfalso; omega) | exact JJ 1 (bz_t hc).symm
                · first | (exfalso; exact hc ⟨c_38, c_48, by omega⟩) | exact JJ 0 (bz_f hc).symm
              · refine rn_iconst 123 d_M_lengthen_122 rfl ?_
                refine rn_goto 127 d_M_lengthen_123 rfl ?_
                by_cases hc : cG σ ps k
                · first | (exfalso; omega) | exact JJ 1 (bz_t hc).symm
                · first | (exfalso; exact hc ⟨c_38, c_48, by omega⟩) | exact JJ 0 (bz_f hc).symm
          refine rn_aload_n 55 d_M_lengthen_54 rfl rfl ?_
          refine rn_iload_n 56 d_M_lengthen_55 rfl rfl ?_
          refine rn_callV1 59 d_M_lengthen_56 rfl cw_M_125 rfl (Nat.le_of_ble_eq_true rfl) (ev_addr hI hL hO hP ⟨by omega, by omega⟩) ?_
          rintro _ _ ⟨rfl, rfl⟩
          refine rn_aload_n 60 d_M_lengthen_59 rfl rfl ?_
          refine rn_getfield 63 d_M_lengthen_60 rfl fd_M_30 rfl rfl ?_
          refine rn_iload_n 64 d_M_lengthen_63 rfl rfl ?_
          refine rn_iaload 65 d_M_lengthen_64 rfl rfl (by decide) (by omega) (by omega) ?_
          rw [show (up σ 42 (uI (fl (fun k => bz (cG σ ps k)) (σ 42) k) k (0))) 28 (k / 2) = σ 28 (k / 2) from rfl]
          refine rn_iadd 66 d_M_lengthen_65 rfl ?_
          refine rn_iload 68 d_M_lengthen_66 rfl rfl ?_
          refine rn_iconst 69 d_M_lengthen_68 rfl ?_
          refine rn_icmp_ne 83 72 d_M_lengthen_69 rfl rfl ⟨by omega, by omega⟩ ⟨by omega, by omega⟩ (fun c_69 => ?_) (fun c_69 => ?_)
          · refine rn_iconst 84 d_M_lengthen_83 rfl ?_
            exact J _ (by (first | rw [if_pos (by omega)] | rw [if_neg (by omega)]))
          · refine rn_aload_n 73 d_M_lengthen_72 rfl rfl ?_
            refine rn_getfield 76 d_M_lengthen_73 rfl fd_M_67 rfl rfl ?_
            refine rn_iload_n 77 d_M_lengthen_76 rfl rfl ?_
            refine rn_iconst 78 d_M_lengthen_77 rfl ?_
            refine rn_isub 79 d_M_lengthen_78 rfl ?_
            refine rn_iaload 80 d_M_lengthen_79 rfl rfl (by decide) (by omega) (by omega) ?_
            rw [show (up σ 42 (uI (fl (fun k => bz (cG σ ps k)) (σ 42) k) k (0))) 40 (k - 1) = σ 40 (k - 1) from rfl]
            refine rn_goto 84 d_M_lengthen_80 rfl ?_
            exact J _ (by (first | rw [if_pos (by omega)] | rw [if_neg (by omega)]))
        · refine rn_goto 139 d_M_lengthen_51 rfl ?_
          exact NG _ _ _ (fun q => by first | exact absurd q.1 (by omega) | exact q.2.1 c_48)
set_option maxRecDepth 100000 in
set_option maxHeartbeats 400000 in
theorem ev_M_lengthen {sc : av_sc} {d : Nat} {σ : av_S} {ps : Int → Nat} (hI : iM σ) (hL : iLM σ) (hO : ∀ k, 0 ≤ k → k < σ 26 1 → 0 ≤ σ 37 k ∧ σ 37 k < σ 26 1) (hP : iPs σ ps) (hTG : ∀ k, 0 ≤ k → k < 2 * σ 26 1 → k % 2 < σ 38 (k / 2) → 0 ≤ σ 39 k ∧ σ 39 k < σ 26 1) : av_Ev sc m_M_lengthen (d + 2) false 0 0 [vR 26] (hp σ) (fun r h => ∃ w : Int, r = some (vI w) ∧ (w = 0 ∨ w = 1) ∧ (w = 1 ↔ ∃ k, 0 ≤ k ∧ k < 2 * σ 26 1 ∧ cG σ ps k) ∧ h = hp (up (up σ 42 (fl (fun k => bz (cG σ ps k)) (σ 42) (2 * σ 26 1))) 40 (fl (fun k => if fl (fun k => bz (cG σ ps k)) (σ 42) (2 * σ 26 1) k = 1 then 2 else σ 40 k) (σ 40) (2 * σ 26 1)))) := by
  obtain ⟨hn, hB, hc31, hc32, hlo, hrg⟩ := id hI
  refine av_ev rfl rfl (Nat.le_of_ble_eq_true rfl) rfl ?_
  refine rn_iconst 1 d_M_lengthen_0 rfl ?_
  refine rn_istore_n 2 d_M_lengthen_1 rfl (by decide) rfl rfl ?_
  refine rn_iconst 3 d_M_lengthen_2 rfl ?_
  refine rn_istore_n 4 d_M_lengthen_3 rfl (by decide) rfl rfl ?_
  change av_Rn _ _ _ _ _ _ _ _ _ _ (hp (up σ 42 (σ 42))) _
  have L := lenM_1 (sc := sc) (d := d) (n0 := (hp σ).length) (bc := 0) (bs := 0) (al := false) (σ := σ) (ps := ps) (Φ := fun r h => ∃ w : Int, r = some (vI w) ∧ (w = 0 ∨ w = 1) ∧ (w = 1 ↔ ∃ k, 0 ≤ k ∧ k < 2 * σ 26 1 ∧ cG σ ps k) ∧ h = hp (up (up σ 42 (fl (fun k => bz (cG σ ps k)) (σ 42) (2 * σ 26 1))) 40 (fl (fun k => if fl (fun k => bz (cG σ ps k)) (σ 42) (2 * σ 26 1) k = 1 then 2 else σ 40 k) (σ 40) (2 * σ 26 1)))) hI hL hO hP hTG (fun w q0 q1 => ⟨w, rfl, q0, q1, rfl⟩) (2 * σ 26 1).toNat 0 0 (by omega) (by omega) (Or.inl rfl) ⟨fun q => by omega, fun q => by obtain ⟨j, q0, q1, -⟩ := q; omega⟩
  rw [fl_0] at L
  exact L
