theorem suM_bd {σ : av_S} (hI : iM σ) (c : Int) : ∀ k : Nat, (k : Int) ≤ σ 26 1 → (0 ≤ suM σ c 1 k ∧ suM σ c 1 k ≤ 1000000 * (k : Int)) ∧ (0 ≤ suM σ c 0 k ∧ suM σ c 0 k ≤ 40 * (k : Int)) := by
  intro k
  induction k with
  | zero => intro _; exact ⟨⟨Int.le_refl 0, Int.le_refl 0⟩, Int.le_refl 0, Int.le_refl 0⟩
  | succ k ih =>
    intro hk
    have hn := hI.1
    have h1 := ih (by omega)
    have h2 := hI.2.2.1 (k : Int) (by omega) (by omega)
    have h3 := (hI.2.1 (k : Int) (by omega) (by omega)).2.1
    have e1 : suM σ c 1 (k + 1) = suM σ c 1 k + (if σ 33 (k : Int) = c then (if (1 : Int) = 0 then σ 28 (k : Int) else σ 31 (k : Int)) else 0) := rfl
    have e0 : suM σ c 0 (k + 1) = suM σ c 0 k + (if σ 33 (k : Int) = c then (if (0 : Int) = 0 then σ 28 (k : Int) else σ 31 (k : Int)) else 0) := rfl
    rw [if_neg (by omega : ¬ (1 : Int) = 0)] at e1
    rw [if_pos (rfl : (0 : Int) = 0)] at e0
    split at e1 <;> split at e0 <;> omega
/-- the reference's order of two chains -/
abbrev bfM (σ : av_S) (en : Int → Int) (Qc Qd : Prop) (c d : Int) : Prop := (¬ (Qc ↔ Qd) ∧ Qd) ∨ ((Qc ↔ Qd) ∧ (σ 27 c < σ 27 d ∨ (σ 27 c = σ 27 d ∧ ((Qc ∧ c < d) ∨ (¬ Qc ∧ (((σ 33 (en (σ 27 c)) = c ∨ σ 33 (en (σ 27 c)) = d) ∧ σ 33 (en (σ 27 c)) = c) ∨ (¬ (σ 33 (en (σ 27 c)) = c ∨ σ 33 (en (σ 27 c)) = d) ∧ (suM σ d 1 (σ 26 1).toNat * suM σ c 0 (σ 26 1).toNat < suM σ c 1 (σ 26 1).toNat * suM σ d 0 (σ 26 1).toNat ∨ (suM σ c 1 (σ 26 1).toNat * suM σ d 0 (σ 26 1).toNat = suM σ d 1 (σ 26 1).toNat * suM σ c 0 (σ 26 1).toNat ∧ c < d)))))))))
set_option maxRecDepth 100000 in
set_option maxHeartbeats 400000 in
theorem ev_M_before {sc : av_sc} {dp : Nat} {σ : av_S} {c d : Int} {en : Int → Int} {Qc Qd : Prop} [Decidable Qc] [Decidable Qd] (hI : iM σ) (hCH : ∀ b, 0 ≤ b → b < σ 26 1 → 0 ≤ σ 33 b ∧ σ 33 b < 24) (hPL : ∀ b, 0 ≤ b → b < σ 26 1 → 0 ≤ σ 34 b ∧ σ 34 b < 24) (hEN : ∀ f, 0 ≤ f → f ≤ 3 → iEM σ f (en f)) (hc : ((0 ≤ c ∧ c < σ 26 1) ∧ σ 33 c = c ∧ σ 34 c = 0 ∧ ∀ j, 0 ≤ j → j < c → ¬ (σ 33 j = c ∧ σ 34 j = 0))) (hd : ((0 ≤ d ∧ d < σ 26 1) ∧ σ 33 d = d ∧ σ 34 d = 0 ∧ ∀ j, 0 ≤ j → j < d → ¬ (σ 33 j = d ∧ σ 34 j = 0))) (hQc : (Qc ↔ ∀ b, 0 ≤ b → b < σ 26 1 → σ 33 b = c → ¬ 0 < σ 31 b ∧ b ≠ en (σ 27 b))) (hQd : (Qd ↔ ∀ b, 0 ≤ b → b < σ 26 1 → σ 33 b = d → ¬ 0 < σ 31 b ∧ b ≠ en (σ 27 b))) : av_Ev sc m_M_before (dp + 2) false 0 0 [vR 26, vI c, vI d] (hp σ) (fun r h => r = some (vI (bz (bfM σ en Qc Qd c d))) ∧ h = hp σ) := by
  obtain ⟨hn, hB, hc31, hc32, hlo, hrg⟩ := id hI
  have hc1 := hc.1
  have hd1 := hd.1
  have hFc := (hB c hc1.1 hc1.2).1
  have hFd := (hB d hd1.1 hd1.2).1
  have hEc := hEN (σ 27 c) hFc.1 hFc.2
  have he : 0 ≤ en (σ 27 c) ∧ en (σ 27 c) < σ 26 1 := by
    rcases hEc with ⟨-, q⟩ | ⟨q, -⟩
    · exact absurd rfl (q c hc1.1 hc1.2)
    · exact q
  have hce := hCH _ he.1 he.2
  have sc1 := suM_bd hI c (σ 26 1).toNat (by omega)
  have sd1 := suM_bd hI d (σ 26 1).toNat (by omega)
  have w1 := mulbd (x := suM σ c 1 (σ 26 1).toNat) (y := suM σ d 0 (σ 26 1).toNat) ⟨by omega, by omega⟩ ⟨by omega, by omega⟩
  have w2 := mulbd (x := suM σ d 1 (σ 26 1).toNat) (y := suM σ c 0 (σ 26 1).toNat) ⟨by omega, by omega⟩ ⟨by omega, by omega⟩
  refine av_ev rfl rfl (Nat.le_of_ble_eq_true rfl) rfl ?_
  refine rn_aload_n 1 d_M_before_0 rfl rfl ?_
  refine rn_iload_n 2 d_M_before_1 rfl rfl ?_
  refine rn_callV1 5 d_M_before_2 rfl cw_M_108 rfl (Nat.le_of_ble_eq_true rfl) (ev_M_head hn hCH hPL ⟨by omega, by omega⟩ hc) ?_
  rintro _ _ ⟨rfl, rfl⟩
  refine rn_istore_n 6 d_M_before_5 rfl (by decide) rfl rfl ?_
  refine rn_aload_n 7 d_M_before_6 rfl rfl ?_
  refine rn_iload_n 8 d_M_before_7 rfl rfl ?_
  refine rn_callV1 11 d_M_before_8 rfl cw_M_108 rfl (Nat.le_of_ble_eq_true rfl) (ev_M_head hn hCH hPL ⟨by omega, by omega⟩ hd) ?_
  rintro _ _ ⟨rfl, rfl⟩
  refine rn_istore 13 d_M_before_11 rfl (by decide) rfl rfl ?_
  refine rn_aload_n 14 d_M_before_13 rfl rfl ?_
  refine rn_getfield 17 d_M_before_14 rfl fd_M_26 rfl rfl ?_
  refine rn_iload_n 18 d_M_before_17 rfl rfl ?_
  refine rn_iaload 19 d_M_before_18 rfl rfl (by decide) (by omega) (by omega) ?_
  refine rn_istore 21 d_M_before_19 rfl (by decide) rfl rfl ?_
  refine rn_aload_n 22 d_M_before_21 rfl rfl ?_
  refine rn_getfield 25 d_M_before_22 rfl fd_M_26 rfl rfl ?_
  refine rn_iload 27 d_M_before_25 rfl rfl ?_
  refine rn_iaload 28 d_M_before_27 rfl rfl (by decide) (by omega) (by omega) ?_
  refine rn_istore 30 d_M_before_28 rfl (by decide) rfl rfl ?_
  refine rn_aload_n 31 d_M_before_30 rfl rfl ?_
  refine rn_iload_n 32 d_M_before_31 rfl rfl ?_
  refine rn_callV1 35 d_M_before_32 rfl cw_M_111 rfl (Nat.le_of_ble_eq_true rfl) (ev_M_isCold (Q := Qc) hI hCH hEN ⟨by omega, by omega⟩ hQc) ?_
  rintro _ _ ⟨rfl, rfl⟩
  refine rn_aload_n 36 d_M_before_35 rfl rfl ?_
  refine rn_iload_n 37 d_M_before_36 rfl rfl ?_
  refine rn_callV1 40 d_M_before_37 rfl cw_M_111 rfl (Nat.le_of_ble_eq_true rfl) (ev_M_isCold (Q := Qd) hI hCH hEN ⟨by omega, by omega⟩ hQd) ?_
  rintro _ _ ⟨rfl, rfl⟩
  refine rn_icmp_eq 49 43 d_M_before_40 rfl rfl bz_in bz_in (fun c_40 => ?_) (fun c_40 => ?_)
  · have q40 := bz_eq.mp c_40
    refine rn_iload 51 d_M_before_49 rfl rfl ?_
    refine rn_iload 53 d_M_before_51 rfl rfl ?_
    refine rn_icmp_eq 69 56 d_M_before_53 rfl rfl ⟨by omega, by omega⟩ ⟨by omega, by omega⟩ (fun c_53 => ?_) (fun c_53 => ?_)
    · refine rn_aload_n 70 d_M_before_69 rfl rfl ?_
      refine rn_iload_n 71 d_M_before_70 rfl rfl ?_
      refine rn_callV1 74 d_M_before_71 rfl cw_M_111 rfl (Nat.le_of_ble_eq_true rfl) (ev_M_isCold (Q := Qc) hI hCH hEN ⟨by omega, by omega⟩ hQc) ?_
      rintro _ _ ⟨rfl, rfl⟩
      refine rn_ifB_eq 89 77 d_M_before_74 rfl rfl (fun c_74 => ?_) (fun c_74 => ?_)
      · refine rn_aload_n 90 d_M_before_89 rfl rfl ?_
        refine rn_getfield 93 d_M_before_90 rfl fd_M_45 rfl rfl ?_
        refine rn_aload_n 94 d_M_before_93 rfl rfl ?_
        refine rn_iload 96 d_M_before_94 rfl rfl ?_
        refine rn_callV1 99 d_M_before_96 rfl cw_M_88 rfl (Nat.le_of_ble_eq_true rfl) (ev_M_entry hn (fun b q0 q1 => (hB b q0 q1).1) hFc hEc) ?_
        rintro _ _ ⟨rfl, rfl⟩
        refine rn_iaload 100 d_M_before_99 rfl rfl (by decide) (by omega) (by omega) ?_
        refine rn_iload_n 101 d_M_before_100 rfl rfl ?_
        refine rn_icmp_eq 119 104 d_M_before_101 rfl rfl ⟨by omega, by omega⟩ ⟨by omega, by omega⟩ (fun c_101 => ?_) (fun c_101 => ?_)
        · refine rn_aload_n 120 d_M_before_119 rfl rfl ?_
          refine rn_getfield 123 d_M_before_120 rfl fd_M_45 rfl rfl ?_
          refine rn_aload_n 124 d_M_before_123 rfl rfl ?_
          refine rn_iload 126 d_M_before_124 rfl rfl ?_
          refine rn_callV1 129 d_M_before_126 rfl cw_M_88 rfl (Nat.le_of_ble_eq_true rfl) (ev_M_entry hn (fun b q0 q1 => (hB b q0 q1).1) hFc hEc) ?_
          rintro _ _ ⟨rfl, rfl⟩
          refine rn_iaload 130 d_M_before_129 rfl rfl (by decide) (by omega) (by omega) ?_
          refine rn_iload_n 131 d_M_before_130 rfl rfl ?_
          refine rn_icmp_ne 138 134 d_M_before_131 rfl rfl ⟨by omega, by omega⟩ ⟨by omega, by omega⟩ (fun c_131 => ?_) (fun c_131 => ?_)
          · refine rn_iconst 139 d_M_before_138 rfl ?_
            first
              | (exfalso; omega)
              | exact rn_ireturn d_M_before_139 (Or.inr ⟨rfl, Or.inr rfl⟩) ⟨by rw [bz_t (Or.inr ⟨q40, Or.inr ⟨c_53, Or.inr ⟨c_74, Or.inl ⟨by omega, by omega⟩⟩⟩⟩)], rfl⟩
              | (refine rn_ireturn d_M_before_139 (Or.inr ⟨rfl, Or.inl rfl⟩) ⟨?_, rfl⟩
                 rw [bz_f]
                 rintro (z | ⟨-, z | ⟨-, z | ⟨-, z | z⟩⟩⟩)
                 · exact z.1 q40
                 · omega
                 · exact c_74 z.1
                 · omega
                 · omega)
          · refine rn_iconst 135 d_M_before_134 rfl ?_
            refine rn_goto 139 d_M_before_135 rfl ?_
            first
              | (exfalso; omega)
              | exact rn_ireturn d_M_before_139 (Or.inr ⟨rfl, Or.inr rfl⟩) ⟨by rw [bz_t (Or.inr ⟨q40, Or.inr ⟨c_53, Or.inr ⟨c_74, Or.inl ⟨by omega, by omega⟩⟩⟩⟩)], rfl⟩
              | (refine rn_ireturn d_M_before_139 (Or.inr ⟨rfl, Or.inl rfl⟩) ⟨?_, rfl⟩
                 rw [bz_f]
                 rintro (z | ⟨-, z | ⟨-, z | ⟨-, z | z⟩⟩⟩)
                 · exact z.1 q40
                 · omega
                 · exact c_74 z.1
                 · omega
                 · omega)
        · refine rn_aload_n 105 d_M_before_104 rfl rfl ?_
          refine rn_getfield 108 d_M_before_105 rfl fd_M_45 rfl rfl ?_
          refine rn_aload_n 109 d_M_before_108 rfl rfl ?_
          refine rn_iload 111 d_M_before_109 rfl rfl ?_
          refine rn_callV1 114 d_M_before_111 rfl cw_M_88 rfl (Nat.le_of_ble_eq_true rfl) (ev_M_entry hn (fun b q0 q1 => (hB b q0 q1).1) hFc hEc) ?_
          rintro _ _ ⟨rfl, rfl⟩
          refine rn_iaload 115 d_M_before_114 rfl rfl (by decide) (by omega) (by omega) ?_
          refine rn_iload_n 116 d_M_before_115 rfl rfl ?_
          refine rn_icmp_ne 140 119 d_M_before_116 rfl rfl ⟨by omega, by omega⟩ ⟨by omega, by omega⟩ (fun c_116 => ?_) (fun c_116 => ?_)
          · refine rn_aload_n 141 d_M_before_140 rfl rfl ?_
            refine rn_iload_n 142 d_M_before_141 rfl rfl ?_
            refine rn_iconst 143 d_M_before_142 rfl ?_
            refine rn_callV2 146 d_M_before_143 rfl cw_M_114 rfl (Nat.le_of_ble_eq_true rfl) (ev_M_sum hI hCH ⟨by omega, by omega⟩ (Or.inr rfl)) ?_
            rintro _ _ ⟨rfl, rfl⟩
            refine rn_aload_n 147 d_M_before_146 rfl rfl ?_
            refine rn_iload_n 148 d_M_before_147 rfl rfl ?_
            refine rn_iconst 149 d_M_before_148 rfl ?_
            refine rn_callV2 152 d_M_before_149 rfl cw_M_114 rfl (Nat.le_of_ble_eq_true rfl) (ev_M_sum hI hCH ⟨by omega, by omega⟩ (Or.inl rfl)) ?_
            rintro _ _ ⟨rfl, rfl⟩
            refine rn_lmul 153 d_M_before_152 rfl ?_
            refine rn_lstore 155 d_M_before_153 rfl (by decide) rfl rfl ?_
            refine rn_aload_n 156 d_M_before_155 rfl rfl ?_
            refine rn_iload_n 157 d_M_before_156 rfl rfl ?_
            refine rn_iconst 158 d_M_before_157 rfl ?_
            refine rn_callV2 161 d_M_before_158 rfl cw_M_114 rfl (Nat.le_of_ble_eq_true rfl) (ev_M_sum hI hCH ⟨by omega, by omega⟩ (Or.inr rfl)) ?_
            rintro _ _ ⟨rfl, rfl⟩
            refine rn_aload_n 162 d_M_before_161 rfl rfl ?_
            refine rn_iload_n 163 d_M_before_162 rfl rfl ?_
            refine rn_iconst 164 d_M_before_163 rfl ?_
            refine rn_callV2 167 d_M_before_164 rfl cw_M_114 rfl (Nat.le_of_ble_eq_true rfl) (ev_M_sum hI hCH ⟨by omega, by omega⟩ (Or.inl rfl)) ?_
            rintro _ _ ⟨rfl, rfl⟩
            refine rn_lmul 168 d_M_before_167 rfl ?_
            refine rn_lstore 170 d_M_before_168 rfl (by decide) rfl rfl ?_
            refine rn_lload 172 d_M_before_170 rfl rfl ?_
            refine rn_lload 174 d_M_before_172 rfl rfl ?_
            refine rn_lcmp 175 d_M_before_174 rfl ⟨by omega, by omega⟩ ⟨by omega, by omega⟩ ?_
            refine rn_if_ne 192 178 d_M_before_175 rfl rfl (by unfold av_in; split; omega; (try split) <;> omega) (fun c_175 => ?_) (fun c_175 => ?_)
            · have q175 : suM σ c 1 (σ 26 1).toNat * suM σ d 0 (σ 26 1).toNat ≠ suM σ d 1 (σ 26 1).toNat * suM σ c 0 (σ 26 1).toNat := fun z => c_175 (by rw [if_neg (by omega), if_pos z])
              refine rn_lload 194 d_M_before_192 rfl rfl ?_
              refine rn_lload 196 d_M_before_194 rfl rfl ?_
              refine rn_lcmp 197 d_M_before_196 rfl ⟨by omega, by omega⟩ ⟨by omega, by omega⟩ ?_
              refine rn_if_le 204 200 d_M_before_197 rfl rfl (by unfold av_in; split; omega; (try split) <;> omega) (fun c_197 => ?_) (fun c_197 => ?_)
              · refine rn_iconst 205 d_M_before_204 rfl ?_
                have q197 : suM σ c 1 (σ 26 1).toNat * suM σ d 0 (σ 26 1).toNat < suM σ d 1 (σ 26 1).toNat * suM σ c 0 (σ 26 1).toNat := by
                  have z3 := c_197
                  by_cases z1 : suM σ d 1 (σ 26 1).toNat * suM σ c 0 (σ 26 1).toNat < suM σ c 1 (σ 26 1).toNat * suM σ d 0 (σ 26 1).toNat
                  · rw [if_pos z1] at z3; omega
                  · omega
                refine rn_ireturn d_M_before_205 (Or.inr ⟨rfl, Or.inl rfl⟩) ⟨?_, rfl⟩
                rw [bz_f]
                rintro (z | ⟨-, z | ⟨-, z | ⟨-, z | ⟨-, z | z⟩⟩⟩⟩)
                · exact z.1 q40
                · omega
                · exact c_74 z.1
                · omega
                · omega
                · omega
              · refine rn_iconst 201 d_M_before_200 rfl ?_
                refine rn_goto 205 d_M_before_201 rfl ?_
                have q197 : suM σ d 1 (σ 26 1).toNat * suM σ c 0 (σ 26 1).toNat < suM σ c 1 (σ 26 1).toNat * suM σ d 0 (σ 26 1).toNat := by
                  have z3 := c_197
                  by_cases z1 : suM σ d 1 (σ 26 1).toNat * suM σ c 0 (σ 26 1).toNat < suM σ c 1 (σ 26 1).toNat * suM σ d 0 (σ 26 1).toNat
                  · exact z1
                  · rw [if_neg z1] at z3; split at z3 <;> omega
                exact rn_ireturn d_M_before_205 (Or.inr ⟨rfl, Or.inr rfl⟩) ⟨by rw [bz_t (Or.inr ⟨q40, Or.inr ⟨c_53, Or.inr ⟨c_74, Or.inr ⟨by omega, Or.inl (by omega)⟩⟩⟩⟩)], rfl⟩
            · have q175 : suM σ c 1 (σ 26 1).toNat * suM σ d 0 (σ 26 1).toNat = suM σ d 1 (σ 26 1).toNat * suM σ c 0 (σ 26 1).toNat := by
                by_cases z1 : suM σ d 1 (σ 26 1).toNat * suM σ c 0 (σ 26 1).toNat < suM σ c 1 (σ 26 1).toNat * suM σ d 0 (σ 26 1).toNat
                · rw [if_pos z1] at c_175; omega
                · rw [if_neg z1] at c_175
                  by_cases z2 : suM σ c 1 (σ 26 1).toNat * suM σ d 0 (σ 26 1).toNat = suM σ d 1 (σ 26 1).toNat * suM σ c 0 (σ 26 1).toNat
                  · exact z2
                  · rw [if_neg z2] at c_175; omega
              refine rn_iload_n 179 d_M_before_178 rfl rfl ?_
              refine rn_iload 181 d_M_before_179 rfl rfl ?_
              refine rn_icmp_ge 188 184 d_M_before_181 rfl rfl ⟨by omega, by omega⟩ ⟨by omega, by omega⟩ (fun c_181 => ?_) (fun c_181 => ?_)
              · refine rn_iconst 189 d_M_before_188 rfl ?_
                refine rn_goto 205 d_M_before_189 rfl ?_
                refine rn_ireturn d_M_before_205 (Or.inr ⟨rfl, Or.inl rfl⟩) ⟨?_, rfl⟩
                rw [bz_f]
                rintro (z | ⟨-, z | ⟨-, z | ⟨-, z | ⟨-, z | z⟩⟩⟩⟩)
                · exact z.1 q40
                · omega
                · exact c_74 z.1
                · omega
                · omega
                · omega
              · refine rn_iconst 185 d_M_before_184 rfl ?_
                refine rn_goto 205 d_M_before_185 rfl ?_
                exact rn_ireturn d_M_before_205 (Or.inr ⟨rfl, Or.inr rfl⟩) ⟨by rw [bz_t (Or.inr ⟨q40, Or.inr ⟨c_53, Or.inr ⟨c_74, Or.inr ⟨by omega, Or.inr ⟨q175, by omega⟩⟩⟩⟩⟩)], rfl⟩
          · refine rn_aload_n 120 d_M_before_119 rfl rfl ?_
            refine rn_getfield 123 d_M_before_120 rfl fd_M_45 rfl rfl ?_
            refine rn_aload_n 124 d_M_before_123 rfl rfl ?_
            refine rn_iload 126 d_M_before_124 rfl rfl ?_
            refine rn_callV1 129 d_M_before_126 rfl cw_M_88 rfl (Nat.le_of_ble_eq_true rfl) (ev_M_entry hn (fun b q0 q1 => (hB b q0 q1).1) hFc hEc) ?_
            rintro _ _ ⟨rfl, rfl⟩
            refine rn_iaload 130 d_M_before_129 rfl rfl (by decide) (by omega) (by omega) ?_
            refine rn_iload_n 131 d_M_before_130 rfl rfl ?_
            refine rn_icmp_ne 138 134 d_M_before_131 rfl rfl ⟨by omega, by omega⟩ ⟨by omega, by omega⟩ (fun c_131 => ?_) (fun c_131 => ?_)
            · refine rn_iconst 139 d_M_before_138 rfl ?_
              first
                | (exfalso; omega)
                | exact rn_ireturn d_M_before_139 (Or.inr ⟨rfl, Or.inr rfl⟩) ⟨by rw [bz_t (Or.inr ⟨q40, Or.inr ⟨c_53, Or.inr ⟨c_74, Or.inl ⟨by omega, by omega⟩⟩⟩⟩)], rfl⟩
                | (refine rn_ireturn d_M_before_139 (Or.inr ⟨rfl, Or.inl rfl⟩) ⟨?_, rfl⟩
                   rw [bz_f]
                   rintro (z | ⟨-, z | ⟨-, z | ⟨-, z | z⟩⟩⟩)
                   · exact z.1 q40
                   · omega
                   · exact c_74 z.1
                   · omega
                   · omega)
            · refine rn_iconst 135 d_M_before_134 rfl ?_
              refine rn_goto 139 d_M_before_135 rfl ?_
              first
                | (exfalso; omega)
                | exact rn_ireturn d_M_before_139 (Or.inr ⟨rfl, Or.inr rfl⟩) ⟨by rw [bz_t (Or.inr ⟨q40, Or.inr ⟨c_53, Or.inr ⟨c_74, Or.inl ⟨by omega, by omega⟩⟩⟩⟩)], rfl⟩
                | (refine rn_ireturn d_M_before_139 (Or.inr ⟨rfl, Or.inl rfl⟩) ⟨?_, rfl⟩
                   rw [bz_f]
                   rintro (z | ⟨-, z | ⟨-, z | ⟨-, z | z⟩⟩⟩)
                   · exact z.1 q40
                   · omega
                   · exact c_74 z.1
                   · omega
                   · omega)
      · refine rn_iload_n 78 d_M_before_77 rfl rfl ?_
        refine rn_iload 80 d_M_before_78 rfl rfl ?_
        refine rn_icmp_ge 87 83 d_M_before_80 rfl rfl ⟨by omega, by omega⟩ ⟨by omega, by omega⟩ (fun c_80 => ?_) (fun c_80 => ?_)
        · refine rn_iconst 88 d_M_before_87 rfl ?_
          first
            | exact rn_ireturn d_M_before_88 (Or.inr ⟨rfl, Or.inr rfl⟩) ⟨by rw [bz_t (Or.inr ⟨q40, Or.inr ⟨c_53, Or.inl ⟨c_74, by omega⟩⟩⟩)], rfl⟩
            | (refine rn_ireturn d_M_before_88 (Or.inr ⟨rfl, Or.inl rfl⟩) ⟨?_, rfl⟩
               rw [bz_f]
               rintro (z | ⟨-, z | ⟨-, z | z⟩⟩)
               · exact z.1 q40
               · omega
               · omega
               · exact z.1 c_74)
        · refine rn_iconst 84 d_M_before_83 rfl ?_
          refine rn_goto 88 d_M_before_84 rfl ?_
          first
            | exact rn_ireturn d_M_before_88 (Or.inr ⟨rfl, Or.inr rfl⟩) ⟨by rw [bz_t (Or.inr ⟨q40, Or.inr ⟨c_53, Or.inl ⟨c_74, by omega⟩⟩⟩)], rfl⟩
            | (refine rn_ireturn d_M_before_88 (Or.inr ⟨rfl, Or.inl rfl⟩) ⟨?_, rfl⟩
               rw [bz_f]
               rintro (z | ⟨-, z | ⟨-, z | z⟩⟩)
               · exact z.1 q40
               · omega
               · omega
               · exact z.1 c_74)
    · refine rn_iload 58 d_M_before_56 rfl rfl ?_
      refine rn_iload 60 d_M_before_58 rfl rfl ?_
      refine rn_icmp_ge 67 63 d_M_before_60 rfl rfl ⟨by omega, by omega⟩ ⟨by omega, by omega⟩ (fun c_60 => ?_) (fun c_60 => ?_)
      · refine rn_iconst 68 d_M_before_67 rfl ?_
        first
          | exact rn_ireturn d_M_before_68 (Or.inr ⟨rfl, Or.inr rfl⟩) ⟨by rw [bz_t (Or.inr ⟨q40, Or.inl (by omega)⟩)], rfl⟩
          | (refine rn_ireturn d_M_before_68 (Or.inr ⟨rfl, Or.inl rfl⟩) ⟨?_, rfl⟩
             rw [bz_f]
             rintro (z | ⟨-, z | z⟩)
             · exact z.1 q40
             · omega
             · omega)
      · refine rn_iconst 64 d_M_before_63 rfl ?_
        refine rn_goto 68 d_M_before_64 rfl ?_
        first
          | exact rn_ireturn d_M_before_68 (Or.inr ⟨rfl, Or.inr rfl⟩) ⟨by rw [bz_t (Or.inr ⟨q40, Or.inl (by omega)⟩)], rfl⟩
          | (refine rn_ireturn d_M_before_68 (Or.inr ⟨rfl, Or.inl rfl⟩) ⟨?_, rfl⟩
             rw [bz_f]
             rintro (z | ⟨-, z | z⟩)
             · exact z.1 q40
             · omega
             · omega)
  · refine rn_aload_n 44 d_M_before_43 rfl rfl ?_
    refine rn_iload_n 45 d_M_before_44 rfl rfl ?_
    refine rn_callV1 48 d_M_before_45 rfl cw_M_111 rfl (Nat.le_of_ble_eq_true rfl) (ev_M_isCold (Q := Qd) hI hCH hEN ⟨by omega, by omega⟩ hQd) ?_
    rintro _ _ ⟨rfl, rfl⟩
    have q40 : ¬ (Qc ↔ Qd) := fun z => c_40 (bz_eq.mpr z)
    exact rn_ireturn d_M_before_48 (Or.inr ⟨rfl, bz_01⟩) ⟨congrArg (fun z => some (vI z)) (bz_eq.mpr ⟨fun z => Or.inl ⟨q40, z⟩, fun z => by
      rcases z with z | z
      · exact z.2
      · exact absurd z.1 q40⟩), rfl⟩
