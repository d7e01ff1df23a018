set_option maxRecDepth 100000 in
set_option maxHeartbeats 400000 in
theorem ev_W_cell {sc : av_sc} {d : Nat} {h0 : av_H} {k : Int} (hn : sc.1 ≤ 1000000) (hk : 0 ≤ k ∧ k ≤ 1000000) : av_Ev sc m_W_cell (d) false 0 0 [vS, vI k] (h0) (fun r h => r = some (vI (if k < (sc.1 : Int) then sc.2 k else 0)) ∧ h = h0) := by
  refine av_ev rfl rfl (Nat.le_of_ble_eq_true rfl) rfl ?_
  refine rn_iload_n 1 d_W_cell_0 rfl rfl ?_
  refine rn_aload_nS 2 d_W_cell_1 rfl rfl ?_
  refine rn_alenS 3 d_W_cell_2 rfl ?_
  refine rn_icmp_ge 12 6 d_W_cell_3 rfl rfl ⟨by omega, by omega⟩ ⟨by omega, by omega⟩ (fun c_3 => ?_) (fun c_3 => ?_)
  · refine rn_iconst 13 d_W_cell_12 rfl ?_
    first
      | exact rn_ireturn d_W_cell_13 (Or.inl rfl) ⟨by rw [if_pos (by omega)], rfl⟩
      | exact rn_ireturn d_W_cell_13 (Or.inl rfl) ⟨by rw [if_neg (by omega)], rfl⟩
  · refine rn_aload_nS 7 d_W_cell_6 rfl rfl ?_
    refine rn_iload_n 8 d_W_cell_7 rfl rfl ?_
    refine rn_ialoadS 9 d_W_cell_8 rfl (by omega) (by omega) (by omega) ?_
    refine rn_goto 13 d_W_cell_9 rfl ?_
    first
      | exact rn_ireturn d_W_cell_13 (Or.inl rfl) ⟨by rw [if_pos (by omega)], rfl⟩
      | exact rn_ireturn d_W_cell_13 (Or.inl rfl) ⟨by rw [if_neg (by omega)], rfl⟩
set_option maxRecDepth 100000 in
set_option maxHeartbeats 400000 in
theorem law_loop {sc : av_sc} (hn : sc.1 ≤ 1000000) (hin : ∀ j, av_in (sc.2 j)) :
    ∀ (z : Nat) (i : Int) (σ : av_S), RR σ → 1 ≤ i → i ≤ (sc.1 : Int) + 4 → (sc.1 : Int) < i + 4 * (z : Int) → av_Rn sc m_W_law 6 true 0 0 0 28 [some vS, some (vR 0), some (vR 26), some (vI i)] [] (hp σ) (fun r _ => r = some (vI 1)) := by
  intro z
  induction z with
  | zero =>
    intro i σ h h1 h2 hz
    refine rn_iload_n 29 d_W_law_28 rfl rfl ?_
    refine rn_aload_nS 30 d_W_law_29 rfl rfl ?_
    refine rn_alenS 31 d_W_law_30 rfl ?_
    refine rn_iconst 32 d_W_law_31 rfl ?_
    refine rn_isub 33 d_W_law_32 rfl ?_
    refine rn_icmp_gt 540 36 d_W_law_33 rfl rfl ⟨by omega, by omega⟩ ⟨by omega, by omega⟩ (fun c_33 => ?_) (fun c_33 => ?_)
    · refine rn_iconst 541 d_W_law_540 rfl ?_
      exact rn_ireturn d_W_law_541 (Or.inr ⟨rfl, Or.inr rfl⟩) rfl
    · omega
  | succ z ih =>
    intro i σ h h1 h2 hz
    obtain ⟨zz, z0, z15, hzz⟩ := and15 (sc.2 i)
    have X : i ≤ (sc.1 : Int) - 4 → ∀ τ : av_S, RR τ → av_Rn sc m_W_law 6 true 0 0 0 534 [some vS, some (vR 0), some (vR 26), some (vI i)] [] (hp τ) (fun r _ => r = some (vI 1)) := by
      intro hi τ hτ
      refine rn_iinc 537 d_W_law_534 rfl rfl (by decide) rfl rfl ?_
      refine rn_goto 28 d_W_law_537 rfl ?_
      exact ih (i + 4) τ hτ (by omega) (by omega) (by omega)
    refine rn_iload_n 29 d_W_law_28 rfl rfl ?_
    refine rn_aload_nS 30 d_W_law_29 rfl rfl ?_
    refine rn_alenS 31 d_W_law_30 rfl ?_
    refine rn_iconst 32 d_W_law_31 rfl ?_
    refine rn_isub 33 d_W_law_32 rfl ?_
    refine rn_icmp_gt 540 36 d_W_law_33 rfl rfl ⟨by omega, by omega⟩ ⟨by omega, by omega⟩ (fun c_33 => ?_) (fun c_33 => ?_)
    · refine rn_iconst 541 d_W_law_540 rfl ?_
      exact rn_ireturn d_W_law_541 (Or.inr ⟨rfl, Or.inr rfl⟩) rfl
    · have X := X (by omega)
      refine rn_aload_nS 37 d_W_law_36 rfl rfl ?_
      refine rn_iload_n 38 d_W_law_37 rfl rfl ?_
      refine rn_ialoadS 39 d_W_law_38 rfl (by omega) (by omega) (by omega) ?_
      refine rn_bipush 41 d_W_law_39 rfl rfl ?_
      refine rn_iand 42 d_W_law_41 rfl zz hzz ?_
      rcases (show zz = 0 ∨ zz = 1 ∨ zz = 2 ∨ zz = 3 ∨ zz = 4 ∨ zz = 5 ∨ zz = 6 ∨ zz = 7 ∨ zz = 8 ∨ zz = 9 ∨ zz = 10 ∨ zz = 11 ∨ zz = 12 ∨ zz = 13 ∨ 13 < zz by omega) with rfl | rfl | rfl | rfl | rfl | rfl | rfl | rfl | rfl | rfl | rfl | rfl | rfl | rfl | hz
      · refine rn_tabIn 112 d_W_law_42 ⟨by decide, by decide⟩ (by decide) (by decide) rfl rfl ?_
        refine rn_aload_n 113 d_W_law_112 rfl rfl ?_
        refine rn_aload_nS 114 d_W_law_113 rfl rfl ?_
        refine rn_iload_n 115 d_W_law_114 rfl rfl ?_
        refine rn_iconst 116 d_W_law_115 rfl ?_
        refine rn_iadd 117 d_W_law_116 rfl ?_
        refine rn_ialoadS 118 d_W_law_117 rfl (by omega) (by omega) (by omega) ?_
        refine rn_aload_nS 119 d_W_law_118 rfl rfl ?_
        refine rn_iload_n 120 d_W_law_119 rfl rfl ?_
        refine rn_iconst 121 d_W_law_120 rfl ?_
        refine rn_iadd 122 d_W_law_121 rfl ?_
        refine rn_ialoadS 123 d_W_law_122 rfl (by omega) (by omega) (by omega) ?_
        refine rn_callV2 126 d_W_law_123 rfl cw_W_21 rfl (Nat.le_of_ble_eq_true rfl) (ev_L_block (hin _) (hin _) h.1) ?_
        rintro _ _ ⟨rfl, rfl⟩
        refine rn_aload_n 127 d_W_law_126 rfl rfl ?_
        refine rn_aload_nS 128 d_W_law_127 rfl rfl ?_
        refine rn_iload_n 129 d_W_law_128 rfl rfl ?_
        refine rn_iconst 130 d_W_law_129 rfl ?_
        refine rn_iadd 131 d_W_law_130 rfl ?_
        refine rn_ialoadS 132 d_W_law_131 rfl (by omega) (by omega) (by omega) ?_
        refine rn_aload_nS 133 d_W_law_132 rfl rfl ?_
        refine rn_iload_n 134 d_W_law_133 rfl rfl ?_
        refine rn_iconst 135 d_W_law_134 rfl ?_
        refine rn_iadd 136 d_W_law_135 rfl ?_
        refine rn_ialoadS 137 d_W_law_136 rfl (by omega) (by omega) (by omega) ?_
        refine rn_callV2 140 d_W_law_137 rfl cw_W_25 rfl (Nat.le_of_ble_eq_true rfl) (ev_M_block (σ := sBlock σ (sc.2 (i + 1)) (sc.2 (i + 2))) (hin _) (hin _) (c_block h).1) ?_
        rintro _ _ ⟨rfl, rfl⟩
        rw [(c_block h).2.1]
        refine rn_icmp_same_eq 534 d_W_law_140 rfl ?_
        exact X _ (c_block h).2.2
      · refine rn_tabIn 145 d_W_law_42 ⟨by decide, by decide⟩ (by decide) (by decide) rfl rfl ?_
        refine rn_aload_n 146 d_W_law_145 rfl rfl ?_
        refine rn_aload_nS 147 d_W_law_146 rfl rfl ?_
        refine rn_iload_n 148 d_W_law_147 rfl rfl ?_
        refine rn_iconst 149 d_W_law_148 rfl ?_
        refine rn_iadd 150 d_W_law_149 rfl ?_
        refine rn_ialoadS 151 d_W_law_150 rfl (by omega) (by omega) (by omega) ?_
        refine rn_aload_nS 152 d_W_law_151 rfl rfl ?_
        refine rn_iload_n 153 d_W_law_152 rfl rfl ?_
        refine rn_iconst 154 d_W_law_153 rfl ?_
        refine rn_iadd 155 d_W_law_154 rfl ?_
        refine rn_ialoadS 156 d_W_law_155 rfl (by omega) (by omega) (by omega) ?_
        refine rn_callV2 159 d_W_law_156 rfl cw_W_26 rfl (Nat.le_of_ble_eq_true rfl) (ev_L_jump (hin _) (hin _) h.1) ?_
        rintro _ _ ⟨rfl, rfl⟩
        refine rn_aload_n 160 d_W_law_159 rfl rfl ?_
        refine rn_aload_nS 161 d_W_law_160 rfl rfl ?_
        refine rn_iload_n 162 d_W_law_161 rfl rfl ?_
        refine rn_iconst 163 d_W_law_162 rfl ?_
        refine rn_iadd 164 d_W_law_163 rfl ?_
        refine rn_ialoadS 165 d_W_law_164 rfl (by omega) (by omega) (by omega) ?_
        refine rn_aload_nS 166 d_W_law_165 rfl rfl ?_
        refine rn_iload_n 167 d_W_law_166 rfl rfl ?_
        refine rn_iconst 168 d_W_law_167 rfl ?_
        refine rn_iadd 169 d_W_law_168 rfl ?_
        refine rn_ialoadS 170 d_W_law_169 rfl (by omega) (by omega) (by omega) ?_
        refine rn_callV2 173 d_W_law_170 rfl cw_W_29 rfl (Nat.le_of_ble_eq_true rfl) (ev_M_jump (σ := sJump σ (sc.2 (i + 1)) (sc.2 (i + 2))) (hin _) (hin _) (c_jump h).1) ?_
        rintro _ _ ⟨rfl, rfl⟩
        rw [(c_jump h).2.1]
        refine rn_icmp_same_eq 534 d_W_law_173 rfl ?_
        exact X _ (c_jump h).2.2
      · refine rn_tabIn 178 d_W_law_42 ⟨by decide, by decide⟩ (by decide) (by decide) rfl rfl ?_
        refine rn_aload_n 179 d_W_law_178 rfl rfl ?_
        refine rn_aload_nS 180 d_W_law_179 rfl rfl ?_
        refine rn_iload_n 181 d_W_law_180 rfl rfl ?_
        refine rn_iconst 182 d_W_law_181 rfl ?_
        refine rn_iadd 183 d_W_law_182 rfl ?_
        refine rn_ialoadS 184 d_W_law_183 rfl (by omega) (by omega) (by omega) ?_
        refine rn_aload_nS 185 d_W_law_184 rfl rfl ?_
        refine rn_iload_n 186 d_W_law_185 rfl rfl ?_
        refine rn_iconst 187 d_W_law_186 rfl ?_
        refine rn_iadd 188 d_W_law_187 rfl ?_
        refine rn_ialoadS 189 d_W_law_188 rfl (by omega) (by omega) (by omega) ?_
        refine rn_aload_nS 190 d_W_law_189 rfl rfl ?_
        refine rn_iload_n 191 d_W_law_190 rfl rfl ?_
        refine rn_iconst 192 d_W_law_191 rfl ?_
        refine rn_iadd 193 d_W_law_192 rfl ?_
        refine rn_ialoadS 194 d_W_law_193 rfl (by omega) (by omega) (by omega) ?_
        refine rn_callV3 197 d_W_law_194 rfl cw_W_30 rfl (Nat.le_of_ble_eq_true rfl) (ev_L_test (hin _) (hin _) (hin _) h.1) ?_
        rintro _ _ ⟨rfl, rfl⟩
        refine rn_aload_n 198 d_W_law_197 rfl rfl ?_
        refine rn_aload_nS 199 d_W_law_198 rfl rfl ?_
        refine rn_iload_n 200 d_W_law_199 rfl rfl ?_
        refine rn_iconst 201 d_W_law_200 rfl ?_
        refine rn_iadd 202 d_W_law_201 rfl ?_
        refine rn_ialoadS 203 d_W_law_202 rfl (by omega) (by omega) (by omega) ?_
        refine rn_aload_nS 204 d_W_law_203 rfl rfl ?_
        refine rn_iload_n 205 d_W_law_204 rfl rfl ?_
        refine rn_iconst 206 d_W_law_205 rfl ?_
        refine rn_iadd 207 d_W_law_206 rfl ?_
        refine rn_ialoadS 208 d_W_law_207 rfl (by omega) (by omega) (by omega) ?_
        refine rn_aload_nS 209 d_W_law_208 rfl rfl ?_
        refine rn_iload_n 210 d_W_law_209 rfl rfl ?_
        refine rn_iconst 211 d_W_law_210 rfl ?_
        refine rn_iadd 212 d_W_law_211 rfl ?_
        refine rn_ialoadS 213 d_W_law_212 rfl (by omega) (by omega) (by omega) ?_
        refine rn_callV3 216 d_W_law_213 rfl cw_W_34 rfl (Nat.le_of_ble_eq_true rfl) (ev_M_test (σ := sTest σ (sc.2 (i + 1)) (sc.2 (i + 2)) (sc.2 (i + 3))) (hin _) (hin _) (hin _) (c_test h).1) ?_
        rintro _ _ ⟨rfl, rfl⟩
        rw [(c_test h).2.1]
        refine rn_icmp_same_eq 534 d_W_law_216 rfl ?_
        exact X _ (c_test h).2.2
      · refine rn_tabIn 221 d_W_law_42 ⟨by decide, by decide⟩ (by decide) (by decide) rfl rfl ?_
        refine rn_aload_n 222 d_W_law_221 rfl rfl ?_
        refine rn_aload_nS 223 d_W_law_222 rfl rfl ?_
        refine rn_iload_n 224 d_W_law_223 rfl rfl ?_
        refine rn_iconst 225 d_W_law_224 rfl ?_
        refine rn_iadd 226 d_W_law_225 rfl ?_
        refine rn_ialoadS 227 d_W_law_226 rfl (by omega) (by omega) (by omega) ?_
        refine rn_aload_nS 228 d_W_law_227 rfl rfl ?_
        refine rn_iload_n 229 d_W_law_228 rfl rfl ?_
        refine rn_iconst 230 d_W_law_229 rfl ?_
        refine rn_iadd 231 d_W_law_230 rfl ?_
        refine rn_ialoadS 232 d_W_law_231 rfl (by omega) (by omega) (by omega) ?_
        refine rn_callV2 235 d_W_law_232 rfl cw_W_35 rfl (Nat.le_of_ble_eq_true rfl) (ev_L_walk (hin _) (hin _) h.1) ?_
        rintro _ _ q
        rcases q with ⟨nc, rfl, rfl⟩ | ⟨cq, F, G, rfl, rfl⟩
        · refine rn_aload_n 236 d_W_law_235 rfl rfl ?_
          refine rn_aload_nS 237 d_W_law_236 rfl rfl ?_
          refine rn_iload_n 238 d_W_law_237 rfl rfl ?_
          refine rn_iconst 239 d_W_law_238 rfl ?_
          refine rn_iadd 240 d_W_law_239 rfl ?_
          refine rn_ialoadS 241 d_W_law_240 rfl (by omega) (by omega) (by omega) ?_
          refine rn_aload_nS 242 d_W_law_241 rfl rfl ?_
          refine rn_iload_n 243 d_W_law_242 rfl rfl ?_
          refine rn_iconst 244 d_W_law_243 rfl ?_
          refine rn_iadd 245 d_W_law_244 rfl ?_
          refine rn_ialoadS 246 d_W_law_245 rfl (by omega) (by omega) (by omega) ?_
          refine rn_callV2 249 d_W_law_246 rfl cw_W_38 rfl (Nat.le_of_ble_eq_true rfl) (ev_M_walk (e := σ 6 (sc.2 (i + 1))) (EN := σ 4) (TO := σ 5) (hin _) (hin _) (RR_M h) (RR_W h) (fun a b => RR_EM h _ a b)) ?_
          rintro _ _ (⟨-, rfl, rfl⟩ | ⟨c, -⟩)
          case inr => exact absurd ⟨⟨c.1.1, by omega⟩, c.2⟩ nc
          refine rn_icmp_same_eq 534 d_W_law_249 rfl ?_
          exact X _ h
        · refine rn_aload_n 236 d_W_law_235 rfl rfl ?_
          refine rn_aload_nS 237 d_W_law_236 rfl rfl ?_
          refine rn_iload_n 238 d_W_law_237 rfl rfl ?_
          refine rn_iconst 239 d_W_law_238 rfl ?_
          refine rn_iadd 240 d_W_law_239 rfl ?_
          refine rn_ialoadS 241 d_W_law_240 rfl (by omega) (by omega) (by omega) ?_
          refine rn_aload_nS 242 d_W_law_241 rfl rfl ?_
          refine rn_iload_n 243 d_W_law_242 rfl rfl ?_
          refine rn_iconst 244 d_W_law_243 rfl ?_
          refine rn_iadd 245 d_W_law_244 rfl ?_
          refine rn_ialoadS 246 d_W_law_245 rfl (by omega) (by omega) (by omega) ?_
          refine rn_callV2 249 d_W_law_246 rfl cw_W_38 rfl (Nat.le_of_ble_eq_true rfl) (ev_M_walk (σ := nS (tS σ F G ((wl σ (sc.2 (i + 1)) (sc.2 (i + 2))).length : Int)) (cb (wl σ (sc.2 (i + 1)) (sc.2 (i + 2))) (σ 8)) (ce (wl σ (sc.2 (i + 1)) (sc.2 (i + 2))) (σ 9))) (e := σ 6 (sc.2 (i + 1))) (EN := σ 4) (TO := σ 5) (hin _) (hin _) (iM_keep (RR_M h) rfl rfl rfl rfl rfl rfl rfl) (RR_W (σ := σ) h) (fun a b => RR_EM (σ := σ) h _ a b)) ?_
          rintro _ _ (⟨c, -⟩ | ⟨-, rfl, rfl⟩)
          · exact absurd ⟨⟨cq.1.1, by omega⟩, cq.2⟩ c
          refine rn_icmp_same_eq 534 d_W_law_249 rfl ?_
          exact X _ (c_walk h cq.1)
      · refine rn_tabIn 254 d_W_law_42 ⟨by decide, by decide⟩ (by decide) (by decide) rfl rfl ?_
        refine rn_aload_n 255 d_W_law_254 rfl rfl ?_
        refine rn_aload_nS 256 d_W_law_255 rfl rfl ?_
        refine rn_iload_n 257 d_W_law_256 rfl rfl ?_
        refine rn_iconst 258 d_W_law_257 rfl ?_
        refine rn_iadd 259 d_W_law_258 rfl ?_
        refine rn_ialoadS 260 d_W_law_259 rfl (by omega) (by omega) (by omega) ?_
        refine rn_aload_nS 261 d_W_law_260 rfl rfl ?_
        refine rn_iload_n 262 d_W_law_261 rfl rfl ?_
        refine rn_iconst 263 d_W_law_262 rfl ?_
        refine rn_iadd 264 d_W_law_263 rfl ?_
        refine rn_ialoadS 265 d_W_law_264 rfl (by omega) (by omega) (by omega) ?_
        refine rn_aload_nS 266 d_W_law_265 rfl rfl ?_
        refine rn_iload_n 267 d_W_law_266 rfl rfl ?_
        refine rn_iconst 268 d_W_law_267 rfl ?_
        refine rn_iadd 269 d_W_law_268 rfl ?_
        refine rn_ialoadS 270 d_W_law_269 rfl (by omega) (by omega) (by omega) ?_
        refine rn_callV3 273 d_W_law_270 rfl cw_W_39 rfl (Nat.le_of_ble_eq_true rfl) (ev_L_heat (hin _) (hin _) (hin _) h.1) ?_
        rintro _ _ q
        rcases q with ⟨nc, rfl, rfl⟩ | ⟨cq, rfl, rfl⟩
        · refine rn_aload_n 274 d_W_law_273 rfl rfl ?_
          refine rn_aload_nS 275 d_W_law_274 rfl rfl ?_
          refine rn_iload_n 276 d_W_law_275 rfl rfl ?_
          refine rn_iconst 277 d_W_law_276 rfl ?_
          refine rn_iadd 278 d_W_law_277 rfl ?_
          refine rn_ialoadS 279 d_W_law_278 rfl (by omega) (by omega) (by omega) ?_
          refine rn_aload_nS 280 d_W_law_279 rfl rfl ?_
          refine rn_iload_n 281 d_W_law_280 rfl rfl ?_
          refine rn_iconst 282 d_W_law_281 rfl ?_
          refine rn_iadd 283 d_W_law_282 rfl ?_
          refine rn_ialoadS 284 d_W_law_283 rfl (by omega) (by omega) (by omega) ?_
          refine rn_aload_nS 285 d_W_law_284 rfl rfl ?_
          refine rn_iload_n 286 d_W_law_285 rfl rfl ?_
          refine rn_iconst 287 d_W_law_286 rfl ?_
          refine rn_iadd 288 d_W_law_287 rfl ?_
          refine rn_ialoadS 289 d_W_law_288 rfl (by omega) (by omega) (by omega) ?_
          refine rn_callV3 292 d_W_law_289 rfl cw_W_42 rfl (Nat.le_of_ble_eq_true rfl) (ev_M_heat (hin _) (hin _) (hin _) (RR_M h)) ?_
          rintro _ _ (⟨-, rfl, rfl⟩ | ⟨c, -⟩)
          case inr => exact absurd ((cHeat_iff h).mp c) nc
          refine rn_icmp_same_eq 534 d_W_law_292 rfl ?_
          exact X _ h
        · refine rn_aload_n 274 d_W_law_273 rfl rfl ?_
          refine rn_aload_nS 275 d_W_law_274 rfl rfl ?_
          refine rn_iload_n 276 d_W_law_275 rfl rfl ?_
          refine rn_iconst 277 d_W_law_276 rfl ?_
          refine rn_iadd 278 d_W_law_277 rfl ?_
          refine rn_ialoadS 279 d_W_law_278 rfl (by omega) (by omega) (by omega) ?_
          refine rn_aload_nS 280 d_W_law_279 rfl rfl ?_
          refine rn_iload_n 281 d_W_law_280 rfl rfl ?_
          refine rn_iconst 282 d_W_law_281 rfl ?_
          refine rn_iadd 283 d_W_law_282 rfl ?_
          refine rn_ialoadS 284 d_W_law_283 rfl (by omega) (by omega) (by omega) ?_
          refine rn_aload_nS 285 d_W_law_284 rfl rfl ?_
          refine rn_iload_n 286 d_W_law_285 rfl rfl ?_
          refine rn_iconst 287 d_W_law_286 rfl ?_
          refine rn_iadd 288 d_W_law_287 rfl ?_
          refine rn_ialoadS 289 d_W_law_288 rfl (by omega) (by omega) (by omega) ?_
          refine rn_callV3 292 d_W_law_289 rfl cw_W_42 rfl (Nat.le_of_ble_eq_true rfl) (ev_M_heat (σ := sHeat σ (sc.2 (i + 1)) (sc.2 (i + 2)) (sc.2 (i + 3))) (hin _) (hin _) (hin _) (c_heat h cq).1) ?_
          rintro _ _ (⟨c, -⟩ | ⟨-, rfl, rfl⟩)
          · exact absurd (c_heat h cq).2.1 c
          rw [(c_heat h cq).2.2.1]
          refine rn_icmp_same_eq 534 d_W_law_292 rfl ?_
          exact X _ (c_heat h cq).2.2.2
      · refine rn_tabIn 297 d_W_law_42 ⟨by decide, by decide⟩ (by decide) (by decide) rfl rfl ?_
        refine rn_aload_n 298 d_W_law_297 rfl rfl ?_
        refine rn_callV0 301 d_W_law_298 rfl cw_W_43 rfl (Nat.le_of_ble_eq_true rfl) ev_L_cool ?_
        rintro _ _ ⟨rfl, rfl⟩
        refine rn_aload_n 302 d_W_law_301 rfl rfl ?_
        refine rn_callV0 305 d_W_law_302 rfl cw_W_47 rfl (Nat.le_of_ble_eq_true rfl) (ev_M_cool (σ := sN_clear σ)) ?_
        rintro _ _ ⟨rfl, rfl⟩
        refine rn_icmp_same_eq 534 d_W_law_305 rfl ?_
        exact X _ (c_cool h)
      · refine rn_tabIn 310 d_W_law_42 ⟨by decide, by decide⟩ (by decide) (by decide) rfl rfl ?_
        refine rn_aload_n 311 d_W_law_310 rfl rfl ?_
        refine rn_aload_nS 312 d_W_law_311 rfl rfl ?_
        refine rn_iload_n 313 d_W_law_312 rfl rfl ?_
        refine rn_iconst 314 d_W_law_313 rfl ?_
        refine rn_iadd 315 d_W_law_314 rfl ?_
        refine rn_ialoadS 316 d_W_law_315 rfl (by omega) (by omega) (by omega) ?_
        refine rn_callV1 319 d_W_law_316 rfl cw_W_48 rfl (Nat.le_of_ble_eq_true rfl) (ev_L_layout (hin _) h.1 h.2.2.2.1.1 h.2.2.2.1.2.1) ?_
        rintro _ _ q
        rcases q with ⟨nc, rfl, rfl⟩ | ⟨cq, σ1, hL, rfl, rfl⟩
        · refine rn_aload_n 320 d_W_law_319 rfl rfl ?_
          refine rn_aload_nS 321 d_W_law_320 rfl rfl ?_
          refine rn_iload_n 322 d_W_law_321 rfl rfl ?_
          refine rn_iconst 323 d_W_law_322 rfl ?_
          refine rn_iadd 324 d_W_law_323 rfl ?_
          refine rn_ialoadS 325 d_W_law_324 rfl (by omega) (by omega) (by omega) ?_
          refine rn_callV1 328 d_W_law_325 rfl cw_W_52 rfl (Nat.le_of_ble_eq_true rfl) (ev_M_layoutNo (hin _) (RR_M h) (by rw [h.2.1.1.2.1]; exact nc)) ?_
          rintro _ _ ⟨rfl, rfl⟩
          refine rn_icmp_same_eq 534 d_W_law_328 rfl ?_
          exact X _ h
        · refine rn_aload_n 320 d_W_law_319 rfl rfl ?_
          refine rn_aload_nS 321 d_W_law_320 rfl rfl ?_
          refine rn_iload_n 322 d_W_law_321 rfl rfl ?_
          refine rn_iconst 323 d_W_law_322 rfl ?_
          refine rn_iadd 324 d_W_law_323 rfl ?_
          refine rn_ialoadS 325 d_W_law_324 rfl (by omega) (by omega) (by omega) ?_
          refine rn_callV1 328 d_W_law_325 rfl cw_W_52 rfl (Nat.le_of_ble_eq_true rfl) (ev_M_layoutOk h cq hL) ?_
          rintro _ _ ⟨rfl, τ, hτ, rfl⟩
          refine rn_icmp_same_eq 534 d_W_law_328 rfl ?_
          exact X _ hτ
      · refine rn_tabIn 333 d_W_law_42 ⟨by decide, by decide⟩ (by decide) (by decide) rfl rfl ?_
        refine rn_aload_n 334 d_W_law_333 rfl rfl ?_
        refine rn_aload_nS 335 d_W_law_334 rfl rfl ?_
        refine rn_iload_n 336 d_W_law_335 rfl rfl ?_
        refine rn_iconst 337 d_W_law_336 rfl ?_
        refine rn_iadd 338 d_W_law_337 rfl ?_
        refine rn_ialoadS 339 d_W_law_338 rfl (by omega) (by omega) (by omega) ?_
        refine rn_callV1 342 d_W_law_339 rfl cw_W_53 rfl (Nat.le_of_ble_eq_true rfl) (ev_L_at (hin _) h.1) ?_
        rintro _ _ ⟨rfl, rfl⟩
        refine rn_aload_n 343 d_W_law_342 rfl rfl ?_
        refine rn_aload_nS 344 d_W_law_343 rfl rfl ?_
        refine rn_iload_n 345 d_W_law_344 rfl rfl ?_
        refine rn_iconst 346 d_W_law_345 rfl ?_
        refine rn_iadd 347 d_W_law_346 rfl ?_
        refine rn_ialoadS 348 d_W_law_347 rfl (by omega) (by omega) (by omega) ?_
        refine rn_callV1 351 d_W_law_348 rfl cw_W_56 rfl (Nat.le_of_ble_eq_true rfl) (ev_M_at (hin _) (RR_M h)) ?_
        rintro _ _ ⟨rfl, rfl⟩
        rw [c_at h]
        refine rn_icmp_same_eq 534 d_W_law_351 rfl ?_
        exact X _ h
      · refine rn_tabIn 356 d_W_law_42 ⟨by decide, by decide⟩ (by decide) (by decide) rfl rfl ?_
        refine rn_aload_n 357 d_W_law_356 rfl rfl ?_
        refine rn_aload_nS 358 d_W_law_357 rfl rfl ?_
        refine rn_iload_n 359 d_W_law_358 rfl rfl ?_
        refine rn_iconst 360 d_W_law_359 rfl ?_
        refine rn_iadd 361 d_W_law_360 rfl ?_
        refine rn_ialoadS 362 d_W_law_361 rfl (by omega) (by omega) (by omega) ?_
        refine rn_callV1 365 d_W_law_362 rfl cw_W_57 rfl (Nat.le_of_ble_eq_true rfl) (ev_L_address (hin _) h.1) ?_
        rintro _ _ ⟨rfl, rfl⟩
        refine rn_aload_n 366 d_W_law_365 rfl rfl ?_
        refine rn_aload_nS 367 d_W_law_366 rfl rfl ?_
        refine rn_iload_n 368 d_W_law_367 rfl rfl ?_
        refine rn_iconst 369 d_W_law_368 rfl ?_
        refine rn_iadd 370 d_W_law_369 rfl ?_
        refine rn_ialoadS 371 d_W_law_370 rfl (by omega) (by omega) (by omega) ?_
        refine rn_callV1 374 d_W_law_371 rfl cw_W_60 rfl (Nat.le_of_ble_eq_true rfl) (ev_M_address (hin _) (RR_M h) (RR_L h) (RR_O h) (fun a b c => RR_P h a b c)) ?_
        rintro _ _ q
        rcases q with ⟨nc, rfl, rfl⟩ | ⟨cq, p, p1, p2, p3, rfl, rfl⟩
        · rw [c_addressNo h nc]
          refine rn_icmp_same_eq 534 d_W_law_374 rfl ?_
          exact X _ h
        · rw [c_address h cq p1 p2]
          refine rn_icmp_same_eq 534 d_W_law_374 rfl ?_
          exact X _ h
      · refine rn_tabIn 379 d_W_law_42 ⟨by decide, by decide⟩ (by decide) (by decide) rfl rfl ?_
        refine rn_aload_n 380 d_W_law_379 rfl rfl ?_
        refine rn_aload_nS 381 d_W_law_380 rfl rfl ?_
        refine rn_iload_n 382 d_W_law_381 rfl rfl ?_
        refine rn_iconst 383 d_W_law_382 rfl ?_
        refine rn_iadd 384 d_W_law_383 rfl ?_
        refine rn_ialoadS 385 d_W_law_384 rfl (by omega) (by omega) (by omega) ?_
        refine rn_aload_nS 386 d_W_law_385 rfl rfl ?_
        refine rn_iload_n 387 d_W_law_386 rfl rfl ?_
        refine rn_iconst 388 d_W_law_387 rfl ?_
        refine rn_iadd 389 d_W_law_388 rfl ?_
        refine rn_ialoadS 390 d_W_law_389 rfl (by omega) (by omega) (by omega) ?_
        refine rn_callV2 393 d_W_law_390 rfl cw_W_61 rfl (Nat.le_of_ble_eq_true rfl) (ev_L_branch (hin _) (hin _) h.1 h.2.2.2.1.1) ?_
        rintro _ _ ⟨rfl, rfl⟩
        refine rn_aload_n 394 d_W_law_393 rfl rfl ?_
        refine rn_aload_nS 395 d_W_law_394 rfl rfl ?_
        refine rn_iload_n 396 d_W_law_395 rfl rfl ?_
        refine rn_iconst 397 d_W_law_396 rfl ?_
        refine rn_iadd 398 d_W_law_397 rfl ?_
        refine rn_ialoadS 399 d_W_law_398 rfl (by omega) (by omega) (by omega) ?_
        refine rn_aload_nS 400 d_W_law_399 rfl rfl ?_
        refine rn_iload_n 401 d_W_law_400 rfl rfl ?_
        refine rn_iconst 402 d_W_law_401 rfl ?_
        refine rn_iadd 403 d_W_law_402 rfl ?_
        refine rn_ialoadS 404 d_W_law_403 rfl (by omega) (by omega) (by omega) ?_
        refine rn_callV2 407 d_W_law_404 rfl cw_W_64 rfl (Nat.le_of_ble_eq_true rfl) (ev_M_branch (hin _) (hin _) (RR_M h) (RR_L h)) ?_
        rintro _ _ ⟨rfl, rfl⟩
        rw [c_branch h (hin _)]
        refine rn_icmp_same_eq 534 d_W_law_407 rfl ?_
        exact X _ h
      · refine rn_tabIn 412 d_W_law_42 ⟨by decide, by decide⟩ (by decide) (by decide) rfl rfl ?_
        refine rn_aload_n 413 d_W_law_412 rfl rfl ?_
        refine rn_aload_nS 414 d_W_law_413 rfl rfl ?_
        refine rn_iload_n 415 d_W_law_414 rfl rfl ?_
        refine rn_iconst 416 d_W_law_415 rfl ?_
        refine rn_iadd 417 d_W_law_416 rfl ?_
        refine rn_ialoadS 418 d_W_law_417 rfl (by omega) (by omega) (by omega) ?_
        refine rn_aload_nS 419 d_W_law_418 rfl rfl ?_
        refine rn_iload_n 420 d_W_law_419 rfl rfl ?_
        refine rn_iconst 421 d_W_law_420 rfl ?_
        refine rn_iadd 422 d_W_law_421 rfl ?_
        refine rn_ialoadS 423 d_W_law_422 rfl (by omega) (by omega) (by omega) ?_
        refine rn_callV2 426 d_W_law_423 rfl cw_W_65 rfl (Nat.le_of_ble_eq_true rfl) (ev_L_target (hin _) (hin _) h.1 h.2.2.2.1.1) ?_
        rintro _ _ ⟨rfl, rfl⟩
        refine rn_aload_n 427 d_W_law_426 rfl rfl ?_
        refine rn_aload_nS 428 d_W_law_427 rfl rfl ?_
        refine rn_iload_n 429 d_W_law_428 rfl rfl ?_
        refine rn_iconst 430 d_W_law_429 rfl ?_
        refine rn_iadd 431 d_W_law_430 rfl ?_
        refine rn_ialoadS 432 d_W_law_431 rfl (by omega) (by omega) (by omega) ?_
        refine rn_aload_nS 433 d_W_law_432 rfl rfl ?_
        refine rn_iload_n 434 d_W_law_433 rfl rfl ?_
        refine rn_iconst 435 d_W_law_434 rfl ?_
        refine rn_iadd 436 d_W_law_435 rfl ?_
        refine rn_ialoadS 437 d_W_law_436 rfl (by omega) (by omega) (by omega) ?_
        refine rn_callV2 440 d_W_law_437 rfl cw_W_68 rfl (Nat.le_of_ble_eq_true rfl) (ev_M_target (hin _) (hin _) (RR_M h) (RR_L h)) ?_
        rintro _ _ ⟨rfl, rfl⟩
        rw [c_target h (hin _)]
        refine rn_icmp_same_eq 534 d_W_law_440 rfl ?_
        exact X _ h
      · refine rn_tabIn 445 d_W_law_42 ⟨by decide, by decide⟩ (by decide) (by decide) rfl rfl ?_
        refine rn_aload_n 446 d_W_law_445 rfl rfl ?_
        refine rn_aload_nS 447 d_W_law_446 rfl rfl ?_
        refine rn_iload_n 448 d_W_law_447 rfl rfl ?_
        refine rn_iconst 449 d_W_law_448 rfl ?_
        refine rn_iadd 450 d_W_law_449 rfl ?_
        refine rn_ialoadS 451 d_W_law_450 rfl (by omega) (by omega) (by omega) ?_
        refine rn_aload_nS 452 d_W_law_451 rfl rfl ?_
        refine rn_iload_n 453 d_W_law_452 rfl rfl ?_
        refine rn_iconst 454 d_W_law_453 rfl ?_
        refine rn_iadd 455 d_W_law_454 rfl ?_
        refine rn_ialoadS 456 d_W_law_455 rfl (by omega) (by omega) (by omega) ?_
        refine rn_callV2 459 d_W_law_456 rfl cw_W_69 rfl (Nat.le_of_ble_eq_true rfl) (ev_L_cost (hin _) (hin _) h.1 h.2.2.2.1.1 h.2.2.2.1.2.1) ?_
        rintro _ _ q
        rcases q with ⟨nc, rfl, rfl⟩ | ⟨cq, F, G, rfl, rfl⟩
        · refine rn_aload_n 460 d_W_law_459 rfl rfl ?_
          refine rn_aload_nS 461 d_W_law_460 rfl rfl ?_
          refine rn_iload_n 462 d_W_law_461 rfl rfl ?_
          refine rn_iconst 463 d_W_law_462 rfl ?_
          refine rn_iadd 464 d_W_law_463 rfl ?_
          refine rn_ialoadS 465 d_W_law_464 rfl (by omega) (by omega) (by omega) ?_
          refine rn_aload_nS 466 d_W_law_465 rfl rfl ?_
          refine rn_iload_n 467 d_W_law_466 rfl rfl ?_
          refine rn_iconst 468 d_W_law_467 rfl ?_
          refine rn_iadd 469 d_W_law_468 rfl ?_
          refine rn_ialoadS 470 d_W_law_469 rfl (by omega) (by omega) (by omega) ?_
          refine rn_callV2 473 d_W_law_470 rfl cw_W_72 rfl (Nat.le_of_ble_eq_true rfl) (ev_M_cost (e := σ 6 (sc.2 (i + 1))) (EN := σ 4) (TO := σ 5) (hin _) (hin _) (RR_M h) (RR_L h) (RR_W h) (fun a b => RR_EM h _ a b)) ?_
          rintro _ _ (⟨-, rfl, rfl⟩ | ⟨c, -⟩)
          case inr => rw [h.2.1.1.2.2] at c; exact absurd ⟨c.1, ⟨c.2.1.1, by omega⟩, c.2.2⟩ nc
          refine rn_icmp_same_eq 534 d_W_law_473 rfl ?_
          exact X _ h
        · refine rn_aload_n 460 d_W_law_459 rfl rfl ?_
          refine rn_aload_nS 461 d_W_law_460 rfl rfl ?_
          refine rn_iload_n 462 d_W_law_461 rfl rfl ?_
          refine rn_iconst 463 d_W_law_462 rfl ?_
          refine rn_iadd 464 d_W_law_463 rfl ?_
          refine rn_ialoadS 465 d_W_law_464 rfl (by omega) (by omega) (by omega) ?_
          refine rn_aload_nS 466 d_W_law_465 rfl rfl ?_
          refine rn_iload_n 467 d_W_law_466 rfl rfl ?_
          refine rn_iconst 468 d_W_law_467 rfl ?_
          refine rn_iadd 469 d_W_law_468 rfl ?_
          refine rn_ialoadS 470 d_W_law_469 rfl (by omega) (by omega) (by omega) ?_
          refine rn_callV2 473 d_W_law_470 rfl cw_W_72 rfl (Nat.le_of_ble_eq_true rfl) (ev_M_cost (σ := tS σ F G ((wl σ (sc.2 (i + 1)) (sc.2 (i + 2))).length : Int)) (e := σ 6 (sc.2 (i + 1))) (EN := σ 4) (TO := σ 5) (hin _) (hin _) (RR_M (RR_tS h)) (RR_L (RR_tS h)) (RR_W h) (fun a b => RR_EM h _ a b)) ?_
          rintro _ _ (⟨c, -⟩ | ⟨-, rfl, rfl⟩)
          · exact absurd ⟨(show σ 26 5 = 1 by rw [h.2.1.1.2.2]; exact cq.1), ⟨cq.2.1.1, by omega⟩, cq.2.2⟩ c
          rw [cS_M (σ := tS σ F G ((wl σ (sc.2 (i + 1)) (sc.2 (i + 2))).length : Int)) (RR_tS h) cq.1 (wk (σ 4) (σ 5) (sc.2 (i + 2)) 60 0 (σ 6 (sc.2 (i + 1)))) (fun p hp => (wl_ok (x := sc.2 (i + 2)) h.1 cq.2.1 p hp).1)]
          refine rn_icmp_same_eq 534 d_W_law_473 rfl ?_
          exact X _ (RR_tS h)
      · refine rn_tabIn 478 d_W_law_42 ⟨by decide, by decide⟩ (by decide) (by decide) rfl rfl ?_
        refine rn_aload_n 479 d_W_law_478 rfl rfl ?_
        refine rn_aload_nS 480 d_W_law_479 rfl rfl ?_
        refine rn_iload_n 481 d_W_law_480 rfl rfl ?_
        refine rn_iconst 482 d_W_law_481 rfl ?_
        refine rn_iadd 483 d_W_law_482 rfl ?_
        refine rn_ialoadS 484 d_W_law_483 rfl (by omega) (by omega) (by omega) ?_
        refine rn_aload_nS 485 d_W_law_484 rfl rfl ?_
        refine rn_iload_n 486 d_W_law_485 rfl rfl ?_
        refine rn_iconst 487 d_W_law_486 rfl ?_
        refine rn_iadd 488 d_W_law_487 rfl ?_
        refine rn_ialoadS 489 d_W_law_488 rfl (by omega) (by omega) (by omega) ?_
        refine rn_callV2 492 d_W_law_489 rfl cw_W_73 rfl (Nat.le_of_ble_eq_true rfl) (ev_L_heatOf (hin _) (hin _) h.1) ?_
        rintro _ _ ⟨rfl, rfl⟩
        refine rn_aload_n 493 d_W_law_492 rfl rfl ?_
        refine rn_aload_nS 494 d_W_law_493 rfl rfl ?_
        refine rn_iload_n 495 d_W_law_494 rfl rfl ?_
        refine rn_iconst 496 d_W_law_495 rfl ?_
        refine rn_iadd 497 d_W_law_496 rfl ?_
        refine rn_ialoadS 498 d_W_law_497 rfl (by omega) (by omega) (by omega) ?_
        refine rn_aload_nS 499 d_W_law_498 rfl rfl ?_
        refine rn_iload_n 500 d_W_law_499 rfl rfl ?_
        refine rn_iconst 501 d_W_law_500 rfl ?_
        refine rn_iadd 502 d_W_law_501 rfl ?_
        refine rn_ialoadS 503 d_W_law_502 rfl (by omega) (by omega) (by omega) ?_
        refine rn_callV2 506 d_W_law_503 rfl cw_W_76 rfl (Nat.le_of_ble_eq_true rfl) (ev_M_heatOf (hin _) (hin _) (RR_M h)) ?_
        rintro _ _ ⟨rfl, rfl⟩
        rw [c_heatOf h]
        refine rn_icmp_same_eq 534 d_W_law_506 rfl ?_
        exact X _ h
      · refine rn_tabIn 511 d_W_law_42 ⟨by decide, by decide⟩ (by decide) (by decide) rfl rfl ?_
        refine rn_aload_n 512 d_W_law_511 rfl rfl ?_
        refine rn_aload_nS 513 d_W_law_512 rfl rfl ?_
        refine rn_iload_n 514 d_W_law_513 rfl rfl ?_
        refine rn_iconst 515 d_W_law_514 rfl ?_
        refine rn_iadd 516 d_W_law_515 rfl ?_
        refine rn_ialoadS 517 d_W_law_516 rfl (by omega) (by omega) (by omega) ?_
        refine rn_callV1 520 d_W_law_517 rfl cw_W_77 rfl (Nat.le_of_ble_eq_true rfl) (ev_L_count (hin _) h.1) ?_
        rintro _ _ ⟨rfl, rfl⟩
        refine rn_aload_n 521 d_W_law_520 rfl rfl ?_
        refine rn_aload_nS 522 d_W_law_521 rfl rfl ?_
        refine rn_iload_n 523 d_W_law_522 rfl rfl ?_
        refine rn_iconst 524 d_W_law_523 rfl ?_
        refine rn_iadd 525 d_W_law_524 rfl ?_
        refine rn_ialoadS 526 d_W_law_525 rfl (by omega) (by omega) (by omega) ?_
        refine rn_callV1 529 d_W_law_526 rfl cw_W_80 rfl (Nat.le_of_ble_eq_true rfl) (ev_M_count (hin _) (RR_M h) (RR_L h)) ?_
        rintro _ _ ⟨rfl, rfl⟩
        rw [c_count h]
        refine rn_icmp_same_eq 534 d_W_law_529 rfl ?_
        exact X _ h
      · refine rn_tabOut 534 d_W_law_42 ⟨by omega, by omega⟩ (Or.inr hz) rfl ?_
        exact X _ h
set_option maxRecDepth 100000 in
set_option maxHeartbeats 400000 in
theorem law_rn {sc : av_sc} (hn : sc.1 ≤ 1000000) (hin : ∀ j, av_in (sc.2 j)) : av_Rn sc m_W_law 6 true 0 43 1236 0 [some vS, none, none, none] [] [] (fun r _ => r = some (vI 1)) := by
  have hr : av_in (if (0 : Int) < (sc.1 : Int) then sc.2 0 else 0) := by split; exact hin 0; exact ⟨by decide, by decide⟩
  refine rn_new (bc := 42) (bs := 1229) (ci := 0) (fs := [vI 0, vN, vN, vN, vN, vN, vI 0]) 3 d_W_law_0 rfl nw_W_7 rfl rfl rfl (show _ = ([.inr (0, [vI 0, vN, vN, vN, vN, vN, vI 0])] : av_H) from rfl) ?_
  change av_Rn _ _ _ _ _ _ _ _ _ (vR 0 :: _) _ _
  refine rn_dup 4 d_W_law_3 rfl rfl ?_
  refine rn_aload_nS 5 d_W_law_4 rfl rfl ?_
  refine rn_iconst 6 d_W_law_5 rfl ?_
  refine rn_callS2 9 d_W_law_6 rfl cw_W_9 (Nat.le_of_ble_eq_true rfl) (ev_W_cell hn ⟨by decide, by decide⟩) ?_
  rintro _ _ ⟨rfl, rfl⟩
  refine rn_callI1A (bc := 17) (bs := 550) (c1 := 25) (s1 := 679) 12 d_W_law_9 rfl cw_W_15 (Nat.le_of_ble_eq_true rfl) (ev_L_init hr) rfl rfl ?_
  rintro _ _ ⟨rfl, rfl⟩
  refine rn_astore_n 13 d_W_law_12 rfl (by decide) rfl rfl ?_
  refine rn_new (bc := 16) (bs := 528) (ci := 6) (fs := [vI 0, vI 0, vI 0, vI 0, vI 0, vI 0, vN, vN, vN, vN, vN, vN, vN, vN, vN, vN, vN, vN, vN, vN, vN, vN]) 16 d_W_law_13 rfl nw_W_18 rfl rfl rfl (show _ = ([.inr (0, [vI (rgv (if (0 : Int) < (sc.1 : Int) then sc.2 0 else 0)), vR 1, vR 7, vR 10, vR 13, vR 21, vI 0]), .inr (1, [vR 2, vR 3, vR 4, vR 5, vR 6, vI 0]), .inl (0, 24, fun _ => 0), .inl (0, 24, fun _ => 0), .inl (0, 24, fun _ => 0), .inl (0, 48, fun _ => 0), .inl (0, 4, fun _ => -1), .inr (2, [vR 8, vR 9]), .inl (0, 24, fun _ => 0), .inl (0, 48, fun _ => 0), .inr (3, [vR 11, vR 12, vI 0]), .inl (0, 60, fun _ => 0), .inl (0, 60, fun _ => 0), .inr (4, [vR 14, vI 0, vI 0, vR 15, vR 16, vR 17, vR 18, vR 19, vR 20]), .inl (0, 24, fun _ => 0), .inl (0, 48, fun _ => 0), .inl (0, 24, fun _ => 0), .inl (0, 24, fun _ => 0), .inl (0, 24, fun _ => 0), .inl (0, 24, fun _ => 0), .inl (0, 24, fun _ => 0), .inr (5, [vR 22, vR 23, vR 24, vR 25, vI 0, vI 0, vI 0]), .inl (0, 24, fun _ => 0), .inl (0, 48, fun _ => 0), .inl (0, 48, fun _ => 0), .inl (1, 24, fun _ => 0), .inr (6, [vI 0, vI 0, vI 0, vI 0, vI 0, vI 0, vN, vN, vN, vN, vN, vN, vN, vN, vN, vN, vN, vN, vN, vN, vN, vN])] : av_H) from rfl) ?_
  change av_Rn _ _ _ _ _ _ _ _ _ (vR 26 :: _) _ _
  refine rn_dup 17 d_W_law_16 rfl rfl ?_
  refine rn_aload_nS 18 d_W_law_17 rfl rfl ?_
  refine rn_iconst 19 d_W_law_18 rfl ?_
  refine rn_callS2 22 d_W_law_19 rfl cw_W_9 (Nat.le_of_ble_eq_true rfl) (ev_W_cell hn ⟨by decide, by decide⟩) ?_
  rintro _ _ ⟨rfl, rfl⟩
  refine rn_callI1A (bc := 0) (bs := 0) (c1 := 16) (s1 := 528) 25 d_W_law_22 rfl cw_W_20 (Nat.le_of_ble_eq_true rfl) (ev_M_init hr) rfl rfl ?_
  rintro _ _ ⟨rfl, rfl⟩
  refine rn_astore_n 26 d_W_law_25 rfl (by decide) rfl rfl ?_
  refine rn_iconst 27 d_W_law_26 rfl ?_
  refine rn_istore_n 28 d_W_law_27 rfl (by decide) rfl rfl ?_
  exact law_loop hn hin (sc.1 + 1) 1 (s0 (if (0 : Int) < (sc.1 : Int) then sc.2 0 else 0)) (RR_start _) (by omega) (by omega) (by omega)
