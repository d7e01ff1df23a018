/-! THE ROUNDS of the class (state σ) beside those of the reference (state τ) -/
def rUL (n : Int) (BR U LN : Int → Int) : Prop := ∀ b, 0 ≤ b → b < n → U (2 * b) = (if 0 < BR b then LN (2 * b) else 0) ∧ U (2 * b + 1) = (if 1 < BR b then LN (2 * b + 1) else 0)
def rST (σ τ : av_S) : Prop := τ 26 1 = σ 1 5 ∧ (0 ≤ σ 1 5 ∧ σ 1 5 ≤ 24) ∧ (∀ b, 0 ≤ b → b < σ 1 5 → τ 28 b = σ 3 b ∧ τ 29 b = σ 4 b) ∧ (∀ k, 0 ≤ k → k < σ 1 5 → τ 37 k = σ 14 k) ∧ ∀ k, 0 ≤ k → k < σ 1 5 → 0 ≤ σ 14 k ∧ σ 14 k < σ 1 5
theorem cu_uM {σ τ : av_S} {BR TG U LN : Int → Int} (h : rST σ τ) (hU : rUL (σ 1 5) BR U LN) {b : Int} (h0 : 0 ≤ b) (h1 : b < σ 1 5) : cuC σ U b = uM (qE τ BR TG LN) b := by
  have e := hU b h0 h1
  have f := h.2.2.1 b h0 h1
  show σ 3 b + U (2 * b) + U (2 * b + 1) + (if σ 4 b = 0 then 1 else 0) = τ 28 b + (if τ 29 b = 0 then 1 else 0) + (if 0 < BR b then LN (2 * b) else 0) + (if 1 < BR b then LN (2 * b + 1) else 0)
  rw [e.1, e.2, f.1, f.2]
  omega
theorem adC_adM {σ τ : av_S} {BR TG U LN : Int → Int} (h : rST σ τ) (hU : rUL (σ 1 5) BR U LN) (k : Nat) (hk : (k : Int) ≤ σ 1 5) : adC σ U k = adM (qE τ BR TG LN) k := by
  refine sm_congr k (fun j hj => ?_)
  have q := h.2.2.2.2 (j : Int) (by omega) (by omega)
  have e : (qE τ BR TG LN) 37 (j : Int) = σ 14 (j : Int) := h.2.2.2.1 (j : Int) (by omega) (by omega)
  rw [e]
  exact cu_uM h hU q.1 q.2
theorem tot_M {σ τ : av_S} {BR TG U LN : Int → Int} (h : rST σ τ) (hU : rUL (σ 1 5) BR U LN) : sm (cuC σ U) (σ 1 5).toNat = sm (uM (qE τ BR TG LN)) (σ 1 5).toNat := sm_congr _ (fun j hj => cu_uM h hU (by omega) (by omega))
theorem st_at {σ τ : av_S} {BR TG U LN ST : Int → Int} {ps : Int → Nat} (h : rST σ τ) (hP : iPs τ ps) (hU : rUL (σ 1 5) BR U LN) (hS : adS σ ST U) {b : Int} (h0 : 0 ≤ b) (h1 : b < σ 1 5) : ST b = adM (qE τ BR TG LN) (ps b) := by
  obtain ⟨p1, p2, -⟩ := hP b h0 (by rw [h.1]; exact h1)
  rw [h.1] at p1
  have e := h.2.2.2.1 ((ps b : Nat) : Int) (by omega) p1
  have z := hS (ps b) p1
  rw [← e, p2] at z
  rw [z]
  exact adC_adM h hU (ps b) (by omega)
theorem ab_lt {x r : Int} (hr : 0 ≤ r) : r < ab x ↔ (r < x ∨ x < -r) := by unfold ab; split <;> omega
def rGT (n : Int) (BR G TG : Int → Int) : Prop := ∀ b, 0 ≤ b → b < n → (0 < BR b → G (2 * b) = TG (2 * b) ∧ 0 ≤ TG (2 * b) ∧ TG (2 * b) < n) ∧ (1 < BR b → G (2 * b + 1) = TG (2 * b + 1) ∧ 0 ≤ TG (2 * b + 1) ∧ TG (2 * b + 1) < n)
theorem P0_cG {σ τ : av_S} {BR TG G U LN ST : Int → Int} {ps : Int → Nat} {rg : Int} (h : rST σ τ) (hP : iPs τ ps) (hU : rUL (σ 1 5) BR U LN) (hG : rGT (σ 1 5) BR G TG) (hS : adS σ ST U) (hL : bLN τ LN) (hr : τ 26 0 = rg) (hr0 : 0 ≤ rg) {b : Int} (h0 : 0 ≤ b) (h1 : b < σ 1 5) : P0 (σ 3) ST G U rg b ↔ cG (qE τ BR TG LN) ps (2 * b) := by
  have e1 := hU b h0 h1
  have e2 := hG b h0 h1
  have e3 := hL (2 * b) (by omega) (by have := h.1; omega)
  have e4 := h.2.2.1 b h0 h1
  have c : cG (qE τ BR TG LN) ps (2 * b) ↔ ((2 * b) % 2 < BR (2 * b / 2) ∧ ¬ LN (2 * b) = 2 ∧ (τ 26 0 < dM (qE τ BR TG LN) ps (2 * b) ∨ dM (qE τ BR TG LN) ps (2 * b) < - τ 26 0)) := Iff.rfl
  have dd : dM (qE τ BR TG LN) ps (2 * b) = adM (qE τ BR TG LN) (ps (2 * b / 2)) + τ 28 (2 * b / 2) + (if (2 * b) % 2 = 1 then LN (2 * b - 1) else 0) - adM (qE τ BR TG LN) (ps (TG (2 * b))) := rfl
  rw [c, dd, show 2 * b / 2 = b by omega, show (2 * b) % 2 = 0 by omega, if_neg (by omega), hr, e4.1, Int.add_zero]
  unfold P0
  rw [e1.1]
  by_cases q : 0 < BR b
  · obtain ⟨g1, g2, g3⟩ := e2.1 q
    rw [if_pos q, ab_lt hr0, g1, st_at (TG := TG) h hP hU hS h0 h1, st_at (TG := TG) h hP hU hS g2 g3]
    constructor
    · rintro ⟨a, x⟩; exact ⟨q, by omega, x⟩
    · rintro ⟨-, a, x⟩; exact ⟨by omega, x⟩
  · rw [if_neg q]
    constructor
    · rintro ⟨a, -⟩; omega
    · rintro ⟨a, -⟩; exact absurd a q
theorem P1_cG {σ τ : av_S} {BR TG G U LN ST : Int → Int} {ps : Int → Nat} {rg : Int} (h : rST σ τ) (hP : iPs τ ps) (hU : rUL (σ 1 5) BR U LN) (hG : rGT (σ 1 5) BR G TG) (hS : adS σ ST U) (hL : bLN τ LN) (hr : τ 26 0 = rg) (hr0 : 0 ≤ rg) {b : Int} (h0 : 0 ≤ b) (h1 : b < σ 1 5) : P1 (σ 3) ST G U rg b ↔ cG (qE τ BR TG LN) ps (2 * b + 1) := by
  have e1 := hU b h0 h1
  have e2 := hG b h0 h1
  have e3 := hL (2 * b + 1) (by omega) (by have := h.1; omega)
  have e4 := h.2.2.1 b h0 h1
  have c : cG (qE τ BR TG LN) ps (2 * b + 1) ↔ ((2 * b + 1) % 2 < BR ((2 * b + 1) / 2) ∧ ¬ LN (2 * b + 1) = 2 ∧ (τ 26 0 < dM (qE τ BR TG LN) ps (2 * b + 1) ∨ dM (qE τ BR TG LN) ps (2 * b + 1) < - τ 26 0)) := Iff.rfl
  have dd : dM (qE τ BR TG LN) ps (2 * b + 1) = adM (qE τ BR TG LN) (ps ((2 * b + 1) / 2)) + τ 28 ((2 * b + 1) / 2) + (if (2 * b + 1) % 2 = 1 then LN (2 * b + 1 - 1) else 0) - adM (qE τ BR TG LN) (ps (TG (2 * b + 1))) := rfl
  rw [c, dd, show (2 * b + 1) / 2 = b by omega, show (2 * b + 1) % 2 = 1 by omega, if_pos rfl, hr, e4.1, show 2 * b + 1 - 1 = 2 * b by omega]
  unfold P1
  rw [e1.1, e1.2]
  by_cases q : 1 < BR b
  · obtain ⟨g1, g2, g3⟩ := e2.2 q
    rw [if_pos q, if_pos (by omega), ab_lt hr0, g1, st_at (TG := TG) h hP hU hS h0 h1, st_at (TG := TG) h hP hU hS g2 g3]
    constructor
    · rintro ⟨a, x⟩; exact ⟨q, by omega, x⟩
    · rintro ⟨-, a, x⟩; exact ⟨by omega, x⟩
  · rw [if_neg q]
    constructor
    · rintro ⟨a, -⟩; omega
    · rintro ⟨a, -⟩; exact absurd a q
theorem gr_iff {σ τ : av_S} {BR TG G U LN ST : Int → Int} {ps : Int → Nat} {rg : Int} (h : rST σ τ) (hP : iPs τ ps) (hU : rUL (σ 1 5) BR U LN) (hG : rGT (σ 1 5) BR G TG) (hS : adS σ ST U) (hL : bLN τ LN) (hr : τ 26 0 = rg) (hr0 : 0 ≤ rg) : grN (σ 3) ST G U rg (σ 1 5).toNat ↔ grM τ ps BR TG LN := by
  have hn := h.2.1
  constructor
  · rintro ⟨j, hj, q⟩
    rcases q with q | q
    · exact ⟨2 * (j : Int), by omega, by have := h.1; omega, (P0_cG h hP hU hG hS hL hr hr0 (by omega) (by omega)).mp q⟩
    · exact ⟨2 * (j : Int) + 1, by omega, by have := h.1; omega, (P1_cG h hP hU hG hS hL hr hr0 (by omega) (by omega)).mp q⟩
  · rintro ⟨k, k0, k1, q⟩
    have e := h.1
    refine ⟨(k / 2).toNat, by omega, ?_⟩
    rw [show ((k / 2).toNat : Int) = k / 2 by omega]
    rcases Int.emod_two_eq k with z | z
    · left
      have w : k = 2 * (k / 2) := by omega
      rw [w] at q
      exact (P0_cG h hP hU hG hS hL hr hr0 (by omega) (by omega)).mpr q
    · right
      have w : k = 2 * (k / 2) + 1 := by omega
      rw [w] at q
      exact (P1_cG h hP hU hG hS hL hr hr0 (by omega) (by omega)).mpr q
theorem nx_rUL {σ τ : av_S} {BR TG G U U' LN ST : Int → Int} {ps : Int → Nat} {rg : Int} (h : rST σ τ) (hP : iPs τ ps) (hU : rUL (σ 1 5) BR U LN) (hG : rGT (σ 1 5) BR G TG) (hS : adS σ ST U) (hL : bLN τ LN) (hr : τ 26 0 = rg) (hr0 : 0 ≤ rg) (hN : nxU (σ 3) ST G U rg U' (σ 1 5).toNat) : rUL (σ 1 5) BR U' (lnM τ ps BR TG LN) := by
  intro b h0 h1
  have hn := h.2.1
  have e := h.1
  obtain ⟨n1, n2⟩ := hN.1 b.toNat (by omega)
  rw [show ((b.toNat : Nat) : Int) = b by omega] at n1 n2
  have u := hU b h0 h1
  have l1 : lnM τ ps BR TG LN (2 * b) = if cG (qE τ BR TG LN) ps (2 * b) then 2 else LN (2 * b) := fl_in ⟨by omega, by omega⟩
  have l2 : lnM τ ps BR TG LN (2 * b + 1) = if cG (qE τ BR TG LN) ps (2 * b + 1) then 2 else LN (2 * b + 1) := fl_in ⟨by omega, by omega⟩
  have i1 := P0_cG h hP hU hG hS hL hr hr0 h0 h1
  have i2 := P1_cG h hP hU hG hS hL hr hr0 h0 h1
  constructor
  · rw [n1, l1]
    by_cases q : P0 (σ 3) ST G U rg b
    · rw [if_pos q, if_pos (i1.mp q)]
      have : 0 < BR b := by
        rcases Int.lt_or_le 0 (BR b) with w | w
        · exact w
        · have := q.1; rw [u.1, if_neg (by omega)] at this; omega
      rw [if_pos this]
    · rw [if_neg q, if_neg (fun w => q (i1.mpr w))]; exact u.1
  · rw [n2, l2]
    by_cases q : P1 (σ 3) ST G U rg b
    · rw [if_pos q, if_pos (i2.mp q)]
      have : 1 < BR b := by
        rcases Int.lt_or_le 1 (BR b) with w | w
        · exact w
        · have := q.1; rw [u.2, if_neg (by omega)] at this; omega
      rw [if_pos this]
    · rw [if_neg q, if_neg (fun w => q (i2.mpr w))]; exact u.2
theorem grS_pos {bo ST G U : Int → Int} {rg : Int} : ∀ n : Nat, 0 ≤ grS bo ST G U rg n ∧ (grN bo ST G U rg n → 1 ≤ grS bo ST G U rg n) := by
  intro n
  induction n with
  | zero => exact ⟨Int.le_refl 0, fun ⟨j, hj, _⟩ => absurd hj (by omega)⟩
  | succ n ih =>
    have e : grS bo ST G U rg (n + 1) = grS bo ST G U rg n + (bz (P0 bo ST G U rg (n : Int)) + bz (P1 bo ST G U rg (n : Int))) := rfl
    have b0 := bz_01 (P := P0 bo ST G U rg (n : Int))
    have b1 := bz_01 (P := P1 bo ST G U rg (n : Int))
    refine ⟨by omega, fun ⟨j, hj, hq⟩ => ?_⟩
    by_cases w : j = n
    · subst w
      rcases hq with q | q
      · have := bz_t q; omega
      · have := bz_t q; omega
    · have := ih.2 ⟨j, by omega, hq⟩; omega
theorem lgU_bd (U : Int → Int) : ∀ n : Nat, sm (lgU U) n ≤ 2 * (n : Int) ∧ ((∃ j : Nat, j < n ∧ (U (2 * (j : Int)) = 1 ∨ U (2 * (j : Int) + 1) = 1)) → sm (lgU U) n < 2 * (n : Int)) := by
  intro n
  induction n with
  | zero => exact ⟨Int.le_refl 0, fun ⟨j, hj, _⟩ => absurd hj (by omega)⟩
  | succ n ih =>
    have e : sm (lgU U) (n + 1) = sm (lgU U) n + (bz (U (2 * (n : Int)) = 2) + bz (U (2 * (n : Int) + 1) = 2)) := rfl
    have b0 := bz_01 (P := U (2 * (n : Int)) = 2)
    have b1 := bz_01 (P := U (2 * (n : Int) + 1) = 2)
    refine ⟨by omega, fun ⟨j, hj, hq⟩ => ?_⟩
    by_cases w : j = n
    · subst w
      rcases hq with q | q
      · have := bz_f (P := U (2 * (j : Int)) = 2) (by omega); omega
      · have := bz_f (P := U (2 * (j : Int) + 1) = 2) (by omega); omega
    · have := ih.2 ⟨j, by omega, hq⟩; omega
theorem rnds_lg {σ : av_S} {G : Int → Int} {rg : Int} : ∀ (m : Nat) (U V : Int → Int), rnds σ G rg m U V → sm (lgU U) (σ 1 5).toNat + (m : Int) ≤ sm (lgU V) (σ 1 5).toNat := by
  intro m
  induction m with
  | zero => intro U V h; have h : U = V := h; subst h; omega
  | succ m ih =>
    rintro U V ⟨U1, ⟨ST, -, h2, h3⟩, h4⟩
    have a := ih U1 V h4
    have b := lgU_nx h2
    have c := (grS_pos (bo := σ 3) (ST := ST) (G := G) (U := U) (rg := rg) (σ 1 5).toNat).2 h3
    omega
/-- the class's rounds and the reference's end with the same lengths -/
theorem rounds_eq {σ τ : av_S} {BR TG G V W : Int → Int} {ps : Int → Nat} {rg : Int} (h : rST σ τ) (hP : iPs τ ps) (hG : rGT (σ 1 5) BR G TG) (hr : τ 26 0 = rg) (hr0 : 0 ≤ rg) (hW : ¬ grM τ ps BR TG W) : ∀ (m m' : Nat) (U LN : Int → Int), rUL (σ 1 5) BR U LN → bLN τ LN → rnds σ G rg m U V → rM τ ps BR TG m' LN W → ∃ (k : Nat) (LN' : Int → Int), rUL (σ 1 5) BR V LN' ∧ bLN τ LN' ∧ rM τ ps BR TG k LN' W := by
  intro m
  induction m with
  | zero => intro m' U LN hU hL h1 h2; have h1 : U = V := h1; subst h1; exact ⟨m', LN, hU, hL, h2⟩
  | succ m ih =>
    intro m' U LN hU hL h1 h2
    obtain ⟨U1, ⟨ST, s1, s2, s3⟩, s4⟩ := h1
    have g := (gr_iff h hP hU hG s1 hL hr hr0).mp s3
    cases m' with
    | zero => have h2 : LN = W := h2; subst h2; exact absurd g hW
    | succ m' => exact ih m' U1 (lnM τ ps BR TG LN) (nx_rUL h hP hU hG s1 hL hr hr0 s2) (lnM_bd hL) s4 h2.2
theorem rounds_end {σ τ : av_S} {BR TG G U V W LN ST : Int → Int} {ps : Int → Nat} {rg : Int} {m m' : Nat} (h : rST σ τ) (hP : iPs τ ps) (hG : rGT (σ 1 5) BR G TG) (hr : τ 26 0 = rg) (hr0 : 0 ≤ rg) (hW : ¬ grM τ ps BR TG W) (hU : rUL (σ 1 5) BR U LN) (hL : bLN τ LN) (h1 : rnds σ G rg m U V) (h2 : rM τ ps BR TG m' LN W) (h0 : sm (lgU U) (σ 1 5).toNat = 0) (hS : adS σ ST V) (hE : ¬ grN (σ 3) ST G V rg (σ 1 5).toNat ∨ m = 48) : rUL (σ 1 5) BR V W := by
  obtain ⟨k, LN', a, b, c⟩ := rounds_eq h hP hG hr hr0 hW m m' U LN hU hL h1 h2
  cases k with
  | zero => have c : LN' = W := c; subst c; exact a
  | succ k =>
    exfalso
    have g := (gr_iff h hP a hG hS b hr hr0).mpr c.1
    rcases hE with e | e
    · exact e g
    · have z := rnds_lg m U V h1
      have hn := h.2.1
      obtain ⟨j, hj, hq⟩ := g
      have y := (lgU_bd V (σ 1 5).toNat).2 ⟨j, hj, by rcases hq with q | q; exact Or.inl q.1; exact Or.inr q.1⟩
      omega
