/-! A LAYOUT ON BOTH SIDES -/
def cLy (σ σ1 : av_S) (md : Int) : Prop :=
  (∀ k : Nat, (1 ≤ k ∧ k ≤ 12) ∨ 26 ≤ k → σ1 k = σ k) ∧ σ1 0 = uI (σ 0) 6 1 ∧
  ((md = 0 ∧ σ1 13 1 = σ 1 5 ∧ σ1 13 2 = 0 ∧ ∀ k, 0 ≤ k → k < σ 1 5 → σ1 14 k = k) ∨
   (md = 1 ∧ ∃ (HS BS HD TT ln A : Int → Int) (m t : Nat), oD1 σ HS BS HD TT ln A m t ∧ σ1 13 1 = (m : Int) ∧ σ1 13 2 = sm (fun c => if cold σ HS (HD c) then ln c else 0) m ∧ ∀ k, 0 ≤ k → k < σ 1 5 → σ1 14 k = TT k)) ∧
  iO σ1 ∧ ∃ (U : Int → Int) (mm : Nat), plO σ1 (σ1 23) U (σ1 25) (σ1 1 5).toNat ∧ (∀ b, 0 ≤ b → b < 24 → σ1 25 b = 0 ∨ σ1 25 b = 1) ∧ rnds σ1 (σ1 23) (σ 0 0) mm U (σ1 24) ∧ adS σ1 (σ1 22) (σ1 24) ∧ (∀ i, 0 ≤ i → i < 48 → 0 ≤ σ1 24 i ∧ σ1 24 i ≤ 2) ∧ (¬ grN (σ1 3) (σ1 22) (σ1 23) (σ1 24) (σ 0 0) (σ1 1 5).toNat ∨ mm = 48) ∧ σ1 21 4 = adC σ1 (σ1 24) (σ1 1 5).toNat ∧ σ1 21 5 = bnC σ1 (σ1 1 5).toNat ∧ σ1 21 6 = sm (lgU (σ1 24)) (σ1 1 5).toNat
theorem rnds_keep {σ τ : av_S} {G : Int → Int} {rg : Int} (e1 : τ 1 = σ 1) (e3 : τ 3 = σ 3) (e4 : τ 4 = σ 4) (e14 : τ 14 = σ 14) : ∀ (m : Nat) (U V : Int → Int), rnds σ G rg m U V → rnds τ G rg m U V := by
  intro m
  induction m with
  | zero => intro U V h; exact h
  | succ m ih =>
    rintro U V ⟨U1, ⟨ST, h1, h2, h3⟩, h4⟩
    refine ⟨U1, ⟨ST, ?_, ?_, ?_⟩, ih U1 V h4⟩
    · unfold adS adC cuC at h1 ⊢; rw [e1, e3, e4, e14]; exact h1
    · rw [e1, e3]; exact h2
    · rw [e1, e3]; exact h3
theorem iED_congr {P Q : Int → Prop} {ce ce' A : Int → Int} {m e : Int} (h : iED P ce A m e) (hPQ : ∀ q, 0 ≤ q → q < e → (P q ↔ Q q)) (hce : ∀ q, 0 ≤ q → q < e → ce' q = ce q) : iED Q ce' A m e := by
  obtain ⟨h1, h2, h3, h4, h5⟩ := h
  refine ⟨fun i a b => ⟨(h1 i a b).1, (hPQ _ (h1 i a b).1.1 (h1 i a b).1.2).mp (h1 i a b).2⟩, fun q a b c => h2 q a b ((hPQ q a b).mpr c), fun i j a b c => ?_, h4, h5⟩
  have x := (h1 i a (by omega)).1
  have y := (h1 j (by omega) c).1
  unfold eR
  rw [hce _ x.1 x.2, hce _ y.1 y.2]
  exact h3 i j a b c
theorem cold_iff {σ : av_S} {HS BS HD TT ln A : Int → Int} {m t : Nat} {c : Int} (hI : iL σ) (hD : oD1 σ HS BS HD TT ln A m t) (h0 : 0 ≤ c) (h1 : c < σ 1 5) (hh : (jO σ A t).1 c = c) : cold σ HS c ↔ ∀ b, 0 ≤ b → b < σ 1 5 → (jO σ A t).1 b = c → ¬ 0 < σ 8 b ∧ b ≠ σ 6 (σ 2 b) := by
  obtain ⟨d1, d2, ⟨d3, d4⟩, d5, d6⟩ := hD
  have hn := hI.1
  have cc : (((σ 1 5).toNat : Nat) : Int) = σ 1 5 := by omega
  have z := (suF_zero (w := σ 8) (CH := (jO σ A t).1) (c := c) (σ 1 5).toNat (fun b q0 q1 => (hI.2.2.2.1 b q0 (by omega)).1)).2
  rw [cc] at z
  unfold cold isE
  rw [(d3 c h0 h1 hh).1, z]
  constructor
  · rintro ⟨x, y⟩ b q0 q1 q2
    refine ⟨x b q0 q1 q2, fun w => ?_⟩
    have v := (d2.1 b q0 (by omega)).2.2.2.2 w
    rw [q2] at v
    rw [v] at y
    exact y w.symm
  · intro x
    exact ⟨fun b q0 q1 q2 => (x b q0 q1 q2).1, fun w => (x c h0 h1 hh).2 w.symm⟩
theorem bf_iff {σ τ : av_S} {HS BS HD TT ln A : Int → Int} {m t : Nat} {c d : Int} (hI : iL σ) (hD : oD1 σ HS BS HD TT ln A m t) (e1 : τ 26 1 = σ 1 5) (e2 : ∀ b, 0 ≤ b → b < σ 1 5 → τ 27 b = σ 2 b ∧ τ 28 b = σ 3 b ∧ τ 31 b = σ 8 b ∧ τ 33 b = (jO σ A t).1 b) (hc : 0 ≤ c ∧ c < σ 1 5) (hd : 0 ≤ d ∧ d < σ 1 5) (hhc : (jO σ A t).1 c = c) (hhd : (jO σ A t).1 d = d) (hcd : c ≠ d) : bfM τ (σ 6) (cold σ HS c) (cold σ HS d) c d ↔ cbf σ HS BS c d := by
  obtain ⟨d1, d2, ⟨d3, d4⟩, d5, d6⟩ := hD
  have hn := hI.1
  have cc : (((σ 1 5).toNat : Nat) : Int) = σ 1 5 := by omega
  have s1 : ∀ x, 0 ≤ x → x < σ 1 5 → (jO σ A t).1 x = x → suM τ x 1 (τ 26 1).toNat = HS x := by
    intro x x0 x1 x2
    rw [(d3 x x0 x1 x2).1, e1]
    refine sm_congr _ (fun j hj => ?_)
    obtain ⟨-, -, q3, q4⟩ := e2 (j : Int) (by omega) (by omega)
    rw [q3, q4, if_neg (show ¬ (1 : Int) = 0 by omega)]
  have s0 : ∀ x, 0 ≤ x → x < σ 1 5 → (jO σ A t).1 x = x → suM τ x 0 (τ 26 1).toNat = BS x := by
    intro x x0 x1 x2
    rw [(d3 x x0 x1 x2).2, e1]
    refine sm_congr _ (fun j hj => ?_)
    obtain ⟨-, q2, -, q4⟩ := e2 (j : Int) (by omega) (by omega)
    rw [q2, q4, if_pos rfl]
  have en : (0 ≤ σ 6 (σ 2 c) ∧ σ 6 (σ 2 c) < σ 1 5) ∧ σ 2 (σ 6 (σ 2 c)) = σ 2 c := by
    have f := (hI.2.1 c hc.1 hc.2).1
    rcases hI.2.2.1 (σ 2 c) f.1 (by omega) with ⟨-, w⟩ | ⟨w1, w2, -⟩
    · exact absurd rfl (w c hc.1 hc.2)
    · exact ⟨w1, w2⟩
  have je : τ 33 (σ 6 (σ 2 c)) = σ 6 (σ 2 c) := by
    rw [(e2 _ en.1.1 en.1.2).2.2.2]
    exact (d2.1 _ en.1.1 (by omega)).2.2.2.2 (show σ 6 (σ 2 c) = σ 6 (σ 2 (σ 6 (σ 2 c))) by rw [en.2])
  unfold bfM cbf
  rw [s1 c hc.1 hc.2 hhc, s1 d hd.1 hd.2 hhd, s0 c hc.1 hc.2 hhc, s0 d hd.1 hd.2 hhd, (e2 c hc.1 hc.2).1, (e2 d hd.1 hd.2).1, je]
  have k1 : cold σ HS c → cold σ HS d → ((HS d * BS c < HS c * BS d ∨ (HS c * BS d = HS d * BS c ∧ c < d)) ↔ c < d) := by
    intro a b
    rw [a.1, b.1, Int.zero_mul, Int.zero_mul]
    constructor
    · rintro (q | q)
      · omega
      · exact q.2
    · intro q; exact Or.inr ⟨rfl, q⟩
  have k2 : cold σ HS c → ¬ isE σ c := fun a => a.2
  have k3 : cold σ HS d → ¬ isE σ d := fun a => a.2
  have k4 : isE σ c ↔ σ 6 (σ 2 c) = c := Iff.rfl
  have k5 : σ 2 c = σ 2 d → (isE σ d ↔ σ 6 (σ 2 c) = d) := fun q => by rw [q]
  generalize (HS d * BS c < HS c * BS d ∨ (HS c * BS d = HS d * BS c ∧ c < d)) = W at *
  generalize cold σ HS c = Cc at *
  generalize cold σ HS d = Cd at *
  generalize isE σ c = Ec at *
  generalize isE σ d = Ed at *
  generalize σ 6 (σ 2 c) = x at *
  clear d1 d2 d3 d4 d5 d6 s1 s0 e2
  grind
theorem lay_end {σ σ1 τ : av_S} {BR TG LN TU W GR : Int → Int} {ps : Int → Nat} {md ed : Int} {m' : Nat} (h : RR σ) (hL : cLy σ σ1 md)
    (hk : ∀ k : Nat, k ≤ 25 ∨ (27 ≤ k ∧ k ≤ 32) → τ k = σ1 k) (t0 : τ 26 0 = σ 26 0) (t1 : τ 26 1 = σ 26 1) (t5 : τ 26 5 = 1) (t3 : τ 26 3 = σ1 13 2) (t4 : τ 26 4 = σ1 13 1) (t35 : ∀ k, 0 ≤ k → k < 48 → τ 35 k = 0 ∨ τ 35 k = 1) (t37 : ∀ k, 0 ≤ k → k < σ 1 5 → τ 37 k = σ1 14 k)
    (hP : iPs τ ps) (hM : plM τ BR TG LN TU (τ 26 1).toNat) (hR : rM τ ps BR TG m' LN W) (hW : bLN τ W) (hg : ¬ grM τ ps BR TG W) : sm (uM (qE τ BR TG W)) (τ 26 1).toNat = σ1 21 4 ∧ RR (rE τ BR TG W TU GR ed) := by
  obtain ⟨l1, l2, l3, l4, U, mm, p1, p2, p3, p4, p5, p6, p7, p8, p9⟩ := hL
  obtain ⟨⟨h1, h2, h3, h4, h5, h6, h7⟩, ⟨⟨g1, g2, g3⟩, g4, g5, g6⟩, ⟨c1, c2⟩, ⟨b1, b2, b3⟩, o1, o2⟩ := h
  have q1 : σ1 1 = σ 1 := l1 1 (by omega)
  have q2 : σ1 2 = σ 2 := l1 2 (by omega)
  have q3 : σ1 3 = σ 3 := l1 3 (by omega)
  have q4 : σ1 4 = σ 4 := l1 4 (by omega)
  have q5 : σ1 5 = σ 5 := l1 5 (by omega)
  have q6 : σ1 6 = σ 6 := l1 6 (by omega)
  have q8 : σ1 8 = σ 8 := l1 8 (by omega)
  have q9 : σ1 9 = σ 9 := l1 9 (by omega)
  have q27 : τ 27 = σ 27 := (hk 27 (by omega)).trans (l1 27 (by omega))
  have q28 : τ 28 = σ 28 := (hk 28 (by omega)).trans (l1 28 (by omega))
  have q29 : τ 29 = σ 29 := (hk 29 (by omega)).trans (l1 29 (by omega))
  have q30 : τ 30 = σ 30 := (hk 30 (by omega)).trans (l1 30 (by omega))
  have q31 : τ 31 = σ 31 := (hk 31 (by omega)).trans (l1 31 (by omega))
  have q32 : τ 32 = σ 32 := (hk 32 (by omega)).trans (l1 32 (by omega))
  have n1 : σ1 1 5 = σ 1 5 := by rw [q1]
  have rst : rST σ1 τ := by
    refine ⟨by rw [t1, g2, q1], by rw [q1]; exact h1, fun b a c => ?_, fun k a c => t37 k a (by omega), l4.1⟩
    rw [q1] at c
    rw [q28, q29, q3, q4]
    exact ⟨(g4 b a c).2.1, (g4 b a c).2.2.1⟩
  have rto : rTO σ1 τ := by
    intro b a c
    rw [q1] at c
    rw [q4, q5, q30, q1]
    refine ⟨(h2 b a c).2.2.1, fun e x0 x1 => ⟨(g4 b a c).2.2.2 e x0 x1, ((h2 b a c).2.2.2.1 e x0 x1).1⟩⟩
  have et : (τ 26 1).toNat = (σ1 1 5).toNat := by rw [t1, g2, q1]
  rw [et] at hM
  obtain ⟨r1, r2, r3, r4, r5⟩ := plans rst l4 rto p1 hM
  have hlg := lgU_0 l4 p1 (by rw [q1]; exact h1)
  have fin : rUL (σ1 1 5) BR (σ1 24) W := rounds_end rst hP r2 (t0.trans g1) (by omega) hg r1 r3 p3 hR hlg p4 p6
  have cc : (((σ1 1 5).toNat : Nat) : Int) = σ1 1 5 := by rw [q1]; omega
  constructor
  · rw [et, p7, ← tot_M rst fin]
    refine (sm_perm (F := cuC σ1 (σ1 24)) (O := σ1 14) ?_ ?_ ?_).symm <;> rw [cc]
    · exact l4.1
    · exact l4.2.1
    · exact l4.2.2
  · have k0 : (rE τ BR TG W TU GR ed) 0 = uI (σ 0) 6 1 := (hk 0 (by omega)).trans l2
    have kk : ∀ k : Nat, k ≤ 25 ∨ (27 ≤ k ∧ k ≤ 36) → (rE τ BR TG W TU GR ed) k = τ k := by
      intro k hk'
      show (up (up (up (up (up (up (up τ 37 _) 38 _) 39 _) 40 _) 41 _) 42 _) 26 _) k = τ k
      rw [up_n _ _ (by omega), up_n _ _ (by omega), up_n _ _ (by omega), up_n _ _ (by omega), up_n _ _ (by omega), up_n _ _ (by omega), up_n _ _ (by omega)]
    have ks : ∀ k : Nat, k ≤ 25 → (rE τ BR TG W TU GR ed) k = σ1 k := fun k hk' => (kk k (by omega)).trans (hk k (by omega))
    have k26 : ∀ i : Int, i ≠ 2 → (rE τ BR TG W TU GR ed) 26 i = τ 26 i := fun i hi => uI_n _ _ hi
    have k37 : (rE τ BR TG W TU GR ed) 37 = τ 37 := rfl
    have k38 : (rE τ BR TG W TU GR ed) 38 = BR := rfl
    have k39 : (rE τ BR TG W TU GR ed) 39 = TG := rfl
    have k40 : (rE τ BR TG W TU GR ed) 40 = W := rfl
    have k41 : (rE τ BR TG W TU GR ed) 41 = TU := rfl
    have z1 := (ks 1 (by omega)).trans q1
    have z2 := (ks 2 (by omega)).trans q2
    have z3 := (ks 3 (by omega)).trans q3
    have z4 := (ks 4 (by omega)).trans q4
    have z5 := (ks 5 (by omega)).trans q5
    have z6 := (ks 6 (by omega)).trans q6
    have z8 := (ks 8 (by omega)).trans q8
    have z9 := (ks 9 (by omega)).trans q9
    have z27 := (kk 27 (by omega)).trans q27
    have z28 := (kk 28 (by omega)).trans q28
    have z29 := (kk 29 (by omega)).trans q29
    have z30 := (kk 30 (by omega)).trans q30
    have z31 := (kk 31 (by omega)).trans q31
    have z32 := (kk 32 (by omega)).trans q32
    have z06 : (rE τ BR TG W TU GR ed) 0 6 = 1 := by rw [k0, uI_s]
    have z00 : (rE τ BR TG W TU GR ed) 0 0 = σ 0 0 := by rw [k0, uI_n _ _ (by omega)]
    refine ⟨⟨by rw [z1]; exact h1, by unfold iB; rw [z1, z2, z3, z4, z5]; exact h2, by unfold iE; rw [z1, z2, z6]; exact h3, by rw [z8]; exact h4, by rw [z9]; exact h5, by rw [z06]; omega, by rw [z00]; exact h7⟩, ⟨⟨?_, ?_, ?_⟩, ?_, ?_, ?_⟩, ⟨?_, ?_⟩, ⟨?_, ?_, ?_⟩, ?_, ?_⟩
    · rw [k26 0 (by omega), t0, z00, g1]
    · rw [k26 1 (by omega), t1, z1, g2]
    · rw [k26 5 (by omega), t5, z06]
    · rw [z1, z2, z3, z4, z5, z27, z28, z29, z30]; exact g4
    · rw [z1, z29]; exact g5
    · rw [z30]; exact g6
    · rw [z31, z8]; exact c1
    · rw [z32, z9]; exact c2
    · rw [ks 24 (by omega)]; exact p5
    · rw [ks 25 (by omega)]; exact p2
    · rw [kk 35 (by omega)]; exact t35
    · rw [z06]; intro w; omega
    · intro _
      refine ⟨?_, ?_, ?_, ?_, ⟨?_, ?_⟩, ?_, ?_, ?_, ?_⟩
      · unfold iO; rw [ks 1 (by omega), ks 14 (by omega)]; exact l4
      · rw [k37, z1, ks 14 (by omega)]; exact t37
      · intro b a c
        rw [k26 1 (by omega), t1, g2] at c
        unfold iLB
        rw [k38, k40, k41]
        obtain ⟨v1, v2, v3, v4⟩ := r4 b a (by omega)
        have w0 := hW (2 * b) (by omega) (by omega)
        have w1 := hW (2 * b + 1) (by omega) (by omega)
        exact ⟨v2, by omega, by omega, v3⟩
      · intro b a c
        rw [z1] at c
        rw [ks 24 (by omega), ks 23 (by omega), ks 25 (by omega), k38, k39, k40, k41, z4]
        have v := fin b a (by omega)
        have w := r2 b a (by omega)
        obtain ⟨v1, v2, v3, v4⟩ := r4 b a (by omega)
        rw [q4] at v4
        exact ⟨v, fun x => (w.1 x).1, fun x => (w.2 x).1, v1, v4⟩
      · rw [ks 13 (by omega), k26 3 (by omega), t3]
      · rw [ks 13 (by omega), k26 4 (by omega), t4]
      · unfold adS adC cuC; rw [ks 1 (by omega), ks 3 (by omega), ks 4 (by omega), ks 14 (by omega), ks 22 (by omega), ks 24 (by omega)]; exact p4
      · unfold adC cuC; rw [ks 1 (by omega), ks 3 (by omega), ks 4 (by omega), ks 14 (by omega), ks 21 (by omega), ks 24 (by omega)]; exact p7
      · rw [ks 21 (by omega), ks 1 (by omega), k38, p8, r5]
      · rw [ks 21 (by omega), ks 1 (by omega), ks 24 (by omega), p9]
