/-! THE CLASS'S CHAINS beside the pure ones J -/
def iJ (n : Nat) (ht bo FI BE HS BS : Int → Int) (J : (Int → Int) × (Int → Int)) : Prop :=
  (∀ b, 0 ≤ b → b < (n : Int) → FI b = J.1 b) ∧
  (∀ b, 0 ≤ b → b < (n : Int) → (BE b = -1 ∧ J.2 b = szF J.1 (J.1 b) n - 1) ∨ ((0 ≤ BE b ∧ BE b < (n : Int)) ∧ J.1 (BE b) = J.1 b ∧ J.2 (BE b) = J.2 b + 1)) ∧
  (∀ c, 0 ≤ c → c < (n : Int) → J.1 c = c → HS c = suF ht J.1 c n ∧ BS c = suF bo J.1 c n) ∧
  (∀ b, 0 ≤ b → b < (n : Int) → (0 ≤ HS b ∧ HS b ≤ 24000000) ∧ (1 ≤ BS b ∧ BS b ≤ 960))
theorem iJ_start {n : Nat} {ht bo FI BE HS BS : Int → Int} (hn : n ≤ 24) (hh : ∀ b, 0 ≤ b → b < (n : Int) → 0 ≤ ht b ∧ ht b ≤ 1000000) (hb : ∀ b, 0 ≤ b → b < (n : Int) → 1 ≤ bo b ∧ bo b ≤ 40) (e : ∀ b, 0 ≤ b → b < (n : Int) → FI b = b ∧ BE b = -1 ∧ HS b = ht b ∧ BS b = bo b) : iJ n ht bo FI BE HS BS (fun j => j, fun _ => 0) := by
  refine ⟨fun b h0 h1 => (e b h0 h1).1, fun b h0 h1 => Or.inl ⟨(e b h0 h1).2.1, ?_⟩, fun c h0 h1 _ => ?_, fun b h0 h1 => ?_⟩
  · dsimp only
    rw [szF_1 (fun b _ _ => rfl) ⟨h0, h1⟩]; rfl
  · obtain ⟨-, -, e3, e4⟩ := e c h0 h1
    dsimp only
    rw [suF_1 (fun b _ _ => rfl) ⟨h0, h1⟩, suF_1 (fun b _ _ => rfl) ⟨h0, h1⟩]
    exact ⟨e3, e4⟩
  · obtain ⟨-, -, e3, e4⟩ := e b h0 h1
    have := hh b h0 h1
    have := hb b h0 h1
    omega
theorem jC_iff {n : Nat} {ht bo FI BE HS BS to fn en : Int → Int} {J : (Int → Int) × (Int → Int)} {e : Int} (h : iJ n ht bo FI BE HS BS J) (hc : cI n fn (fun b => b = en (fn b)) J.1 J.2) (hx : 0 ≤ e / 2 ∧ e / 2 < (n : Int)) (hy : 0 ≤ to e ∧ to e < (n : Int)) : (BE (e / 2) = -1 ∧ FI (to e) = to e ∧ FI (e / 2) ≠ to e ∧ ¬ en (fn (to e)) = to e) ↔ jC n to fn en J.1 J.2 e := by
  obtain ⟨i1, i2, i3, i4⟩ := h
  obtain ⟨c1, c2, c3⟩ := hc
  unfold jC
  rw [i1 _ hx.1 hx.2, i1 _ hy.1 hy.2]
  have x2 := i2 _ hx.1 hx.2
  have y1 := (c1 _ hy.1 hy.2).2.2.1
  have xb : BE (e / 2) = -1 ↔ J.2 (e / 2) = szF J.1 (J.1 (e / 2)) n - 1 := by
    constructor
    · intro z
      rcases x2 with w | w
      · exact w.2
      · omega
    · intro z
      rcases x2 with w | w
      · exact w.1
      · have q := (c1 _ w.1.1 w.1.2).2.1
        rw [w.2.1] at q
        omega
  constructor
  · rintro ⟨a1, a2, a3, a4⟩
    exact ⟨xb.mp a1, y1.mpr a2, by rw [a2]; exact a3, fun z => a4 z.symm⟩
  · rintro ⟨a1, a2, a3, a4⟩
    have w := y1.mp a2
    exact ⟨xb.mpr a1, w, by rw [w] at a3; exact a3, fun z => a4 z.symm⟩
theorem iJ_join {n : Nat} {ht bo FI BE HS BS to fn en : Int → Int} {J : (Int → Int) × (Int → Int)} {e : Int} (hn : n ≤ 24) (hh : ∀ b, 0 ≤ b → b < (n : Int) → 0 ≤ ht b ∧ ht b ≤ 1000000) (hbo : ∀ b, 0 ≤ b → b < (n : Int) → 1 ≤ bo b ∧ bo b ≤ 40) (h : iJ n ht bo FI BE HS BS J) (hc : cI n fn (fun b => b = en (fn b)) J.1 J.2) (hx : 0 ≤ e / 2 ∧ e / 2 < (n : Int)) (hy : 0 ≤ to e ∧ to e < (n : Int)) (hj : jC n to fn en J.1 J.2 e) :
    iJ n ht bo (fl (fun j => if FI j = to e then FI (e / 2) else FI j) FI (n : Int)) (uI BE (e / 2) (to e)) (uI HS (FI (e / 2)) (HS (FI (e / 2)) + HS (to e))) (uI BS (FI (e / 2)) (BS (FI (e / 2)) + BS (to e))) (jst n to fn en J e) := by
  obtain ⟨i1, i2, i3, i4⟩ := h
  obtain ⟨c1, c2, c3⟩ := id hc
  obtain ⟨j1, j2, j3, j4⟩ := id hj
  rw [jst_yes hj]
  generalize hX : e / 2 = x at *
  generalize hY : to e = y at *
  have yy : J.1 y = y := (c1 y hy.1 hy.2).2.2.1.mp j2
  rw [yy] at j3
  have cx := (c1 x hx.1 hx.2).1
  have cc := (cI_hd hc hx.1 hx.2).1
  have N1 : ∀ b, 0 ≤ b → b < (n : Int) → fl (fun b => if J.1 b = J.1 y then J.1 x else J.1 b) J.1 (n : Int) b = if J.1 b = y then J.1 x else J.1 b := fun b h0 h1 => by rw [fl_in ⟨h0, h1⟩, yy]
  have N2 : ∀ b, 0 ≤ b → b < (n : Int) → fl (fun b => if J.1 b = J.1 y then J.2 b + szF J.1 (J.1 x) n else J.2 b) J.2 (n : Int) b = if J.1 b = y then J.2 b + szF J.1 (J.1 x) n else J.2 b := fun b h0 h1 => by rw [fl_in ⟨h0, h1⟩, yy]
  have szc := szF_c (n := n) (CH := J.1) (c := J.1 x) (d := y) j3 N1
  have ex := i1 x hx.1 hx.2
  have hd := i3 (J.1 x) cx.1 cx.2 cc
  have hdy := i3 y hy.1 hy.2 yy
  refine ⟨fun b h0 h1 => ?_, fun b h0 h1 => ?_, fun c h0 h1 hcc => ?_, fun b h0 h1 => ?_⟩
  · dsimp only
    rw [N1 b h0 h1, fl_in ⟨h0, h1⟩]
    rw [i1 b h0 h1, ex]
  · dsimp only
    rw [N1 b h0 h1, N2 b h0 h1]
    by_cases bx : b = x
    · subst bx
      right
      rw [uI_s, N1 y hy.1 hy.2, N2 y hy.1 hy.2, if_pos yy, if_pos yy, if_neg j3, if_neg j3]
      exact ⟨hy, rfl, by omega⟩
    · rw [uI_n _ _ bx]
      rcases i2 b h0 h1 with ⟨w1, w2⟩ | ⟨w1, w2, w3⟩
      · left
        refine ⟨w1, ?_⟩
        by_cases q : J.1 b = y
        · rw [if_pos q, if_pos q, szc, w2, q]; omega
        · rw [if_neg q, if_neg q]
          by_cases q2 : J.1 b = J.1 x
          · exact absurd (c2 b x h0 h1 hx.1 hx.2 q2 (by rw [w2, j1, q2])) bx
          · rw [szF_x q2 q N1]; exact w2
      · right
        rw [N1 _ w1.1 w1.2, N2 _ w1.1 w1.2, w2]
        refine ⟨w1, rfl, ?_⟩
        split <;> omega
  · dsimp only at hcc ⊢
    rw [N1 c h0 h1] at hcc
    have q : ¬ J.1 c = y := fun q => by
      rw [if_pos q] at hcc
      rw [← hcc, cc] at q
      exact j3 q
    rw [if_neg q] at hcc
    by_cases q2 : c = J.1 x
    · rw [q2, ex, uI_s, uI_s, suF_c j3 N1, suF_c j3 N1, hd.1, hd.2, hdy.1, hdy.2]
      exact ⟨rfl, rfl⟩
    · rw [ex, uI_n _ _ q2, uI_n _ _ q2, suF_x q2 (by rw [hcc] at q; exact q) N1, suF_x q2 (by rw [hcc] at q; exact q) N1]
      exact i3 c h0 h1 hcc
  · rw [ex]
    by_cases q2 : b = J.1 x
    · rw [q2, uI_s, uI_s]
      have s1 := suF_c (w := ht) (n := n) (CH := J.1) (c := J.1 x) (d := y) j3 N1
      have s2 := suF_c (w := bo) (n := n) (CH := J.1) (c := J.1 x) (d := y) j3 N1
      have b1 := suF_bd (w := ht) (CH := fl (fun b => if J.1 b = J.1 y then J.1 x else J.1 b) J.1 (n : Int)) (c := J.1 x) (M := 1000000) (by omega) n hh
      have b2 := suF_bd (w := bo) (CH := fl (fun b => if J.1 b = J.1 y then J.1 x else J.1 b) J.1 (n : Int)) (c := J.1 x) (M := 40) (by omega) n (fun b a0 a1 => by have := hbo b a0 a1; omega)
      have g1 := i4 (J.1 x) cx.1 cx.2
      have g2 := i4 y hy.1 hy.2
      omega
    · rw [uI_n _ _ q2, uI_n _ _ q2]
      exact i4 b h0 h1
