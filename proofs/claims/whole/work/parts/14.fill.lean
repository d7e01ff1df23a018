theorem fill_loop {sc : av_sc} {d n0 bc bs : Nat} {al : Bool} {h : av_H} {q n : Nat} {v : Int} {Φ : Option av_V → av_H → Prop} (hq : q < h.length) (hn : n ≤ 1000) (hΦ : Φ none (h.set q (.inl (0, n, fun _ => v)))) :
    ∀ (k : Nat) (i : Int) (g : Int → Int), 0 ≤ i → i + (k : Int) = (n : Int) → (∀ j : Int, 0 ≤ j → j < i → g j = v) → av_Rn sc m_A_fill d al n0 bc bs 5 [some (vR q), some (vI v), some (vI i), some (vI (n : Int))] [] (h.set q (.inl (0, n, g))) Φ := by
  intro k
  induction k with
  | zero =>
    intro i g hi hk hg
    refine rn_iload_n 6 d_A_fill_5 rfl rfl ?_
    refine rn_iload_n 7 d_A_fill_6 rfl rfl ?_
    refine rn_icmp_ge 20 10 d_A_fill_7 rfl rfl ⟨by omega, by omega⟩ ⟨by omega, by omega⟩ (fun c_7 => ?_) (fun c_7 => ?_)
    · refine rn_arr (q := q) (t := 0) (n := n) (f := g) (g := fun _ => v) (List.getElem?_set_self hq) (fun j h0 h1 => hg j h0 (by omega)) ?_
      rw [List.set_set]
      exact rn_return d_A_fill_20 rfl hΦ
    · omega
  | succ k ih =>
    intro i g hi hk hg
    refine rn_iload_n 6 d_A_fill_5 rfl rfl ?_
    refine rn_iload_n 7 d_A_fill_6 rfl rfl ?_
    refine rn_icmp_ge 20 10 d_A_fill_7 rfl rfl ⟨by omega, by omega⟩ ⟨by omega, by omega⟩ (fun c_7 => ?_) (fun c_7 => ?_)
    · omega
    · refine rn_aload_n 11 d_A_fill_10 rfl rfl ?_
      refine rn_iload_n 12 d_A_fill_11 rfl rfl ?_
      refine rn_iload_n 13 d_A_fill_12 rfl rfl ?_
      refine rn_iastore 14 d_A_fill_13 rfl (List.getElem?_set_self hq) (by omega) (by omega) (by omega) (List.set_set ..) ?_
      refine rn_iinc 17 d_A_fill_14 rfl rfl (by decide) rfl rfl ?_
      refine rn_goto 5 d_A_fill_17 rfl ?_
      refine ih (i + 1) (uI g i v) (by omega) (by omega) (fun j h0 h1 => ?_)
      by_cases hj : j = i
      · subst hj; exact uI_s g j v
      · rw [uI_n g v hj]; exact hg j h0 (by omega)
/-- Arrays.fill(int[], int) -/
theorem ev_A_fill {sc : av_sc} {d : Nat} {h : av_H} {q n : Nat} {f : Int → Int} {v : Int} (hk : h[q]? = some (.inl (0, n, f))) (hn : n ≤ 1000) : av_Ev sc m_A_fill d false 0 0 [vR q, vI v] h (fun r h' => r = none ∧ h' = h.set q (.inl (0, n, fun _ => v))) := by
  have hq : q < h.length := (List.getElem?_eq_some_iff.mp hk).1
  have hs : h = h.set q (.inl (0, n, f)) := by
    refine List.ext_getElem? fun i => ?_
    rw [List.getElem?_set]
    by_cases hi : q = i
    · subst hi; rw [if_pos rfl, if_pos hq]; exact hk
    · simp [hi]
  refine av_ev rfl rfl (Nat.le_of_ble_eq_true rfl) rfl ?_
  refine rn_iconst 1 d_A_fill_0 rfl ?_
  refine rn_istore_n 2 d_A_fill_1 rfl (by decide) rfl rfl ?_
  refine rn_aload_n 3 d_A_fill_2 rfl rfl ?_
  refine rn_alen 4 d_A_fill_3 rfl hk (by decide) ?_
  refine rn_istore_n 5 d_A_fill_4 rfl (by decide) rfl rfl ?_
  have hL := fill_loop (sc := sc) (d := d) (n0 := h.length) (bc := 0) (bs := 0) (al := false) (v := v) (Φ := fun r h' => r = none ∧ h' = h.set q (.inl (0, n, fun _ => v))) hq hn ⟨rfl, rfl⟩ n 0 f (by omega) (by omega) (fun j h0 h1 => by omega)
  rw [← hs] at hL
  exact hL
