/-! THE CELLS: 0 .. 25 the class, 26 .. 42 the reference; σ k is what cell k holds: an array, or the numbers among an object's fields -/
abbrev av_S : Type := Nat → Int → Int
def up (σ : av_S) (k : Nat) (f : Int → Int) : av_S := fun j => if j = k then f else σ j
def hp (σ : av_S) : av_H := [.inr (0, [vI (σ 0 0), vR 1, vR 7, vR 10, vR 13, vR 21, vI (σ 0 6)]), .inr (1, [vR 2, vR 3, vR 4, vR 5, vR 6, vI (σ 1 5)]), .inl (0, 24, σ 2), .inl (0, 24, σ 3), .inl (0, 24, σ 4), .inl (0, 48, σ 5), .inl (0, 4, σ 6), .inr (2, [vR 8, vR 9]), .inl (0, 24, σ 8), .inl (0, 48, σ 9), .inr (3, [vR 11, vR 12, vI (σ 10 2)]), .inl (0, 60, σ 11), .inl (0, 60, σ 12), .inr (4, [vR 14, vI (σ 13 1), vI (σ 13 2), vR 15, vR 16, vR 17, vR 18, vR 19, vR 20]), .inl (0, 24, σ 14), .inl (0, 48, σ 15), .inl (0, 24, σ 16), .inl (0, 24, σ 17), .inl (0, 24, σ 18), .inl (0, 24, σ 19), .inl (0, 24, σ 20), .inr (5, [vR 22, vR 23, vR 24, vR 25, vI (σ 21 4), vI (σ 21 5), vI (σ 21 6)]), .inl (0, 24, σ 22), .inl (0, 48, σ 23), .inl (0, 48, σ 24), .inl (1, 24, σ 25), .inr (6, [vI (σ 26 0), vI (σ 26 1), vI (σ 26 2), vI (σ 26 3), vI (σ 26 4), vI (σ 26 5), vR 27, vR 28, vR 29, vR 30, vR 31, vR 32, vR 33, vR 34, vR 35, vR 36, vR 37, vR 38, vR 39, vR 40, vR 41, vR 42]), .inl (0, 24, σ 27), .inl (0, 24, σ 28), .inl (0, 24, σ 29), .inl (0, 48, σ 30), .inl (0, 24, σ 31), .inl (0, 48, σ 32), .inl (0, 24, σ 33), .inl (0, 24, σ 34), .inl (1, 48, σ 35), .inl (1, 24, σ 36), .inl (0, 24, σ 37), .inl (0, 24, σ 38), .inl (0, 48, σ 39), .inl (0, 48, σ 40), .inl (1, 24, σ 41), .inl (1, 48, σ 42)]
theorem hs_0_0 (σ : av_S) (z : Int) : (hp σ).set 0 (.inr (0, [vI z, vR 1, vR 7, vR 10, vR 13, vR 21, vI (σ 0 6)])) = hp (up σ 0 (uI (σ 0) 0 z)) := rfl
theorem hs_0_6 (σ : av_S) (z : Int) : (hp σ).set 0 (.inr (0, [vI (σ 0 0), vR 1, vR 7, vR 10, vR 13, vR 21, vI z])) = hp (up σ 0 (uI (σ 0) 6 z)) := rfl
theorem hs_1_5 (σ : av_S) (z : Int) : (hp σ).set 1 (.inr (1, [vR 2, vR 3, vR 4, vR 5, vR 6, vI z])) = hp (up σ 1 (uI (σ 1) 5 z)) := rfl
theorem hs_2 (σ : av_S) (f : Int → Int) : (hp σ).set 2 (.inl (0, 24, f)) = hp (up σ 2 f) := rfl
theorem hs_3 (σ : av_S) (f : Int → Int) : (hp σ).set 3 (.inl (0, 24, f)) = hp (up σ 3 f) := rfl
theorem hs_4 (σ : av_S) (f : Int → Int) : (hp σ).set 4 (.inl (0, 24, f)) = hp (up σ 4 f) := rfl
theorem hs_5 (σ : av_S) (f : Int → Int) : (hp σ).set 5 (.inl (0, 48, f)) = hp (up σ 5 f) := rfl
theorem hs_6 (σ : av_S) (f : Int → Int) : (hp σ).set 6 (.inl (0, 4, f)) = hp (up σ 6 f) := rfl
theorem hs_8 (σ : av_S) (f : Int → Int) : (hp σ).set 8 (.inl (0, 24, f)) = hp (up σ 8 f) := rfl
theorem hs_9 (σ : av_S) (f : Int → Int) : (hp σ).set 9 (.inl (0, 48, f)) = hp (up σ 9 f) := rfl
theorem hs_10_2 (σ : av_S) (z : Int) : (hp σ).set 10 (.inr (3, [vR 11, vR 12, vI z])) = hp (up σ 10 (uI (σ 10) 2 z)) := rfl
theorem hs_11 (σ : av_S) (f : Int → Int) : (hp σ).set 11 (.inl (0, 60, f)) = hp (up σ 11 f) := rfl
theorem hs_12 (σ : av_S) (f : Int → Int) : (hp σ).set 12 (.inl (0, 60, f)) = hp (up σ 12 f) := rfl
theorem hs_13_1 (σ : av_S) (z : Int) : (hp σ).set 13 (.inr (4, [vR 14, vI z, vI (σ 13 2), vR 15, vR 16, vR 17, vR 18, vR 19, vR 20])) = hp (up σ 13 (uI (σ 13) 1 z)) := rfl
theorem hs_13_2 (σ : av_S) (z : Int) : (hp σ).set 13 (.inr (4, [vR 14, vI (σ 13 1), vI z, vR 15, vR 16, vR 17, vR 18, vR 19, vR 20])) = hp (up σ 13 (uI (σ 13) 2 z)) := rfl
theorem hs_14 (σ : av_S) (f : Int → Int) : (hp σ).set 14 (.inl (0, 24, f)) = hp (up σ 14 f) := rfl
theorem hs_15 (σ : av_S) (f : Int → Int) : (hp σ).set 15 (.inl (0, 48, f)) = hp (up σ 15 f) := rfl
theorem hs_16 (σ : av_S) (f : Int → Int) : (hp σ).set 16 (.inl (0, 24, f)) = hp (up σ 16 f) := rfl
theorem hs_17 (σ : av_S) (f : Int → Int) : (hp σ).set 17 (.inl (0, 24, f)) = hp (up σ 17 f) := rfl
theorem hs_18 (σ : av_S) (f : Int → Int) : (hp σ).set 18 (.inl (0, 24, f)) = hp (up σ 18 f) := rfl
theorem hs_19 (σ : av_S) (f : Int → Int) : (hp σ).set 19 (.inl (0, 24, f)) = hp (up σ 19 f) := rfl
theorem hs_20 (σ : av_S) (f : Int → Int) : (hp σ).set 20 (.inl (0, 24, f)) = hp (up σ 20 f) := rfl
theorem hs_21_4 (σ : av_S) (z : Int) : (hp σ).set 21 (.inr (5, [vR 22, vR 23, vR 24, vR 25, vI z, vI (σ 21 5), vI (σ 21 6)])) = hp (up σ 21 (uI (σ 21) 4 z)) := rfl
theorem hs_21_5 (σ : av_S) (z : Int) : (hp σ).set 21 (.inr (5, [vR 22, vR 23, vR 24, vR 25, vI (σ 21 4), vI z, vI (σ 21 6)])) = hp (up σ 21 (uI (σ 21) 5 z)) := rfl
theorem hs_21_6 (σ : av_S) (z : Int) : (hp σ).set 21 (.inr (5, [vR 22, vR 23, vR 24, vR 25, vI (σ 21 4), vI (σ 21 5), vI z])) = hp (up σ 21 (uI (σ 21) 6 z)) := rfl
theorem hs_22 (σ : av_S) (f : Int → Int) : (hp σ).set 22 (.inl (0, 24, f)) = hp (up σ 22 f) := rfl
theorem hs_23 (σ : av_S) (f : Int → Int) : (hp σ).set 23 (.inl (0, 48, f)) = hp (up σ 23 f) := rfl
theorem hs_24 (σ : av_S) (f : Int → Int) : (hp σ).set 24 (.inl (0, 48, f)) = hp (up σ 24 f) := rfl
theorem hs_25 (σ : av_S) (f : Int → Int) : (hp σ).set 25 (.inl (1, 24, f)) = hp (up σ 25 f) := rfl
theorem hs_26_0 (σ : av_S) (z : Int) : (hp σ).set 26 (.inr (6, [vI z, vI (σ 26 1), vI (σ 26 2), vI (σ 26 3), vI (σ 26 4), vI (σ 26 5), vR 27, vR 28, vR 29, vR 30, vR 31, vR 32, vR 33, vR 34, vR 35, vR 36, vR 37, vR 38, vR 39, vR 40, vR 41, vR 42])) = hp (up σ 26 (uI (σ 26) 0 z)) := rfl
theorem hs_26_1 (σ : av_S) (z : Int) : (hp σ).set 26 (.inr (6, [vI (σ 26 0), vI z, vI (σ 26 2), vI (σ 26 3), vI (σ 26 4), vI (σ 26 5), vR 27, vR 28, vR 29, vR 30, vR 31, vR 32, vR 33, vR 34, vR 35, vR 36, vR 37, vR 38, vR 39, vR 40, vR 41, vR 42])) = hp (up σ 26 (uI (σ 26) 1 z)) := rfl
theorem hs_26_2 (σ : av_S) (z : Int) : (hp σ).set 26 (.inr (6, [vI (σ 26 0), vI (σ 26 1), vI z, vI (σ 26 3), vI (σ 26 4), vI (σ 26 5), vR 27, vR 28, vR 29, vR 30, vR 31, vR 32, vR 33, vR 34, vR 35, vR 36, vR 37, vR 38, vR 39, vR 40, vR 41, vR 42])) = hp (up σ 26 (uI (σ 26) 2 z)) := rfl
theorem hs_26_3 (σ : av_S) (z : Int) : (hp σ).set 26 (.inr (6, [vI (σ 26 0), vI (σ 26 1), vI (σ 26 2), vI z, vI (σ 26 4), vI (σ 26 5), vR 27, vR 28, vR 29, vR 30, vR 31, vR 32, vR 33, vR 34, vR 35, vR 36, vR 37, vR 38, vR 39, vR 40, vR 41, vR 42])) = hp (up σ 26 (uI (σ 26) 3 z)) := rfl
theorem hs_26_4 (σ : av_S) (z : Int) : (hp σ).set 26 (.inr (6, [vI (σ 26 0), vI (σ 26 1), vI (σ 26 2), vI (σ 26 3), vI z, vI (σ 26 5), vR 27, vR 28, vR 29, vR 30, vR 31, vR 32, vR 33, vR 34, vR 35, vR 36, vR 37, vR 38, vR 39, vR 40, vR 41, vR 42])) = hp (up σ 26 (uI (σ 26) 4 z)) := rfl
theorem hs_26_5 (σ : av_S) (z : Int) : (hp σ).set 26 (.inr (6, [vI (σ 26 0), vI (σ 26 1), vI (σ 26 2), vI (σ 26 3), vI (σ 26 4), vI z, vR 27, vR 28, vR 29, vR 30, vR 31, vR 32, vR 33, vR 34, vR 35, vR 36, vR 37, vR 38, vR 39, vR 40, vR 41, vR 42])) = hp (up σ 26 (uI (σ 26) 5 z)) := rfl
theorem hs_27 (σ : av_S) (f : Int → Int) : (hp σ).set 27 (.inl (0, 24, f)) = hp (up σ 27 f) := rfl
theorem hs_28 (σ : av_S) (f : Int → Int) : (hp σ).set 28 (.inl (0, 24, f)) = hp (up σ 28 f) := rfl
theorem hs_29 (σ : av_S) (f : Int → Int) : (hp σ).set 29 (.inl (0, 24, f)) = hp (up σ 29 f) := rfl
theorem hs_30 (σ : av_S) (f : Int → Int) : (hp σ).set 30 (.inl (0, 48, f)) = hp (up σ 30 f) := rfl
theorem hs_31 (σ : av_S) (f : Int → Int) : (hp σ).set 31 (.inl (0, 24, f)) = hp (up σ 31 f) := rfl
theorem hs_32 (σ : av_S) (f : Int → Int) : (hp σ).set 32 (.inl (0, 48, f)) = hp (up σ 32 f) := rfl
theorem hs_33 (σ : av_S) (f : Int → Int) : (hp σ).set 33 (.inl (0, 24, f)) = hp (up σ 33 f) := rfl
theorem hs_34 (σ : av_S) (f : Int → Int) : (hp σ).set 34 (.inl (0, 24, f)) = hp (up σ 34 f) := rfl
theorem hs_35 (σ : av_S) (f : Int → Int) : (hp σ).set 35 (.inl (1, 48, f)) = hp (up σ 35 f) := rfl
theorem hs_36 (σ : av_S) (f : Int → Int) : (hp σ).set 36 (.inl (1, 24, f)) = hp (up σ 36 f) := rfl
theorem hs_37 (σ : av_S) (f : Int → Int) : (hp σ).set 37 (.inl (0, 24, f)) = hp (up σ 37 f) := rfl
theorem hs_38 (σ : av_S) (f : Int → Int) : (hp σ).set 38 (.inl (0, 24, f)) = hp (up σ 38 f) := rfl
theorem hs_39 (σ : av_S) (f : Int → Int) : (hp σ).set 39 (.inl (0, 48, f)) = hp (up σ 39 f) := rfl
theorem hs_40 (σ : av_S) (f : Int → Int) : (hp σ).set 40 (.inl (0, 48, f)) = hp (up σ 40 f) := rfl
theorem hs_41 (σ : av_S) (f : Int → Int) : (hp σ).set 41 (.inl (1, 24, f)) = hp (up σ 41 f) := rfl
theorem hs_42 (σ : av_S) (f : Int → Int) : (hp σ).set 42 (.inl (1, 48, f)) = hp (up σ 42 f) := rfl
theorem up_s (σ : av_S) (k : Nat) (f : Int → Int) : up σ k f k = f := if_pos rfl
theorem up_n (σ : av_S) {k j : Nat} (f : Int → Int) (h : j ≠ k) : up σ k f j = σ j := if_neg h
theorem uI_s (f : Int → Int) (i z : Int) : uI f i z i = z := if_pos rfl
theorem uI_n (f : Int → Int) {i j : Int} (z : Int) (h : j ≠ i) : uI f i z j = f j := if_neg h
