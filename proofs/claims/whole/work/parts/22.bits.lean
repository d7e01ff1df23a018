theorem bt_core (x i : Int) (k : Nat) (hs1 : (((Int32.ofInt i).toUInt32 &&& Int32.toUInt32 31).toBitVec % 32).toNat = k) (hs2 : ((Int32.ofInt i &&& 31).toBitVec.smod 32).toNat = k) (hp : ∀ N : Int, ((N - 4294967296) / (2 ^ k : Int)) % 2 = (N / (2 ^ k : Int)) % 2) : btC x i = btM x i := by
  unfold btC btM
  rw [Int32.ofInt_toInt, Int32.ofInt_toInt]
  have e1 := pk_ushr (Int32.ofInt x) (Int32.ofInt i) k hs1
  have e2 := pk_shr (Int32.ofInt x) (Int32.ofInt i &&& 31) k hs2
  generalize (Int32.ofInt x).toUInt32 >>> ((Int32.ofInt i).toUInt32 &&& Int32.toUInt32 31) = V at e1 ⊢
  generalize Int32.ofInt x >>> (Int32.ofInt i &&& 31) = V' at e2 ⊢
  generalize Int32.ofInt x = X at e1 e2
  have a1 := pk_and V.toInt32 (m := Int32.ofInt 1) 1 rfl
  have a2 := pk_and V' (m := Int32.ofInt 1) 1 rfl
  rw [a1, a2]
  congr 2
  have c1 := BitVec.toInt_eq_toNat_cond V'.toBitVec
  have c2 := BitVec.toInt_eq_toNat_cond X.toBitVec
  have c3 : V'.toBitVec.toInt = X.toBitVec.toInt >>> k := e2
  rw [Int.shiftRight_eq_div_pow] at c3
  have hp1 := hp (X.toBitVec.toNat : Int)
  have d1 : (V'.toBitVec.toInt) % 2 = ((X.toBitVec.toNat : Int) / (2 ^ k : Int)) % 2 := by
    rw [c3]
    split at c2
    · rw [c2]; norm_cast
    · rw [c2]
      have : ((2 ^ 32 : Nat) : Int) = 4294967296 := by decide
      rw [this]
      push_cast
      exact hp1
  have d2 : ((V'.toBitVec.toNat : Int)) % 2 = (V'.toBitVec.toInt) % 2 := by
    split at c1
    · rw [c1]
    · rw [c1]; omega
  have d3 : (V.toInt32.toBitVec.toNat : Int) = (X.toBitVec.toNat : Int) / (2 ^ k : Int) := by
    rw [e1]; push_cast; rfl
  omega
theorem bt_0 (x : Int) : btC x 0 = btM x 0 := bt_core x 0 0 (by decide) (by decide) (fun N => by omega)
theorem bt_1 (x : Int) : btC x 1 = btM x 1 := bt_core x 1 1 (by decide) (by decide) (fun N => by omega)
theorem bt_2 (x : Int) : btC x 2 = btM x 2 := bt_core x 2 2 (by decide) (by decide) (fun N => by omega)
theorem bt_3 (x : Int) : btC x 3 = btM x 3 := bt_core x 3 3 (by decide) (by decide) (fun N => by omega)
theorem bt_4 (x : Int) : btC x 4 = btM x 4 := bt_core x 4 4 (by decide) (by decide) (fun N => by omega)
theorem bt_5 (x : Int) : btC x 5 = btM x 5 := bt_core x 5 5 (by decide) (by decide) (fun N => by omega)
theorem bt_6 (x : Int) : btC x 6 = btM x 6 := bt_core x 6 6 (by decide) (by decide) (fun N => by omega)
theorem bt_7 (x : Int) : btC x 7 = btM x 7 := bt_core x 7 7 (by decide) (by decide) (fun N => by omega)
theorem bt_8 (x : Int) : btC x 8 = btM x 8 := bt_core x 8 8 (by decide) (by decide) (fun N => by omega)
theorem bt_9 (x : Int) : btC x 9 = btM x 9 := bt_core x 9 9 (by decide) (by decide) (fun N => by omega)
theorem bt_10 (x : Int) : btC x 10 = btM x 10 := bt_core x 10 10 (by decide) (by decide) (fun N => by omega)
theorem bt_11 (x : Int) : btC x 11 = btM x 11 := bt_core x 11 11 (by decide) (by decide) (fun N => by omega)
theorem bt_12 (x : Int) : btC x 12 = btM x 12 := bt_core x 12 12 (by decide) (by decide) (fun N => by omega)
theorem bt_13 (x : Int) : btC x 13 = btM x 13 := bt_core x 13 13 (by decide) (by decide) (fun N => by omega)
theorem bt_14 (x : Int) : btC x 14 = btM x 14 := bt_core x 14 14 (by decide) (by decide) (fun N => by omega)
theorem bt_15 (x : Int) : btC x 15 = btM x 15 := bt_core x 15 15 (by decide) (by decide) (fun N => by omega)
theorem bt_16 (x : Int) : btC x 16 = btM x 16 := bt_core x 16 16 (by decide) (by decide) (fun N => by omega)
theorem bt_17 (x : Int) : btC x 17 = btM x 17 := bt_core x 17 17 (by decide) (by decide) (fun N => by omega)
theorem bt_18 (x : Int) : btC x 18 = btM x 18 := bt_core x 18 18 (by decide) (by decide) (fun N => by omega)
theorem bt_19 (x : Int) : btC x 19 = btM x 19 := bt_core x 19 19 (by decide) (by decide) (fun N => by omega)
theorem bt_20 (x : Int) : btC x 20 = btM x 20 := bt_core x 20 20 (by decide) (by decide) (fun N => by omega)
theorem bt_21 (x : Int) : btC x 21 = btM x 21 := bt_core x 21 21 (by decide) (by decide) (fun N => by omega)
theorem bt_22 (x : Int) : btC x 22 = btM x 22 := bt_core x 22 22 (by decide) (by decide) (fun N => by omega)
theorem bt_23 (x : Int) : btC x 23 = btM x 23 := bt_core x 23 23 (by decide) (by decide) (fun N => by omega)
theorem bt_24 (x : Int) : btC x 24 = btM x 24 := bt_core x 24 24 (by decide) (by decide) (fun N => by omega)
theorem bt_25 (x : Int) : btC x 25 = btM x 25 := bt_core x 25 25 (by decide) (by decide) (fun N => by omega)
theorem bt_26 (x : Int) : btC x 26 = btM x 26 := bt_core x 26 26 (by decide) (by decide) (fun N => by omega)
theorem bt_27 (x : Int) : btC x 27 = btM x 27 := bt_core x 27 27 (by decide) (by decide) (fun N => by omega)
theorem bt_28 (x : Int) : btC x 28 = btM x 28 := bt_core x 28 28 (by decide) (by decide) (fun N => by omega)
theorem bt_29 (x : Int) : btC x 29 = btM x 29 := bt_core x 29 29 (by decide) (by decide) (fun N => by omega)
theorem bt_30 (x : Int) : btC x 30 = btM x 30 := bt_core x 30 30 (by decide) (by decide) (fun N => by omega)
theorem bt_31 (x : Int) : btC x 31 = btM x 31 := bt_core x 31 31 (by decide) (by decide) (fun N => by omega)
theorem bt_eq (x i : Int) (h0 : 0 ≤ i) (h1 : i < 32) : btC x i = btM x i := by
  rcases (show i = 0 ∨ i = 1 ∨ i = 2 ∨ i = 3 ∨ i = 4 ∨ i = 5 ∨ i = 6 ∨ i = 7 ∨ i = 8 ∨ i = 9 ∨ i = 10 ∨ i = 11 ∨ i = 12 ∨ i = 13 ∨ i = 14 ∨ i = 15 ∨ i = 16 ∨ i = 17 ∨ i = 18 ∨ i = 19 ∨ i = 20 ∨ i = 21 ∨ i = 22 ∨ i = 23 ∨ i = 24 ∨ i = 25 ∨ i = 26 ∨ i = 27 ∨ i = 28 ∨ i = 29 ∨ i = 30 ∨ i = 31 by omega) with rfl | rfl | rfl | rfl | rfl | rfl | rfl | rfl | rfl | rfl | rfl | rfl | rfl | rfl | rfl | rfl | rfl | rfl | rfl | rfl | rfl | rfl | rfl | rfl | rfl | rfl | rfl | rfl | rfl | rfl | rfl | rfl
  · exact bt_0 x
  · exact bt_1 x
  · exact bt_2 x
  · exact bt_3 x
  · exact bt_4 x
  · exact bt_5 x
  · exact bt_6 x
  · exact bt_7 x
  · exact bt_8 x
  · exact bt_9 x
  · exact bt_10 x
  · exact bt_11 x
  · exact bt_12 x
  · exact bt_13 x
  · exact bt_14 x
  · exact bt_15 x
  · exact bt_16 x
  · exact bt_17 x
  · exact bt_18 x
  · exact bt_19 x
  · exact bt_20 x
  · exact bt_21 x
  · exact bt_22 x
  · exact bt_23 x
  · exact bt_24 x
  · exact bt_25 x
  · exact bt_26 x
  · exact bt_27 x
  · exact bt_28 x
  · exact bt_29 x
  · exact bt_30 x
  · exact bt_31 x
