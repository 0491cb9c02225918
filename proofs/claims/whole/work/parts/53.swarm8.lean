def loa1 (M : zM) (i_ : Nat) (g_ q_ : Int) : zM := zput (zput (zput M 9 5 (if 12 < (M (56 + i_) 1) then 12 else (M (56 + i_) 1))) 9 6 g_) 9 7 (if 20 < q_ then 20 else q_)
def loa2 (M : zM) (i_ : Nat) (g_ q_ n_ : Int) : zM := zrow (loa1 M i_ g_ q_) 70 (zfillA (M (60 + i_)) (M 70) 0 n_)
def loa3 (M : zM) (i_ : Nat) (g_ q_ : Int) : zM := zput (swe (loa2 M i_ g_ q_ (M (56 + i_) 1)) (M (56 + i_) 1).toNat) 9 8 (swe (loa2 M i_ g_ q_ (M (56 + i_) 1)) (M (56 + i_) 1).toNat 73 0)
def loaM (M : zM) (i_ : Nat) (g_ q_ : Int) : zM := if loa3 M i_ g_ q_ 9 8 < 1000000 then (folM (loa3 M i_ g_ q_) (M (56 + i_) 1).toNat).1 else loa3 M i_ g_ q_
theorem loa2_5 {M : zM} {i_ : Nat} {g_ q_ n_ : Int} (h : (M (56 + i_) 1) ≤ 12) : loa2 M i_ g_ q_ n_ 9 5 = (M (56 + i_) 1) := by unfold loa2 loa1; rw [zrow_ne (by decide), zput_ne2 (by decide), zput_ne2 (by decide), zput_eq, if_neg (by omega)]
theorem loa2_6 {M : zM} {i_ : Nat} {g_ q_ n_ : Int} : loa2 M i_ g_ q_ n_ 9 6 = g_ := by unfold loa2 loa1; rw [zrow_ne (by decide), zput_ne2 (by decide), zput_eq]
theorem loa2_7 {M : zM} {i_ : Nat} {g_ q_ n_ : Int} (h : q_ ≤ 20) : loa2 M i_ g_ q_ n_ 9 7 = q_ := by unfold loa2 loa1; rw [zrow_ne (by decide), zput_eq, if_neg (by omega)]
theorem loa2_out {M : zM} {i_ k : Nat} {g_ q_ n_ : Int} (h : k ≠ 9) (h2 : k ≠ 70) : loa2 M i_ g_ q_ n_ k = M k := by unfold loa2 loa1; rw [zrow_ne h2, zput_ne h, zput_ne h, zput_ne h]
theorem loa2_70 {M : zM} {i_ : Nat} {g_ q_ n_ : Int} (hv : ∀ j : Int, 0 ≤ j → j < n_ → -1000000 ≤ M (60 + i_) j ∧ M (60 + i_) j ≤ 1000000) (hH : ∀ j : Int, 0 ≤ j → j < 12 → -1000000 ≤ M 70 j ∧ M 70 j ≤ 1000000) : ∀ j : Int, 0 ≤ j → j < 12 → -1000000 ≤ loa2 M i_ g_ q_ n_ 70 j ∧ loa2 M i_ g_ q_ n_ 70 j ≤ 1000000 := fun j h1 h2 => by
  unfold loa2
  rw [zrow_eq]
  unfold zfillA
  split
  · exact hv j h1 (by omega)
  · exact hH j h1 h2
