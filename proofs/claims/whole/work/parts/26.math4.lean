/-- a cell's row, whole -/
def zrow (M : zM) (k : Nat) (r : Int → Int) : zM := fun a => if a = k then r else M a
def zup (r : Int → Int) (j v : Int) : Int → Int := fun b => if b = j then v else r b
theorem zup_eq {r : Int → Int} {j v : Int} : zup r j v j = v := by simp [zup]
theorem zup_ne {r : Int → Int} {j v b : Int} (h : b ≠ j) : zup r j v b = r b := by simp [zup, h]
theorem zput_row {M : zM} {k : Nat} {j v : Int} : zput M k j v = zrow M k (zup (M k) j v) := by
  funext a b
  unfold zput zrow zup
  by_cases ha : a = k
  · subst ha
    simp
  · simp [ha]
theorem zrow_eq {M : zM} {k : Nat} {r : Int → Int} : zrow M k r k = r := by simp [zrow]
theorem zrow_ne {M : zM} {k : Nat} {r : Int → Int} {a : Nat} (h : a ≠ k) : zrow M k r a = M a := by simp [zrow, h]
theorem zrow_row {M : zM} {k : Nat} {r r2 : Int → Int} : zrow (zrow M k r) k r2 = zrow M k r2 := by
  funext a
  unfold zrow
  by_cases ha : a = k <;> simp [ha]
theorem zrow_self {M : zM} {k : Nat} : zrow M k (M k) = M := by
  funext a
  unfold zrow
  by_cases ha : a = k
  · subst ha
    simp
  · simp [ha]
/-- a finding is counted: on the class's side, on the reference's -/
abbrev fnd6 (M : zM) (k : Int) : zM := zput M 6 k (M 6 k + 1)
abbrev fnd7 (M : zM) (k : Int) : zM := zput M 78 k (M 78 k + 1)
/-- a day ends, on the reference's row -/
def endS (s : Int → Int) : Int → Int := zup (zup (zup s 0 (s 0 + 1)) 8 (s 8 + useS (pS s) (s 1))) 9 (s 9 + danger (s 10).toNat (gS s) (s 0 + 1) (s 1))
def goesS (s : Int → Int) (m : Int) : Int → Int := zup (zup s 1 (s 1 + m)) 7 (s 7 - s 2 * zabs m)
theorem zor_0 {x : Int} (h : -2147483648 ≤ x ∧ x < 2147483648) : zor x 0 = x := by
  unfold zor
  rw [show Int32.ofInt 0 = 0 from rfl, Int32.or_zero, zi_r h]
theorem zor_r {x y : Int} : -2147483648 ≤ zor x y ∧ zor x y < 2147483648 := ⟨by have := Int32.le_toInt (Int32.ofInt x ||| Int32.ofInt y); unfold zor; omega, by have := Int32.toInt_lt (Int32.ofInt x ||| Int32.ofInt y); unfold zor; omega⟩
def openB (g : Nat → Int → Int) (today : Int) : Nat → Int
  | 0 => 0
  | n + 1 => if today < g n 1 then zor (openB g today n) (zshl 1 (n : Int)) else openB g today n
theorem openB_r {g : Nat → Int → Int} {today : Int} : ∀ n : Nat, -2147483648 ≤ openB g today n ∧ openB g today n < 2147483648
  | 0 => by simp [openB]
  | n + 1 => by
    unfold openB
    split
    · exact zor_r
    · exact openB_r n
theorem openB_t {g : Nat → Int → Int} {today i : Int} (hi : 0 ≤ i) (hd : today < g i.toNat 1) : openB g today (i + 1).toNat = zor (openB g today i.toNat) (zshl 1 i) := by
  rw [nat_1 hi, openB, if_pos hd, Int.toNat_of_nonneg hi]
theorem openB_f {g : Nat → Int → Int} {today i : Int} (hi : 0 ≤ i) (hd : ¬ today < g i.toNat 1) : openB g today (i + 1).toNat = openB g today i.toNat := by
  rw [nat_1 hi, openB, if_neg hd]
/-- the reference's way to the safest height: from the lowest up -/
def safeM (dg : Int → Int) (ht : Int) : Nat → Int
  | 0 => -12
  | n + 1 => if dg (-11 + n) - dg (safeM dg ht n) < 0 ∨ dg (-11 + n) - dg (safeM dg ht n) = 0 ∧ zabs (-11 + n - ht) < zabs (safeM dg ht n - ht) then -11 + n else safeM dg ht n
theorem safeM_le {dg : Int → Int} {ht : Int} : ∀ n : Nat, -12 ≤ safeM dg ht n ∧ safeM dg ht n ≤ -12 + n
  | 0 => by simp [safeM]
  | n + 1 => by
    have := safeM_le (dg := dg) (ht := ht) n
    unfold safeM
    split <;> omega
