def swNx (H : Int → Int) (g q n : Int) (r : Nat) (m : Int) : Int := (swF (costO m) g (H (n - 2 - r) + m - H (n - 1 - r)) (swC H g q n r) (2 * q + 1).toNat).2
/-- the first best of the first ones -/
def swB (f : Int → Int) : Nat → Int
  | 0 => 0
  | k + 1 => if f (mvI ((k + 1 : Nat) : Int)) < f (mvI (swB f k)) then ((k + 1 : Nat) : Int) else swB f k
/-- each one's move, by its place in the order -/
def swK (H : Int → Int) (g q n : Int) : Nat → Int
  | 0 => swB (swC H g q n (n - 1).toNat) (2 * q).toNat
  | i + 1 => swNx H g q n (n - 2 - i).toNat (mvI (swK H g q n i))
def swT (H : Int → Int) (g q n : Int) : Int := swC H g q n (n - 1).toNat (mvI (swK H g q n 0))
def swA (H : Int → Int) (g q n a : Int) : Int := if a = 0 then swT H g q n / 1000 else if a = 1 then swT H g q n % 1000 else mvI (swK H g q n (a - 2).toNat)
theorem swB_p {f : Int → Int} : ∀ k : Nat, (0 ≤ swB f k ∧ swB f k ≤ k) ∧ (∀ j : Nat, j ≤ k → f (mvI (swB f k)) ≤ f (mvI (j : Int))) ∧ (∀ j : Nat, (j : Int) < swB f k → f (mvI (swB f k)) < f (mvI (j : Int)))
  | 0 => ⟨by simp [swB], fun j hj => by have : j = 0 := by omega
                                        subst this
                                        exact Int.le_refl _, fun j hj => by simp [swB] at hj; omega⟩
  | k + 1 => by
    have i := swB_p (f := f) k
    unfold swB
    split
    · rename_i h
      refine ⟨by omega, fun j hj => ?_, fun j hj => ?_⟩
      · by_cases e : j = k + 1
        · rw [e]; exact Int.le_refl _
        · have := i.2.1 j (by omega)
          omega
      · have := i.2.1 j (by omega)
        omega
    · rename_i h
      refine ⟨by omega, fun j hj => ?_, i.2.2⟩
      by_cases e : j = k + 1
      · rw [e]; omega
      · exact i.2.1 j (by omega)
theorem mvI_r {k q : Int} (hk : 0 ≤ k ∧ k ≤ 2 * q) : -q ≤ mvI k ∧ mvI k ≤ q := by
  have z := mvI_abs hk.1
  have z2 := zabs_cases (mvI k)
  omega
theorem swF_congr {own g x x2 : Int} {nx nx2 : Int → Int} (hx : x = x2) : ∀ k : Nat, (∀ j : Nat, j < k → nx (mvI (j : Int)) = nx2 (mvI (j : Int))) → swF own g x nx k = swF own g x2 nx2 k
  | 0, _ => rfl
  | k + 1, h => by
    have i := swF_congr (own := own) (g := g) hx k (fun j hj => h j (by omega))
    unfold swF
    rw [i, h k (by omega), hx]
theorem swC_congr {H H2 : Int → Int} {g q n : Int} (hq : 0 ≤ q) (hH : ∀ j : Int, 0 ≤ j → j < n → H j = H2 j) : ∀ (r : Nat), (r : Int) ≤ n - 1 → swC H g q n r = swC H2 g q n r
  | 0, _ => rfl
  | r + 1, hr => by
    have i := swC_congr (g := g) hq hH r (by omega)
    funext m
    show (swF _ _ _ _ _).1 = (swF _ _ _ _ _).1
    rw [i, hH (n - 2 - r) (by omega) (by omega), hH (n - 1 - r) (by omega) (by omega)]
theorem swNx_congr {H H2 : Int → Int} {g q n : Int} (hq : 0 ≤ q) (hH : ∀ j : Int, 0 ≤ j → j < n → H j = H2 j) {r : Nat} (hr : (r : Int) ≤ n - 2) {m : Int} : swNx H g q n r m = swNx H2 g q n r m := by
  unfold swNx
  rw [swC_congr hq hH r (by omega), hH (n - 2 - r) (by omega) (by omega), hH (n - 1 - r) (by omega) (by omega)]
theorem swK_congr {H H2 : Int → Int} {g q n : Int} (hq : 0 ≤ q) (hn : 1 ≤ n) (hH : ∀ j : Int, 0 ≤ j → j < n → H j = H2 j) : ∀ i : Nat, (i : Int) < n → swK H g q n i = swK H2 g q n i
  | 0, _ => by
    unfold swK
    rw [swC_congr hq hH _ (by omega)]
  | i + 1, hi => by
    unfold swK
    rw [swK_congr hq hn hH i (by omega), swNx_congr hq hH (by omega)]
theorem swA_congr {H H2 : Int → Int} {g q n a : Int} (hq : 0 ≤ q) (hn : 1 ≤ n) (ha : a - 2 < n) (hH : ∀ j : Int, 0 ≤ j → j < n → H j = H2 j) : swA H g q n a = swA H2 g q n a ∧ swT H g q n = swT H2 g q n := by
  have e : swT H g q n = swT H2 g q n := by
    unfold swT
    rw [swC_congr hq hH _ (by omega), swK_congr hq hn hH 0 (by omega)]
  refine ⟨?_, e⟩
  unfold swA
  rw [e, swK_congr hq hn hH (a - 2).toNat (by omega)]
/-- the way down the row: while the cost is told, each next one is there -/
theorem swK_p {H : Int → Int} {g q n : Int} (hq : 0 ≤ q ∧ q ≤ 20) (hn : 2 ≤ n) (hT : swT H g q n < 1000000) : ∀ i : Nat, (i : Int) < n → (0 ≤ swK H g q n i ∧ swK H g q n i ≤ 2 * q) ∧ swC H g q n (n - 1 - i).toNat (mvI (swK H g q n i)) < 1000000
  | 0, _ => by
    have p := swB_p (f := swC H g q n (n - 1).toNat) (2 * q).toNat
    have e : swK H g q n 0 = swB (swC H g q n (n - 1).toNat) (2 * q).toNat := rfl
    refine ⟨by rw [e]; omega, ?_⟩
    rw [show n - 1 - ((0 : Nat) : Int) = n - 1 by omega]
    exact hT
  | i + 1, hi => by
    have ih := swK_p hq hn hT i (by omega)
    have c := costO_le (m := mvI (swK H g q n i)) (by have := mvI_r ih.1; omega)
    have e1 : swC H g q n (n - 1 - i).toNat (mvI (swK H g q n i)) = (swF (costO (mvI (swK H g q n i))) g (H (n - 2 - (n - 2 - i).toNat) + mvI (swK H g q n i) - H (n - 1 - (n - 2 - i).toNat)) (swC H g q n (n - 2 - i).toNat) (2 * q + 1).toNat).1 := by
      rw [show (n - 1 - i).toNat = (n - 2 - i).toNat + 1 by omega]
      rfl
    rw [e1] at ih
    have e2 : swK H g q n (i + 1) = (swF (costO (mvI (swK H g q n i))) g (H (n - 2 - (n - 2 - i).toNat) + mvI (swK H g q n i) - H (n - 1 - (n - 2 - i).toNat)) (swC H g q n (n - 2 - i).toNat) (2 * q + 1).toNat).2 := rfl
    rcases swF_at (own := costO (mvI (swK H g q n i))) (g := g) (x := H (n - 2 - (n - 2 - i).toNat) + mvI (swK H g q n i) - H (n - 1 - (n - 2 - i).toNat)) (nx := swC H g q n (n - 2 - i).toNat) (2 * q + 1).toNat with a | ⟨j, b1, b2, b3, b4, b5, b6⟩
    · have := ih.2
      omega
    · rw [e2, b2, show (n - 1 - ((i + 1 : Nat) : Int)).toNat = (n - 2 - i).toNat by omega]
      exact ⟨by omega, by have := ih.2; omega⟩
theorem swK_next {H : Int → Int} {g q n : Int} (hq : 0 ≤ q ∧ q ≤ 20) (hn : 2 ≤ n) (hT : swT H g q n < 1000000) (i : Nat) (hi : (i : Int) + 1 < n) : swC H g q n (n - 1 - i).toNat (mvI (swK H g q n i)) = costO (mvI (swK H g q n i)) + swC H g q n (n - 2 - i).toNat (mvI (swK H g q n (i + 1))) ∧ g ≤ zabs (H i + mvI (swK H g q n i) - H (i + 1) - mvI (swK H g q n (i + 1))) ∧ ∀ k : Nat, (k : Int) < swK H g q n (i + 1) → g ≤ zabs (H i + mvI (swK H g q n i) - H (i + 1) - mvI (k : Int)) → swC H g q n (n - 2 - i).toNat (mvI (swK H g q n (i + 1))) < swC H g q n (n - 2 - i).toNat (mvI (k : Int)) := by
  have ih := swK_p hq hn hT i (by omega)
  have e1 : swC H g q n (n - 1 - i).toNat (mvI (swK H g q n i)) = (swF (costO (mvI (swK H g q n i))) g (H (n - 2 - (n - 2 - i).toNat) + mvI (swK H g q n i) - H (n - 1 - (n - 2 - i).toNat)) (swC H g q n (n - 2 - i).toNat) (2 * q + 1).toNat).1 := by
    rw [show (n - 1 - i).toNat = (n - 2 - i).toNat + 1 by omega]
    rfl
  have e2 : swK H g q n (i + 1) = (swF (costO (mvI (swK H g q n i))) g (H (n - 2 - (n - 2 - i).toNat) + mvI (swK H g q n i) - H (n - 1 - (n - 2 - i).toNat)) (swC H g q n (n - 2 - i).toNat) (2 * q + 1).toNat).2 := rfl
  have e3 : n - 2 - ((n - 2 - i).toNat : Int) = i := by omega
  have e4 : n - 1 - ((n - 2 - i).toNat : Int) = i + 1 := by omega
  rw [e3, e4] at e1 e2
  rw [e1] at ih
  rcases swF_at (own := costO (mvI (swK H g q n i))) (g := g) (x := H i + mvI (swK H g q n i) - H (i + 1)) (nx := swC H g q n (n - 2 - i).toNat) (2 * q + 1).toNat with a | ⟨j, b1, b2, b3, b4, b5, b6⟩
  · have := ih.2
    omega
  · rw [b2] at e2
    rw [e1, e2]
    refine ⟨b4, b3, fun k hk ha => ?_⟩
    have := b6 k (by omega) ha
    omega
