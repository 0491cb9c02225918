def zEx (P : Int → Prop) : Prop := ∃ t, P t
/-! the row, put apart: by the order of moves -/
def swF (own g x : Int) (nx : Int → Int) : Nat → Int × Int
  | 0 => (1000000, -1)
  | j + 1 => if g ≤ zabs (x - mvI (j : Int)) ∧ own + nx (mvI (j : Int)) < (swF own g x nx j).1 then (own + nx (mvI (j : Int)), (j : Int)) else swF own g x nx j
theorem swF_le {own g x : Int} {nx : Int → Int} : ∀ n : Nat, (swF own g x nx n).1 ≤ 1000000 ∧ ∀ j : Nat, j < n → g ≤ zabs (x - mvI (j : Int)) → (swF own g x nx n).1 ≤ own + nx (mvI (j : Int))
  | 0 => ⟨Int.le_refl _, fun j hj => absurd hj (Nat.not_lt_zero j)⟩
  | n + 1 => by
    have i := swF_le (own := own) (g := g) (x := x) (nx := nx) n
    unfold swF
    split
    · rename_i h
      refine ⟨by show own + nx (mvI (n : Int)) ≤ _; omega, fun j hj ha => ?_⟩
      show own + nx (mvI (n : Int)) ≤ _
      by_cases e : j = n
      · rw [e]; exact Int.le_refl _
      · have := i.2 j (by omega) ha
        omega
    · rename_i h
      refine ⟨i.1, fun j hj ha => ?_⟩
      by_cases e : j = n
      · rw [e] at ha ⊢
        exact Int.not_lt.mp (fun q => h ⟨ha, q⟩)
      · exact i.2 j (by omega) ha
theorem swF_at {own g x : Int} {nx : Int → Int} : ∀ n : Nat, ((swF own g x nx n).2 = -1 ∧ (swF own g x nx n).1 = 1000000) ∨ ∃ j : Nat, j < n ∧ (swF own g x nx n).2 = (j : Int) ∧ g ≤ zabs (x - mvI (j : Int)) ∧ (swF own g x nx n).1 = own + nx (mvI (j : Int)) ∧ (swF own g x nx n).1 < 1000000 ∧ ∀ i : Nat, i < j → g ≤ zabs (x - mvI (i : Int)) → (swF own g x nx n).1 < own + nx (mvI (i : Int))
  | 0 => Or.inl ⟨rfl, rfl⟩
  | n + 1 => by
    have l := swF_le (own := own) (g := g) (x := x) (nx := nx) n
    have i := swF_at (own := own) (g := g) (x := x) (nx := nx) n
    unfold swF
    split
    · rename_i h
      exact Or.inr ⟨n, Nat.lt_succ_self n, rfl, h.1, rfl, by show own + nx (mvI (n : Int)) < _; omega, fun i hi ha => Int.lt_of_lt_of_le h.2 (l.2 i hi ha)⟩
    · rcases i with i | ⟨j, h1, h2⟩
      · exact Or.inl i
      · exact Or.inr ⟨j, by omega, h2⟩
/-- the least of a set, told twice -/
theorem swF_eq {own g x q V : Int} {nx : Int → Int} (hq : 0 ≤ q) (h1 : V ≤ 1000000) (h2 : ∀ m : Int, -q ≤ m ∧ m ≤ q → g ≤ zabs (x - m) → V ≤ own + nx m) (h3 : V = 1000000 ∨ zEx (fun m => (-q ≤ m ∧ m ≤ q) ∧ g ≤ zabs (x - m) ∧ V = own + nx m)) : V = (swF own g x nx (2 * q + 1).toNat).1 := by
  have l := swF_le (own := own) (g := g) (x := x) (nx := nx) (2 * q + 1).toNat
  have a := swF_at (own := own) (g := g) (x := x) (nx := nx) (2 * q + 1).toNat
  have u1 : V ≤ (swF own g x nx (2 * q + 1).toNat).1 := by
    rcases a with a | ⟨j, b1, b2, b3, b4, b5, b6⟩
    · omega
    · have z := mvI_abs (k := (j : Int)) (by omega)
      have z2 := zabs_cases (mvI (j : Int))
      have := h2 (mvI (j : Int)) (by omega) b3
      omega
  have u2 : (swF own g x nx (2 * q + 1).toNat).1 ≤ V := by
    rcases h3 with h3 | ⟨m, c1, c2, c3⟩
    · omega
    · have z := zabs_cases m
      have o : ordM m < (2 * q + 1).toNat := by unfold ordM; split <;> omega
      have := l.2 (ordM m) o (by rw [mvI_ord]; exact c2)
      rw [mvI_ord] at this
      omega
  omega
theorem dnR_min {f : Int → Int} : ∀ n : Nat, dnR f n ≤ 1000000 ∧ (∀ t : Int, 0 ≤ t → t < n → dnR f n ≤ f t) ∧ (dnR f n = 1000000 ∨ zEx (fun t => 0 ≤ t ∧ t < n ∧ dnR f n = f t))
  | 0 => ⟨Int.le_refl _, fun t a b => by omega, Or.inl rfl⟩
  | n + 1 => by
    have i := dnR_min (f := f) n
    have z := zmin_c (dnR f n) (f n)
    unfold dnR
    refine ⟨by omega, fun t a b => ?_, ?_⟩
    · by_cases e : t = n
      · rw [e]; omega
      · have := i.2.1 t a (by omega)
        omega
    · rcases z with z | z
      · exact Or.inr ⟨n, by omega, by omega, z.2⟩
      · rcases i.2.2 with h | ⟨t, h1, h2, h3⟩
        · exact Or.inl (by omega)
        · exact Or.inr ⟨t, h1, by omega, by omega⟩
theorem upR_min {f : Int → Int} {T : Int} : ∀ n : Nat, upR f T n ≤ 1000000 ∧ (∀ t : Int, t ≤ T → T - n < t → upR f T n ≤ f t) ∧ (upR f T n = 1000000 ∨ zEx (fun t => t ≤ T ∧ T - n < t ∧ upR f T n = f t))
  | 0 => ⟨Int.le_refl _, fun t a b => by omega, Or.inl rfl⟩
  | n + 1 => by
    have i := upR_min (f := f) (T := T) n
    have z := zmin_c (upR f T n) (f (T - n))
    unfold upR
    refine ⟨by omega, fun t a b => ?_, ?_⟩
    · by_cases e : t = T - n
      · rw [e]; omega
      · have := i.2.1 t a (by omega)
        omega
    · rcases z with z | z
      · exact Or.inr ⟨T - n, by omega, by omega, z.2⟩
      · rcases i.2.2 with h | ⟨t, h1, h2, h3⟩
        · exact Or.inl (by omega)
        · exact Or.inr ⟨t, h1, by omega, by omega⟩
theorem behC_min {D U f : Int → Int} {g q x : Int} (hg : 0 ≤ g) (hq : 0 ≤ q) (hD : ∀ t : Int, 0 ≤ t → t ≤ 2 * q → D t = dnR f (t.toNat + 1)) (hU : ∀ t : Int, 0 ≤ t → t ≤ 2 * q → U t = upR f (2 * q) (2 * q - t + 1).toNat) :
    behC D U g q (x + q) ≤ 1000000 ∧ (∀ m : Int, -q ≤ m ∧ m ≤ q → g ≤ zabs (x - m) → behC D U g q (x + q) ≤ f (m + q)) ∧ (behC D U g q (x + q) = 1000000 ∨ zEx (fun m => (-q ≤ m ∧ m ≤ q) ∧ g ≤ zabs (x - m) ∧ behC D U g q (x + q) = f (m + q))) := by
  have lo := zmin_c (x + q - g) (2 * q)
  have hi := zmax_c (x + q + g) 0
  have d1 : (if zmin (x + q - g) (2 * q) < 0 then 1000000 else D (zmin (x + q - g) (2 * q))) ≤ 1000000 ∧ (∀ t : Int, 0 ≤ t → t ≤ zmin (x + q - g) (2 * q) → (if zmin (x + q - g) (2 * q) < 0 then 1000000 else D (zmin (x + q - g) (2 * q))) ≤ f t) ∧ ((if zmin (x + q - g) (2 * q) < 0 then 1000000 else D (zmin (x + q - g) (2 * q))) = 1000000 ∨ zEx (fun t => 0 ≤ t ∧ t ≤ zmin (x + q - g) (2 * q) ∧ (if zmin (x + q - g) (2 * q) < 0 then 1000000 else D (zmin (x + q - g) (2 * q))) = f t)) := by
    by_cases h : zmin (x + q - g) (2 * q) < 0
    · rw [if_pos h]
      exact ⟨Int.le_refl _, fun t a b => by omega, Or.inl rfl⟩
    · rw [if_neg h, hD _ (by omega) (by omega)]
      have m := dnR_min (f := f) ((zmin (x + q - g) (2 * q)).toNat + 1)
      refine ⟨m.1, fun t a b => m.2.1 t a (by omega), ?_⟩
      rcases m.2.2 with m | ⟨t, a, b, c⟩
      · exact Or.inl m
      · exact Or.inr ⟨t, a, by omega, c⟩
  have u1 : (if 2 * q < zmax (x + q + g) 0 then 1000000 else U (zmax (x + q + g) 0)) ≤ 1000000 ∧ (∀ t : Int, t ≤ 2 * q → zmax (x + q + g) 0 ≤ t → (if 2 * q < zmax (x + q + g) 0 then 1000000 else U (zmax (x + q + g) 0)) ≤ f t) ∧ ((if 2 * q < zmax (x + q + g) 0 then 1000000 else U (zmax (x + q + g) 0)) = 1000000 ∨ zEx (fun t => t ≤ 2 * q ∧ zmax (x + q + g) 0 ≤ t ∧ (if 2 * q < zmax (x + q + g) 0 then 1000000 else U (zmax (x + q + g) 0)) = f t)) := by
    by_cases h : 2 * q < zmax (x + q + g) 0
    · rw [if_pos h]
      exact ⟨Int.le_refl _, fun t a b => by omega, Or.inl rfl⟩
    · rw [if_neg h, hU _ (by omega) (by omega)]
      have m := upR_min (f := f) (T := 2 * q) (2 * q - zmax (x + q + g) 0 + 1).toNat
      refine ⟨m.1, fun t a b => m.2.1 t a (by omega), ?_⟩
      rcases m.2.2 with m | ⟨t, a, b, c⟩
      · exact Or.inl m
      · exact Or.inr ⟨t, a, by omega, c⟩
  unfold behC
  generalize (if zmin (x + q - g) (2 * q) < 0 then 1000000 else D (zmin (x + q - g) (2 * q))) = dn at d1 ⊢
  generalize (if 2 * q < zmax (x + q + g) 0 then 1000000 else U (zmax (x + q + g) 0)) = up at u1 ⊢
  have z := zmin_c dn up
  refine ⟨by omega, fun m hm ha => ?_, ?_⟩
  · have zz := zabs_cases (x - m)
    by_cases h : g ≤ x - m
    · have := d1.2.1 (m + q) (by omega) (by omega)
      omega
    · have := u1.2.1 (m + q) (by omega) (by omega)
      omega
  · rcases z with z | z
    · rw [z.2]
      rcases u1.2.2 with h | ⟨t, a, b, c⟩
      · exact Or.inl h
      · have zz := zabs_cases (x - (t - q))
        exact Or.inr ⟨t - q, by omega, by omega, by rw [c, show t - q + q = t by omega]⟩
    · rw [z.2]
      rcases d1.2.2 with h | ⟨t, a, b, c⟩
      · exact Or.inl h
      · have zz := zabs_cases (x - (t - q))
        exact Or.inr ⟨t - q, by omega, by omega, by rw [c, show t - q + q = t by omega]⟩
/-- the least cost of number n - 1 - r and of those behind it, by its move -/
def swC (H : Int → Int) (g q n : Int) : Nat → Int → Int
  | 0 => costO
  | r + 1 => fun m => (swF (costO m) g (H (n - 2 - r) + m - H (n - 1 - r)) (swC H g q n r) (2 * q + 1).toNat).1
theorem costO_le {m : Int} (h : -20 ≤ m ∧ m ≤ 20) : 0 ≤ costO m ∧ costO m ≤ 1020 := by
  have := zabs_cases m
  unfold costO
  split <;> omega
theorem swC_le {H : Int → Int} {g q n : Int} (hq : 0 ≤ q ∧ q ≤ 20) : ∀ (r : Nat) (m : Int), -q ≤ m ∧ m ≤ q → 0 ≤ swC H g q n r m ∧ swC H g q n r m ≤ 1000000
  | 0, m, hm => by
    have := costO_le (m := m) (by omega)
    show 0 ≤ costO m ∧ costO m ≤ 1000000
    omega
  | r + 1, m, hm => by
    have c := costO_le (m := m) (by omega)
    have l := swF_le (own := costO m) (g := g) (x := H (n - 2 - r) + m - H (n - 1 - r)) (nx := swC H g q n r) (2 * q + 1).toNat
    refine ⟨?_, l.1⟩
    show 0 ≤ (swF _ _ _ _ _).1
    rcases swF_at (own := costO m) (g := g) (x := H (n - 2 - r) + m - H (n - 1 - r)) (nx := swC H g q n r) (2 * q + 1).toNat with a | ⟨j, b1, b2, b3, b4, b5, b6⟩
    · omega
    · have z := mvI_abs (k := (j : Int)) (by omega)
      have z2 := zabs_cases (mvI (j : Int))
      have i := swC_le (H := H) (g := g) (n := n) hq r (mvI (j : Int)) (by omega)
      omega
/-- what weigh lays is that -/
theorem weiV_swC {M : zM} {n g q i : Int} {r : Nat} (h5 : M 9 5 = n) (h6 : M 9 6 = g) (h7 : M 9 7 = q) (hg : 0 ≤ g) (hq : 0 ≤ q ∧ q ≤ 20) (hi : i = n - 2 - r) (hf : ∀ t : Int, 0 ≤ t → t ≤ 2 * q → M 71 ((i + 1) * 41 + t) = swC (M 70) g q n r (t - q))
    (hD : ∀ t : Int, 0 ≤ t → t ≤ 2 * q → M 72 t = dnR (fun j => M 71 ((i + 1) * 41 + j)) (t.toNat + 1)) (hU : ∀ t : Int, 0 ≤ t → t ≤ 2 * q → M 73 t = upR (fun j => M 71 ((i + 1) * 41 + j)) (2 * q) (2 * q - t + 1).toNat) {m : Int} (hm : -q ≤ m ∧ m ≤ q) : weiV M i m = swC (M 70) g q n (r + 1) m := by
  have b := behC_min (D := M 72) (U := M 73) (f := fun j => M 71 ((i + 1) * 41 + j)) (x := M 70 i + m - M 70 (i + 1)) hg hq.1 hD hU
  have c := costO_le (m := m) (by omega)
  unfold weiV
  rw [h5, h6, h7, if_neg (by omega)]
  have z := zmin_c (behC (M 72) (M 73) g q (M 70 i + m - M 70 (i + 1) + q) + costO m) 1000000
  show _ = (swF (costO m) g (M 70 (n - 2 - r) + m - M 70 (n - 1 - r)) (swC (M 70) g q n r) (2 * q + 1).toNat).1
  rw [← hi, show n - 1 - (r : Int) = i + 1 by omega]
  refine swF_eq hq.1 (by omega) (fun m2 h1 h2 => ?_) ?_
  · have := b.2.1 m2 h1 h2
    rw [hf _ (by omega) (by omega), show m2 + q - q = m2 by omega] at this
    omega
  · rcases z with z | z
    · exact Or.inl z.2
    · rcases b.2.2 with h | ⟨m2, h1, h2, h3⟩
      · by_cases e : costO m = 0
        · exact Or.inl (by omega)
        · exact Or.inl (by omega)
      · rw [hf _ (by omega) (by omega), show m2 + q - q = m2 by omega] at h3
        exact Or.inr ⟨m2, h1, h2, by omega⟩
theorem weiV_0 {M : zM} {q i : Int} (hi : i = M 9 5 - 1) (hq : 0 ≤ q ∧ q ≤ 20) {m : Int} (hm : -q ≤ m ∧ m ≤ q) : weiV M i m = costO m := by
  have c := costO_le (m := m) (by omega)
  unfold weiV
  rw [if_pos hi]
  have z := zmin_c (0 + costO m) 1000000
  omega
