theorem swe_row {M : zM} {n g q : Int} (h5 : M 9 5 = n) (h6 : M 9 6 = g) (h7 : M 9 7 = q) (hn : 1 ≤ n) (hg : 0 ≤ g) (hq : 0 ≤ q ∧ q ≤ 20) : ∀ r : Nat, (r : Int) ≤ n → 1 ≤ r → (∀ a t : Int, n - r ≤ a → a < n → 0 ≤ t → t ≤ 2 * q → swe M r 71 (a * 41 + t) = swC (M 70) g q n (n - 1 - a).toNat (t - q)) ∧ (∀ t : Int, 0 ≤ t → t ≤ 2 * q → swe M r 72 t = dnR (fun j => swe M r 71 ((n - r) * 41 + j)) (t.toNat + 1)) ∧ (∀ t : Int, 0 ≤ t → t ≤ 2 * q → swe M r 73 t = upR (fun j => swe M r 71 ((n - r) * 41 + j)) (2 * q) (2 * q - t + 1).toNat)
  | 0, _, h => by omega
  | r + 1, hr, _ => by
    have e9 : swe M r 9 = M 9 := swe_out (by decide) (by decide) (by decide) r
    have e70 : swe M r 70 = M 70 := swe_out (by decide) (by decide) (by decide) r
    have w9 : weiM (swe M r) (M 9 5 - 1 - r) 9 = M 9 := by rw [weiM_out (by decide), e9]
    have i0 : M 9 5 - 1 - r = n - ((r + 1 : Nat) : Int) := by omega
    have w71 : ∀ a t : Int, n - (r + 1 : Nat) ≤ a → a < n → 0 ≤ t → t ≤ 2 * q → weiM (swe M r) (M 9 5 - 1 - r) 71 (a * 41 + t) = swC (M 70) g q n (n - 1 - a).toNat (t - q) := by
      intro a t h1 h2 h3 h4
      unfold weiM
      rw [zrow_eq, e9, h7, i0]
      unfold zfillA
      by_cases ha : a = n - ((r + 1 : Nat) : Int)
      · rw [if_pos (by omega), ha]
        dsimp only
        rw [show (n - ((r + 1 : Nat) : Int)) * 41 + t - (n - ((r + 1 : Nat) : Int)) * 41 - q = t - q by omega]
        by_cases h0 : r = 0
        · subst h0
          rw [weiV_0 (q := q) (by rw [e9, h5]; omega) hq (by omega), show (n - 1 - (n - ((0 + 1 : Nat) : Int))).toNat = 0 by omega]
          rfl
        · have ih := swe_row h5 h6 h7 hn hg hq r (by omega) (by omega)
          have e1 : n - (r : Int) = n - ((r + 1 : Nat) : Int) + 1 := by omega
          rw [e1] at ih
          rw [weiV_swC (n := n) (g := g) (q := q) (r := r - 1) (by rw [e9, h5]) (by rw [e9, h6]) (by rw [e9, h7]) hg hq (by omega) (fun t2 a2 b2 => by
            rw [ih.1 _ t2 (Int.le_refl _) (by omega) a2 b2, e70, show (n - 1 - (n - ((r + 1 : Nat) : Int) + 1)).toNat = r - 1 by omega]) ih.2.1 ih.2.2 (by omega), e70, show (n - 1 - (n - ((r + 1 : Nat) : Int))).toNat = r - 1 + 1 by omega]
      · have h0 : 1 ≤ r := by omega
        have ih := swe_row h5 h6 h7 hn hg hq r (by omega) h0
        rw [if_neg (by omega)]
        exact ih.1 a t (by omega) h2 h3 h4
    have g71 : swe M (r + 1) 71 = weiM (swe M r) (M 9 5 - 1 - r) 71 := by rw [swe, gatM_out (by decide) (by decide)]
    refine ⟨by rw [g71]; exact w71, fun t h1 h2 => ?_, fun t h1 h2 => ?_⟩
    · rw [g71, swe]
      unfold gatM
      rw [zrow_ne (by decide), zrow_eq, w9, h7, ← i0]
      unfold zfillA
      rw [if_pos (by omega)]
    · rw [g71, swe]
      unfold gatM
      rw [zrow_eq, w9, h7, ← i0]
      unfold zfillA
      rw [if_pos (by omega)]
theorem swe_T {M : zM} {n g q : Int} (h5 : M 9 5 = n) (h6 : M 9 6 = g) (h7 : M 9 7 = q) (hn : 1 ≤ n) (hg : 0 ≤ g) (hq : 0 ≤ q ∧ q ≤ 20) : swe M n.toNat 73 0 = swT (M 70) g q n := by
  have h := swe_row h5 h6 h7 hn hg hq n.toNat (by omega) (by omega)
  rw [show n - (n.toNat : Int) = 0 by omega] at h
  rw [h.2.2 0 (by decide) (by omega)]
  have u := upR_min (f := fun j => swe M n.toNat 71 (0 * 41 + j)) (T := 2 * q) (2 * q - 0 + 1).toNat
  have p := swB_p (f := swC (M 70) g q n (n - 1).toNat) (2 * q).toNat
  have f : ∀ t : Int, 0 ≤ t → t ≤ 2 * q → swe M n.toNat 71 (0 * 41 + t) = swC (M 70) g q n (n - 1).toNat (t - q) := fun t a b => by
    rw [h.1 0 t (Int.le_refl _) (by omega) a b, show n - 1 - 0 = n - 1 by omega]
  have e : swT (M 70) g q n = swC (M 70) g q n (n - 1).toNat (mvI (swB (swC (M 70) g q n (n - 1).toNat) (2 * q).toNat)) := rfl
  have rr := mvI_r (k := swB (swC (M 70) g q n (n - 1).toNat) (2 * q).toNat) (q := q) (by omega)
  have cl := swC_le (H := M 70) (g := g) (n := n) hq (n - 1).toNat _ rr
  have le1 : upR (fun j => swe M n.toNat 71 (0 * 41 + j)) (2 * q) (2 * q - 0 + 1).toNat ≤ swT (M 70) g q n := by
    have := u.2.1 (mvI (swB (swC (M 70) g q n (n - 1).toNat) (2 * q).toNat) + q) (by omega) (by omega)
    rw [f _ (by omega) (by omega), show mvI (swB (swC (M 70) g q n (n - 1).toNat) (2 * q).toNat) + q - q = mvI (swB (swC (M 70) g q n (n - 1).toNat) (2 * q).toNat) by omega, ← e] at this
    exact this
  have le2 : swT (M 70) g q n ≤ upR (fun j => swe M n.toNat 71 (0 * 41 + j)) (2 * q) (2 * q - 0 + 1).toNat := by
    rcases u.2.2 with v | ⟨t, a, b, c⟩
    · rw [v, e]; exact cl.2
    · rw [c, f t (by omega) a, e]
      have z := zabs_cases (t - q)
      have := p.2.1 (ordM (t - q)) (by unfold ordM; split <;> omega)
      rw [mvI_ord] at this
      exact this
  omega
theorem firstF_un {N : zM} {i c m : Int} : ∀ (f : Nat) (d : Int), 0 ≤ d → d ≤ zabs m → zabs m < d + f → fitB N i m c → (∀ m2 : Int, d ≤ zabs m2 → ordM m2 < ordM m → ¬ fitB N i m2 c) → firstF N i c f d = m
  | 0, d, _, h1, h2, _, _ => by omega
  | f + 1, d, h0, h1, h2, hf, hn => by
    have z := zabs_cases m
    have zd := zabs_cases d
    have ze := zabs_cases (-d)
    unfold firstF
    by_cases e : zabs m = d
    · by_cases e2 : m = -d
      · rw [if_pos (by rw [← e2]; exact hf), e2]
      · have e3 : m = d := by omega
        rw [if_neg (hn (-d) (by omega) (by unfold ordM; split <;> split <;> omega)), if_pos (by rw [← e3]; exact hf), e3]
    · rw [if_neg (hn (-d) (by omega) (by unfold ordM; split <;> split <;> omega)), if_neg (hn d (by omega) (by unfold ordM; split <;> split <;> omega))]
      exact firstF_un f (d + 1) (by omega) (by omega) (by omega) hf (fun m2 a b => hn m2 (by omega) b)
theorem zabs_neg {x : Int} : zabs (-x) = zabs x := by
  have a := zabs_cases x
  have b := zabs_cases (-x)
  omega
theorem fol_p {L : zM} {H : Int → Int} {n g q : Int} (h5 : L 9 5 = n) (h6 : L 9 6 = g) (h7 : L 9 7 = q) (h8 : L 9 8 = swT H g q n) (h70 : L 70 = H) (hn : 2 ≤ n) (hq : 0 ≤ q ∧ q ≤ 20) (hT : swT H g q n < 1000000) (h71 : ∀ a t : Int, 0 ≤ a → a < n → 0 ≤ t → t ≤ 2 * q → L 71 (a * 41 + t) = swC H g q n (n - 1 - a).toNat (t - q)) :
    ∀ i : Nat, (i : Int) ≤ n → (folM L i).2 = (if (i : Int) < n then swC H g q n (n - 1 - i).toNat (mvI (swK H g q n i)) else 0) ∧ (∀ j : Int, 0 ≤ j → j < i → (folM L i).1 74 j = mvI (swK H g q n j.toNat)) ∧ 1000 * (folM L i).1 9 9 + (folM L i).1 9 10 = swT H g q n - (folM L i).2 ∧ 0 ≤ (folM L i).1 9 9 ∧ 0 ≤ (folM L i).1 9 10 ∧ (folM L i).1 9 10 ≤ 20 * i
  | 0, _ => by
    have e1 : (folM L 0).1 9 9 = 0 := by show zput (zput L 9 9 0) 9 10 0 9 9 = 0; rw [zput_ne2 (by decide), zput_eq]
    have e2 : (folM L 0).1 9 10 = 0 := by show zput (zput L 9 9 0) 9 10 0 9 10 = 0; rw [zput_eq]
    have e3 : (folM L 0).2 = swT H g q n := h8
    refine ⟨?_, fun j a b => by omega, ?_, ?_, ?_, ?_⟩
    · rw [e3, if_pos (by omega), show n - 1 - ((0 : Nat) : Int) = n - 1 by omega]
      rfl
    · rw [e1, e2, e3]; omega
    · rw [e1]; omega
    · rw [e2]; omega
    · rw [e2]; omega
  | i + 1, hi => by
    have ih := fol_p h5 h6 h7 h8 h70 hn hq hT h71 i (by omega)
    have hK := swK_p hq hn hT i (by omega)
    have hr := mvI_r hK.1
    have hlt : (i : Int) < n := by omega
    have hP : folP L i (folM L i) = mvI (swK H g q n i) := by
      have n71 : (folM L i).1 71 = L 71 := folM_out (by decide) (by decide) i
      have n70 : (folM L i).1 70 = H := by rw [folM_out (by decide) (by decide) i, h70]
      have n7 : (folM L i).1 9 7 = q := by rw [folM_9 (by decide) (by decide) i, h7]
      have n6 : (folM L i).1 9 6 = g := by rw [folM_9 (by decide) (by decide) i, h6]
      have fit : ∀ m : Int, -q ≤ m ∧ m ≤ q → (fitB (folM L i).1 i m (folM L i).2 ↔ swC H g q n (n - 1 - i).toNat m = swC H g q n (n - 1 - i).toNat (mvI (swK H g q n i)) ∧ ((i : Int) = 0 ∨ g ≤ zabs (H i + m - H (i - 1) - (folM L i).1 74 (i - 1)))) := by
        intro m hm
        unfold fitB
        rw [n71, n70, n7, n6, ih.1, if_pos hlt, show (i : Int) * 41 + q + m = i * 41 + (q + m) by omega, h71 i (q + m) (by omega) hlt (by omega) (by omega), show q + m - q = m by omega]
      have zz := zabs_cases (mvI (swK H g q n i))
      unfold folP
      rw [h7]
      refine firstF_un (q + 1).toNat 0 (by decide) zabs_le (by omega) ((fit _ hr).mpr ⟨rfl, ?_⟩) (fun m2 _ ho hf => ?_)
      · by_cases h0 : i = 0
        · exact Or.inl (by omega)
        · right
          obtain ⟨i', rfl⟩ : ∃ i', i = i' + 1 := ⟨i - 1, by omega⟩
          have nx := (swK_next hq hn hT i' (by omega)).2.1
          have p74 := ih.2.1 (((i' + 1 : Nat) : Int) - 1) (by omega) (by omega)
          rw [p74, show (((i' + 1 : Nat) : Int) - 1).toNat = i' by omega, show ((i' + 1 : Nat) : Int) - 1 = i' by omega, ← zabs_neg]
          have e : -(H ((i' + 1 : Nat) : Int) + mvI (swK H g q n (i' + 1)) - H i' - mvI (swK H g q n i')) = H i' + mvI (swK H g q n i') - H (i' + 1) - mvI (swK H g q n (i' + 1)) := by
            rw [show ((i' + 1 : Nat) : Int) = (i' : Int) + 1 by omega]
            omega
          rw [e]
          exact nx
      · have om : ordM (mvI (swK H g q n i)) = (swK H g q n i).toNat := by
          have := ordM_mv (swK H g q n i).toNat
          rwa [Int.toNat_of_nonneg hK.1.1] at this
        rw [om] at ho
        have hm2 : -q ≤ m2 ∧ m2 ≤ q := by unfold ordM at ho; split at ho <;> omega
        have hf2 := (fit m2 hm2).mp hf
        by_cases h0 : i = 0
        · subst h0
          have p := (swB_p (f := swC H g q n (n - 1).toNat) (2 * q).toNat).2.2 (ordM m2) (by
            have e : swK H g q n 0 = swB (swC H g q n (n - 1).toNat) (2 * q).toNat := rfl
            rw [← e]; omega)
          rw [mvI_ord] at p
          have hf3 := hf2.1
          rw [show n - 1 - ((0 : Nat) : Int) = n - 1 by omega] at hf3
          have e : swK H g q n 0 = swB (swC H g q n (n - 1).toNat) (2 * q).toNat := rfl
          rw [← e] at p
          omega
        · obtain ⟨i', rfl⟩ : ∃ i', i = i' + 1 := ⟨i - 1, by omega⟩
          have nx := (swK_next hq hn hT i' (by omega)).2.2 (ordM m2) (by omega)
          rw [mvI_ord] at nx
          have p74 := ih.2.1 (((i' + 1 : Nat) : Int) - 1) (by omega) (by omega)
          have hf3 := hf2.2
          have hf4 := hf2.1
          rw [p74, show (((i' + 1 : Nat) : Int) - 1).toNat = i' by omega, show ((i' + 1 : Nat) : Int) - 1 = i' by omega, ← zabs_neg] at hf3
          have e : -(H ((i' + 1 : Nat) : Int) + m2 - H i' - mvI (swK H g q n i')) = H i' + mvI (swK H g q n i') - H (i' + 1) - m2 := by
            rw [show ((i' + 1 : Nat) : Int) = (i' : Int) + 1 by omega]
            omega
          rw [e] at hf3
          rcases hf3 with hf3 | hf3
          · omega
          · have := nx hf3
            rw [show (n - 1 - ((i' + 1 : Nat) : Int)).toNat = (n - 2 - i').toNat by omega] at hf4
            omega
    have z := zabs_cases (mvI (swK H g q n i))
    have s2 : (folM L (i + 1)).2 = (folM L i).2 - costO (mvI (swK H g q n i)) := by
      show (folM L i).2 - costO (folP L i (folM L i)) = _
      rw [hP]
    have s9 : (folM L (i + 1)).1 9 9 = (folM L i).1 9 9 + if mvI (swK H g q n i) = 0 then 0 else 1 := by
      rw [folM]
      dsimp only
      rw [zput_ne2 (by decide), zput_eq, hP]
    have s10 : (folM L (i + 1)).1 9 10 = (folM L i).1 9 10 + zabs (mvI (swK H g q n i)) := by
      rw [folM]
      dsimp only
      rw [zput_eq, hP]
    have s74 : (folM L (i + 1)).1 74 = zup ((folM L i).1 74) i (mvI (swK H g q n i)) := by
      rw [folM]
      dsimp only
      rw [zput_ne (by decide), zput_ne (by decide), zput_at, hP]
    have hc : (folM L i).2 - costO (mvI (swK H g q n i)) = if ((i + 1 : Nat) : Int) < n then swC H g q n (n - 1 - ((i + 1 : Nat) : Int)).toNat (mvI (swK H g q n (i + 1))) else 0 := by
      rw [ih.1, if_pos hlt]
      by_cases hl : (i : Int) + 1 < n
      · rw [if_pos (by omega), (swK_next hq hn hT i hl).1, show (n - 1 - ((i + 1 : Nat) : Int)).toNat = (n - 2 - i).toNat by omega]
        omega
      · rw [if_neg (by omega), show (n - 1 - (i : Int)).toNat = 0 by omega]
        show costO (mvI (swK H g q n i)) - costO (mvI (swK H g q n i)) = 0
        omega
    refine ⟨by rw [s2]; exact hc, fun j a b => ?_, ?_, ?_, ?_, ?_⟩
    · rw [s74]
      by_cases e : j = i
      · rw [e, zup_eq, Int.toNat_natCast]
      · rw [zup_ne e]
        exact ih.2.1 j a (by omega)
    · rw [s9, s10, s2]
      have := ih.2.2.1
      unfold costO
      split <;> omega
    · rw [s9]
      have := ih.2.2.2.1
      split <;> omega
    · rw [s10]
      have := ih.2.2.2.2.1
      omega
    · rw [s10]
      have := ih.2.2.2.2.2
      omega
