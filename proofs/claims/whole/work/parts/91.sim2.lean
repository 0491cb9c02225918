theorem canS_eq {M : zM} (h : Sim M) (s : Int) : canS (M (10 + 1)) (M 1 1) s ↔ (s = 0 ∨ (-12 ≤ M 76 1 + s ∧ M 76 1 + s ≤ 12) ∧ M 76 6 ≤ M 76 7 - M 76 2 * zabs s) := by
  unfold canS
  rw [Sim_p h (by decide) (by decide), Sim_p h (show (0 : Int) ≤ 5 by decide) (by decide), Sim_p h (show (0 : Int) ≤ 0 by decide) (by decide), h.1.2.2.1.2.1]
  exact Iff.rfl

theorem s_may {M : zM} {s_ : Int} (h : Sim M) (hs_ : -2147483648 ≤ s_ ∧ s_ < 2147483648) : PrI yX6_may cX6_may 2 (some .int) 2 yX7_may cX7_may 2 (some .int) 2 [vI s_] M := by
  obtain ⟨⟨hs, h9, hW, hX, hU, hB⟩, hK, hP, hH, hF, hRd, hSw⟩ := id h
  have hO := Sim_ok h
  have w0 := hW.1
  have w1 := hW.2.1
  have w6 := hW.2.2.2.2.1
  obtain ⟨hs0, hs1, hsn, hsp⟩ := id hs
  have hn1 := hsn.1
  have h6 := c_X6_may hO hs_
  by_cases q : -24 ≤ s_ ∧ s_ ≤ 24
  · rw [if_neg (show ¬ ¬ (-24 ≤ s_ ∧ s_ ≤ 24) from fun x => x q), if_neg (show ¬ ¬ (-24 ≤ s_ ∧ s_ ≤ 24) from fun x => x q)] at h6
    have h7 := c_X7_may (M := M) hsp hs1 hs_
    rw [if_neg (show ¬ ¬ (-24 ≤ s_ ∧ s_ ≤ 24) from fun x => x q), if_neg (show ¬ ¬ (-24 ≤ s_ ∧ s_ ≤ 24) from fun x => x q)] at h7
    refine PrI_of h6 h7 ?_ (SimN_r h)
    by_cases c : canS (M (10 + 1)) (M 1 1) s_
    · rw [if_pos c, if_pos ((canS_eq h s_).mp c)]
    · rw [if_neg c, if_neg (fun x => c ((canS_eq h s_).mpr x))]
  · rw [if_pos q, if_pos q] at h6
    have h7 := c_X7_may (M := fnd6 M 0) (by rw [f6_76]; exact hsp) (by rw [f6_76]; exact hs1) hs_
    rw [if_pos q, if_pos q] at h7
    exact PrI_of h6 h7 rfl (SimN_f h)

theorem s_thing {M : zM} {a_ : Int} (h : Sim M) (ha : -2147483648 ≤ a_ ∧ a_ < 2147483648) : PrJ yX6_thing cX6_thing 2 (some .long) 1 yX7_thing cX7_thing 2 (some .long) 1 [vI a_] M := by
  obtain ⟨⟨hs, h9, hW, hX, hU, hB⟩, hK, hP, hH, hF, hRd, hSw⟩ := id h
  have hO := Sim_ok h
  have w0 := hW.1
  have w1 := hW.2.1
  have w6 := hW.2.2.2.2.1
  obtain ⟨hs0, hs1, hsn, hsp⟩ := id hs
  have hn1 := hsn.1
  have h6 := c_X6_thing hO ha
  by_cases q : 0 ≤ a_ ∧ a_ ≤ 4
  · rw [if_pos q] at h6
    have h7 := c_X7_thing (M := M) ha
    rw [if_pos q] at h7
    refine PrJ_of h6 h7 ?_ (SimN_r h)
    rw [w0, w1, Sim_p h (show (0 : Int) ≤ 5 by decide) (by decide), hW.2.2.1, hW.2.2.2.1]
    rfl
  · rw [if_neg q] at h6
    have h7 := c_X7_thing (M := fnd6 M 0) ha
    rw [if_neg q] at h7
    refine PrJ_of h6 h7 ?_ (SimN_f h)
    rw [if_neg (by omega), if_neg (by omega), if_neg (by omega), if_neg (by omega), if_neg (by omega), if_neg (by omega), if_neg (by omega), if_neg (by omega), if_neg (by omega), if_neg (by omega)]

theorem s_of {M : zM} {w_ a_ : Int} (h : Sim M) (hw : -2147483648 ≤ w_ ∧ w_ < 2147483648) (ha : -2147483648 ≤ a_ ∧ a_ < 2147483648) : PrI yX6_of cX6_of 4 (some .int) 2 yX7_of cX7_of 3 (some .int) 3 [vI w_, vI a_] M := by
  obtain ⟨⟨hs, h9, hW, hX, hU, hB⟩, hK, hP, hH, hF, hRd, hSw⟩ := id h
  have hO := Sim_ok h
  have w0 := hW.1
  have w1 := hW.2.1
  have w6 := hW.2.2.2.2.1
  obtain ⟨hs0, hs1, hsn, hsp⟩ := id hs
  have hn1 := hsn.1
  have h6 := c_X6_of hO hw ha
  by_cases q : (0 ≤ w_ ∧ w_ ≤ M 76 10 - 1) ∧ (0 ≤ a_ ∧ a_ ≤ 6)
  · rw [if_pos (show (0 ≤ w_ ∧ w_ ≤ M 1 6 - 1) ∧ (0 ≤ a_ ∧ a_ ≤ 6) by omega), if_pos (show (0 ≤ w_ ∧ w_ ≤ M 1 6 - 1) ∧ (0 ≤ a_ ∧ a_ ≤ 6) by omega)] at h6
    have h7 := c_X7_of (M := M) hsn hs0 hw ha
    rw [if_pos q, if_pos q] at h7
    refine PrI_of h6 h7 ?_ (SimN_r h)
    by_cases e : a_ < 6
    · rw [if_pos e, if_pos e, Sim_i h (by omega) (by omega) (by omega) (by omega)]
    · rw [if_neg e, if_neg e, Sim_i h (by omega) (by omega) (by decide) (by decide), w0]
  · rw [if_neg (show ¬ ((0 ≤ w_ ∧ w_ ≤ M 1 6 - 1) ∧ (0 ≤ a_ ∧ a_ ≤ 6)) by omega), if_neg (show ¬ ((0 ≤ w_ ∧ w_ ≤ M 1 6 - 1) ∧ (0 ≤ a_ ∧ a_ ≤ 6)) by omega)] at h6
    have h7 := c_X7_of (M := fnd6 M 0) (by rw [f6_76]; exact hsn) (by rw [f6_76]; exact hs0) hw ha
    rw [f6_76] at h7
    rw [if_neg q, if_neg q] at h7
    exact PrI_of h6 h7 rfl (SimN_f h)

theorem s_struck {M : zM} {w_ h_ : Int} (h : Sim M) (hw : -2147483648 ≤ w_ ∧ w_ < 2147483648) (hh : -2147483648 ≤ h_ ∧ h_ < 2147483648) : PrI yX6_struck cX6_struck 3 (some .int) 2 yX7_struck cX7_struck 3 (some .int) 3 [vI w_, vI h_] M := by
  obtain ⟨⟨hs, h9, hW, hX, hU, hB⟩, hK, hP, hH, hF, hRd, hSw⟩ := id h
  have hO := Sim_ok h
  have w0 := hW.1
  have w1 := hW.2.1
  have w6 := hW.2.2.2.2.1
  obtain ⟨hs0, hs1, hsn, hsp⟩ := id hs
  have hn1 := hsn.1
  have h6 := c_X6_struck hO hw hh
  by_cases q : (0 ≤ w_ ∧ w_ ≤ M 76 10 - 1) ∧ (-12 ≤ h_ ∧ h_ ≤ 12)
  · rw [if_pos (show (0 ≤ w_ ∧ w_ ≤ M 1 6 - 1) ∧ (-12 ≤ h_ ∧ h_ ≤ 12) by omega), if_pos (show (0 ≤ w_ ∧ w_ ≤ M 1 6 - 1) ∧ (-12 ≤ h_ ∧ h_ ≤ 12) by omega)] at h6
    have h7 := c_X7_struck (M := M) hsn hw hh
    rw [if_pos q, if_pos q] at h7
    refine PrI_of h6 h7 ?_ (SimN_r h)
    unfold strikeG
    rw [Sim_i h (by omega) (by omega) (show (0 : Int) ≤ 0 by decide) (by decide), Sim_i h (by omega) (by omega) (show (0 : Int) ≤ 2 by decide) (by decide), Sim_i h (by omega) (by omega) (show (0 : Int) ≤ 3 by decide) (by decide), Sim_i h (by omega) (by omega) (show (0 : Int) ≤ 4 by decide) (by decide)]
  · rw [if_neg (show ¬ ((0 ≤ w_ ∧ w_ ≤ M 1 6 - 1) ∧ (-12 ≤ h_ ∧ h_ ≤ 12)) by omega), if_neg (show ¬ ((0 ≤ w_ ∧ w_ ≤ M 1 6 - 1) ∧ (-12 ≤ h_ ∧ h_ ≤ 12)) by omega)] at h6
    have h7 := c_X7_struck (M := fnd6 M 0) (by rw [f6_76]; exact hsn) hw hh
    rw [f6_76] at h7
    rw [if_neg q, if_neg q] at h7
    exact PrI_of h6 h7 rfl (SimN_f h)

theorem s_danger {M : zM} {a_ h_ : Int} (h : Sim M) (ha : -2147483648 ≤ a_ ∧ a_ < 2147483648) (hh : -2147483648 ≤ h_ ∧ h_ < 2147483648) : PrI yX6_danger cX6_danger 3 (some .int) 2 yX7_danger cX7_danger 3 (some .int) 4 [vI a_, vI h_] M := by
  obtain ⟨⟨hs, h9, hW, hX, hU, hB⟩, hK, hP, hH, hF, hRd, hSw⟩ := id h
  have hO := Sim_ok h
  have w0 := hW.1
  have w1 := hW.2.1
  have w6 := hW.2.2.2.2.1
  obtain ⟨hs0, hs1, hsn, hsp⟩ := id hs
  have hn1 := hsn.1
  have h6 := c_X6_danger hO ha hh
  by_cases q : (0 ≤ a_ ∧ a_ ≤ 999) ∧ (-12 ≤ h_ ∧ h_ ≤ 12)
  · rw [if_pos (show (0 ≤ a_ ∧ a_ ≤ 999) ∧ (-12 ≤ h_ ∧ h_ ≤ 12) by omega), if_pos (show (0 ≤ a_ ∧ a_ ≤ 999) ∧ (-12 ≤ h_ ∧ h_ ≤ 12) by omega)] at h6
    have h7 := c_X7_danger (M := M) hsn ha hh
    rw [if_pos q, if_pos q] at h7
    refine PrI_of h6 h7 ?_ (SimN_r h)
    exact (Sim_dg h _ _).symm
  · rw [if_neg (show ¬ ((0 ≤ a_ ∧ a_ ≤ 999) ∧ (-12 ≤ h_ ∧ h_ ≤ 12)) by omega), if_neg (show ¬ ((0 ≤ a_ ∧ a_ ≤ 999) ∧ (-12 ≤ h_ ∧ h_ ≤ 12)) by omega)] at h6
    have h7 := c_X7_danger (M := fnd6 M 0) (by rw [f6_76]; exact hsn) ha hh
    rw [f6_76] at h7
    rw [if_neg q, if_neg q] at h7
    exact PrI_of h6 h7 rfl (SimN_f h)

theorem sumR_congr {p p2 : Int → Int} {n : Nat} {g g2 : Nat → Int → Int} {t h : Int} (e : ∀ day, worthS p n g day h = worthS p2 n g2 day h) : ∀ k : Nat, sumR p n g t h k = sumR p2 n g2 t h k
  | 0 => rfl
  | k + 1 => by rw [sumR, sumR, sumR_congr e k, e]
theorem Sim_ws {M : zM} (h : Sim M) (day ht : Int) : worthS (M (10 + 1)) (M 1 6).toNat (gW M 1) day ht = worthS (pS (M 76)) (M 76 10).toNat (gS (M 76)) day ht := by
  unfold worthS
  rw [Sim_dg h, WS_use h.1.2.2.1, Sim_p h (show (0 : Int) ≤ 3 by decide) (by decide)]

theorem s_rest {M : zM} {n_ : Int} (h : Sim M) (hn : -2147483648 ≤ n_ ∧ n_ < 2147483648) : PrJ yX6_rest cX6_rest 5 (some .long) 3 yX7_rest cX7_rest 5 (some .long) 5 [vI n_] M := by
  obtain ⟨⟨hs, h9, hW, hX, hU, hB⟩, hK, hP, hH, hF, hRd, hSw⟩ := id h
  have hO := Sim_ok h
  have w0 := hW.1
  have w1 := hW.2.1
  have w6 := hW.2.2.2.2.1
  obtain ⟨hs0, hs1, hsn, hsp⟩ := id hs
  have hn1 := hsn.1
  have h6 := c_X6_rest hO hn
  by_cases q : 1 ≤ n_ ∧ n_ ≤ 8
  · rw [if_pos (show 1 ≤ n_ ∧ n_ ≤ 8 by omega), if_pos (show 1 ≤ n_ ∧ n_ ≤ 8 by omega)] at h6
    have h7 := c_X7_rest (M := M) hsn hsp hs1 hs0 hn
    rw [if_pos q, if_pos q] at h7
    refine PrJ_of h6 h7 ?_ (SimN_r h)
    rw [w0, w1]
    have e := sumR_congr (p := M (10 + 1)) (p2 := pS (M 76)) (n := (M 1 6).toNat) (g := gW M 1) (g2 := gS (M 76)) (t := M 76 0) (h := M 76 1) (fun day => by have := Sim_ws h day (M 76 1); rw [w6] at this ⊢; exact this) n_.toNat
    rw [w6] at e ⊢
    exact e.symm
  · rw [if_neg (show ¬ (1 ≤ n_ ∧ n_ ≤ 8) by omega), if_neg (show ¬ (1 ≤ n_ ∧ n_ ≤ 8) by omega)] at h6
    have h7 := c_X7_rest (M := fnd6 M 0) (by rw [f6_76]; exact hsn) (by rw [f6_76]; exact hsp) (by rw [f6_76]; exact hs1) (by rw [f6_76]; exact hs0) hn
    rw [f6_76] at h7
    rw [if_neg q, if_neg q] at h7
    exact PrJ_of h6 h7 rfl (SimN_f h)

theorem s_as {M : zM} {w_ a_ : Int} (h : Sim M) (hw : -2147483648 ≤ w_ ∧ w_ < 2147483648) (ha : -2147483648 ≤ a_ ∧ a_ < 2147483648) : PrI yX6_as cX6_as 4 (some .int) 2 yX7_as cX7_as 5 (some .int) 2 [vI w_, vI a_] M := by
  obtain ⟨⟨hs, h9, hW, hX, hU, hB⟩, hK, hP, hH, hF, hRd, hSw⟩ := id h
  have hO := Sim_ok h
  have w0 := hW.1
  have w1 := hW.2.1
  have w6 := hW.2.2.2.2.1
  obtain ⟨hs0, hs1, hsn, hsp⟩ := id hs
  have hn1 := hsn.1
  have h6 := c_X6_as hO hw ha
  by_cases q : (0 ≤ w_ ∧ w_ ≤ M 76 10 - 1) ∧ (0 ≤ a_ ∧ a_ ≤ 5)
  · rw [if_pos (show (0 ≤ w_ ∧ w_ ≤ M 1 6 - 1) ∧ (0 ≤ a_ ∧ a_ ≤ 5) by omega), if_pos (show (0 ≤ w_ ∧ w_ ≤ M 1 6 - 1) ∧ (0 ≤ a_ ∧ a_ ≤ 5) by omega), Sim_i h (by omega) (by omega) (show (0 : Int) ≤ 0 by decide) (by decide), Sim_i h (by omega) (by omega) (show (0 : Int) ≤ 4 by decide) (by decide)] at h6
    by_cases c : a_ = 0 ∨ a_ = M 76 (12 + 6 * w_ + 0) ∨ (a_ = 2 ∧ M 76 (12 + 6 * w_ + 0) = 4) ∨ (a_ = 1 ∧ M 76 (12 + 6 * w_ + 0) = 5)
    · rw [if_pos c, if_pos c] at h6
      have h7 := c_X7_as (M := M) hsn hw ha
      rw [if_pos q, if_pos q, if_pos c, if_pos c] at h7
      exact PrI_of h6 h7 rfl (SimN_r h)
    · rw [if_neg c, if_neg c] at h6
      have h7 := c_X7_as (M := fnd6 M 2) (by rw [f6_76]; exact hsn) hw ha
      rw [f6_76] at h7
      rw [if_pos q, if_pos q, if_neg c, if_neg c] at h7
      exact PrI_of h6 h7 rfl (SimN_f h)
  · rw [if_neg (show ¬ ((0 ≤ w_ ∧ w_ ≤ M 1 6 - 1) ∧ (0 ≤ a_ ∧ a_ ≤ 5)) by omega), if_neg (show ¬ ((0 ≤ w_ ∧ w_ ≤ M 1 6 - 1) ∧ (0 ≤ a_ ∧ a_ ≤ 5)) by omega)] at h6
    have h7 := c_X7_as (M := fnd6 M 0) (by rw [f6_76]; exact hsn) hw ha
    rw [f6_76] at h7
    rw [if_neg q, if_neg q] at h7
    exact PrI_of h6 h7 rfl (SimN_f h)

theorem openB_congr {g g2 : Nat → Int → Int} {today : Int} : ∀ n : Nat, (∀ i, i < n → g i 1 = g2 i 1) → openB g today n = openB g2 today n
  | 0, _ => rfl
  | n + 1, h => by
    rw [openB, openB, openB_congr n (fun i hi => h i (by omega)), h n (by omega)]
theorem looksC_congr {g g2 : Nat → Int → Int} : ∀ n : Nat, (∀ i, i < n → g i 5 = g2 i 5) → looksC g n = looksC g2 n
  | 0, _ => rfl
  | n + 1, h => by
    rw [looksC, looksC, looksC_congr n (fun i hi => h i (by omega)), h n (by omega)]

theorem s_open {M : zM} (h : Sim M) : PrI yX6_open cX6_open 3 (some .int) 2 yX7_open cX7_open 3 (some .int) 3 [] M := by
  obtain ⟨⟨hs, h9, hW, hX, hU, hB⟩, hK, hP, hH, hF, hRd, hSw⟩ := id h
  have hO := Sim_ok h
  have w0 := hW.1
  have w1 := hW.2.1
  have w6 := hW.2.2.2.2.1
  obtain ⟨hs0, hs1, hsn, hsp⟩ := id hs
  have hn1 := hsn.1
  refine PrI_of (c_X6_open hO) (c_X7_open (M := M) hsn hs0) ?_ (SimN_r h)
  rw [w0, w6, openB_congr _ (fun i hi => Sim_g h i hi 1 (by decide) (by decide))]

theorem s_count {M : zM} {a_ : Int} (h : Sim M) (ha : -2147483648 ≤ a_ ∧ a_ < 2147483648) : PrI yX6_count cX6_count 2 (some .int) 2 yX7_count cX7_count 4 (some .int) 4 [vI a_] M := by
  obtain ⟨⟨hs, h9, hW, hX, hU, hB⟩, hK, hP, hH, hF, hRd, hSw⟩ := id h
  have hO := Sim_ok h
  have w0 := hW.1
  have w1 := hW.2.1
  have w6 := hW.2.2.2.2.1
  obtain ⟨hs0, hs1, hsn, hsp⟩ := id hs
  have hn1 := hsn.1
  obtain ⟨q8, q11, qi⟩ := Sim_8 h
  have h6 := c_X6_count hO (by omega) ha
  by_cases q : 0 ≤ a_ ∧ a_ ≤ 5
  · rw [if_pos q] at h6
    have h7 := c_X7_count (M := M) hsn hs0 ha (by omega)
    rw [if_pos q] at h7
    refine PrI_of h6 h7 ?_ (SimN_r h)
    rw [w0, w6, openC_congr _ (fun i hi => Sim_g h i hi 1 (by decide) (by decide)), nextC_congr _ (fun i hi => Sim_g h i hi 1 (by decide) (by decide)), looksC_congr _ (fun i hi => Sim_g h i hi 5 (by decide) (by decide)), hP.1]
    have e : (if 0 < M 76 11 then (1 : Int) else 0) = if 0 < M 1 8 then 1 else 0 := by
      by_cases c : 0 < M 1 8
      · rw [if_pos c, if_pos (qi.mp c)]
      · rw [if_neg c, if_neg (fun x => c (qi.mpr x))]
    rw [e]
  · rw [if_neg q] at h6
    have h7 := c_X7_count (M := fnd6 M 0) (by rw [f6_76]; exact hsn) (by rw [f6_76]; exact hs0) ha (by rw [f6_76]; omega)
    rw [if_neg q] at h7
    refine PrI_of h6 h7 ?_ (SimN_f h)
    rw [if_neg (show ¬ a_ = 0 by omega), if_neg (show ¬ a_ = 1 by omega), if_neg (show ¬ a_ = 2 by omega), if_neg (show ¬ a_ = 3 by omega), if_neg (show ¬ a_ = 4 by omega), if_neg (show ¬ a_ = 5 by omega), if_neg (show ¬ a_ = 0 by omega), if_neg (show ¬ a_ = 1 by omega), if_neg (show ¬ a_ = 2 by omega), if_neg (show ¬ a_ = 3 by omega), if_neg (show ¬ a_ = 4 by omega), if_neg (show ¬ a_ = 5 by omega)]

theorem fsum_st {f g : Int → Int} (e : ∀ k : Int, 0 ≤ k → k ≤ 6 → f k = g k) : fsum f 7 = stS g (-1) 7 := by
  simp [fsum, stS, e 0, e 1, e 2, e 3, e 4, e 5, e 6]
theorem st_one {g : Int → Int} {a : Int} (h : 0 ≤ a ∧ a ≤ 6) : stS g a 7 = g a := by
  rcases (show a = 0 ∨ a = 1 ∨ a = 2 ∨ a = 3 ∨ a = 4 ∨ a = 5 ∨ a = 6 by omega) with q | q | q | q | q | q | q <;> subst q <;> simp [stS]

theorem s_status {M : zM} {a_ : Int} (h : Sim M) (ha : -2147483648 ≤ a_ ∧ a_ < 2147483648) : PrI yX6_status cX6_status 4 (some .int) 1 yX7_status cX7_status 4 (some .int) 1 [vI a_] M := by
  obtain ⟨⟨hs, h9, hW, hX, hU, hB⟩, hK, hP, hH, hF, hRd, hSw⟩ := id h
  have hO := Sim_ok h
  have w0 := hW.1
  have w1 := hW.2.1
  have w6 := hW.2.2.2.2.1
  obtain ⟨hs0, hs1, hsn, hsp⟩ := id hs
  have hn1 := hsn.1
  have h6 := c_X6_status (M := M) ha
  by_cases q : -1 ≤ a_ ∧ a_ ≤ 6
  · rw [if_neg (fun x => x q), if_pos q] at h6
    have h7 := c_X7_status (M := M) ha
    rw [if_pos q, if_pos q] at h7
    refine PrI_of h6 h7 ?_ (SimN_r h)
    by_cases c : 0 ≤ a_
    · rw [if_pos c, st_one ⟨c, q.2⟩, hF a_ c q.2]
    · rw [if_neg c, show a_ = -1 by omega, fsum_st hF]
  · rw [if_pos q, if_neg q] at h6
    have h7 := c_X7_status (M := fnd6 M 0) ha
    rw [if_neg q, if_neg q] at h7
    exact PrI_of h6 h7 rfl (SimN_f h)
