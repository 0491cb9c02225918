theorem s_wipe {M : zM} (h : Sim M) : PrI yX6_wipe cX6_wipe 2 (some .int) 0 yX7_wipe cX7_wipe 2 (some .int) 0 [] M := by
  obtain ⟨⟨hs, h9, hW, hX, hU, hB⟩, hK, hP, hH, hF, hRd, hSw⟩ := id h
  have hO := Sim_ok h
  have w0 := hW.1
  have w1 := hW.2.1
  have w6 := hW.2.2.2.2.1
  obtain ⟨hs0, hs1, hsn, hsp⟩ := id hs
  have hn1 := hsn.1
  refine PrI_of (c_X6_wipe (M := M)) (c_X7_wipe (M := zput M 0 5 0)) ?_ (SimN_of ?_ (fun j hj => by rw [zput_ne (by decide), zput_ne (by decide)]) (by rw [zput_ne (by decide), zput_ne (by decide)]) (by rw [zput_ne2 (by decide), zput_ne (by decide)]))
  · rw [zput_ne (by decide)]
    exact hP.1.symm
  have o : ∀ k : Nat, k ≠ 0 → k ≠ 75 → zput (zput M 0 5 0) 75 5 0 k = M k := fun k a b => by rw [zput_ne b, zput_ne a]
  refine Sim_075 h (fun k a b _ _ _ => o k a b) (SimK_c hK (fun k hk => o k (by omega) (by omega)) (by rw [zput_ne (by decide), zput_ne2 (by decide)]) (by rw [zput_ne2 (by decide), zput_ne (by decide)])) ?_
  have e5 : zput (zput M 0 5 0) 75 5 0 75 5 = 0 := zput_eq
  have e0 : zput (zput M 0 5 0) 75 5 0 0 5 = 0 := by rw [zput_ne (by decide), zput_eq]
  unfold SimP
  rw [o 4 (by decide) (by decide), o 79 (by decide) (by decide), e5, e0]
  exact ⟨rfl, by omega, fun j a b => by omega, hP.2.2.2.1, hP.2.2.2.2⟩

theorem s_tear {M : zM} (h : Sim M) : PrI yX6_tear cX6_tear 2 (some .int) 0 yX7_tear cX7_tear 2 (some .int) 0 [] M := by
  obtain ⟨⟨hs, h9, hW, hX, hU, hB⟩, hK, hP, hH, hF, hRd, hSw⟩ := id h
  have hO := Sim_ok h
  have w0 := hW.1
  have w1 := hW.2.1
  have w6 := hW.2.2.2.2.1
  obtain ⟨hs0, hs1, hsn, hsp⟩ := id hs
  have hn1 := hsn.1
  have z6 : M 0 3 = 0 ∨ M 0 3 = 1 := by rw [hK.1]; exact hK.2.1
  have z7 : zput M 0 3 0 75 2 = 0 ∨ zput M 0 3 0 75 2 = 1 := by rw [zput_ne (by decide)]; exact hK.2.1
  have o : ∀ k : Nat, k ≠ 0 → k ≠ 75 → zput (zput M 0 3 0) 75 2 0 k = M k := fun k a b => by rw [zput_ne b, zput_ne a]
  have e5 : zput (zput M 0 3 0) 75 2 0 75 2 = 0 := zput_eq
  have e0 : zput (zput M 0 3 0) 75 2 0 0 3 = 0 := by rw [zput_ne (by decide), zput_eq]
  refine PrI_of (c_X6_tear z6) (c_X7_tear z7) (by rw [zput_ne (by decide)]; exact hK.1.symm) (fun c_ hc_ hl_ => ⟨?_, ?_⟩)
  · refine Sim_075 h (fun k a b _ _ _ => o k a b) ?_ (SimP_c hP (o 4 (by decide) (by decide)) (o 79 (by decide) (by decide)) (by rw [zput_ne (by decide), zput_ne2 (by decide)]) (by rw [zput_ne2 (by decide), zput_ne (by decide)]))
    unfold SimK
    rw [e5, e0]
    exact ⟨rfl, Or.inl rfl, TxB6_c hK.2.2.1 (o 18 (by decide) (by decide)), fun x => by omega⟩
  · refine ⟨?_, fun x => by rw [e5] at x; omega⟩
    rw [o 76 (by decide) (by decide)]
    exact LkR_c hl_.1 (fun j hj => rfl)

theorem s_think {M : zM} {w_ s_ r_ : Int} (h : Sim M) (hw : -2147483648 ≤ w_ ∧ w_ < 2147483648) (hs_ : -2147483648 ≤ s_ ∧ s_ < 2147483648) (hr : r_ = 0 ∨ r_ = 1) : PrI yX6_think cX6_think 6 (some .int) 2 yX7_think cX7_think 4 (some .int) 4 [vI w_, vI s_, vI r_] M := by
  obtain ⟨⟨hs, h9, hW, hX, hU, hB⟩, hK, hP, hH, hF, hRd, hSw⟩ := id h
  have hO := Sim_ok h
  have w0 := hW.1
  have w1 := hW.2.1
  have w6 := hW.2.2.2.2.1
  obtain ⟨hs0, hs1, hsn, hsp⟩ := id hs
  have hn1 := hsn.1
  have hb : (0 ≤ w_ ∧ w_ ≤ M 76 10 - 1) ∧ (50 ≤ s_ ∧ s_ ≤ 100) → ((behindS (M (12 * 1 + 8 + w_.toNat) 4) s_ r_ ≠ -1) ↔ 0 ≤ behindS (M 76 (12 + 6 * w_ + 4)) s_ r_) ∧ (behindS (M 76 (12 + 6 * w_ + 4)) s_ r_ ≤ 1000000) := fun q => by
    have z := (hsn.2 w_.toNat (by omega)).2.2.2.2.1
    simp only [gS, gI] at z
    rw [Int.toNat_of_nonneg (by omega)] at z
    rw [Sim_i h (by omega) (by omega) (show (0 : Int) ≤ 4 by decide) (by decide)]
    have := behindS_le (r := r_) z (show 0 ≤ s_ ∧ s_ ≤ 100 by omega)
    omega
  have h6 := c_X6_think hO hw hs_ hr
  by_cases q : (0 ≤ w_ ∧ w_ ≤ M 76 10 - 1) ∧ (50 ≤ s_ ∧ s_ ≤ 100)
  · rw [if_pos (show (0 ≤ w_ ∧ w_ ≤ M 1 6 - 1) ∧ (50 ≤ s_ ∧ s_ ≤ 100) by omega), if_pos (show (0 ≤ w_ ∧ w_ ≤ M 1 6 - 1) ∧ (50 ≤ s_ ∧ s_ ≤ 100) by omega)] at h6
    by_cases c : M 76 0 < M 76 (12 + 6 * w_ + 1) ∧ 0 ≤ behindS (M 76 (12 + 6 * w_ + 4)) s_ r_
    · have c6 : M 1 0 < M (12 * 1 + 8 + w_.toNat) 1 ∧ (behindS (M (12 * 1 + 8 + w_.toNat) 4) s_ r_) ≠ -1 := ⟨by rw [w0, Sim_i h (by omega) (by omega) (by decide) (by decide)]; exact c.1, (hb q).1.mpr c.2⟩
      rw [if_pos c6, if_pos c6] at h6
      have h7 := c_X7_think (M := M) hsn hs0 hw hs_ hr
      rw [if_pos q, if_pos q, if_pos c, if_pos c, if_neg (by decide)] at h7
      refine PrI_of h6 h7 ?_ (SimN_r h)
      rw [Sim_i h (by omega) (by omega) (by decide) (by decide)]
    · have c6 : ¬ (M 1 0 < M (12 * 1 + 8 + w_.toNat) 1 ∧ (behindS (M (12 * 1 + 8 + w_.toNat) 4) s_ r_) ≠ -1) := fun x => c ⟨by have y := x.1; rw [w0, Sim_i h (by omega) (by omega) (by decide) (by decide)] at y; exact y, (hb q).1.mp x.2⟩
      rw [if_neg c6, if_neg c6] at h6
      have h7 := c_X7_think (M := fnd6 M 4) (by rw [f6_76]; exact hsn) (by rw [f6_76]; exact hs0) hw hs_ hr
      rw [f6_76] at h7
      rw [if_pos q, if_pos q, if_neg c, if_neg c] at h7
      exact PrI_of h6 h7 rfl (SimN_f h)
  · rw [if_neg (show ¬ ((0 ≤ w_ ∧ w_ ≤ M 1 6 - 1) ∧ (50 ≤ s_ ∧ s_ ≤ 100)) by omega), if_neg (show ¬ ((0 ≤ w_ ∧ w_ ≤ M 1 6 - 1) ∧ (50 ≤ s_ ∧ s_ ≤ 100)) by omega)] at h6
    have h7 := c_X7_think (M := fnd6 M 0) (by rw [f6_76]; exact hsn) (by rw [f6_76]; exact hs0) hw hs_ hr
    rw [f6_76] at h7
    rw [if_neg q, if_neg q] at h7
    exact PrI_of h6 h7 rfl (SimN_f h)

theorem Sim_look {M : zM} {w_ v_ : Int} (h : Sim M) (h0 : 0 ≤ w_ ∧ w_ ≤ M 76 10 - 1) (hv : 0 ≤ v_ ∧ v_ ≤ 1000000) : SimN M (zput (zput (zput (zput M (12 * 1 + 8 + w_.toNat) 4 v_) (12 * 1 + 8 + w_.toNat) 5 (M (12 * 1 + 8 + w_.toNat) 5 + 1)) 76 (12 + 6 * w_ + 4) v_) 76 (12 + 6 * w_ + 5) (M 76 (12 + 6 * w_ + 5) + 1)) := by
  intro c hc hl
  obtain ⟨⟨hs, h9, hW, hX, hU, hB⟩, hK, hP, hH, hF, hRd, hSw⟩ := id h
  obtain ⟨hs0, hs1, hsn, hsp⟩ := id hs
  have hn1 := hsn.1
  generalize hKd : zput (zput (zput (zput M (12 * 1 + 8 + w_.toNat) 4 v_) (12 * 1 + 8 + w_.toNat) 5 (M (12 * 1 + 8 + w_.toNat) 5 + 1)) 76 (12 + 6 * w_ + 4) v_) 76 (12 + 6 * w_ + 5) (M 76 (12 + 6 * w_ + 5) + 1) = K
  have o : ∀ k : Nat, k ≠ 12 * 1 + 8 + w_.toNat → k ≠ 76 → K k = M k := fun k a b => by rw [← hKd, zput_ne b, zput_ne b, zput_ne a, zput_ne a]
  have e76 : K 76 = zup (zup (M 76) (12 + 6 * w_ + 4) v_) (12 + 6 * w_ + 5) (M 76 (12 + 6 * w_ + 5) + 1) := by
    rw [← hKd, zput_at, zput_at, zput_ne (by omega), zput_ne (by omega)]
  have eW : K (12 * 1 + 8 + w_.toNat) = zup (zup (M (12 * 1 + 8 + w_.toNat)) 4 v_) 5 (M (12 * 1 + 8 + w_.toNat) 5 + 1) := by
    rw [← hKd, zput_ne (by omega), zput_ne (by omega), zput_at, zput_at]
  have l76 : ∀ j : Int, j ≠ 12 + 6 * w_ + 4 → j ≠ 12 + 6 * w_ + 5 → K 76 j = M 76 j := fun j a b => by rw [e76, zup_ne b, zup_ne a]
  have l4 : K 76 (12 + 6 * w_ + 4) = v_ := by rw [e76, zup_ne (by omega), zup_eq]
  have l5 : K 76 (12 + 6 * w_ + 5) = M 76 (12 + 6 * w_ + 5) + 1 := by rw [e76, zup_eq]
  have hc5 := hl.1 w_.toNat (by omega)
  rw [Int.toNat_of_nonneg (by omega)] at hc5
  have hrow : ∀ i : Nat, (i : Int) < M 76 10 → (i : Int) ≠ w_ → ∀ f : Int, 0 ≤ f → f ≤ 5 → K 76 (12 + 6 * (i : Int) + f) = M 76 (12 + 6 * (i : Int) + f) := fun i hi hne f a b => l76 _ (by omega) (by omega)
  have hN : SN (K 76) := by
    refine ⟨by rw [l76 10 (by omega) (by omega)]; exact hn1, fun i hi => ?_⟩
    rw [l76 10 (by omega) (by omega)] at hi
    have z := hsn.2 i hi
    by_cases e : (i : Int) = w_
    · unfold wOK at z ⊢
      simp only [gS, gI] at z ⊢
      rw [e] at z ⊢
      rw [l4, l5, l76 _ (by omega) (by omega), l76 _ (by omega) (by omega), l76 _ (by omega) (by omega), l76 _ (by omega) (by omega)]
      have z5 := z.2.2.2.2.2
      exact ⟨z.1, z.2.1, z.2.2.1, z.2.2.2.1, hv, by omega⟩
    · exact wOK_congr z (fun f a b => hrow i hi e f a b)
  have hW2 : WS K 1 (K 76) := by
    have ep : ∀ j : Int, j ≤ 11 → K 76 j = M 76 j := fun j a => l76 j (by omega) (by omega)
    obtain ⟨a0, a1, a2, a3, a6, hp, hg⟩ := hW
    have o1 := o 1 (by omega) (by decide)
    refine ⟨by rw [o1, ep 0 (by decide)]; exact a0, by rw [o1, ep 1 (by decide)]; exact a1, by rw [o1, ep 8 (by decide)]; exact a2, by rw [o1, ep 9 (by decide)]; exact a3, by rw [o1, ep 10 (by decide)]; exact a6, fun j a b => by rw [o (10 + 1) (by omega) (by decide), ep _ (by omega)]; exact hp j a b, fun i hi f a b => ?_⟩
    rw [ep 10 (by decide)] at hi
    by_cases e : (i : Int) = w_
    · rw [show 12 * 1 + 8 + i = 12 * 1 + 8 + w_.toNat by omega, eW, e]
      have z := hg i hi f a b
      rw [show 12 * 1 + 8 + i = 12 * 1 + 8 + w_.toNat by omega, e] at z
      have z5 := hg i hi 5 (by decide) (by decide)
      rw [show 12 * 1 + 8 + i = 12 * 1 + 8 + w_.toNat by omega, e] at z5
      by_cases f5 : f = 5
      · rw [f5, zup_eq, l5, z5]
      · by_cases f4 : f = 4
        · rw [f4, zup_ne (by decide), zup_eq, l4]
        · rw [zup_ne f5, zup_ne f4, l76 _ (by omega) (by omega), z]
    · rw [o _ (by omega) (by omega), hrow i hi e f a b]
      exact hg i hi f a b
  refine ⟨Sim_T h (fun k hk => o k (by omega) (by omega)) ⟨⟨by rw [l76 0 (by omega) (by omega)]; exact hs0, by rw [l76 1 (by omega) (by omega)]; exact hs1, hN, pOK_congr hsp (fun f a b => l76 _ (by omega) (by omega))⟩, by rw [l76 0 (by omega) (by omega)]; exact h9, hW2, ?_, RuW_congr hU (l76 11 (by omega) (by omega)) (fun j hj => l76 j (by omega) (by omega)), TxB6_c hB (o 17 (by omega) (by decide))⟩, ?_, fun q => ?_⟩
  · have t := TxR_c (N := K) hX (by rw [o 1 (by omega) (by decide)]) (o 17 (by omega) (by decide))
    unfold TxR at t ⊢
    rw [stS2_congr (l76 11 (by omega) (by omega)) (fun j hj => l76 j (by omega) (by omega)), l76 11 (by omega) (by omega)]
    exact t
  · intro i hi
    rw [l76 10 (by omega) (by omega)] at hi
    have := hl.1 i hi
    by_cases e : (i : Int) = w_
    · rw [e, l5]; omega
    · rw [hrow i hi e 5 (by decide) (by decide)]; omega
  · rw [o 75 (by omega) (by decide)] at q
    rw [o 77 (by omega) (by decide)]
    exact LkR_c (hl.2 q) (fun j hj => rfl)

theorem s_look {M : zM} {w_ s_ r_ : Int} (h : Sim M) (hw : -2147483648 ≤ w_ ∧ w_ < 2147483648) (hs_ : -2147483648 ≤ s_ ∧ s_ < 2147483648) (hr : r_ = 0 ∨ r_ = 1) : PrI yX6_look cX6_look 6 (some .int) 2 yX7_look cX7_look 4 (some .int) 4 [vI w_, vI s_, vI r_] M := by
  obtain ⟨⟨hs, h9, hW, hX, hU, hB⟩, hK, hP, hH, hF, hRd, hSw⟩ := id h
  have hO := Sim_ok h
  have w0 := hW.1
  have w1 := hW.2.1
  have w6 := hW.2.2.2.2.1
  obtain ⟨hs0, hs1, hsn, hsp⟩ := id hs
  have hn1 := hsn.1
  have hb : (0 ≤ w_ ∧ w_ ≤ M 76 10 - 1) ∧ (50 ≤ s_ ∧ s_ ≤ 100) → ((behindS (M (12 * 1 + 8 + w_.toNat) 4) s_ r_ ≠ -1) ↔ 0 ≤ behindS (M 76 (12 + 6 * w_ + 4)) s_ r_) ∧ (behindS (M 76 (12 + 6 * w_ + 4)) s_ r_ ≤ 1000000) := fun q => by
    have z := (hsn.2 w_.toNat (by omega)).2.2.2.2.1
    simp only [gS, gI] at z
    rw [Int.toNat_of_nonneg (by omega)] at z
    rw [Sim_i h (by omega) (by omega) (show (0 : Int) ≤ 4 by decide) (by decide)]
    have := behindS_le (r := r_) z (show 0 ≤ s_ ∧ s_ ≤ 100 by omega)
    omega
  have h6 := c_X6_look hO hw hs_ hr
  by_cases q : (0 ≤ w_ ∧ w_ ≤ M 76 10 - 1) ∧ (50 ≤ s_ ∧ s_ ≤ 100)
  · rw [if_pos (show (0 ≤ w_ ∧ w_ ≤ M 1 6 - 1) ∧ (50 ≤ s_ ∧ s_ ≤ 100) by omega), if_pos (show (0 ≤ w_ ∧ w_ ≤ M 1 6 - 1) ∧ (50 ≤ s_ ∧ s_ ≤ 100) by omega)] at h6
    by_cases c : M 76 0 < M 76 (12 + 6 * w_ + 1) ∧ 0 ≤ behindS (M 76 (12 + 6 * w_ + 4)) s_ r_
    · have c6 : M 1 0 < M (12 * 1 + 8 + w_.toNat) 1 ∧ (behindS (M (12 * 1 + 8 + w_.toNat) 4) s_ r_) ≠ -1 := ⟨by rw [w0, Sim_i h (by omega) (by omega) (by decide) (by decide)]; exact c.1, (hb q).1.mpr c.2⟩
      rw [if_pos c6, if_pos c6] at h6
      have e4 := Sim_i h (w := w_) (by omega) (by omega) (show (0 : Int) ≤ 4 by decide) (by decide)
      have e76 : (zput (zput M (12 * 1 + 8 + w_.toNat) 4 (behindS (M (12 * 1 + 8 + w_.toNat) 4) s_ r_)) (12 * 1 + 8 + w_.toNat) 5 (M (12 * 1 + 8 + w_.toNat) 5 + 1)) 76 = M 76 := by rw [zput_ne (by omega), zput_ne (by omega)]
      have h7 := c_X7_look (M := (zput (zput M (12 * 1 + 8 + w_.toNat) 4 (behindS (M (12 * 1 + 8 + w_.toNat) 4) s_ r_)) (12 * 1 + 8 + w_.toNat) 5 (M (12 * 1 + 8 + w_.toNat) 5 + 1))) (by rw [e76]; exact hsn) (by rw [e76]; exact hs0) hw hs_ hr
      rw [e76, if_pos q, if_pos q, if_pos c, if_pos c, if_pos (by decide)] at h7
      refine PrI_of h6 h7 (by rw [e4]) ?_
      rw [e4]
      exact Sim_look h q.1 ⟨c.2, (hb q).2⟩
    · have c6 : ¬ (M 1 0 < M (12 * 1 + 8 + w_.toNat) 1 ∧ (behindS (M (12 * 1 + 8 + w_.toNat) 4) s_ r_) ≠ -1) := fun x => c ⟨by have y := x.1; rw [w0, Sim_i h (by omega) (by omega) (by decide) (by decide)] at y; exact y, (hb q).1.mp x.2⟩
      rw [if_neg c6, if_neg c6] at h6
      have h7 := c_X7_look (M := fnd6 M 4) (by rw [f6_76]; exact hsn) (by rw [f6_76]; exact hs0) hw hs_ hr
      rw [f6_76] at h7
      rw [if_pos q, if_pos q, if_neg c, if_neg c] at h7
      exact PrI_of h6 h7 rfl (SimN_f h)
  · rw [if_neg (show ¬ ((0 ≤ w_ ∧ w_ ≤ M 1 6 - 1) ∧ (50 ≤ s_ ∧ s_ ≤ 100)) by omega), if_neg (show ¬ ((0 ≤ w_ ∧ w_ ≤ M 1 6 - 1) ∧ (50 ≤ s_ ∧ s_ ≤ 100)) by omega)] at h6
    have h7 := c_X7_look (M := fnd6 M 0) (by rw [f6_76]; exact hsn) (by rw [f6_76]; exact hs0) hw hs_ hr
    rw [f6_76] at h7
    rw [if_neg q, if_neg q] at h7
    exact PrI_of h6 h7 rfl (SimN_f h)
