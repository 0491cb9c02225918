def out4 (N M : zM) : Prop := ∀ k : Nat, k ≠ 8 → k ≠ 67 → k ≠ 68 → k ≠ 69 → N k = M k
theorem out4_rf {M : zM} : out4 M M := fun _ _ _ _ _ => rfl
/-- world w of N is as world o of M -/
def SameW (N : zM) (w : Nat) (M : zM) (o : Nat) : Prop := N w 0 = M o 0 ∧ N w 1 = M o 1 ∧ N w 2 = M o 2 ∧ N w 3 = M o 3 ∧ N w 6 = M o 6 ∧ N w 8 = M o 8 ∧ (∀ j : Int, 0 ≤ j → j ≤ 5 → N (10 + w) j = M (10 + o) j) ∧ (∀ i : Nat, (i : Int) < M o 6 → ∀ f : Int, 0 ≤ f → f ≤ 5 → N (12 * w + 8 + i) f = M (12 * o + 8 + i) f) ∧ (∀ j : Int, 0 ≤ j → j < M o 8 → N (16 + w) j = M (16 + o) j)
theorem isW_le {w : Nat} (h : isW w) : 1 ≤ w ∧ w ≤ 3 := by rcases h with rfl | rfl | rfl <;> decide
theorem becM_same {M : zM} {w o : Nat} (hw : isW w) (ho : isW o) (hne : o ≠ w) (hn : 0 ≤ M o 6 ∧ M o 6 ≤ 12) : SameW (becM M w o) w M o := by
  have h1 := isW_le hw
  have h2 := isW_le ho
  have ew : ∀ j : Int, j ≠ 8 → becM M w o w j = becB M w o w j := fun j hj => by
    unfold becM
    rw [zrow_ne (by omega), zput_ne2 hj, wcopy_out (by omega)]
  refine ⟨?_, ?_, ?_, ?_, ?_, ?_, fun j h3 h4 => ?_, fun i hi f h3 h4 => ?_, fun j h3 h4 => ?_⟩
  · rw [ew _ (by decide)]; unfold becB; rw [zput_ne2 (by decide), zrow_ne (by omega), zput_ne2 (by decide), zput_ne2 (by decide), zput_ne2 (by decide), zput_eq]
  · rw [ew _ (by decide)]; unfold becB; rw [zput_ne2 (by decide), zrow_ne (by omega), zput_ne2 (by decide), zput_ne2 (by decide), zput_eq]
  · rw [ew _ (by decide)]; unfold becB; rw [zput_ne2 (by decide), zrow_ne (by omega), zput_ne2 (by decide), zput_eq]
  · rw [ew _ (by decide)]; unfold becB; rw [zput_ne2 (by decide), zrow_ne (by omega), zput_eq]
  · rw [ew _ (by decide)]; unfold becB; rw [zput_eq]
  · unfold becM; rw [zrow_ne (by omega), zput_eq]
  · unfold becM
    rw [zrow_ne (by omega), zput_ne (by omega), wcopy_out (by omega)]
    unfold becB
    rw [zput_ne (by omega), zrow_eq]
    unfold zcopy
    rw [if_pos (by omega), show 0 + (j - 0) = j by omega]
  · unfold becM
    rw [zrow_ne (by omega), zput_ne (by omega)]
    unfold wcopy
    rw [if_pos (by omega), show 12 * w + 8 + i - 12 * w + 12 * o = 12 * o + 8 + i by omega]
    unfold cp6
    rw [if_pos ⟨h3, h4⟩]
  · unfold becM
    rw [zrow_eq]
    unfold zcopy
    rw [if_pos (by omega), show 0 + (j - 0) = j by omega]
theorem becM_out {M : zM} {w o k : Nat} (hn : M o 6 ≤ 12) (h1 : k ≠ w) (h2 : k ≠ 10 + w) (h3 : k ≠ 16 + w) (h4 : ¬ (12 * w + 8 ≤ k ∧ k < 12 * w + 20)) : becM M w o k = M k := by
  unfold becM
  rw [zrow_ne h3, zput_ne h1, wcopy_out (by omega), becB_out h1 h2]
theorem wOK_congr {g g2 : Int → Int} (h : wOK g) (e : ∀ f : Int, 0 ≤ f → f ≤ 5 → g2 f = g f) : wOK g2 := by
  unfold wOK
  rw [e 0 (by decide) (by decide), e 1 (by decide) (by decide), e 2 (by decide) (by decide), e 3 (by decide) (by decide), e 4 (by decide) (by decide), e 5 (by decide) (by decide)]
  exact h
theorem pOK_congr {p p2 : Int → Int} (h : pOK p) (e : ∀ f : Int, 0 ≤ f → f ≤ 5 → p2 f = p f) : pOK p2 := by
  unfold pOK
  rw [e 0 (by decide) (by decide), e 1 (by decide) (by decide), e 2 (by decide) (by decide), e 3 (by decide) (by decide), e 4 (by decide) (by decide), e 5 (by decide) (by decide)]
  exact h
theorem SameW_ok {M N : zM} {w o : Nat} (h : SameW N w M o) (hO : WOK M o) : WOK N w := by
  obtain ⟨h0, h1, _, _, h6, _, hp, hg, _⟩ := h
  refine ⟨by rw [h0]; exact hO.1, by rw [h1]; exact hO.2.1, ⟨by rw [h6]; exact hO.2.2.1.1, fun i hi => ?_⟩, pOK_congr hO.2.2.2 hp⟩
  rw [h6] at hi
  exact wOK_congr (hO.2.2.1.2 i hi) (hg i hi)
theorem leftS_congr {p p2 : Int → Int} (e : ∀ f : Int, 0 ≤ f → f ≤ 5 → p2 f = p f) : leftS p2 = leftS p := by
  unfold leftS
  rw [e 0 (by decide) (by decide), e 4 (by decide) (by decide), e 5 (by decide) (by decide)]
/-- the world on trial, with another chance -/
def SameC (N : zM) (M : zM) (w : Nat) (c : Int) : Prop := N 3 0 = M 1 0 ∧ N 3 1 = M 1 1 ∧ N 3 6 = M 1 6 ∧ (∀ j : Int, 0 ≤ j → j ≤ 5 → N (10 + 3) j = M (10 + 1) j) ∧ (∀ i : Nat, (i : Int) < M 1 6 → ∀ f : Int, 0 ≤ f → f ≤ 5 → gW N 3 i f = chgG (gW M 1) w c i f)
theorem SameC_ok {M N : zM} {w : Nat} {c : Int} (h : SameC N M w c) (hO : WOK M 1) (hc : 0 ≤ c ∧ c ≤ 1000000) : WOK N 3 := by
  obtain ⟨h0, h1, h6, hp, hg⟩ := h
  refine ⟨by rw [h0]; exact hO.1, by rw [h1]; exact hO.2.1, ⟨by rw [h6]; exact hO.2.2.1.1, fun i hi => ?_⟩, pOK_congr hO.2.2.2 hp⟩
  rw [h6] at hi
  have h2 := hO.2.2.1.2 i hi
  have e := hg i hi
  unfold wOK at h2 ⊢
  show (0 ≤ gW N 3 i 0 ∧ gW N 3 i 0 ≤ 5) ∧ (0 ≤ gW N 3 i 1 ∧ gW N 3 i 1 ≤ 999) ∧ (-12 ≤ gW N 3 i 2 ∧ gW N 3 i 2 ≤ 12) ∧ (0 ≤ gW N 3 i 3 ∧ gW N 3 i 3 ≤ 9) ∧ (0 ≤ gW N 3 i 4 ∧ gW N 3 i 4 ≤ 1000000) ∧ (0 ≤ gW N 3 i 5 ∧ gW N 3 i 5 ≤ 1000000)
  rw [e 0 (by decide) (by decide), e 1 (by decide) (by decide), e 2 (by decide) (by decide), e 3 (by decide) (by decide), e 4 (by decide) (by decide), e 5 (by decide) (by decide)]
  unfold chgG
  rw [if_neg (show ¬ (i = w ∧ (0 : Int) = 4) by omega), if_neg (show ¬ (i = w ∧ (1 : Int) = 4) by omega), if_neg (show ¬ (i = w ∧ (2 : Int) = 4) by omega), if_neg (show ¬ (i = w ∧ (3 : Int) = 4) by omega), if_neg (show ¬ (i = w ∧ (5 : Int) = 4) by omega)]
  refine ⟨h2.1, h2.2.1, h2.2.2.1, h2.2.2.2.1, ?_, h2.2.2.2.2.2⟩
  split
  · exact hc
  · exact h2.2.2.2.2.1
theorem SameC_GW {M N : zM} {w : Nat} {c n : Int} (h : SameC N M w c) (hO : WOK M 1) : GW (N (10 + 3)) (N 3 6).toNat (gW N 3) (N 3 0 + n) = GW (M (10 + 1)) (M 1 6).toNat (chgG (gW M 1) w c) (M 1 0 + n) := by
  obtain ⟨h0, h1, h6, hp, hg⟩ := h
  have := hO.2.2.1.1
  rw [h0, h6]
  exact GW_congr hp (fun i hi => hg i (by omega))
theorem c_X6_best {M : zM} {n_ a_ : Int} (hO : WOK M 1) (hnr : -2147483648 ≤ n_ ∧ n_ < 2147483648) (ha : -2147483648 ≤ a_ ∧ a_ < 2147483648) : Call yX6_best cX6_best 3 (some .long) 6 [vR 0, vI n_, vI a_] (M) (RJ (if ((1 ≤ n_ ∧ n_ ≤ 8) ∧ (0 ≤ a_ ∧ a_ ≤ 3)) then bestA (GW (M (10 + 1)) (M 1 6).toNat (gW M 1) (M 1 0 + n_)) n_.toNat (M 1 1 + 12) (leftS (M (10 + 1))) (M (10 + 1) 0) a_ else -1000000001) (fun N => out4 N (if ((1 ≤ n_ ∧ n_ ≤ 8) ∧ (0 ≤ a_ ∧ a_ ≤ 3)) then M else fnd6 M 0))) := by
  refine Call.of2 (own := RX6) (lv0 := [some (vR 0), some (vI n_), some (vI a_)]) rfl (by decide) rfl (Nat.le_of_ble_eq_true rfl) ?_
  obtain ⟨⟨t0_, t1_⟩, ⟨h0_, h1_⟩, hn, hp⟩ := id hO
  obtain ⟨n0_, n1_⟩ := hn.1
  refine z_iload_1 dX6_best_0 ?_
  refine z_iconst dX6_best_1 ?_
  refine z_bipush dX6_best_2 (by decide) ?_
  refine z_cSI ys_X6_isOutside ml_X6_69 (c_X6_isOutside (by omega) (by omega) (by omega)) rfl rfl (by decide) (Nat.le_of_ble_eq_true rfl) dX6_best_4 ?_
  refine z_ifb_ne (tgt := 19) dX6_best_7 (by decide) (fun c7 => ?_) (fun c7 => ?_)
  · refine z_aload_0 dX6_best_19 ?_
    refine z_ldc (n := -1000000001) kc_X6_79 (by decide) dX6_best_20 ?_
    refine z_cVI yv_X6_finding ml_X6_80 (c_X6_finding (by omega)) zk_0 rfl rfl (by decide) (Nat.le_of_ble_eq_true rfl) dX6_best_22 ?_
    refine z_i2l (by decide) dX6_best_25 ?_
    exact z_lret dX6_best_26 (zRJ (by rw [if_neg (by omega)] <;> rfl) (by rw [if_neg (by omega)]; exact out4_rf))
  · refine z_iload_2 dX6_best_10 ?_
    refine z_iconst dX6_best_11 ?_
    refine z_iconst dX6_best_12 ?_
    refine z_cSI ys_X6_isOutside ml_X6_69 (c_X6_isOutside (by omega) (by omega) (by omega)) rfl rfl (by decide) (Nat.le_of_ble_eq_true rfl) dX6_best_13 ?_
    refine z_ifb_eq (tgt := 27) dX6_best_16 (by decide) (fun c16 => ?_) (fun c16 => ?_)
    · refine z_aload_0 dX6_best_27 ?_
      refine z_getR (r := 8) fl_X6_54 zk_0 rfl rfl dX6_best_28 ?_
      refine z_aload_0 dX6_best_31 ?_
      refine z_getR (r := 1) fl_X6_10 zk_0 rfl rfl dX6_best_32 ?_
      refine z_iload_1 dX6_best_35 ?_
      refine z_rVJ yv_X0_make ml_X6_204 (c_X0_make isW1 hO (by omega)) zk_8 rfl rfl (by decide) (Nat.le_of_ble_eq_true rfl) dX6_best_36 (fun N_ hN_ => ?_)
      have hB_ := leftS_le hp
      have hbs_ := bst_s (G := (GW (M (10 + 1)) (M 1 6).toNat (gW M 1) (M 1 0 + n_))) n_.toNat (M 1 1 + 12) (leftS (M (10 + 1))) (by omega) hB_.1
      have hbx_ : 0 ≤ M (10 + 1) 0 * (bst (GW (M (10 + 1)) (M 1 6).toNat (gW M 1) (M 1 0 + n_)) n_.toNat (M 1 1 + 12) (leftS (M (10 + 1)))).2 ∧ M (10 + 1) 0 * (bst (GW (M (10 + 1)) (M 1 6).toNat (gW M 1) (M 1 0 + n_)) n_.toNat (M 1 1 + 12) (leftS (M (10 + 1)))).2 ≤ 9 * 60 := mul_box (by have := hp.1; omega) hp.1.2 hbs_.1 (by omega)
      have hmc_ := pmc_le (G := (GW (M (10 + 1)) (M 1 6).toNat (gW M 1) (M 1 0 + n_))) (n := n_.toNat) (p := (M 1 1 + 12)) (l := (leftS (M (10 + 1)))) n_.toNat
      have hmv_ : -24 ≤ (pmv (GW (M (10 + 1)) (M 1 6).toNat (gW M 1) (M 1 0 + n_)) n_.toNat (M 1 1 + 12) (leftS (M (10 + 1))) 0) ∧ (pmv (GW (M (10 + 1)) (M 1 6).toNat (gW M 1) (M 1 0 + n_)) n_.toNat (M 1 1 + 12) (leftS (M (10 + 1))) 0) ≤ 24 := pmv_le (by omega) hB_.1
      refine z_pop2_2 rfl dX6_best_39 ?_
      refine z_iload_2 dX6_best_40 ?_
      rcases (show (a_ < 0 ∨ 2 < a_) ∨ a_ = 0 ∨ a_ = 1 ∨ a_ = 2 from by omega) with c41 | c41 | c41 | c41
      · refine z_tsOut (tgt := 104) (by omega) dX6_best_41 c41 (by decide) ?_
        refine z_aload_0 dX6_best_104 ?_
        refine z_getR (r := 8) fl_X6_54 zk_0 rfl rfl dX6_best_105 ?_
        refine z_getR (r := 69) fl_X6_217 zk_8 rfl rfl dX6_best_108 ?_
        refine z_iconst dX6_best_111 ?_
        refine z_ialdv (n := 8) (v := (pmv (GW (M (10 + 1)) (M 1 6).toNat (gW M 1) (M 1 0 + n_)) n_.toNat (M 1 1 + 12) (leftS (M (10 + 1))) 0)) zk_69 rfl (by omega) (hN_.2.2.2.2 0 (by decide) (by omega)) dX6_best_112 ?_
        refine z_i2l (by omega) dX6_best_113 ?_
        exact z_lret dX6_best_114 (zRJ (by rw [if_pos (by omega)]; unfold bestA; first | (rw [if_pos (by omega)]; done) | (rw [if_neg (by omega), if_pos (by omega)]; done) | (rw [if_neg (by omega), if_neg (by omega), if_pos (by omega)]; done) | (rw [if_neg (by omega), if_neg (by omega), if_neg (by omega)]; done)) (by rw [if_pos (by omega)]; exact hN_.1))
      · refine z_tsIn (off := 27) (tgt := 68) (by omega) dX6_best_41 (by omega) (by omega) (by rw [c41]; rfl) (by decide) ?_
        refine z_aload_0 dX6_best_68 ?_
        refine z_getR (r := 8) fl_X6_54 zk_0 rfl rfl dX6_best_69 ?_
        refine z_getJv (v := (bst (GW (M (10 + 1)) (M 1 6).toNat (gW M 1) (M 1 0 + n_)) n_.toNat (M 1 1 + 12) (leftS (M (10 + 1)))).1) fl_X6_208 zk_8 rfl (hN_.2.1) dX6_best_72 ?_
        exact z_lret dX6_best_75 (zRJ (by rw [if_pos (by omega)]; unfold bestA; first | (rw [if_pos (by omega)]; done) | (rw [if_neg (by omega), if_pos (by omega)]; done) | (rw [if_neg (by omega), if_neg (by omega), if_pos (by omega)]; done) | (rw [if_neg (by omega), if_neg (by omega), if_neg (by omega)]; done)) (by rw [if_pos (by omega)]; exact hN_.1))
      · refine z_tsIn (off := 35) (tgt := 76) (by omega) dX6_best_41 (by omega) (by omega) (by rw [c41]; rfl) (by decide) ?_
        refine z_aload_0 dX6_best_76 ?_
        refine z_getR (r := 8) fl_X6_54 zk_0 rfl rfl dX6_best_77 ?_
        refine z_getIv (v := (bst (GW (M (10 + 1)) (M 1 6).toNat (gW M 1) (M 1 0 + n_)) n_.toNat (M 1 1 + 12) (leftS (M (10 + 1)))).2) fl_X6_211 zk_8 rfl (hN_.2.2.1) dX6_best_80 ?_
        refine z_aload_0 dX6_best_83 ?_
        refine z_getR (r := 1) fl_X6_10 zk_0 rfl rfl dX6_best_84 ?_
        refine z_getR (r := (10 + 1)) fl_X6_84 (zw_k isW1) rfl (zw_pR isW1) dX6_best_87 ?_
        refine z_iconst dX6_best_90 ?_
        refine z_ialdv (n := 6) (v := (M (10 + 1) 0)) (zw_p isW1) (zw_pN isW1) (by omega) (by rw [hN_.1 _ (by decide) (by decide) (by decide) (by decide)]) dX6_best_91 ?_
        refine z_imul dX6_best_92 ?_
        refine z_topI (show _ = (M (10 + 1) 0 * (bst (GW (M (10 + 1)) (M 1 6).toNat (gW M 1) (M 1 0 + n_)) n_.toNat (M 1 1 + 12) (leftS (M (10 + 1)))).2) by rw [Int.mul_comm]) ?_
        refine z_i2l (by omega) dX6_best_93 ?_
        exact z_lret dX6_best_94 (zRJ (by rw [if_pos (by omega)]; unfold bestA; first | (rw [if_pos (by omega)]; done) | (rw [if_neg (by omega), if_pos (by omega)]; done) | (rw [if_neg (by omega), if_neg (by omega), if_pos (by omega)]; done) | (rw [if_neg (by omega), if_neg (by omega), if_neg (by omega)]; done)) (by rw [if_pos (by omega)]; exact hN_.1))
      · refine z_tsIn (off := 54) (tgt := 95) (by omega) dX6_best_41 (by omega) (by omega) (by rw [c41]; rfl) (by decide) ?_
        refine z_aload_0 dX6_best_95 ?_
        refine z_getR (r := 8) fl_X6_54 zk_0 rfl rfl dX6_best_96 ?_
        refine z_getIv (v := (pmc (GW (M (10 + 1)) (M 1 6).toNat (gW M 1) (M 1 0 + n_)) n_.toNat (M 1 1 + 12) (leftS (M (10 + 1))) n_.toNat)) fl_X6_214 zk_8 rfl (hN_.2.2.2.1) dX6_best_99 ?_
        refine z_i2l (by omega) dX6_best_102 ?_
        exact z_lret dX6_best_103 (zRJ (by rw [if_pos (by omega)]; unfold bestA; first | (rw [if_pos (by omega)]; done) | (rw [if_neg (by omega), if_pos (by omega)]; done) | (rw [if_neg (by omega), if_neg (by omega), if_pos (by omega)]; done) | (rw [if_neg (by omega), if_neg (by omega), if_neg (by omega)]; done)) (by rw [if_pos (by omega)]; exact hN_.1))
    · refine z_aload_0 dX6_best_19 ?_
      refine z_ldc (n := -1000000001) kc_X6_79 (by decide) dX6_best_20 ?_
      refine z_cVI yv_X6_finding ml_X6_80 (c_X6_finding (by omega)) zk_0 rfl rfl (by decide) (Nat.le_of_ble_eq_true rfl) dX6_best_22 ?_
      refine z_i2l (by decide) dX6_best_25 ?_
      exact z_lret dX6_best_26 (zRJ (by rw [if_neg (by omega)] <;> rfl) (by rw [if_neg (by omega)]; exact out4_rf))

theorem c_X6_turn {M : zM} {n_ i_ : Int} (hO : WOK M 1) (hnr : -2147483648 ≤ n_ ∧ n_ < 2147483648) (hi : -2147483648 ≤ i_ ∧ i_ < 2147483648) : Call yX6_turn cX6_turn 3 (some .int) 6 [vR 0, vI n_, vI i_] (M) (RI (if ((1 ≤ n_ ∧ n_ ≤ 8) ∧ (0 ≤ i_ ∧ i_ ≤ n_ - 1)) then (pmv (GW (M (10 + 1)) (M 1 6).toNat (gW M 1) (M 1 0 + n_)) n_.toNat (M 1 1 + 12) (leftS (M (10 + 1))) i_.toNat) else -1000000001) (fun N => out4 N (if ((1 ≤ n_ ∧ n_ ≤ 8) ∧ (0 ≤ i_ ∧ i_ ≤ n_ - 1)) then M else fnd6 M 0))) := by
  refine Call.of2 (own := RX6) (lv0 := [some (vR 0), some (vI n_), some (vI i_)]) rfl (by decide) rfl (Nat.le_of_ble_eq_true rfl) ?_
  obtain ⟨⟨t0_, t1_⟩, ⟨h0_, h1_⟩, hn, hp⟩ := id hO
  obtain ⟨n0_, n1_⟩ := hn.1
  refine z_iload_1 dX6_turn_0 ?_
  refine z_iconst dX6_turn_1 ?_
  refine z_bipush dX6_turn_2 (by decide) ?_
  refine z_cSI ys_X6_isOutside ml_X6_69 (c_X6_isOutside (by omega) (by omega) (by omega)) rfl rfl (by decide) (Nat.le_of_ble_eq_true rfl) dX6_turn_4 ?_
  refine z_ifb_ne (tgt := 21) dX6_turn_7 (by decide) (fun c7 => ?_) (fun c7 => ?_)
  · refine z_aload_0 dX6_turn_21 ?_
    refine z_ldc (n := -1000000001) kc_X6_79 (by decide) dX6_turn_22 ?_
    refine z_cVI yv_X6_finding ml_X6_80 (c_X6_finding (by omega)) zk_0 rfl rfl (by decide) (Nat.le_of_ble_eq_true rfl) dX6_turn_24 ?_
    exact z_iret dX6_turn_27 (zRI (by rw [if_neg (by omega)] <;> rfl) (by rw [if_neg (by omega)]; exact out4_rf))
  · refine z_iload_2 dX6_turn_10 ?_
    refine z_iconst dX6_turn_11 ?_
    refine z_iload_1 dX6_turn_12 ?_
    refine z_iconst dX6_turn_13 ?_
    refine z_isub dX6_turn_14 ?_
    refine z_cSI ys_X6_isOutside ml_X6_69 (c_X6_isOutside (by omega) (by omega) (by omega)) rfl rfl (by decide) (Nat.le_of_ble_eq_true rfl) dX6_turn_15 ?_
    refine z_ifb_eq (tgt := 28) dX6_turn_18 (by decide) (fun c18 => ?_) (fun c18 => ?_)
    · refine z_aload_0 dX6_turn_28 ?_
      refine z_getR (r := 8) fl_X6_54 zk_0 rfl rfl dX6_turn_29 ?_
      refine z_aload_0 dX6_turn_32 ?_
      refine z_getR (r := 1) fl_X6_10 zk_0 rfl rfl dX6_turn_33 ?_
      refine z_iload_1 dX6_turn_36 ?_
      refine z_rVJ yv_X0_make ml_X6_204 (c_X0_make isW1 hO (by omega)) zk_8 rfl rfl (by decide) (Nat.le_of_ble_eq_true rfl) dX6_turn_37 (fun N_ hN_ => ?_)
      skip
      refine z_pop2_2 rfl dX6_turn_40 ?_
      refine z_aload_0 dX6_turn_41 ?_
      refine z_getR (r := 8) fl_X6_54 zk_0 rfl rfl dX6_turn_42 ?_
      refine z_getR (r := 69) fl_X6_217 zk_8 rfl rfl dX6_turn_45 ?_
      refine z_iload_2 dX6_turn_48 ?_
      refine z_ialdv (n := 8) (v := (pmv (GW (M (10 + 1)) (M 1 6).toNat (gW M 1) (M 1 0 + n_)) n_.toNat (M 1 1 + 12) (leftS (M (10 + 1))) i_.toNat)) zk_69 rfl (by omega) (hN_.2.2.2.2 i_ (by omega) (by omega)) dX6_turn_49 ?_
      exact z_iret dX6_turn_50 (zRI (by rw [if_pos (by omega)]) (by rw [if_pos (by omega)]; exact hN_.1))
    · refine z_aload_0 dX6_turn_21 ?_
      refine z_ldc (n := -1000000001) kc_X6_79 (by decide) dX6_turn_22 ?_
      refine z_cVI yv_X6_finding ml_X6_80 (c_X6_finding (by omega)) zk_0 rfl rfl (by decide) (Nat.le_of_ble_eq_true rfl) dX6_turn_24 ?_
      exact z_iret dX6_turn_27 (zRI (by rw [if_neg (by omega)] <;> rfl) (by rw [if_neg (by omega)]; exact out4_rf))

theorem c_X6_know {M : zM} {w_ s_ n_ : Int} (hO : WOK M 1) (hby : ∀ j : Int, 0 ≤ j → j < 60 → -128 ≤ M (16 + 1) j ∧ M (16 + 1) j < 128) (ht8 : 0 ≤ M 1 8 ∧ M 1 8 ≤ 60) (hw : -2147483648 ≤ w_ ∧ w_ < 2147483648) (hs : -2147483648 ≤ s_ ∧ s_ < 2147483648) (hnr : -2147483648 ≤ n_ ∧ n_ < 2147483648) : Call yX6_know cX6_know 13 (some .long) 6 [vR 0, vI w_, vI s_, vI n_] (M) (RJ (if ¬ (((0 ≤ w_ ∧ w_ ≤ M 1 6 - 1) ∧ (50 ≤ s_ ∧ s_ ≤ 100)) ∧ (1 ≤ n_ ∧ n_ ≤ 8)) then -1000000001 else if ¬ (M 1 0 < M (12 * 1 + 8 + w_.toNat) 1) then -1000000005 else knowA (M (10 + 1)) (M 1 6).toNat (gW M 1) (M 1 0 + n_) n_.toNat (M 1 1 + 12) (leftS (M (10 + 1))) w_.toNat s_) (fun N => ∀ k_ : Nat, k_ ≠ 8 → k_ ≠ 67 → k_ ≠ 68 → k_ ≠ 69 → k_ ≠ 3 → k_ ≠ 13 → k_ ≠ 19 → ¬ (44 ≤ k_ ∧ k_ < 56) → N k_ = (if ¬ (((0 ≤ w_ ∧ w_ ≤ M 1 6 - 1) ∧ (50 ≤ s_ ∧ s_ ≤ 100)) ∧ (1 ≤ n_ ∧ n_ ≤ 8)) then fnd6 M 0 else if ¬ (M 1 0 < M (12 * 1 + 8 + w_.toNat) 1) then fnd6 M 4 else M) k_)) := by
  refine Call.of2 (own := RX6) (lv0 := [some (vR 0), some (vI w_), some (vI s_), some (vI n_), none, none, none, none, none, none, none, none, none]) rfl (by decide) rfl (Nat.le_of_ble_eq_true rfl) ?_
  obtain ⟨⟨t0_, t1_⟩, ⟨h0_, h1_⟩, hn, hp⟩ := id hO
  obtain ⟨n0_, n1_⟩ := hn.1
  refine z_aload_0 dX6_know_0 ?_
  refine z_iload_1 dX6_know_1 ?_
  refine z_cVI yv_X6_isNoWarning ml_X6_137 (c_X6_isNoWarning (by omega) hO.2.2.1.1) zk_0 rfl rfl (by decide) (Nat.le_of_ble_eq_true rfl) dX6_know_2 ?_
  refine z_ifb_ne (tgt := 25) dX6_know_5 (by decide) (fun c5 => ?_) (fun c5 => ?_)
  · refine z_aload_0 dX6_know_25 ?_
    refine z_ldc (n := -1000000001) kc_X6_79 (by decide) dX6_know_26 ?_
    refine z_cVI yv_X6_finding ml_X6_80 (c_X6_finding (by omega)) zk_0 rfl rfl (by decide) (Nat.le_of_ble_eq_true rfl) dX6_know_28 ?_
    refine z_i2l (by decide) dX6_know_31 ?_
    exact z_lret dX6_know_32 (zRJ (by rw [if_pos (by omega)] <;> rfl) (by rw [if_pos (by omega)]; intro k_ _ _ _ _ _ _ _ _; rfl))
  · refine z_iload_2 dX6_know_8 ?_
    refine z_cSI ys_X6_isNoSureness ml_X6_169 (c_X6_isNoSureness (by omega)) rfl rfl (by decide) (Nat.le_of_ble_eq_true rfl) dX6_know_9 ?_
    refine z_ifb_ne (tgt := 25) dX6_know_12 (by decide) (fun c12 => ?_) (fun c12 => ?_)
    · refine z_aload_0 dX6_know_25 ?_
      refine z_ldc (n := -1000000001) kc_X6_79 (by decide) dX6_know_26 ?_
      refine z_cVI yv_X6_finding ml_X6_80 (c_X6_finding (by omega)) zk_0 rfl rfl (by decide) (Nat.le_of_ble_eq_true rfl) dX6_know_28 ?_
      refine z_i2l (by decide) dX6_know_31 ?_
      exact z_lret dX6_know_32 (zRJ (by rw [if_pos (by omega)] <;> rfl) (by rw [if_pos (by omega)]; intro k_ _ _ _ _ _ _ _ _; rfl))
    · refine z_iload_3 dX6_know_15 ?_
      refine z_iconst dX6_know_16 ?_
      refine z_bipush dX6_know_17 (by decide) ?_
      refine z_cSI ys_X6_isOutside ml_X6_69 (c_X6_isOutside (by omega) (by omega) (by omega)) rfl rfl (by decide) (Nat.le_of_ble_eq_true rfl) dX6_know_19 ?_
      refine z_ifb_eq (tgt := 33) dX6_know_22 (by decide) (fun c22 => ?_) (fun c22 => ?_)
      · have hgi_ := hn.2 w_.toNat (by omega)
        obtain ⟨⟨k0_, k1_⟩, ⟨d0_, d1_⟩, ⟨a0_, a1_⟩, ⟨w0_, w1_⟩, ⟨c0_, c1_⟩, ⟨l0_, l1_⟩⟩ := id hgi_
        have hch_ : ∀ r_ : Int, 0 ≤ chI (M (12 * 1 + 8 + w_.toNat) 4) s_ r_ ∧ chI (M (12 * 1 + 8 + w_.toNat) 4) s_ r_ ≤ 1000000 := fun r_ => chI_le ⟨c0_, c1_⟩ (by omega)
        refine z_aload_0 dX6_know_33 ?_
        refine z_getR (r := 1) fl_X6_10 zk_0 rfl rfl dX6_know_34 ?_
        refine z_getR (r := (13 + 1)) fl_X6_129 (zw_k isW1) rfl (zw_aR isW1) dX6_know_37 ?_
        refine z_iload_1 dX6_know_40 ?_
        refine z_aald12 (n := 12) (r := (12 * 1 + 8 + w_.toNat)) (zw_a isW1) (zw_aN isW1) (by omega) (zw_wR isW1 (by omega)) dX6_know_41 ?_
        refine z_astore_4 rfl dX6_know_42 ?_
        refine z_aload_0 dX6_know_44 ?_
        refine z_getR (r := 1) fl_X6_10 zk_0 rfl rfl dX6_know_45 ?_
        refine z_aload_4 dX6_know_48 ?_
        refine z_cVI yv_X5_isOpen ml_X6_158 (c_X5_isOpen isW1 (zw_w isW1 (by omega)) (by omega) (by omega)) (zw_k isW1) rfl rfl (by decide) (Nat.le_of_ble_eq_true rfl) dX6_know_50 ?_
        refine z_ifb_ne (tgt := 64) dX6_know_53 (by decide) (fun c53 => ?_) (fun c53 => ?_)
        · refine z_aload_0 dX6_know_64 ?_
          refine z_getR (r := 8) fl_X6_54 zk_0 rfl rfl dX6_know_65 ?_
          refine z_aload_0 dX6_know_68 ?_
          refine z_getR (r := 1) fl_X6_10 zk_0 rfl rfl dX6_know_69 ?_
          refine z_iload_3 dX6_know_72 ?_
          refine z_rVJ yv_X0_make ml_X6_204 (c_X0_make isW1 hO (by omega)) zk_8 rfl rfl (by decide) (Nat.le_of_ble_eq_true rfl) dX6_know_73 (fun A_ hA_ => ?_)
          have ao_ : ∀ k_ : Nat, k_ ≠ 8 → k_ ≤ 66 → A_ k_ = M k_ := fun k_ h1_ h2_ => hA_.1 k_ h1_ (by omega) (by omega) (by omega)
          have a1_k : A_ 1 = M 1 := ao_ 1 (by decide) (by decide)
          have bs_ := becM_same (M := A_) isW3 isW1 (by decide) (by rw [a1_k]; exact hn.1)
          have bo_ : ∀ k_ : Nat, k_ ≠ 3 → k_ ≠ 13 → k_ ≠ 19 → ¬ (44 ≤ k_ ∧ k_ < 56) → becM A_ 3 1 k_ = A_ k_ := fun k_ h1_ h2_ h3_ h4_ => becM_out (by rw [a1_k]; exact hn.1.2) h1_ h2_ h3_ h4_
          have bw_ : becM A_ 3 1 (12 * 1 + 8 + w_.toNat) = M (12 * 1 + 8 + w_.toNat) := by rw [bo_ _ (by omega) (by omega) (by omega) (by omega), ao_ _ (by omega) (by omega)]
          have sc1_ : SameC (zput (becM A_ 3 1) (12 * 3 + 8 + w_.toNat) 4 (chI (M (12 * 1 + 8 + w_.toNat) 4) s_ 1)) M w_.toNat (chI (M (12 * 1 + 8 + w_.toNat) 4) s_ 1) := by
            obtain ⟨q0_, q1_, _, _, q6_, _, qp_, qg_, _⟩ := bs_
            refine ⟨by rw [zput_ne (by omega), q0_, a1_k], by rw [zput_ne (by omega), q1_, a1_k], by rw [zput_ne (by omega), q6_, a1_k], fun j_ h1_ h2_ => by rw [zput_ne (by omega), qp_ j_ h1_ h2_, ao_ _ (by omega) (by omega)], fun i_ hi_ f_ h1_ h2_ => ?_⟩
            show zput _ _ _ _ (12 * 3 + 8 + i_) f_ = chgG (gW M 1) w_.toNat _ i_ f_
            unfold chgG
            by_cases e_ : i_ = w_.toNat ∧ f_ = 4
            · rw [if_pos e_, e_.1, e_.2, zput_eq]
            · rw [if_neg e_]
              have hx_ := qg_ i_ (by rw [a1_k]; exact hi_) f_ h1_ h2_
              by_cases e2_ : i_ = w_.toNat
              · rw [zput_ne2 (by omega), hx_, ao_ _ (by omega) (by omega)]
              · rw [zput_ne (by omega), hx_, ao_ _ (by omega) (by omega)]
          have ok1_ := SameC_ok sc1_ hO (hch_ 1)
          refine z_lstore_5 rfl dX6_know_76 ?_
          refine z_aload_0 dX6_know_78 ?_
          refine z_getR (r := 3) fl_X6_19 zk_0 rfl rfl dX6_know_79 ?_
          refine z_aload_0 dX6_know_82 ?_
          refine z_getR (r := 1) fl_X6_10 zk_0 rfl rfl dX6_know_83 ?_
          refine z_cVN yv_X5_become ml_X6_228 (c_X5_become (M := A_) isW3 isW1 (by decide) (by rw [a1_k]; exact hn.1) (by rw [a1_k]; exact ht8) (by rw [ao_ _ (by decide) (by decide)]; exact hby)) (zw_k isW3) rfl rfl (by decide) (Nat.le_of_ble_eq_true rfl) dX6_know_86 ?_
          refine z_aload_0 dX6_know_89 ?_
          refine z_getR (r := 3) fl_X6_19 zk_0 rfl rfl dX6_know_90 ?_
          refine z_getR (r := (13 + 3)) fl_X6_129 (zw_k isW3) rfl (zw_aR isW3) dX6_know_93 ?_
          refine z_iload_1 dX6_know_96 ?_
          refine z_aald12 (n := 12) (r := (12 * 3 + 8 + w_.toNat)) (zw_a isW3) (zw_aN isW3) (by omega) (zw_wR isW3 (by omega)) dX6_know_97 ?_
          refine z_aload_4 dX6_know_98 ?_
          refine z_iload_2 dX6_know_100 ?_
          refine z_iconst dX6_know_101 ?_
          refine z_cVI yv_X4_chanceIfItCanBe ml_X6_232 (c_X4_chanceIfItCanBe (M := (becM A_ 3 1)) (zw_w isW1 (by omega)) (by rw [bw_]; exact hgi_) (by omega) (by decide)) (zw_w isW1 (by omega)) rfl rfl (by decide) (Nat.le_of_ble_eq_true rfl) dX6_know_102 ?_
          rw [bw_]
          refine z_topI (show _ = chI (M (12 * 1 + 8 + w_.toNat) 4) s_ 1 by unfold chI; have hb_ := behindS_le (c := (M (12 * 1 + 8 + w_.toNat) 4)) (s := s_) (r := 1) ⟨c0_, c1_⟩ (by omega); by_cases q_ : behindS (M (12 * 1 + 8 + w_.toNat) 4) s_ 1 = -1; (rw [if_pos q_, if_pos (by omega)]); (rw [if_neg q_, if_neg (by omega)])) ?_
          refine z_putI fl_X6_152 (zw_w isW3 (by omega)) rfl dX6_know_105 ?_
          refine z_aload_0 dX6_know_108 ?_
          refine z_getR (r := 8) fl_X6_54 zk_0 rfl rfl dX6_know_109 ?_
          refine z_aload_0 dX6_know_112 ?_
          refine z_getR (r := 3) fl_X6_19 zk_0 rfl rfl dX6_know_113 ?_
          refine z_iload_3 dX6_know_116 ?_
          refine z_rVJ yv_X0_make ml_X6_204 (c_X0_make (M := (zput (becM A_ 3 1) (12 * 3 + 8 + w_.toNat) 4 (chI (M (12 * 1 + 8 + w_.toNat) 4) s_ 1))) isW3 ok1_ (by omega)) zk_8 rfl rfl (by decide) (Nat.le_of_ble_eq_true rfl) dX6_know_117 (fun B_ hB2_ => ?_)
          rw [SameC_GW sc1_ hO, sc1_.2.1, leftS_congr sc1_.2.2.2.1]
          have bwB_ : B_ (12 * 1 + 8 + w_.toNat) = M (12 * 1 + 8 + w_.toNat) := by rw [hB2_.1 _ (by omega) (by omega) (by omega) (by omega), zput_ne (by omega)]; exact bw_
          obtain ⟨hBo_, _⟩ := hB2_
          have sc0_ : SameC (zput B_ (12 * 3 + 8 + w_.toNat) 4 (chI (M (12 * 1 + 8 + w_.toNat) 4) s_ 0)) M w_.toNat (chI (M (12 * 1 + 8 + w_.toNat) 4) s_ 0) := by
            obtain ⟨q0_, q1_, q6_, qp_, qg_⟩ := sc1_
            have bb_ : ∀ k_ : Nat, k_ ≠ 8 → k_ ≤ 66 → B_ k_ = (zput (becM A_ 3 1) (12 * 3 + 8 + w_.toNat) 4 (chI (M (12 * 1 + 8 + w_.toNat) 4) s_ 1)) k_ := fun k_ h1_ h2_ => hBo_ k_ h1_ (by omega) (by omega) (by omega)
            refine ⟨by rw [zput_ne (by omega), bb_ _ (by decide) (by decide), q0_], by rw [zput_ne (by omega), bb_ _ (by decide) (by decide), q1_], by rw [zput_ne (by omega), bb_ _ (by decide) (by decide), q6_], fun j_ h1_ h2_ => by rw [zput_ne (by omega), bb_ _ (by decide) (by decide), qp_ j_ h1_ h2_], fun i_ hi_ f_ h1_ h2_ => ?_⟩
            show zput _ _ _ _ (12 * 3 + 8 + i_) f_ = chgG (gW M 1) w_.toNat _ i_ f_
            have hx_ := qg_ i_ hi_ f_ h1_ h2_
            unfold chgG at hx_ ⊢
            by_cases e_ : i_ = w_.toNat ∧ f_ = 4
            · rw [if_pos e_, e_.1, e_.2, zput_eq]
            · rw [if_neg e_] at hx_ ⊢
              by_cases e2_ : i_ = w_.toNat
              · rw [zput_ne2 (by omega), bb_ _ (by omega) (by omega)]; exact hx_
              · rw [zput_ne (by omega), bb_ _ (by omega) (by omega)]; exact hx_
          have ok0_ := SameC_ok sc0_ hO (hch_ 0)
          refine z_lstore_7 rfl dX6_know_120 ?_
          refine z_aload_0 dX6_know_122 ?_
          refine z_getR (r := 3) fl_X6_19 zk_0 rfl rfl dX6_know_123 ?_
          refine z_getR (r := (13 + 3)) fl_X6_129 (zw_k isW3) rfl (zw_aR isW3) dX6_know_126 ?_
          refine z_iload_1 dX6_know_129 ?_
          refine z_aald12 (n := 12) (r := (12 * 3 + 8 + w_.toNat)) (zw_a isW3) (zw_aN isW3) (by omega) (zw_wR isW3 (by omega)) dX6_know_130 ?_
          refine z_aload_4 dX6_know_131 ?_
          refine z_iload_2 dX6_know_133 ?_
          refine z_iconst dX6_know_134 ?_
          refine z_cVI yv_X4_chanceIfItCanBe ml_X6_232 (c_X4_chanceIfItCanBe (M := B_) (zw_w isW1 (by omega)) (by rw [bwB_]; exact hgi_) (by omega) (by decide)) (zw_w isW1 (by omega)) rfl rfl (by decide) (Nat.le_of_ble_eq_true rfl) dX6_know_135 ?_
          rw [bwB_]
          refine z_topI (show _ = chI (M (12 * 1 + 8 + w_.toNat) 4) s_ 0 by unfold chI; have hb_ := behindS_le (c := (M (12 * 1 + 8 + w_.toNat) 4)) (s := s_) (r := 0) ⟨c0_, c1_⟩ (by omega); by_cases q_ : behindS (M (12 * 1 + 8 + w_.toNat) 4) s_ 0 = -1; (rw [if_pos q_, if_pos (by omega)]); (rw [if_neg q_, if_neg (by omega)])) ?_
          refine z_putI fl_X6_152 (zw_w isW3 (by omega)) rfl dX6_know_138 ?_
          refine z_aload_0 dX6_know_141 ?_
          refine z_getR (r := 8) fl_X6_54 zk_0 rfl rfl dX6_know_142 ?_
          refine z_aload_0 dX6_know_145 ?_
          refine z_getR (r := 3) fl_X6_19 zk_0 rfl rfl dX6_know_146 ?_
          refine z_iload_3 dX6_know_149 ?_
          refine z_rVJ yv_X0_make ml_X6_204 (c_X0_make (M := (zput B_ (12 * 3 + 8 + w_.toNat) 4 (chI (M (12 * 1 + 8 + w_.toNat) 4) s_ 0))) isW3 ok0_ (by omega)) zk_8 rfl rfl (by decide) (Nat.le_of_ble_eq_true rfl) dX6_know_150 (fun C_ hC_ => ?_)
          rw [SameC_GW sc0_ hO, sc0_.2.1, leftS_congr sc0_.2.2.2.1]
          refine z_lstore_9 rfl dX6_know_153 ?_
          have hcv_ : C_ (12 * 1 + 8 + w_.toNat) = M (12 * 1 + 8 + w_.toNat) := by rw [hC_.1 _ (by omega) (by omega) (by omega) (by omega), zput_ne (by omega)]; exact bwB_
          refine z_aload_4 dX6_know_155 ?_
          refine z_iload_2 dX6_know_157 ?_
          refine z_cVI yv_X4_chanceToTell ml_X6_235 (c_X4_chanceToTell (M := C_) (zw_w isW1 (by omega)) (by rw [hcv_]; exact hgi_) (by omega)) (zw_w isW1 (by omega)) rfl rfl (by decide) (Nat.le_of_ble_eq_true rfl) dX6_know_158 ?_
          rw [hcv_]
          have ht9_ := tellS_le (c := (M (12 * 1 + 8 + w_.toNat) 4)) (s := s_) ⟨c0_, c1_⟩ (by omega)
          refine z_i2l (by omega) dX6_know_161 ?_
          refine z_lstore_11 rfl dX6_know_162 ?_
          have hB_ := leftS_le hp
          have hwc_ : ∀ r_ : Int, ∀ i_, i_ < (M 1 6).toNat → wOK (chgG (gW M 1) w_.toNat (chI (M (12 * 1 + 8 + w_.toNat) 4) s_ r_) i_) := fun r_ i_ hi_ => by
            have h2_ := WN_all hn i_ hi_
            unfold wOK at h2_ ⊢
            unfold chgG
            rw [if_neg (show ¬ (i_ = w_.toNat ∧ (0 : Int) = 4) by omega), if_neg (show ¬ (i_ = w_.toNat ∧ (1 : Int) = 4) by omega), if_neg (show ¬ (i_ = w_.toNat ∧ (2 : Int) = 4) by omega), if_neg (show ¬ (i_ = w_.toNat ∧ (3 : Int) = 4) by omega), if_neg (show ¬ (i_ = w_.toNat ∧ (5 : Int) = 4) by omega)]
            refine ⟨h2_.1, h2_.2.1, h2_.2.2.1, h2_.2.2.2.1, ?_, h2_.2.2.2.2.2⟩
            split
            · exact hch_ r_
            · exact h2_.2.2.2.2.1
          have v1_ := bst_v (b := 100000000) (GW_le (t := M 1 0 + n_) hp (hwc_ 1)) n_.toNat (M 1 1 + 12) (leftS (M (10 + 1))) (by omega) hB_.1
          have v0_ := bst_v (b := 100000000) (GW_le (t := M 1 0 + n_) hp (hwc_ 0)) n_.toNat (M 1 1 + 12) (leftS (M (10 + 1))) (by omega) hB_.1
          have ht1_ := tellS_le (c := (M (12 * 1 + 8 + w_.toNat) 4)) (s := s_) ⟨c0_, c1_⟩ (by omega)
          have x1_ := mul_abs (a := (bst (GW (M (10 + 1)) (M 1 6).toNat (chgG (gW M 1) w_.toNat (chI (M (12 * 1 + 8 + w_.toNat) 4) s_ 1)) (M 1 0 + n_)) n_.toNat (M 1 1 + 12) (leftS (M (10 + 1)))).1) (b := tellS (M (12 * 1 + 8 + w_.toNat) 4) s_) (A := 800000000) (B := 1000000) (by omega) (by omega) ht1_.1 ht1_.2 (by decide)
          have x0_ := mul_abs (a := (bst (GW (M (10 + 1)) (M 1 6).toNat (chgG (gW M 1) w_.toNat (chI (M (12 * 1 + 8 + w_.toNat) 4) s_ 0)) (M 1 0 + n_)) n_.toNat (M 1 1 + 12) (leftS (M (10 + 1)))).1) (b := 1000000 - tellS (M (12 * 1 + 8 + w_.toNat) 4) s_) (A := 800000000) (B := 1000000) (by omega) (by omega) (by omega) (by omega) (by decide)
          refine z_lload_7 dX6_know_164 ?_
          refine z_lload_11 dX6_know_166 ?_
          refine z_lmul dX6_know_168 ?_
          refine z_lload_9 dX6_know_169 ?_
          refine z_ldc2 (n := 1000000) kl_X6_238 (by decide) dX6_know_171 ?_
          refine z_lload_11 dX6_know_174 ?_
          refine z_lsub dX6_know_176 ?_
          refine z_lmul dX6_know_177 ?_
          refine z_ladd dX6_know_178 ?_
          refine z_ldc2 (n := 1000000) kl_X6_238 (by decide) dX6_know_179 ?_
          refine z_ldiv (by omega) (by omega) (by omega) dX6_know_182 ?_
          refine z_lload_5 dX6_know_183 ?_
          refine z_lsub dX6_know_185 ?_
          exact z_lret dX6_know_186 (zRJ (by rw [if_neg (by omega), if_neg (by omega)]; rfl) (by rw [if_neg (by omega), if_neg (by omega)]; intro k_ h1_ h2_ h3_ h4_ h5_ h6_ h7_ h8_; rw [hC_.1 k_ h1_ h2_ h3_ h4_, zput_ne (by omega), hBo_ k_ h1_ h2_ h3_ h4_, zput_ne (by omega), bo_ k_ h5_ h6_ h7_ h8_, hA_.1 k_ h1_ h2_ h3_ h4_]))
        · refine z_aload_0 dX6_know_56 ?_
          refine z_ldc (n := -1000000005) kc_X6_94 (by decide) dX6_know_57 ?_
          refine z_cVI yv_X6_finding ml_X6_80 (c_X6_finding (by omega)) zk_0 rfl rfl (by decide) (Nat.le_of_ble_eq_true rfl) dX6_know_59 ?_
          refine z_i2l (by decide) dX6_know_62 ?_
          exact z_lret dX6_know_63 (zRJ (by rw [if_neg (by omega), if_pos (by omega)] <;> rfl) (by rw [if_neg (by omega), if_pos (by omega)]; intro k_ _ _ _ _ _ _ _ _; rfl))
      · refine z_aload_0 dX6_know_25 ?_
        refine z_ldc (n := -1000000001) kc_X6_79 (by decide) dX6_know_26 ?_
        refine z_cVI yv_X6_finding ml_X6_80 (c_X6_finding (by omega)) zk_0 rfl rfl (by decide) (Nat.le_of_ble_eq_true rfl) dX6_know_28 ?_
        refine z_i2l (by decide) dX6_know_31 ?_
        exact z_lret dX6_know_32 (zRJ (by rw [if_pos (by omega)] <;> rfl) (by rw [if_pos (by omega)]; intro k_ _ _ _ _ _ _ _ _; rfl))
