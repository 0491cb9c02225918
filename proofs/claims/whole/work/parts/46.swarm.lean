def costO (m : Int) : Int := if m = 0 then 0 else 1000 + zabs m
def zmin (x y : Int) : Int := if y < x then y else x
def zmax (x y : Int) : Int := if x < y then y else x
def behC (D U : Int → Int) (g q x : Int) : Int := zmin (if zmin (x - g) (2 * q) < 0 then 1000000 else D (zmin (x - g) (2 * q))) (if 2 * q < zmax (x + g) 0 then 1000000 else U (zmax (x + g) 0))
theorem zmin_c (x y : Int) : (y < x ∧ zmin x y = y) ∨ (¬ y < x ∧ zmin x y = x) := by unfold zmin; split <;> omega
theorem zmax_c (x y : Int) : (x < y ∧ zmax x y = y) ∨ (¬ x < y ∧ zmax x y = x) := by unfold zmax; split <;> omega
theorem c_X3_costOf {M : zM} {m_ : Int} (hm : -1000 ≤ m_ ∧ m_ ≤ 1000) : Call yX3_costOf cX3_costOf 1 (some .int) 1 [vI m_] (M) (PI (costO m_) M) := by
  refine Call.of2 (own := RX3) (lv0 := [some (vI m_)]) rfl (by decide) rfl (Nat.le_of_ble_eq_true rfl) ?_
  refine z_iload_0 dX3_costOf_0 ?_
  refine z_if_ne (tgt := 8) (by omega) dX3_costOf_1 (by decide) (fun c1 => ?_) (fun c1 => ?_)
  · refine z_sipush dX3_costOf_8 (by decide) ?_
    refine z_iload_0 dX3_costOf_11 ?_
    refine z_mabs ml_X3_81 (by decide) (Nat.le_of_ble_eq_true rfl) (by omega) dX3_costOf_12 ?_
    refine z_iadd dX3_costOf_15 ?_
    exact z_iret dX3_costOf_16 (zPI (by unfold costO; (repeat (first | rw [if_pos (by omega)] | rw [if_neg (by omega)])) <;> rfl) rfl)
  · refine z_iconst dX3_costOf_4 ?_
    refine z_goto (tgt := 16) dX3_costOf_5 (by decide) ?_
    exact z_iret dX3_costOf_16 (zPI (by unfold costO; (repeat (first | rw [if_pos (by omega)] | rw [if_neg (by omega)])) <;> rfl) rfl)

theorem c_X3_canBe {M : zM} (hc : -2147483648 ≤ M 9 8 ∧ M 9 8 < 2147483648) : Call yX3_canBe cX3_canBe 1 (some .boolean) 0 [vR 9] (M) (PI (zb (M 9 8 < 1000000)) M) := by
  refine Call.of2 (own := RX3) (lv0 := [some (vR 9)]) rfl (by decide) rfl (Nat.le_of_ble_eq_true rfl) ?_
  refine z_aload_0 dX3_canBe_0 ?_
  refine z_getI fl_X3_37 zk_9 rfl dX3_canBe_1 ?_
  refine z_ldc (n := 1000000) kc_X3_73 (by decide) dX3_canBe_4 ?_
  refine z_icmp_ge (tgt := 13) (by omega) (by decide) dX3_canBe_6 (by decide) (fun c6 => ?_) (fun c6 => ?_)
  · refine z_iconst dX3_canBe_13 ?_
    exact z_zret (by first | exact Or.inl rfl | exact Or.inr rfl | exact zb_01 | omega) dX3_canBe_14 (zPI (by first | exact (zb_t (by omega)).symm | exact (zb_f (by omega)).symm) rfl)
  · refine z_iconst dX3_canBe_9 ?_
    refine z_goto (tgt := 14) dX3_canBe_10 (by decide) ?_
    exact z_zret (by first | exact Or.inl rfl | exact Or.inr rfl | exact zb_01 | omega) dX3_canBe_14 (zPI (by first | exact (zb_t (by omega)).symm | exact (zb_f (by omega)).symm) rfl)

theorem c_X3_costBehind {M : zM} {i_ m_ : Int} (hi : 0 ≤ i_ ∧ i_ < 11) (hm : -20 ≤ m_ ∧ m_ ≤ 20) (hg : 0 ≤ M 9 6 ∧ M 9 6 ≤ 50) (hq : 0 ≤ M 9 7 ∧ M 9 7 ≤ 20) (hH : ∀ j : Int, 0 ≤ j → j < 12 → -1000000 ≤ M 70 j ∧ M 70 j ≤ 1000000) (hD : ∀ j : Int, 0 ≤ j → j < 41 → 0 ≤ M 72 j ∧ M 72 j ≤ 1000000) (hU : ∀ j : Int, 0 ≤ j → j < 41 → 0 ≤ M 73 j ∧ M 73 j ≤ 1000000) : Call yX3_costBehind cX3_costBehind 8 (some .int) 1 [vR 9, vI i_, vI m_] (M) (PI (behC (M 72) (M 73) (M 9 6) (M 9 7) (M 70 i_ + m_ - M 70 (i_ + 1) + M 9 7)) M) := by
  refine Call.of2 (own := RX3) (lv0 := [some (vR 9), some (vI i_), some (vI m_), none, none, none, none, none]) rfl (by decide) rfl (Nat.le_of_ble_eq_true rfl) ?_
  have a1_ := hH i_ (by omega) (by omega)
  have a2_ := hH (i_ + 1) (by omega) (by omega)
  have lo_ := zmin_c ((M 70 i_ + m_ - M 70 (i_ + 1) + M 9 7) - M 9 6) (2 * M 9 7)
  have hi_ := zmax_c ((M 70 i_ + m_ - M 70 (i_ + 1) + M 9 7) + M 9 6) 0
  refine z_aload_0 dX3_costBehind_0 ?_
  refine z_getR (r := 70) fl_X3_9 zk_9 rfl rfl dX3_costBehind_1 ?_
  refine z_iload_1 dX3_costBehind_4 ?_
  refine z_iald (n := 12) zk_70 rfl (by omega) dX3_costBehind_5 ?_
  refine z_iload_2 dX3_costBehind_6 ?_
  refine z_iadd dX3_costBehind_7 ?_
  refine z_aload_0 dX3_costBehind_8 ?_
  refine z_getR (r := 70) fl_X3_9 zk_9 rfl rfl dX3_costBehind_9 ?_
  refine z_iload_1 dX3_costBehind_12 ?_
  refine z_iconst dX3_costBehind_13 ?_
  refine z_iadd dX3_costBehind_14 ?_
  refine z_iald (n := 12) zk_70 rfl (by omega) dX3_costBehind_15 ?_
  refine z_isub dX3_costBehind_16 ?_
  refine z_aload_0 dX3_costBehind_17 ?_
  refine z_getI fl_X3_34 zk_9 rfl dX3_costBehind_18 ?_
  refine z_iadd dX3_costBehind_21 ?_
  refine z_istore_3 rfl dX3_costBehind_22 ?_
  refine z_iload_3 dX3_costBehind_23 ?_
  refine z_aload_0 dX3_costBehind_24 ?_
  refine z_getI fl_X3_31 zk_9 rfl dX3_costBehind_25 ?_
  refine z_isub dX3_costBehind_28 ?_
  refine z_iconst dX3_costBehind_29 ?_
  refine z_aload_0 dX3_costBehind_30 ?_
  refine z_getI fl_X3_34 zk_9 rfl dX3_costBehind_31 ?_
  refine z_imul dX3_costBehind_34 ?_
  refine z_mmin ml_X3_49 (by decide) (Nat.le_of_ble_eq_true rfl) (by omega) (by omega) dX3_costBehind_35 ?_
  refine z_istore_4 rfl dX3_costBehind_38 ?_
  refine z_iload_3 dX3_costBehind_40 ?_
  refine z_aload_0 dX3_costBehind_41 ?_
  refine z_getI fl_X3_31 zk_9 rfl dX3_costBehind_42 ?_
  refine z_iadd dX3_costBehind_45 ?_
  refine z_iconst dX3_costBehind_46 ?_
  refine z_mmax ml_X3_84 (by decide) (Nat.le_of_ble_eq_true rfl) (by omega) (by decide) dX3_costBehind_47 ?_
  refine z_istore_5 rfl dX3_costBehind_50 ?_
  have J69 : ∀ (x_ : Int), (x_ = if (zmin ((M 70 i_ + m_ - M 70 (i_ + 1) + M 9 7) - M 9 6) (2 * M 9 7)) < 0 then 1000000 else M 72 (zmin ((M 70 i_ + m_ - M 70 (i_ + 1) + M 9 7) - M 9 6) (2 * M 9 7))) → (0 ≤ x_ ∧ x_ ≤ 1000000) → Z RX3 cX3_costBehind 8 (some .int) 1 (zQ (PI (behC (M 72) (M 73) (M 9 6) (M 9 7) (M 70 i_ + m_ - M 70 (i_ + 1) + M 9 7)) M)) 69 [some (vR 9), some (vI i_), some (vI m_), some (vI ((((M 70 i_) + m_) - (M 70 (i_ + 1))) + (M 9 7))), some (vI (if (2 * (M 9 7)) < (((((M 70 i_) + m_) - (M 70 (i_ + 1))) + (M 9 7)) - (M 9 6)) then (2 * (M 9 7)) else (((((M 70 i_) + m_) - (M 70 (i_ + 1))) + (M 9 7)) - (M 9 6)))), some (vI (if (((((M 70 i_) + m_) - (M 70 (i_ + 1))) + (M 9 7)) + (M 9 6)) < 0 then 0 else (((((M 70 i_) + m_) - (M 70 (i_ + 1))) + (M 9 7)) + (M 9 6)))), none, none] [vI x_] (M) := by
    intro x_ hx_ hx2_
    refine z_istore_6 rfl dX3_costBehind_69 ?_
    have J94 : ∀ (y_ : Int), (y_ = if 2 * M 9 7 < (zmax ((M 70 i_ + m_ - M 70 (i_ + 1) + M 9 7) + M 9 6) 0) then 1000000 else M 73 (zmax ((M 70 i_ + m_ - M 70 (i_ + 1) + M 9 7) + M 9 6) 0)) → (0 ≤ y_ ∧ y_ ≤ 1000000) → Z RX3 cX3_costBehind 8 (some .int) 1 (zQ (PI (behC (M 72) (M 73) (M 9 6) (M 9 7) (M 70 i_ + m_ - M 70 (i_ + 1) + M 9 7)) M)) 94 [some (vR 9), some (vI i_), some (vI m_), some (vI ((((M 70 i_) + m_) - (M 70 (i_ + 1))) + (M 9 7))), some (vI (if (2 * (M 9 7)) < (((((M 70 i_) + m_) - (M 70 (i_ + 1))) + (M 9 7)) - (M 9 6)) then (2 * (M 9 7)) else (((((M 70 i_) + m_) - (M 70 (i_ + 1))) + (M 9 7)) - (M 9 6)))), some (vI (if (((((M 70 i_) + m_) - (M 70 (i_ + 1))) + (M 9 7)) + (M 9 6)) < 0 then 0 else (((((M 70 i_) + m_) - (M 70 (i_ + 1))) + (M 9 7)) + (M 9 6)))), some (vI x_), none] [vI y_] (M) := by
      intro y_ hy_ hy2_
      refine z_istore_7 rfl dX3_costBehind_94 ?_
      refine z_iload_6 dX3_costBehind_96 ?_
      refine z_iload_7 dX3_costBehind_98 ?_
      refine z_mmin ml_X3_49 (by decide) (Nat.le_of_ble_eq_true rfl) (by omega) (by omega) dX3_costBehind_100 ?_
      exact z_iret dX3_costBehind_103 (zPI (by unfold behC; rw [← hx_, ← hy_]; rfl) rfl)
    refine z_iload_5 dX3_costBehind_71 ?_
    refine z_iconst dX3_costBehind_73 ?_
    refine z_aload_0 dX3_costBehind_74 ?_
    refine z_getI fl_X3_34 zk_9 rfl dX3_costBehind_75 ?_
    refine z_imul dX3_costBehind_78 ?_
    refine z_icmp_le (tgt := 87) (by omega) (by omega) dX3_costBehind_79 (by decide) (fun c79 => ?_) (fun c79 => ?_)
    · refine z_aload_0 dX3_costBehind_87 ?_
      refine z_getR (r := 73) fl_X3_21 zk_9 rfl rfl dX3_costBehind_88 ?_
      refine z_iload_5 dX3_costBehind_91 ?_
      refine z_iald (n := 41) zk_73 rfl (by omega) dX3_costBehind_93 ?_
      exact J94 _ (by first | exact (if_pos (by omega)).symm | exact (if_neg (by omega)).symm | decide | exact hU _ (by omega) (by omega)) (by first | exact (if_pos (by omega)).symm | exact (if_neg (by omega)).symm | decide | exact hU _ (by omega) (by omega))
    · refine z_ldc (n := 1000000) kc_X3_73 (by decide) dX3_costBehind_82 ?_
      refine z_goto (tgt := 94) dX3_costBehind_84 (by decide) ?_
      exact J94 _ (by first | exact (if_pos (by omega)).symm | exact (if_neg (by omega)).symm | decide | exact hU _ (by omega) (by omega)) (by first | exact (if_pos (by omega)).symm | exact (if_neg (by omega)).symm | decide | exact hU _ (by omega) (by omega))
  refine z_iload_4 dX3_costBehind_52 ?_
  refine z_if_ge (tgt := 62) (by omega) dX3_costBehind_54 (by decide) (fun c54 => ?_) (fun c54 => ?_)
  · refine z_aload_0 dX3_costBehind_62 ?_
    refine z_getR (r := 72) fl_X3_18 zk_9 rfl rfl dX3_costBehind_63 ?_
    refine z_iload_4 dX3_costBehind_66 ?_
    refine z_iald (n := 41) zk_72 rfl (by omega) dX3_costBehind_68 ?_
    exact J69 _ (by first | exact (if_pos (by assumption)).symm | exact (if_pos (Int.not_le.mp (by assumption))).symm | exact (if_pos (by omega)).symm | exact (if_neg (by assumption)).symm | exact (if_neg (Int.not_lt.mpr (by assumption))).symm | exact (if_neg (by omega)).symm | decide | exact hD (zmin ((M 70 i_ + m_ - M 70 (i_ + 1) + M 9 7) - M 9 6) (2 * M 9 7)) (by first | assumption | exact Int.not_lt.mp (by assumption) | omega) (by omega) | exact hD _ (by omega) (by omega)) (by first | exact (if_pos (by assumption)).symm | exact (if_pos (Int.not_le.mp (by assumption))).symm | exact (if_pos (by omega)).symm | exact (if_neg (by assumption)).symm | exact (if_neg (Int.not_lt.mpr (by assumption))).symm | exact (if_neg (by omega)).symm | decide | exact hD (zmin ((M 70 i_ + m_ - M 70 (i_ + 1) + M 9 7) - M 9 6) (2 * M 9 7)) (by first | assumption | exact Int.not_lt.mp (by assumption) | omega) (by omega) | exact hD _ (by omega) (by omega))
  · refine z_ldc (n := 1000000) kc_X3_73 (by decide) dX3_costBehind_57 ?_
    refine z_goto (tgt := 69) dX3_costBehind_59 (by decide) ?_
    exact J69 _ (by first | exact (if_pos (by assumption)).symm | exact (if_pos (Int.not_le.mp (by assumption))).symm | exact (if_pos (by omega)).symm | exact (if_neg (by assumption)).symm | exact (if_neg (Int.not_lt.mpr (by assumption))).symm | exact (if_neg (by omega)).symm | decide | exact hD (zmin ((M 70 i_ + m_ - M 70 (i_ + 1) + M 9 7) - M 9 6) (2 * M 9 7)) (by first | assumption | exact Int.not_lt.mp (by assumption) | omega) (by omega) | exact hD _ (by omega) (by omega)) (by first | exact (if_pos (by assumption)).symm | exact (if_pos (Int.not_le.mp (by assumption))).symm | exact (if_pos (by omega)).symm | exact (if_neg (by assumption)).symm | exact (if_neg (Int.not_lt.mpr (by assumption))).symm | exact (if_neg (by omega)).symm | decide | exact hD (zmin ((M 70 i_ + m_ - M 70 (i_ + 1) + M 9 7) - M 9 6) (2 * M 9 7)) (by first | assumption | exact Int.not_lt.mp (by assumption) | omega) (by omega) | exact hD _ (by omega) (by omega))
