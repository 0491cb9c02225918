theorem c_X6_isOutside {M : zM} {v_ a_ b_ : Int} (hv : -2147483648 ≤ v_ ∧ v_ < 2147483648) (ha : -2147483648 ≤ a_ ∧ a_ < 2147483648) (hb : -2147483648 ≤ b_ ∧ b_ < 2147483648) : Call yX6_isOutside cX6_isOutside 3 (some .boolean) 0 [vI v_, vI a_, vI b_] (M) (PI (zb (v_ < a_ ∨ b_ < v_)) M) := by
  refine Call.of2 (own := RX6) (lv0 := [some (vI v_), some (vI a_), some (vI b_)]) rfl (by decide) rfl (Nat.le_of_ble_eq_true rfl) ?_
  refine z_iload_0 dX6_isOutside_0 ?_
  refine z_iload_1 dX6_isOutside_1 ?_
  refine z_icmp_lt (tgt := 10) (by omega) (by omega) dX6_isOutside_2 (by decide) (fun c2 => ?_) (fun c2 => ?_)
  · refine z_iconst dX6_isOutside_10 ?_
    refine z_goto (tgt := 15) dX6_isOutside_11 (by decide) ?_
    exact z_zret (by first | exact Or.inl rfl | exact Or.inr rfl | exact zb_01 | omega) dX6_isOutside_15 (zPI (by first | exact (zb_t (by omega)).symm | exact (zb_f (by omega)).symm) rfl)
  · refine z_iload_0 dX6_isOutside_5 ?_
    refine z_iload_2 dX6_isOutside_6 ?_
    refine z_icmp_le (tgt := 14) (by omega) (by omega) dX6_isOutside_7 (by decide) (fun c7 => ?_) (fun c7 => ?_)
    · refine z_iconst dX6_isOutside_14 ?_
      exact z_zret (by first | exact Or.inl rfl | exact Or.inr rfl | exact zb_01 | omega) dX6_isOutside_15 (zPI (by first | exact (zb_t (by omega)).symm | exact (zb_f (by omega)).symm) rfl)
    · refine z_iconst dX6_isOutside_10 ?_
      refine z_goto (tgt := 15) dX6_isOutside_11 (by decide) ?_
      exact z_zret (by first | exact Or.inl rfl | exact Or.inr rfl | exact zb_01 | omega) dX6_isOutside_15 (zPI (by first | exact (zb_t (by omega)).symm | exact (zb_f (by omega)).symm) rfl)

theorem c_X6_isNoMove {M : zM} {v_ : Int} (hv : -2147483648 ≤ v_ ∧ v_ < 2147483648) : Call yX6_isNoMove cX6_isNoMove 1 (some .boolean) 1 [vI v_] (M) (PI (zb (v_ < (-24) ∨ 24 < v_)) M) := by
  refine Call.of2 (own := RX6) (lv0 := [some (vI v_)]) rfl (by decide) rfl (Nat.le_of_ble_eq_true rfl) ?_
  refine z_iload_0 dX6_isNoMove_0 ?_
  refine z_bipush dX6_isNoMove_1 (by decide) ?_
  refine z_bipush dX6_isNoMove_3 (by decide) ?_
  refine z_cSI ys_X6_isOutside ml_X6_69 (c_X6_isOutside (by omega) (by omega) (by omega)) rfl rfl (by decide) (Nat.le_of_ble_eq_true rfl) dX6_isNoMove_5 ?_
  exact z_zret (by first | exact Or.inl rfl | exact Or.inr rfl | exact zb_01 | omega) dX6_isNoMove_8 (zPI rfl rfl)

theorem c_X6_isNoHeight {M : zM} {v_ : Int} (hv : -2147483648 ≤ v_ ∧ v_ < 2147483648) : Call yX6_isNoHeight cX6_isNoHeight 1 (some .boolean) 1 [vI v_] (M) (PI (zb (v_ < (-12) ∨ 12 < v_)) M) := by
  refine Call.of2 (own := RX6) (lv0 := [some (vI v_)]) rfl (by decide) rfl (Nat.le_of_ble_eq_true rfl) ?_
  refine z_iload_0 dX6_isNoHeight_0 ?_
  refine z_bipush dX6_isNoHeight_1 (by decide) ?_
  refine z_bipush dX6_isNoHeight_3 (by decide) ?_
  refine z_cSI ys_X6_isOutside ml_X6_69 (c_X6_isOutside (by omega) (by omega) (by omega)) rfl rfl (by decide) (Nat.le_of_ble_eq_true rfl) dX6_isNoHeight_5 ?_
  exact z_zret (by first | exact Or.inl rfl | exact Or.inr rfl | exact zb_01 | omega) dX6_isNoHeight_8 (zPI rfl rfl)

theorem c_X6_isNoSureness {M : zM} {v_ : Int} (hv : -2147483648 ≤ v_ ∧ v_ < 2147483648) : Call yX6_isNoSureness cX6_isNoSureness 1 (some .boolean) 1 [vI v_] (M) (PI (zb (v_ < 50 ∨ 100 < v_)) M) := by
  refine Call.of2 (own := RX6) (lv0 := [some (vI v_)]) rfl (by decide) rfl (Nat.le_of_ble_eq_true rfl) ?_
  refine z_iload_0 dX6_isNoSureness_0 ?_
  refine z_bipush dX6_isNoSureness_1 (by decide) ?_
  refine z_bipush dX6_isNoSureness_3 (by decide) ?_
  refine z_cSI ys_X6_isOutside ml_X6_69 (c_X6_isOutside (by omega) (by omega) (by omega)) rfl rfl (by decide) (Nat.le_of_ble_eq_true rfl) dX6_isNoSureness_5 ?_
  exact z_zret (by first | exact Or.inl rfl | exact Or.inr rfl | exact zb_01 | omega) dX6_isNoSureness_8 (zPI rfl rfl)

theorem c_X6_isNoSheet {M : zM} {v_ : Int} (hv : -2147483648 ≤ v_ ∧ v_ < 2147483648) : Call yX6_isNoSheet cX6_isNoSheet 1 (some .boolean) 1 [vI v_] (M) (PI (zb (v_ < 0 ∨ 3 < v_)) M) := by
  refine Call.of2 (own := RX6) (lv0 := [some (vI v_)]) rfl (by decide) rfl (Nat.le_of_ble_eq_true rfl) ?_
  refine z_iload_0 dX6_isNoSheet_0 ?_
  refine z_iconst dX6_isNoSheet_1 ?_
  refine z_iconst dX6_isNoSheet_2 ?_
  refine z_cSI ys_X6_isOutside ml_X6_69 (c_X6_isOutside (by omega) (by omega) (by omega)) rfl rfl (by decide) (Nat.le_of_ble_eq_true rfl) dX6_isNoSheet_3 ?_
  exact z_zret (by first | exact Or.inl rfl | exact Or.inr rfl | exact zb_01 | omega) dX6_isNoSheet_6 (zPI rfl rfl)

theorem c_X6_finding {M : zM} {v_ : Int} (hv : -1000000007 ≤ v_ ∧ v_ ≤ -1000000001) : Call yX6_finding cX6_finding 3 (some .int) 0 [vR 0, vI v_] (M) (PI v_ (fnd6 M (-1000000001 - v_))) := by
  refine Call.of2 (own := RX6) (lv0 := [some (vR 0), some (vI v_), none]) rfl (by decide) rfl (Nat.le_of_ble_eq_true rfl) ?_
  refine z_ldc (n := -1000000001) kc_X6_79 (by decide) dX6_finding_0 ?_
  refine z_iload_1 dX6_finding_2 ?_
  refine z_isub dX6_finding_3 ?_
  refine z_istore_2 rfl dX6_finding_4 ?_
  refine z_iload_2 dX6_finding_5 ?_
  refine z_if_lt (tgt := 25) (by omega) dX6_finding_6 (by decide) (fun c6 => ?_) (fun c6 => ?_)
  · refine z_iload_1 dX6_finding_25 ?_
    exact z_iret dX6_finding_26 (zPI rfl (by first | rfl | (exfalso; omega)))
  · refine z_iload_2 dX6_finding_9 ?_
    refine z_bipush dX6_finding_10 (by decide) ?_
    refine z_icmp_ge (tgt := 25) (by omega) (by decide) dX6_finding_12 (by decide) (fun c12 => ?_) (fun c12 => ?_)
    · refine z_iload_1 dX6_finding_25 ?_
      exact z_iret dX6_finding_26 (zPI rfl (by first | rfl | (exfalso; omega)))
    · refine z_aload_0 dX6_finding_15 ?_
      refine z_getR (r := 6) fl_X6_40 zk_0 rfl rfl dX6_finding_16 ?_
      refine z_iload_2 dX6_finding_19 ?_
      refine z_dup2_11 rfl rfl dX6_finding_20 ?_
      refine z_iald (n := 7) zk_6 rfl (by omega) dX6_finding_21 ?_
      refine z_iconst dX6_finding_22 ?_
      refine z_iadd dX6_finding_23 ?_
      refine z_iast (n := 7) zk_6 rfl (by omega) dX6_finding_24 ?_
      refine z_iload_1 dX6_finding_25 ?_
      exact z_iret dX6_finding_26 (zPI rfl (by first | rfl | (exfalso; omega)))

theorem c_X6_isNoWarning {M : zM} {v_ : Int} (hv : -2147483648 ≤ v_ ∧ v_ < 2147483648) (hn : 0 ≤ M 1 6 ∧ M 1 6 ≤ 12) : Call yX6_isNoWarning cX6_isNoWarning 2 (some .boolean) 1 [vR 0, vI v_] (M) (PI (zb (v_ < 0 ∨ M 1 6 - 1 < v_)) M) := by
  refine Call.of2 (own := RX6) (lv0 := [some (vR 0), some (vI v_)]) rfl (by decide) rfl (Nat.le_of_ble_eq_true rfl) ?_
  refine z_iload_1 dX6_isNoWarning_0 ?_
  refine z_iconst dX6_isNoWarning_1 ?_
  refine z_aload_0 dX6_isNoWarning_2 ?_
  refine z_getR (r := 1) fl_X6_10 zk_0 rfl rfl dX6_isNoWarning_3 ?_
  refine z_getI fl_X6_125 (zw_k isW1) rfl dX6_isNoWarning_6 ?_
  refine z_iconst dX6_isNoWarning_9 ?_
  refine z_isub dX6_isNoWarning_10 ?_
  refine z_cSI ys_X6_isOutside ml_X6_69 (c_X6_isOutside (by omega) (by omega) (by omega)) rfl rfl (by decide) (Nat.le_of_ble_eq_true rfl) dX6_isNoWarning_11 ?_
  exact z_zret (by first | exact Or.inl rfl | exact Or.inr rfl | exact zb_01 | omega) dX6_isNoWarning_14 (zPI rfl rfl)

theorem c_X6_plan {M : zM} {a_ v_ : Int} (ha : -2147483648 ≤ a_ ∧ a_ < 2147483648) (hv : -2147483648 ≤ v_ ∧ v_ < 2147483648) : Call yX6_plan cX6_plan 4 (some .int) 1 [vR 0, vI a_, vI v_] (M) (PI (if (0 ≤ a_ ∧ a_ ≤ 5) ∧ (zsf 0 a_ ≤ v_ ∧ v_ ≤ zsf 1 a_) then M (10 + 1) a_ else -1000000001) (if (0 ≤ a_ ∧ a_ ≤ 5) ∧ (zsf 0 a_ ≤ v_ ∧ v_ ≤ zsf 1 a_) then zput M (10 + 1) a_ v_ else fnd6 M 0)) := by
  refine Call.of2 (own := RX6) (lv0 := [some (vR 0), some (vI a_), some (vI v_), none]) rfl (by decide) rfl (Nat.le_of_ble_eq_true rfl) ?_
  refine z_iload_1 dX6_plan_0 ?_
  refine z_iconst dX6_plan_1 ?_
  refine z_iconst dX6_plan_2 ?_
  refine z_cSI ys_X6_isOutside ml_X6_69 (c_X6_isOutside (by omega) (by omega) (by omega)) rfl rfl (by decide) (Nat.le_of_ble_eq_true rfl) dX6_plan_3 ?_
  refine z_ifb_ne (tgt := 26) dX6_plan_6 (by decide) (fun c6 => ?_) (fun c6 => ?_)
  · refine z_aload_0 dX6_plan_26 ?_
    refine z_ldc (n := -1000000001) kc_X6_79 (by decide) dX6_plan_27 ?_
    refine z_cVI yv_X6_finding ml_X6_80 (c_X6_finding (by omega)) zk_0 rfl rfl (by decide) (Nat.le_of_ble_eq_true rfl) dX6_plan_29 ?_
    exact z_iret dX6_plan_32 (zPI (by (repeat (first | rw [if_pos (by omega)] | rw [if_neg (by omega)])) <;> rfl) (by (repeat (first | rw [if_pos (by omega)] | rw [if_neg (by omega)])) <;> rfl))
  · have hz_ : (0 ≤ zsf 0 a_ ∧ zsf 0 a_ ≤ 1) ∧ 0 ≤ zsf 1 a_ ∧ zsf 1 a_ ≤ 99999999 := by rcases (show a_ = 0 ∨ a_ = 1 ∨ a_ = 2 ∨ a_ = 3 ∨ a_ = 4 ∨ a_ = 5 by omega) with h_ | h_ | h_ | h_ | h_ | h_ <;> rw [h_] <;> decide
    refine z_iload_2 dX6_plan_9 ?_
    refine z_gets0 fs_X6_73 dX6_plan_10 ?_
    refine z_iload_1 dX6_plan_13 ?_
    refine z_sald0 (by omega) dX6_plan_14 ?_
    refine z_gets1 fs_X6_76 dX6_plan_15 ?_
    refine z_iload_1 dX6_plan_18 ?_
    refine z_sald1 (by omega) dX6_plan_19 ?_
    refine z_cSI ys_X6_isOutside ml_X6_69 (c_X6_isOutside (by omega) (by omega) (by omega)) rfl rfl (by decide) (Nat.le_of_ble_eq_true rfl) dX6_plan_20 ?_
    refine z_ifb_eq (tgt := 33) dX6_plan_23 (by decide) (fun c23 => ?_) (fun c23 => ?_)
    · refine z_aload_0 dX6_plan_33 ?_
      refine z_getR (r := 1) fl_X6_10 zk_0 rfl rfl dX6_plan_34 ?_
      refine z_getR (r := (10 + 1)) fl_X6_84 (zw_k isW1) rfl (zw_pR isW1) dX6_plan_37 ?_
      refine z_iload_1 dX6_plan_40 ?_
      refine z_iald (n := 6) (zw_p isW1) (zw_pN isW1) (by omega) dX6_plan_41 ?_
      refine z_istore_3 rfl dX6_plan_42 ?_
      refine z_aload_0 dX6_plan_43 ?_
      refine z_getR (r := 1) fl_X6_10 zk_0 rfl rfl dX6_plan_44 ?_
      refine z_getR (r := (10 + 1)) fl_X6_84 (zw_k isW1) rfl (zw_pR isW1) dX6_plan_47 ?_
      refine z_iload_1 dX6_plan_50 ?_
      refine z_iload_2 dX6_plan_51 ?_
      refine z_iast (n := 6) (zw_p isW1) (zw_pN isW1) (by omega) dX6_plan_52 ?_
      refine z_iload_3 dX6_plan_53 ?_
      exact z_iret dX6_plan_54 (zPI (by (repeat (first | rw [if_pos (by omega)] | rw [if_neg (by omega)])) <;> rfl) (by (repeat (first | rw [if_pos (by omega)] | rw [if_neg (by omega)])) <;> rfl))
    · refine z_aload_0 dX6_plan_26 ?_
      refine z_ldc (n := -1000000001) kc_X6_79 (by decide) dX6_plan_27 ?_
      refine z_cVI yv_X6_finding ml_X6_80 (c_X6_finding (by omega)) zk_0 rfl rfl (by decide) (Nat.le_of_ble_eq_true rfl) dX6_plan_29 ?_
      exact z_iret dX6_plan_32 (zPI (by (repeat (first | rw [if_pos (by omega)] | rw [if_neg (by omega)])) <;> rfl) (by (repeat (first | rw [if_pos (by omega)] | rw [if_neg (by omega)])) <;> rfl))

theorem c_X6_move {M : zM} {s_ : Int} (hO : WOK M 1) (hs : -2147483648 ≤ s_ ∧ s_ < 2147483648) : Call yX6_move cX6_move 2 (some .int) 2 [vR 0, vI s_] (M) (PI (if ¬ (-24 ≤ s_ ∧ s_ ≤ 24) then -1000000001 else if ¬ (canS (M (10 + 1)) (M 1 1) s_) then -1000000005 else M 1 1 + s_) (if ¬ (-24 ≤ s_ ∧ s_ ≤ 24) then fnd6 M 0 else if ¬ (canS (M (10 + 1)) (M 1 1) s_) then fnd6 M 4 else shiftW M 1 s_)) := by
  refine Call.of2 (own := RX6) (lv0 := [some (vR 0), some (vI s_)]) rfl (by decide) rfl (Nat.le_of_ble_eq_true rfl) ?_
  obtain ⟨⟨t0_, t1_⟩, ⟨h0_, h1_⟩, hn, hp⟩ := id hO
  obtain ⟨n0_, n1_⟩ := hn.1
  refine z_iload_1 dX6_move_0 ?_
  refine z_cSI ys_X6_isNoMove ml_X6_87 (c_X6_isNoMove (by omega)) rfl rfl (by decide) (Nat.le_of_ble_eq_true rfl) dX6_move_1 ?_
  refine z_ifb_eq (tgt := 14) dX6_move_4 (by decide) (fun c4 => ?_) (fun c4 => ?_)
  · refine z_aload_0 dX6_move_14 ?_
    refine z_getR (r := 1) fl_X6_10 zk_0 rfl rfl dX6_move_15 ?_
    refine z_iload_1 dX6_move_18 ?_
    refine z_cVI yv_X5_canShift ml_X6_91 (c_X5_canShift isW1 hp ⟨h0_, h1_⟩ (by omega)) (zw_k isW1) rfl rfl (by decide) (Nat.le_of_ble_eq_true rfl) dX6_move_19 ?_
    refine z_ifb_ne (tgt := 32) dX6_move_22 (by decide) (fun c22 => ?_) (fun c22 => ?_)
    · refine z_aload_0 dX6_move_32 ?_
      refine z_getR (r := 1) fl_X6_10 zk_0 rfl rfl dX6_move_33 ?_
      refine z_iload_1 dX6_move_36 ?_
      refine z_cVN yv_X5_shift ml_X6_95 (c_X5_shift isW1 (by omega)) (zw_k isW1) rfl rfl (by decide) (Nat.le_of_ble_eq_true rfl) dX6_move_37 ?_
      refine z_aload_0 dX6_move_40 ?_
      refine z_getR (r := 1) fl_X6_10 zk_0 rfl rfl dX6_move_41 ?_
      refine z_getIv (v := (M 1 1 + s_)) fl_X6_99 (zw_k isW1) rfl (by rw [zput_ne (by decide), zput_eq]) dX6_move_44 ?_
      exact z_iret dX6_move_47 (zPI (by rw [if_neg (by omega), if_neg (fun q_ => q_ c22)]) (by rw [if_neg (by omega), if_neg (fun q_ => q_ c22)]))
    · refine z_aload_0 dX6_move_25 ?_
      refine z_ldc (n := -1000000005) kc_X6_94 (by decide) dX6_move_26 ?_
      refine z_cVI yv_X6_finding ml_X6_80 (c_X6_finding (by omega)) zk_0 rfl rfl (by decide) (Nat.le_of_ble_eq_true rfl) dX6_move_28 ?_
      exact z_iret dX6_move_31 (zPI (by rw [if_neg (by omega), if_pos c22]) (by rw [if_neg (by omega), if_pos c22] <;> rfl))
  · refine z_aload_0 dX6_move_7 ?_
    refine z_ldc (n := -1000000001) kc_X6_79 (by decide) dX6_move_8 ?_
    refine z_cVI yv_X6_finding ml_X6_80 (c_X6_finding (by omega)) zk_0 rfl rfl (by decide) (Nat.le_of_ble_eq_true rfl) dX6_move_10 ?_
    exact z_iret dX6_move_13 (zPI (by (repeat (first | rw [if_pos (by omega)] | rw [if_neg (by omega)])) <;> rfl) (by (repeat (first | rw [if_pos (by omega)] | rw [if_neg (by omega)])) <;> rfl))

theorem c_X6_may {M : zM} {s_ : Int} (hO : WOK M 1) (hs : -2147483648 ≤ s_ ∧ s_ < 2147483648) : Call yX6_may cX6_may 2 (some .int) 2 [vR 0, vI s_] (M) (PI (if ¬ (-24 ≤ s_ ∧ s_ ≤ 24) then -1000000001 else if (canS (M (10 + 1)) (M 1 1) s_) then 1 else 0) (if ¬ (-24 ≤ s_ ∧ s_ ≤ 24) then fnd6 M 0 else M)) := by
  refine Call.of2 (own := RX6) (lv0 := [some (vR 0), some (vI s_)]) rfl (by decide) rfl (Nat.le_of_ble_eq_true rfl) ?_
  obtain ⟨⟨t0_, t1_⟩, ⟨h0_, h1_⟩, hn, hp⟩ := id hO
  obtain ⟨n0_, n1_⟩ := hn.1
  refine z_iload_1 dX6_may_0 ?_
  refine z_cSI ys_X6_isNoMove ml_X6_87 (c_X6_isNoMove (by omega)) rfl rfl (by decide) (Nat.le_of_ble_eq_true rfl) dX6_may_1 ?_
  refine z_ifb_eq (tgt := 14) dX6_may_4 (by decide) (fun c4 => ?_) (fun c4 => ?_)
  · refine z_aload_0 dX6_may_14 ?_
    refine z_getR (r := 1) fl_X6_10 zk_0 rfl rfl dX6_may_15 ?_
    refine z_iload_1 dX6_may_18 ?_
    refine z_cVI yv_X5_canShift ml_X6_91 (c_X5_canShift isW1 hp ⟨h0_, h1_⟩ (by omega)) (zw_k isW1) rfl rfl (by decide) (Nat.le_of_ble_eq_true rfl) dX6_may_19 ?_
    refine z_ifb_eq (tgt := 29) dX6_may_22 (by decide) (fun c22 => ?_) (fun c22 => ?_)
    · refine z_iconst dX6_may_29 ?_
      exact z_iret dX6_may_30 (zPI (by first | (rw [if_pos (by omega)]; done) | (rw [if_neg (by omega), if_pos c22]; done) | (rw [if_neg (by omega), if_neg c22]; done)) (by (repeat (first | rw [if_pos (by omega)] | rw [if_neg (by omega)])) <;> rfl))
    · refine z_iconst dX6_may_25 ?_
      refine z_goto (tgt := 30) dX6_may_26 (by decide) ?_
      exact z_iret dX6_may_30 (zPI (by first | (rw [if_pos (by omega)]; done) | (rw [if_neg (by omega), if_pos c22]; done) | (rw [if_neg (by omega), if_neg c22]; done)) (by (repeat (first | rw [if_pos (by omega)] | rw [if_neg (by omega)])) <;> rfl))
  · refine z_aload_0 dX6_may_7 ?_
    refine z_ldc (n := -1000000001) kc_X6_79 (by decide) dX6_may_8 ?_
    refine z_cVI yv_X6_finding ml_X6_80 (c_X6_finding (by omega)) zk_0 rfl rfl (by decide) (Nat.le_of_ble_eq_true rfl) dX6_may_10 ?_
    exact z_iret dX6_may_13 (zPI (by first | (rw [if_pos (by omega)]; done) | (rw [if_neg (by omega), if_pos c22]; done) | (rw [if_neg (by omega), if_neg c22]; done)) (by (repeat (first | rw [if_pos (by omega)] | rw [if_neg (by omega)])) <;> rfl))

theorem c_X6_thing {M : zM} {a_ : Int} (hO : WOK M 1) (ha : -2147483648 ≤ a_ ∧ a_ < 2147483648) : Call yX6_thing cX6_thing 2 (some .long) 1 [vR 0, vI a_] (M) (PJ (if a_ = 0 then M 1 0 else if a_ = 1 then M 1 1 else if a_ = 2 then M (10 + 1) 5 else if a_ = 3 then M 1 2 else if a_ = 4 then M 1 3 else -1000000001) (if 0 ≤ a_ ∧ a_ ≤ 4 then M else fnd6 M 0)) := by
  refine Call.of2 (own := RX6) (lv0 := [some (vR 0), some (vI a_)]) rfl (by decide) rfl (Nat.le_of_ble_eq_true rfl) ?_
  obtain ⟨⟨t0_, t1_⟩, ⟨h0_, h1_⟩, hn, hp⟩ := id hO
  obtain ⟨n0_, n1_⟩ := hn.1
  have p5_ := hp.2.2.2.2.2
  refine z_iload_1 dX6_thing_0 ?_
  rcases (show (a_ < 0 ∨ 4 < a_) ∨ a_ = 0 ∨ a_ = 1 ∨ a_ = 2 ∨ a_ = 3 ∨ a_ = 4 from by omega) with c1 | c1 | c1 | c1 | c1 | c1
  · refine z_tsOut (tgt := 81) (by omega) dX6_thing_1 c1 (by decide) ?_
    refine z_aload_0 dX6_thing_81 ?_
    refine z_ldc (n := -1000000001) kc_X6_79 (by decide) dX6_thing_82 ?_
    refine z_cVI yv_X6_finding ml_X6_80 (c_X6_finding (by omega)) zk_0 rfl rfl (by decide) (Nat.le_of_ble_eq_true rfl) dX6_thing_84 ?_
    refine z_i2l (by decide) dX6_thing_87 ?_
    exact z_lret dX6_thing_88 (zPJ (by (repeat (first | rw [if_pos (by omega)] | rw [if_neg (by omega)])) <;> rfl) (by (repeat (first | rw [if_pos (by omega)] | rw [if_neg (by omega)])) <;> rfl))
  · refine z_tsIn (off := 35) (tgt := 36) (by omega) dX6_thing_1 (by omega) (by omega) (by rw [c1]; rfl) (by decide) ?_
    refine z_aload_0 dX6_thing_36 ?_
    refine z_getR (r := 1) fl_X6_10 zk_0 rfl rfl dX6_thing_37 ?_
    refine z_getI fl_X6_102 (zw_k isW1) rfl dX6_thing_40 ?_
    refine z_i2l (by omega) dX6_thing_43 ?_
    exact z_lret dX6_thing_44 (zPJ (by (repeat (first | rw [if_pos (by omega)] | rw [if_neg (by omega)])) <;> rfl) (by (repeat (first | rw [if_pos (by omega)] | rw [if_neg (by omega)])) <;> rfl))
  · refine z_tsIn (off := 44) (tgt := 45) (by omega) dX6_thing_1 (by omega) (by omega) (by rw [c1]; rfl) (by decide) ?_
    refine z_aload_0 dX6_thing_45 ?_
    refine z_getR (r := 1) fl_X6_10 zk_0 rfl rfl dX6_thing_46 ?_
    refine z_getI fl_X6_99 (zw_k isW1) rfl dX6_thing_49 ?_
    refine z_i2l (by omega) dX6_thing_52 ?_
    exact z_lret dX6_thing_53 (zPJ (by (repeat (first | rw [if_pos (by omega)] | rw [if_neg (by omega)])) <;> rfl) (by (repeat (first | rw [if_pos (by omega)] | rw [if_neg (by omega)])) <;> rfl))
  · refine z_tsIn (off := 53) (tgt := 54) (by omega) dX6_thing_1 (by omega) (by omega) (by rw [c1]; rfl) (by decide) ?_
    refine z_aload_0 dX6_thing_54 ?_
    refine z_getR (r := 1) fl_X6_10 zk_0 rfl rfl dX6_thing_55 ?_
    refine z_getR (r := (10 + 1)) fl_X6_84 (zw_k isW1) rfl (zw_pR isW1) dX6_thing_58 ?_
    refine z_iconst dX6_thing_61 ?_
    refine z_iald (n := 6) (zw_p isW1) (zw_pN isW1) (by omega) dX6_thing_62 ?_
    refine z_i2l (by omega) dX6_thing_63 ?_
    exact z_lret dX6_thing_64 (zPJ (by (repeat (first | rw [if_pos (by omega)] | rw [if_neg (by omega)])) <;> rfl) (by (repeat (first | rw [if_pos (by omega)] | rw [if_neg (by omega)])) <;> rfl))
  · refine z_tsIn (off := 64) (tgt := 65) (by omega) dX6_thing_1 (by omega) (by omega) (by rw [c1]; rfl) (by decide) ?_
    refine z_aload_0 dX6_thing_65 ?_
    refine z_getR (r := 1) fl_X6_10 zk_0 rfl rfl dX6_thing_66 ?_
    refine z_getJ fl_X6_112 (zw_k isW1) rfl dX6_thing_69 ?_
    exact z_lret dX6_thing_72 (zPJ (by (repeat (first | rw [if_pos (by omega)] | rw [if_neg (by omega)])) <;> rfl) (by (repeat (first | rw [if_pos (by omega)] | rw [if_neg (by omega)])) <;> rfl))
  · refine z_tsIn (off := 72) (tgt := 73) (by omega) dX6_thing_1 (by omega) (by omega) (by rw [c1]; rfl) (by decide) ?_
    refine z_aload_0 dX6_thing_73 ?_
    refine z_getR (r := 1) fl_X6_10 zk_0 rfl rfl dX6_thing_74 ?_
    refine z_getJ fl_X6_116 (zw_k isW1) rfl dX6_thing_77 ?_
    exact z_lret dX6_thing_80 (zPJ (by (repeat (first | rw [if_pos (by omega)] | rw [if_neg (by omega)])) <;> rfl) (by (repeat (first | rw [if_pos (by omega)] | rw [if_neg (by omega)])) <;> rfl))

theorem c_X6_of {M : zM} {w_ a_ : Int} (hO : WOK M 1) (hw : -2147483648 ≤ w_ ∧ w_ < 2147483648) (ha : -2147483648 ≤ a_ ∧ a_ < 2147483648) : Call yX6_of cX6_of 4 (some .int) 2 [vR 0, vI w_, vI a_] (M) (PI (if (0 ≤ w_ ∧ w_ ≤ M 1 6 - 1) ∧ (0 ≤ a_ ∧ a_ ≤ 6) then (if a_ < 6 then M (12 * 1 + 8 + w_.toNat) a_ else if M 1 0 < M (12 * 1 + 8 + w_.toNat) 1 then 1 else 0) else -1000000001) (if (0 ≤ w_ ∧ w_ ≤ M 1 6 - 1) ∧ (0 ≤ a_ ∧ a_ ≤ 6) then M else fnd6 M 0)) := by
  refine Call.of2 (own := RX6) (lv0 := [some (vR 0), some (vI w_), some (vI a_), none]) rfl (by decide) rfl (Nat.le_of_ble_eq_true rfl) ?_
  obtain ⟨⟨t0_, t1_⟩, ⟨h0_, h1_⟩, hn, hp⟩ := id hO
  obtain ⟨n0_, n1_⟩ := hn.1
  refine z_aload_0 dX6_of_0 ?_
  refine z_iload_1 dX6_of_1 ?_
  refine z_cVI yv_X6_isNoWarning ml_X6_137 (c_X6_isNoWarning (by omega) hO.2.2.1.1) zk_0 rfl rfl (by decide) (Nat.le_of_ble_eq_true rfl) dX6_of_2 ?_
  refine z_ifb_eq (tgt := 15) dX6_of_5 (by decide) (fun c5 => ?_) (fun c5 => ?_)
  · have hgi_ := hn.2 w_.toNat (by omega)
    obtain ⟨⟨k0_, k1_⟩, ⟨d0_, d1_⟩, ⟨a0_, a1_⟩, ⟨w0_, w1_⟩, ⟨c0_, c1_⟩, ⟨l0_, l1_⟩⟩ := id hgi_
    refine z_aload_0 dX6_of_15 ?_
    refine z_getR (r := 1) fl_X6_10 zk_0 rfl rfl dX6_of_16 ?_
    refine z_getR (r := (13 + 1)) fl_X6_129 (zw_k isW1) rfl (zw_aR isW1) dX6_of_19 ?_
    refine z_iload_1 dX6_of_22 ?_
    refine z_aald12 (n := 12) (r := (12 * 1 + 8 + w_.toNat)) (zw_a isW1) (zw_aN isW1) (by omega) (zw_wR isW1 (by omega)) dX6_of_23 ?_
    refine z_astore_3 rfl dX6_of_24 ?_
    refine z_iload_2 dX6_of_25 ?_
    rcases (show (a_ < 0 ∨ 6 < a_) ∨ a_ = 0 ∨ a_ = 1 ∨ a_ = 2 ∨ a_ = 3 ∨ a_ = 4 ∨ a_ = 5 ∨ a_ = 6 from by omega) with c26 | c26 | c26 | c26 | c26 | c26 | c26 | c26
    · refine z_tsOut (tgt := 115) (by omega) dX6_of_26 c26 (by decide) ?_
      refine z_aload_0 dX6_of_115 ?_
      refine z_ldc (n := -1000000001) kc_X6_79 (by decide) dX6_of_116 ?_
      refine z_cVI yv_X6_finding ml_X6_80 (c_X6_finding (by omega)) zk_0 rfl rfl (by decide) (Nat.le_of_ble_eq_true rfl) dX6_of_118 ?_
      exact z_iret dX6_of_121 (zPI (by (repeat (first | rw [if_pos (by omega)] | rw [if_neg (by omega)])) <;> (first | rfl | (rw [c26]; done) | omega)) (by (repeat (first | rw [if_pos (by omega)] | rw [if_neg (by omega)])) <;> rfl))
    · refine z_tsIn (off := 42) (tgt := 68) (by omega) dX6_of_26 (by omega) (by omega) (by rw [c26]; rfl) (by decide) ?_
      refine z_aload_3 dX6_of_68 ?_
      refine z_getI fl_X6_140 (zw_w isW1 (by omega)) rfl dX6_of_69 ?_
      exact z_iret dX6_of_72 (zPI (by (repeat (first | rw [if_pos (by omega)] | rw [if_neg (by omega)])) <;> (first | rfl | (rw [c26]; done) | omega)) (by (repeat (first | rw [if_pos (by omega)] | rw [if_neg (by omega)])) <;> rfl))
    · refine z_tsIn (off := 47) (tgt := 73) (by omega) dX6_of_26 (by omega) (by omega) (by rw [c26]; rfl) (by decide) ?_
      refine z_aload_3 dX6_of_73 ?_
      refine z_getI fl_X6_143 (zw_w isW1 (by omega)) rfl dX6_of_74 ?_
      exact z_iret dX6_of_77 (zPI (by (repeat (first | rw [if_pos (by omega)] | rw [if_neg (by omega)])) <;> (first | rfl | (rw [c26]; done) | omega)) (by (repeat (first | rw [if_pos (by omega)] | rw [if_neg (by omega)])) <;> rfl))
    · refine z_tsIn (off := 52) (tgt := 78) (by omega) dX6_of_26 (by omega) (by omega) (by rw [c26]; rfl) (by decide) ?_
      refine z_aload_3 dX6_of_78 ?_
      refine z_getI fl_X6_146 (zw_w isW1 (by omega)) rfl dX6_of_79 ?_
      exact z_iret dX6_of_82 (zPI (by (repeat (first | rw [if_pos (by omega)] | rw [if_neg (by omega)])) <;> (first | rfl | (rw [c26]; done) | omega)) (by (repeat (first | rw [if_pos (by omega)] | rw [if_neg (by omega)])) <;> rfl))
    · refine z_tsIn (off := 57) (tgt := 83) (by omega) dX6_of_26 (by omega) (by omega) (by rw [c26]; rfl) (by decide) ?_
      refine z_aload_3 dX6_of_83 ?_
      refine z_getI fl_X6_149 (zw_w isW1 (by omega)) rfl dX6_of_84 ?_
      exact z_iret dX6_of_87 (zPI (by (repeat (first | rw [if_pos (by omega)] | rw [if_neg (by omega)])) <;> (first | rfl | (rw [c26]; done) | omega)) (by (repeat (first | rw [if_pos (by omega)] | rw [if_neg (by omega)])) <;> rfl))
    · refine z_tsIn (off := 62) (tgt := 88) (by omega) dX6_of_26 (by omega) (by omega) (by rw [c26]; rfl) (by decide) ?_
      refine z_aload_3 dX6_of_88 ?_
      refine z_getI fl_X6_152 (zw_w isW1 (by omega)) rfl dX6_of_89 ?_
      exact z_iret dX6_of_92 (zPI (by (repeat (first | rw [if_pos (by omega)] | rw [if_neg (by omega)])) <;> (first | rfl | (rw [c26]; done) | omega)) (by (repeat (first | rw [if_pos (by omega)] | rw [if_neg (by omega)])) <;> rfl))
    · refine z_tsIn (off := 67) (tgt := 93) (by omega) dX6_of_26 (by omega) (by omega) (by rw [c26]; rfl) (by decide) ?_
      refine z_aload_3 dX6_of_93 ?_
      refine z_getI fl_X6_155 (zw_w isW1 (by omega)) rfl dX6_of_94 ?_
      exact z_iret dX6_of_97 (zPI (by (repeat (first | rw [if_pos (by omega)] | rw [if_neg (by omega)])) <;> (first | rfl | (rw [c26]; done) | omega)) (by (repeat (first | rw [if_pos (by omega)] | rw [if_neg (by omega)])) <;> rfl))
    · refine z_tsIn (off := 72) (tgt := 98) (by omega) dX6_of_26 (by omega) (by omega) (by rw [c26]; rfl) (by decide) ?_
      refine z_aload_0 dX6_of_98 ?_
      refine z_getR (r := 1) fl_X6_10 zk_0 rfl rfl dX6_of_99 ?_
      refine z_aload_3 dX6_of_102 ?_
      refine z_cVI yv_X5_isOpen ml_X6_158 (c_X5_isOpen isW1 (zw_w isW1 (by omega)) (by omega) (by omega)) (zw_k isW1) rfl rfl (by decide) (Nat.le_of_ble_eq_true rfl) dX6_of_103 ?_
      refine z_ifb_eq (tgt := 113) dX6_of_106 (by decide) (fun c106 => ?_) (fun c106 => ?_)
      · refine z_iconst dX6_of_113 ?_
        exact z_iret dX6_of_114 (zPI (by (repeat (first | rw [if_pos (by omega)] | rw [if_neg (by omega)])) <;> (first | rfl | (rw [c26]; done) | omega)) (by (repeat (first | rw [if_pos (by omega)] | rw [if_neg (by omega)])) <;> rfl))
      · refine z_iconst dX6_of_109 ?_
        refine z_goto (tgt := 114) dX6_of_110 (by decide) ?_
        exact z_iret dX6_of_114 (zPI (by (repeat (first | rw [if_pos (by omega)] | rw [if_neg (by omega)])) <;> (first | rfl | (rw [c26]; done) | omega)) (by (repeat (first | rw [if_pos (by omega)] | rw [if_neg (by omega)])) <;> rfl))
  · refine z_aload_0 dX6_of_8 ?_
    refine z_ldc (n := -1000000001) kc_X6_79 (by decide) dX6_of_9 ?_
    refine z_cVI yv_X6_finding ml_X6_80 (c_X6_finding (by omega)) zk_0 rfl rfl (by decide) (Nat.le_of_ble_eq_true rfl) dX6_of_11 ?_
    exact z_iret dX6_of_14 (zPI (by (repeat (first | rw [if_pos (by omega)] | rw [if_neg (by omega)])) <;> (first | rfl | (rw [c26]; done) | omega)) (by (repeat (first | rw [if_pos (by omega)] | rw [if_neg (by omega)])) <;> rfl))

theorem c_X6_as {M : zM} {w_ a_ : Int} (hO : WOK M 1) (hw : -2147483648 ≤ w_ ∧ w_ < 2147483648) (ha : -2147483648 ≤ a_ ∧ a_ < 2147483648) : Call yX6_as cX6_as 4 (some .int) 2 [vR 0, vI w_, vI a_] (M) (PI (if (0 ≤ w_ ∧ w_ ≤ M 1 6 - 1) ∧ (0 ≤ a_ ∧ a_ ≤ 5) then (if (a_ = 0 ∨ a_ = M (12 * 1 + 8 + w_.toNat) 0 ∨ (a_ = 2 ∧ M (12 * 1 + 8 + w_.toNat) 0 = 4) ∨ (a_ = 1 ∧ M (12 * 1 + 8 + w_.toNat) 0 = 5)) then M (12 * 1 + 8 + w_.toNat) 4 else -1000000003) else -1000000001) (if (0 ≤ w_ ∧ w_ ≤ M 1 6 - 1) ∧ (0 ≤ a_ ∧ a_ ≤ 5) then (if (a_ = 0 ∨ a_ = M (12 * 1 + 8 + w_.toNat) 0 ∨ (a_ = 2 ∧ M (12 * 1 + 8 + w_.toNat) 0 = 4) ∨ (a_ = 1 ∧ M (12 * 1 + 8 + w_.toNat) 0 = 5)) then M else fnd6 M 2) else fnd6 M 0)) := by
  refine Call.of2 (own := RX6) (lv0 := [some (vR 0), some (vI w_), some (vI a_), none]) rfl (by decide) rfl (Nat.le_of_ble_eq_true rfl) ?_
  obtain ⟨⟨t0_, t1_⟩, ⟨h0_, h1_⟩, hn, hp⟩ := id hO
  obtain ⟨n0_, n1_⟩ := hn.1
  refine z_aload_0 dX6_as_0 ?_
  refine z_iload_1 dX6_as_1 ?_
  refine z_cVI yv_X6_isNoWarning ml_X6_137 (c_X6_isNoWarning (by omega) hO.2.2.1.1) zk_0 rfl rfl (by decide) (Nat.le_of_ble_eq_true rfl) dX6_as_2 ?_
  refine z_ifb_ne (tgt := 17) dX6_as_5 (by decide) (fun c5 => ?_) (fun c5 => ?_)
  · refine z_aload_0 dX6_as_17 ?_
    refine z_ldc (n := -1000000001) kc_X6_79 (by decide) dX6_as_18 ?_
    refine z_cVI yv_X6_finding ml_X6_80 (c_X6_finding (by omega)) zk_0 rfl rfl (by decide) (Nat.le_of_ble_eq_true rfl) dX6_as_20 ?_
    exact z_iret dX6_as_23 (zPI (by (repeat (first | rw [if_pos (by omega)] | rw [if_neg (by omega)])) <;> rfl) (by (repeat (first | rw [if_pos (by omega)] | rw [if_neg (by omega)])) <;> rfl))
  · refine z_iload_2 dX6_as_8 ?_
    refine z_iconst dX6_as_9 ?_
    refine z_iconst dX6_as_10 ?_
    refine z_cSI ys_X6_isOutside ml_X6_69 (c_X6_isOutside (by omega) (by omega) (by omega)) rfl rfl (by decide) (Nat.le_of_ble_eq_true rfl) dX6_as_11 ?_
    refine z_ifb_eq (tgt := 24) dX6_as_14 (by decide) (fun c14 => ?_) (fun c14 => ?_)
    · have hgi_ := hn.2 w_.toNat (by omega)
      obtain ⟨⟨k0_, k1_⟩, ⟨d0_, d1_⟩, ⟨a0_, a1_⟩, ⟨w0_, w1_⟩, ⟨c0_, c1_⟩, ⟨l0_, l1_⟩⟩ := id hgi_
      refine z_aload_0 dX6_as_24 ?_
      refine z_getR (r := 1) fl_X6_10 zk_0 rfl rfl dX6_as_25 ?_
      refine z_getR (r := (13 + 1)) fl_X6_129 (zw_k isW1) rfl (zw_aR isW1) dX6_as_28 ?_
      refine z_iload_1 dX6_as_31 ?_
      refine z_aald12 (n := 12) (r := (12 * 1 + 8 + w_.toNat)) (zw_a isW1) (zw_aN isW1) (by omega) (zw_wR isW1 (by omega)) dX6_as_32 ?_
      refine z_astore_3 rfl dX6_as_33 ?_
      refine z_aload_3 dX6_as_34 ?_
      refine z_iload_2 dX6_as_35 ?_
      refine z_cVI yv_X4_isOneOf ml_X6_162 (c_X4_isOneOf (zw_w isW1 (by omega)) hgi_ (by omega)) (zw_w isW1 (by omega)) rfl rfl (by decide) (Nat.le_of_ble_eq_true rfl) dX6_as_36 ?_
      refine z_ifb_eq (tgt := 49) dX6_as_39 (by decide) (fun c39 => ?_) (fun c39 => ?_)
      · refine z_aload_0 dX6_as_49 ?_
        refine z_ldc (n := -1000000003) kc_X6_165 (by decide) dX6_as_50 ?_
        refine z_cVI yv_X6_finding ml_X6_80 (c_X6_finding (by omega)) zk_0 rfl rfl (by decide) (Nat.le_of_ble_eq_true rfl) dX6_as_52 ?_
        exact z_iret dX6_as_55 (zPI (by (repeat (first | rw [if_pos (by omega)] | rw [if_neg (by omega)])) <;> rfl) (by (repeat (first | rw [if_pos (by omega)] | rw [if_neg (by omega)])) <;> rfl))
      · refine z_aload_3 dX6_as_42 ?_
        refine z_getI fl_X6_152 (zw_w isW1 (by omega)) rfl dX6_as_43 ?_
        refine z_goto (tgt := 55) dX6_as_46 (by decide) ?_
        exact z_iret dX6_as_55 (zPI (by (repeat (first | rw [if_pos (by omega)] | rw [if_neg (by omega)])) <;> rfl) (by (repeat (first | rw [if_pos (by omega)] | rw [if_neg (by omega)])) <;> rfl))
    · refine z_aload_0 dX6_as_17 ?_
      refine z_ldc (n := -1000000001) kc_X6_79 (by decide) dX6_as_18 ?_
      refine z_cVI yv_X6_finding ml_X6_80 (c_X6_finding (by omega)) zk_0 rfl rfl (by decide) (Nat.le_of_ble_eq_true rfl) dX6_as_20 ?_
      exact z_iret dX6_as_23 (zPI (by (repeat (first | rw [if_pos (by omega)] | rw [if_neg (by omega)])) <;> rfl) (by (repeat (first | rw [if_pos (by omega)] | rw [if_neg (by omega)])) <;> rfl))

theorem c_X6_struck {M : zM} {w_ h_ : Int} (hO : WOK M 1) (hw : -2147483648 ≤ w_ ∧ w_ < 2147483648) (hh : -2147483648 ≤ h_ ∧ h_ < 2147483648) : Call yX6_struck cX6_struck 3 (some .int) 2 [vR 0, vI w_, vI h_] (M) (PI (if (0 ≤ w_ ∧ w_ ≤ M 1 6 - 1) ∧ (-12 ≤ h_ ∧ h_ ≤ 12) then strikeG (M (12 * 1 + 8 + w_.toNat)) h_ else -1000000001) (if (0 ≤ w_ ∧ w_ ≤ M 1 6 - 1) ∧ (-12 ≤ h_ ∧ h_ ≤ 12) then M else fnd6 M 0)) := by
  refine Call.of2 (own := RX6) (lv0 := [some (vR 0), some (vI w_), some (vI h_)]) rfl (by decide) rfl (Nat.le_of_ble_eq_true rfl) ?_
  obtain ⟨⟨t0_, t1_⟩, ⟨h0_, h1_⟩, hn, hp⟩ := id hO
  obtain ⟨n0_, n1_⟩ := hn.1
  refine z_aload_0 dX6_struck_0 ?_
  refine z_iload_1 dX6_struck_1 ?_
  refine z_cVI yv_X6_isNoWarning ml_X6_137 (c_X6_isNoWarning (by omega) hO.2.2.1.1) zk_0 rfl rfl (by decide) (Nat.le_of_ble_eq_true rfl) dX6_struck_2 ?_
  refine z_ifb_ne (tgt := 15) dX6_struck_5 (by decide) (fun c5 => ?_) (fun c5 => ?_)
  · refine z_aload_0 dX6_struck_15 ?_
    refine z_ldc (n := -1000000001) kc_X6_79 (by decide) dX6_struck_16 ?_
    refine z_cVI yv_X6_finding ml_X6_80 (c_X6_finding (by omega)) zk_0 rfl rfl (by decide) (Nat.le_of_ble_eq_true rfl) dX6_struck_18 ?_
    exact z_iret dX6_struck_21 (zPI (by (repeat (first | rw [if_pos (by omega)] | rw [if_neg (by omega)])) <;> rfl) (by (repeat (first | rw [if_pos (by omega)] | rw [if_neg (by omega)])) <;> rfl))
  · refine z_iload_2 dX6_struck_8 ?_
    refine z_cSI ys_X6_isNoHeight ml_X6_121 (c_X6_isNoHeight (by omega)) rfl rfl (by decide) (Nat.le_of_ble_eq_true rfl) dX6_struck_9 ?_
    refine z_ifb_eq (tgt := 22) dX6_struck_12 (by decide) (fun c12 => ?_) (fun c12 => ?_)
    · have hgi_ := hn.2 w_.toNat (by omega)
      obtain ⟨⟨k0_, k1_⟩, ⟨d0_, d1_⟩, ⟨a0_, a1_⟩, ⟨w0_, w1_⟩, ⟨c0_, c1_⟩, ⟨l0_, l1_⟩⟩ := id hgi_
      refine z_aload_0 dX6_struck_22 ?_
      refine z_getR (r := 1) fl_X6_10 zk_0 rfl rfl dX6_struck_23 ?_
      refine z_getR (r := (13 + 1)) fl_X6_129 (zw_k isW1) rfl (zw_aR isW1) dX6_struck_26 ?_
      refine z_iload_1 dX6_struck_29 ?_
      refine z_aald12 (n := 12) (r := (12 * 1 + 8 + w_.toNat)) (zw_a isW1) (zw_aN isW1) (by omega) (zw_wR isW1 (by omega)) dX6_struck_30 ?_
      refine z_iload_2 dX6_struck_31 ?_
      refine z_cVI yv_X4_strikeAt ml_X6_166 (c_X4_strikeAt (zw_w isW1 (by omega)) hgi_ (by omega)) (zw_w isW1 (by omega)) rfl rfl (by decide) (Nat.le_of_ble_eq_true rfl) dX6_struck_32 ?_
      exact z_iret dX6_struck_35 (zPI (by (repeat (first | rw [if_pos (by omega)] | rw [if_neg (by omega)])) <;> rfl) (by (repeat (first | rw [if_pos (by omega)] | rw [if_neg (by omega)])) <;> rfl))
    · refine z_aload_0 dX6_struck_15 ?_
      refine z_ldc (n := -1000000001) kc_X6_79 (by decide) dX6_struck_16 ?_
      refine z_cVI yv_X6_finding ml_X6_80 (c_X6_finding (by omega)) zk_0 rfl rfl (by decide) (Nat.le_of_ble_eq_true rfl) dX6_struck_18 ?_
      exact z_iret dX6_struck_21 (zPI (by (repeat (first | rw [if_pos (by omega)] | rw [if_neg (by omega)])) <;> rfl) (by (repeat (first | rw [if_pos (by omega)] | rw [if_neg (by omega)])) <;> rfl))

theorem c_X6_think {M : zM} {w_ s_ r_ : Int} (hO : WOK M 1) (hw : -2147483648 ≤ w_ ∧ w_ < 2147483648) (hs : -2147483648 ≤ s_ ∧ s_ < 2147483648) (hr : r_ = 0 ∨ r_ = 1) : Call yX6_think cX6_think 6 (some .int) 2 [vR 0, vI w_, vI s_, vI r_] (M) (PI (if ((0 ≤ w_ ∧ w_ ≤ M 1 6 - 1) ∧ (50 ≤ s_ ∧ s_ ≤ 100)) then (if (M 1 0 < M (12 * 1 + 8 + w_.toNat) 1 ∧ (behindS (M (12 * 1 + 8 + w_.toNat) 4) s_ r_) ≠ -1) then (behindS (M (12 * 1 + 8 + w_.toNat) 4) s_ r_) else -1000000005) else -1000000001) (if ((0 ≤ w_ ∧ w_ ≤ M 1 6 - 1) ∧ (50 ≤ s_ ∧ s_ ≤ 100)) then (if (M 1 0 < M (12 * 1 + 8 + w_.toNat) 1 ∧ (behindS (M (12 * 1 + 8 + w_.toNat) 4) s_ r_) ≠ -1) then M else fnd6 M 4) else fnd6 M 0)) := by
  refine Call.of2 (own := RX6) (lv0 := [some (vR 0), some (vI w_), some (vI s_), some (vI r_), none, none]) rfl (by decide) rfl (Nat.le_of_ble_eq_true rfl) ?_
  obtain ⟨⟨t0_, t1_⟩, ⟨h0_, h1_⟩, hn, hp⟩ := id hO
  obtain ⟨n0_, n1_⟩ := hn.1
  refine z_aload_0 dX6_think_0 ?_
  refine z_iload_1 dX6_think_1 ?_
  refine z_cVI yv_X6_isNoWarning ml_X6_137 (c_X6_isNoWarning (by omega) hO.2.2.1.1) zk_0 rfl rfl (by decide) (Nat.le_of_ble_eq_true rfl) dX6_think_2 ?_
  refine z_ifb_ne (tgt := 15) dX6_think_5 (by decide) (fun c5 => ?_) (fun c5 => ?_)
  · refine z_aload_0 dX6_think_15 ?_
    refine z_ldc (n := -1000000001) kc_X6_79 (by decide) dX6_think_16 ?_
    refine z_cVI yv_X6_finding ml_X6_80 (c_X6_finding (by omega)) zk_0 rfl rfl (by decide) (Nat.le_of_ble_eq_true rfl) dX6_think_18 ?_
    exact z_iret dX6_think_21 (zPI (by (repeat (first | rw [if_pos (by omega)] | rw [if_neg (by omega)])) <;> rfl) (by (repeat (first | rw [if_pos (by omega)] | rw [if_neg (by omega)])) <;> rfl))
  · refine z_iload_2 dX6_think_8 ?_
    refine z_cSI ys_X6_isNoSureness ml_X6_169 (c_X6_isNoSureness (by omega)) rfl rfl (by decide) (Nat.le_of_ble_eq_true rfl) dX6_think_9 ?_
    refine z_ifb_eq (tgt := 22) dX6_think_12 (by decide) (fun c12 => ?_) (fun c12 => ?_)
    · have hgi_ := hn.2 w_.toNat (by omega)
      obtain ⟨⟨k0_, k1_⟩, ⟨d0_, d1_⟩, ⟨a0_, a1_⟩, ⟨w0_, w1_⟩, ⟨c0_, c1_⟩, ⟨l0_, l1_⟩⟩ := id hgi_
      refine z_aload_0 dX6_think_22 ?_
      refine z_getR (r := 1) fl_X6_10 zk_0 rfl rfl dX6_think_23 ?_
      refine z_getR (r := (13 + 1)) fl_X6_129 (zw_k isW1) rfl (zw_aR isW1) dX6_think_26 ?_
      refine z_iload_1 dX6_think_29 ?_
      refine z_aald12 (n := 12) (r := (12 * 1 + 8 + w_.toNat)) (zw_a isW1) (zw_aN isW1) (by omega) (zw_wR isW1 (by omega)) dX6_think_30 ?_
      refine z_astore_4 rfl dX6_think_31 ?_
      refine z_aload_4 dX6_think_33 ?_
      refine z_iload_2 dX6_think_35 ?_
      refine z_iload_3 dX6_think_36 ?_
      refine z_cVI yv_X4_chanceBehind ml_X6_172 (c_X4_chanceBehind (zw_w isW1 (by omega)) hgi_ (by omega) hr) (zw_w isW1 (by omega)) rfl rfl (by decide) (Nat.le_of_ble_eq_true rfl) dX6_think_37 ?_
      have hb_ := behindS_le (c := M (12 * 1 + 8 + w_.toNat) 4) (s := s_) (r := r_) ⟨c0_, c1_⟩ (by omega)
      refine z_istore_5 rfl dX6_think_40 ?_
      refine z_aload_0 dX6_think_42 ?_
      refine z_getR (r := 1) fl_X6_10 zk_0 rfl rfl dX6_think_43 ?_
      refine z_aload_4 dX6_think_46 ?_
      refine z_cVI yv_X5_isOpen ml_X6_158 (c_X5_isOpen isW1 (zw_w isW1 (by omega)) (by omega) (by omega)) (zw_k isW1) rfl rfl (by decide) (Nat.le_of_ble_eq_true rfl) dX6_think_48 ?_
      refine z_ifb_eq (tgt := 60) dX6_think_51 (by decide) (fun c51 => ?_) (fun c51 => ?_)
      · refine z_aload_0 dX6_think_60 ?_
        refine z_ldc (n := -1000000005) kc_X6_94 (by decide) dX6_think_61 ?_
        refine z_cVI yv_X6_finding ml_X6_80 (c_X6_finding (by omega)) zk_0 rfl rfl (by decide) (Nat.le_of_ble_eq_true rfl) dX6_think_63 ?_
        exact z_iret dX6_think_66 (zPI (by (repeat (first | rw [if_pos (by omega)] | rw [if_neg (by omega)])) <;> rfl) (by (repeat (first | rw [if_pos (by omega)] | rw [if_neg (by omega)])) <;> rfl))
      · refine z_iload_5 dX6_think_54 ?_
        refine z_iconst dX6_think_56 ?_
        refine z_icmp_ne (tgt := 67) (by omega) (by decide) dX6_think_57 (by decide) (fun c57 => ?_) (fun c57 => ?_)
        · refine z_iload_5 dX6_think_67 ?_
          exact z_iret dX6_think_69 (zPI (by (repeat (first | rw [if_pos (by omega)] | rw [if_neg (by omega)])) <;> rfl) (by (repeat (first | rw [if_pos (by omega)] | rw [if_neg (by omega)])) <;> rfl))
        · refine z_aload_0 dX6_think_60 ?_
          refine z_ldc (n := -1000000005) kc_X6_94 (by decide) dX6_think_61 ?_
          refine z_cVI yv_X6_finding ml_X6_80 (c_X6_finding (by omega)) zk_0 rfl rfl (by decide) (Nat.le_of_ble_eq_true rfl) dX6_think_63 ?_
          exact z_iret dX6_think_66 (zPI (by (repeat (first | rw [if_pos (by omega)] | rw [if_neg (by omega)])) <;> rfl) (by (repeat (first | rw [if_pos (by omega)] | rw [if_neg (by omega)])) <;> rfl))
    · refine z_aload_0 dX6_think_15 ?_
      refine z_ldc (n := -1000000001) kc_X6_79 (by decide) dX6_think_16 ?_
      refine z_cVI yv_X6_finding ml_X6_80 (c_X6_finding (by omega)) zk_0 rfl rfl (by decide) (Nat.le_of_ble_eq_true rfl) dX6_think_18 ?_
      exact z_iret dX6_think_21 (zPI (by (repeat (first | rw [if_pos (by omega)] | rw [if_neg (by omega)])) <;> rfl) (by (repeat (first | rw [if_pos (by omega)] | rw [if_neg (by omega)])) <;> rfl))

theorem c_X6_look {M : zM} {w_ s_ r_ : Int} (hO : WOK M 1) (hw : -2147483648 ≤ w_ ∧ w_ < 2147483648) (hs : -2147483648 ≤ s_ ∧ s_ < 2147483648) (hr : r_ = 0 ∨ r_ = 1) : Call yX6_look cX6_look 6 (some .int) 2 [vR 0, vI w_, vI s_, vI r_] (M) (PI (if ((0 ≤ w_ ∧ w_ ≤ M 1 6 - 1) ∧ (50 ≤ s_ ∧ s_ ≤ 100)) then (if (M 1 0 < M (12 * 1 + 8 + w_.toNat) 1 ∧ (behindS (M (12 * 1 + 8 + w_.toNat) 4) s_ r_) ≠ -1) then (behindS (M (12 * 1 + 8 + w_.toNat) 4) s_ r_) else -1000000005) else -1000000001) (if ((0 ≤ w_ ∧ w_ ≤ M 1 6 - 1) ∧ (50 ≤ s_ ∧ s_ ≤ 100)) then (if (M 1 0 < M (12 * 1 + 8 + w_.toNat) 1 ∧ (behindS (M (12 * 1 + 8 + w_.toNat) 4) s_ r_) ≠ -1) then zput (zput M (12 * 1 + 8 + w_.toNat) 4 (behindS (M (12 * 1 + 8 + w_.toNat) 4) s_ r_)) (12 * 1 + 8 + w_.toNat) 5 (M (12 * 1 + 8 + w_.toNat) 5 + 1) else fnd6 M 4) else fnd6 M 0)) := by
  refine Call.of2 (own := RX6) (lv0 := [some (vR 0), some (vI w_), some (vI s_), some (vI r_), none, none]) rfl (by decide) rfl (Nat.le_of_ble_eq_true rfl) ?_
  obtain ⟨⟨t0_, t1_⟩, ⟨h0_, h1_⟩, hn, hp⟩ := id hO
  obtain ⟨n0_, n1_⟩ := hn.1
  refine z_aload_0 dX6_look_0 ?_
  refine z_iload_1 dX6_look_1 ?_
  refine z_cVI yv_X6_isNoWarning ml_X6_137 (c_X6_isNoWarning (by omega) hO.2.2.1.1) zk_0 rfl rfl (by decide) (Nat.le_of_ble_eq_true rfl) dX6_look_2 ?_
  refine z_ifb_ne (tgt := 15) dX6_look_5 (by decide) (fun c5 => ?_) (fun c5 => ?_)
  · refine z_aload_0 dX6_look_15 ?_
    refine z_ldc (n := -1000000001) kc_X6_79 (by decide) dX6_look_16 ?_
    refine z_cVI yv_X6_finding ml_X6_80 (c_X6_finding (by omega)) zk_0 rfl rfl (by decide) (Nat.le_of_ble_eq_true rfl) dX6_look_18 ?_
    exact z_iret dX6_look_21 (zPI (by (repeat (first | rw [if_pos (by omega)] | rw [if_neg (by omega)])) <;> rfl) (by (repeat (first | rw [if_pos (by omega)] | rw [if_neg (by omega)])) <;> rfl))
  · refine z_iload_2 dX6_look_8 ?_
    refine z_cSI ys_X6_isNoSureness ml_X6_169 (c_X6_isNoSureness (by omega)) rfl rfl (by decide) (Nat.le_of_ble_eq_true rfl) dX6_look_9 ?_
    refine z_ifb_eq (tgt := 22) dX6_look_12 (by decide) (fun c12 => ?_) (fun c12 => ?_)
    · have hgi_ := hn.2 w_.toNat (by omega)
      obtain ⟨⟨k0_, k1_⟩, ⟨d0_, d1_⟩, ⟨a0_, a1_⟩, ⟨w0_, w1_⟩, ⟨c0_, c1_⟩, ⟨l0_, l1_⟩⟩ := id hgi_
      refine z_aload_0 dX6_look_22 ?_
      refine z_getR (r := 1) fl_X6_10 zk_0 rfl rfl dX6_look_23 ?_
      refine z_getR (r := (13 + 1)) fl_X6_129 (zw_k isW1) rfl (zw_aR isW1) dX6_look_26 ?_
      refine z_iload_1 dX6_look_29 ?_
      refine z_aald12 (n := 12) (r := (12 * 1 + 8 + w_.toNat)) (zw_a isW1) (zw_aN isW1) (by omega) (zw_wR isW1 (by omega)) dX6_look_30 ?_
      refine z_astore_4 rfl dX6_look_31 ?_
      refine z_aload_4 dX6_look_33 ?_
      refine z_iload_2 dX6_look_35 ?_
      refine z_iload_3 dX6_look_36 ?_
      refine z_cVI yv_X4_chanceBehind ml_X6_172 (c_X4_chanceBehind (zw_w isW1 (by omega)) hgi_ (by omega) hr) (zw_w isW1 (by omega)) rfl rfl (by decide) (Nat.le_of_ble_eq_true rfl) dX6_look_37 ?_
      have hb_ := behindS_le (c := M (12 * 1 + 8 + w_.toNat) 4) (s := s_) (r := r_) ⟨c0_, c1_⟩ (by omega)
      refine z_istore_5 rfl dX6_look_40 ?_
      refine z_aload_0 dX6_look_42 ?_
      refine z_getR (r := 1) fl_X6_10 zk_0 rfl rfl dX6_look_43 ?_
      refine z_aload_4 dX6_look_46 ?_
      refine z_cVI yv_X5_isOpen ml_X6_158 (c_X5_isOpen isW1 (zw_w isW1 (by omega)) (by omega) (by omega)) (zw_k isW1) rfl rfl (by decide) (Nat.le_of_ble_eq_true rfl) dX6_look_48 ?_
      refine z_ifb_eq (tgt := 60) dX6_look_51 (by decide) (fun c51 => ?_) (fun c51 => ?_)
      · refine z_aload_0 dX6_look_60 ?_
        refine z_ldc (n := -1000000005) kc_X6_94 (by decide) dX6_look_61 ?_
        refine z_cVI yv_X6_finding ml_X6_80 (c_X6_finding (by omega)) zk_0 rfl rfl (by decide) (Nat.le_of_ble_eq_true rfl) dX6_look_63 ?_
        exact z_iret dX6_look_66 (zPI (by (repeat (first | rw [if_pos (by omega)] | rw [if_neg (by omega)])) <;> rfl) (by (repeat (first | rw [if_pos (by omega)] | rw [if_neg (by omega)])) <;> rfl))
      · refine z_iload_5 dX6_look_54 ?_
        refine z_iconst dX6_look_56 ?_
        refine z_icmp_ne (tgt := 67) (by omega) (by decide) dX6_look_57 (by decide) (fun c57 => ?_) (fun c57 => ?_)
        · refine z_aload_4 dX6_look_67 ?_
          refine z_iload_5 dX6_look_69 ?_
          refine z_putI fl_X6_152 (zw_w isW1 (by omega)) rfl dX6_look_71 ?_
          refine z_aload_4 dX6_look_74 ?_
          refine z_dup rfl dX6_look_76 ?_
          refine z_getIv (v := (M (12 * 1 + 8 + w_.toNat) 5)) fl_X6_155 (zw_w isW1 (by omega)) rfl (by rw [zput_ne2 (by decide)]) dX6_look_77 ?_
          refine z_iconst dX6_look_80 ?_
          refine z_iadd dX6_look_81 ?_
          refine z_putI fl_X6_155 (zw_w isW1 (by omega)) rfl dX6_look_82 ?_
          refine z_iload_5 dX6_look_85 ?_
          exact z_iret dX6_look_87 (zPI (by (repeat (first | rw [if_pos (by omega)] | rw [if_neg (by omega)])) <;> rfl) (by (repeat (first | rw [if_pos (by omega)] | rw [if_neg (by omega)])) <;> rfl))
        · refine z_aload_0 dX6_look_60 ?_
          refine z_ldc (n := -1000000005) kc_X6_94 (by decide) dX6_look_61 ?_
          refine z_cVI yv_X6_finding ml_X6_80 (c_X6_finding (by omega)) zk_0 rfl rfl (by decide) (Nat.le_of_ble_eq_true rfl) dX6_look_63 ?_
          exact z_iret dX6_look_66 (zPI (by (repeat (first | rw [if_pos (by omega)] | rw [if_neg (by omega)])) <;> rfl) (by (repeat (first | rw [if_pos (by omega)] | rw [if_neg (by omega)])) <;> rfl))
    · refine z_aload_0 dX6_look_15 ?_
      refine z_ldc (n := -1000000001) kc_X6_79 (by decide) dX6_look_16 ?_
      refine z_cVI yv_X6_finding ml_X6_80 (c_X6_finding (by omega)) zk_0 rfl rfl (by decide) (Nat.le_of_ble_eq_true rfl) dX6_look_18 ?_
      exact z_iret dX6_look_21 (zPI (by (repeat (first | rw [if_pos (by omega)] | rw [if_neg (by omega)])) <;> rfl) (by (repeat (first | rw [if_pos (by omega)] | rw [if_neg (by omega)])) <;> rfl))

theorem c_X6_danger {M : zM} {a_ h_ : Int} (hO : WOK M 1) (ha : -2147483648 ≤ a_ ∧ a_ < 2147483648) (hh : -2147483648 ≤ h_ ∧ h_ < 2147483648) : Call yX6_danger cX6_danger 3 (some .int) 2 [vR 0, vI a_, vI h_] (M) (PI (if (0 ≤ a_ ∧ a_ ≤ 999) ∧ (-12 ≤ h_ ∧ h_ ≤ 12) then danger (M 1 6).toNat (gW M 1) a_ h_ else -1000000001) (if (0 ≤ a_ ∧ a_ ≤ 999) ∧ (-12 ≤ h_ ∧ h_ ≤ 12) then M else fnd6 M 0)) := by
  refine Call.of2 (own := RX6) (lv0 := [some (vR 0), some (vI a_), some (vI h_)]) rfl (by decide) rfl (Nat.le_of_ble_eq_true rfl) ?_
  obtain ⟨⟨t0_, t1_⟩, ⟨h0_, h1_⟩, hn, hp⟩ := id hO
  obtain ⟨n0_, n1_⟩ := hn.1
  refine z_iload_1 dX6_danger_0 ?_
  refine z_iconst dX6_danger_1 ?_
  refine z_sipush dX6_danger_2 (by decide) ?_
  refine z_cSI ys_X6_isOutside ml_X6_69 (c_X6_isOutside (by omega) (by omega) (by omega)) rfl rfl (by decide) (Nat.le_of_ble_eq_true rfl) dX6_danger_5 ?_
  refine z_ifb_ne (tgt := 18) dX6_danger_8 (by decide) (fun c8 => ?_) (fun c8 => ?_)
  · refine z_aload_0 dX6_danger_18 ?_
    refine z_ldc (n := -1000000001) kc_X6_79 (by decide) dX6_danger_19 ?_
    refine z_cVI yv_X6_finding ml_X6_80 (c_X6_finding (by omega)) zk_0 rfl rfl (by decide) (Nat.le_of_ble_eq_true rfl) dX6_danger_21 ?_
    exact z_iret dX6_danger_24 (zPI (by (repeat (first | rw [if_pos (by omega)] | rw [if_neg (by omega)])) <;> rfl) (by (repeat (first | rw [if_pos (by omega)] | rw [if_neg (by omega)])) <;> rfl))
  · refine z_iload_2 dX6_danger_11 ?_
    refine z_cSI ys_X6_isNoHeight ml_X6_121 (c_X6_isNoHeight (by omega)) rfl rfl (by decide) (Nat.le_of_ble_eq_true rfl) dX6_danger_12 ?_
    refine z_ifb_eq (tgt := 25) dX6_danger_15 (by decide) (fun c15 => ?_) (fun c15 => ?_)
    · refine z_aload_0 dX6_danger_25 ?_
      refine z_getR (r := 1) fl_X6_10 zk_0 rfl rfl dX6_danger_26 ?_
      refine z_iload_1 dX6_danger_29 ?_
      refine z_iload_2 dX6_danger_30 ?_
      refine z_cVI yv_X5_dangerOn ml_X6_176 (c_X5_dangerOn isW1 hn (by omega) (by omega)) (zw_k isW1) rfl rfl (by decide) (Nat.le_of_ble_eq_true rfl) dX6_danger_31 ?_
      exact z_iret dX6_danger_34 (zPI (by (repeat (first | rw [if_pos (by omega)] | rw [if_neg (by omega)])) <;> rfl) (by (repeat (first | rw [if_pos (by omega)] | rw [if_neg (by omega)])) <;> rfl))
    · refine z_aload_0 dX6_danger_18 ?_
      refine z_ldc (n := -1000000001) kc_X6_79 (by decide) dX6_danger_19 ?_
      refine z_cVI yv_X6_finding ml_X6_80 (c_X6_finding (by omega)) zk_0 rfl rfl (by decide) (Nat.le_of_ble_eq_true rfl) dX6_danger_21 ?_
      exact z_iret dX6_danger_24 (zPI (by (repeat (first | rw [if_pos (by omega)] | rw [if_neg (by omega)])) <;> rfl) (by (repeat (first | rw [if_pos (by omega)] | rw [if_neg (by omega)])) <;> rfl))

theorem c_X6_wipe {M : zM}  : Call yX6_wipe cX6_wipe 2 (some .int) 0 [vR 0] (M) (PI (M 0 5) (zput M 0 5 0)) := by
  refine Call.of2 (own := RX6) (lv0 := [some (vR 0), none]) rfl (by decide) rfl (Nat.le_of_ble_eq_true rfl) ?_
  refine z_aload_0 dX6_wipe_0 ?_
  refine z_getI fl_X6_30 zk_0 rfl dX6_wipe_1 ?_
  refine z_istore_1 rfl dX6_wipe_4 ?_
  refine z_aload_0 dX6_wipe_5 ?_
  refine z_iconst dX6_wipe_6 ?_
  refine z_putI fl_X6_30 zk_0 rfl dX6_wipe_7 ?_
  refine z_iload_1 dX6_wipe_10 ?_
  exact z_iret dX6_wipe_11 (zPI rfl rfl)

theorem c_X6_drift {M : zM} (ht : -2147483648 ≤ M 1 8 ∧ M 1 8 < 2147483648) : Call yX6_drift cX6_drift 2 (some .int) 1 [vR 0] (M) (PI (if 0 < M 1 8 then 1 else 0) (zput M 1 8 0)) := by
  refine Call.of2 (own := RX6) (lv0 := [some (vR 0), none]) rfl (by decide) rfl (Nat.le_of_ble_eq_true rfl) ?_
  refine z_aload_0 dX6_drift_0 ?_
  refine z_getR (r := 1) fl_X6_10 zk_0 rfl rfl dX6_drift_1 ?_
  refine z_cVI yv_X5_hasRule ml_X6_196 (c_X5_hasRule isW1 ht) (zw_k isW1) rfl rfl (by decide) (Nat.le_of_ble_eq_true rfl) dX6_drift_4 ?_
  refine z_ifb_eq (tgt := 14) dX6_drift_7 (by decide) (fun c7 => ?_) (fun c7 => ?_)
  · refine z_iconst dX6_drift_14 ?_
    refine z_istore_1 rfl dX6_drift_15 ?_
    refine z_aload_0 dX6_drift_16 ?_
    refine z_getR (r := 1) fl_X6_10 zk_0 rfl rfl dX6_drift_17 ?_
    refine z_iconst dX6_drift_20 ?_
    refine z_putI fl_X6_193 (zw_k isW1) rfl dX6_drift_21 ?_
    refine z_iload_1 dX6_drift_24 ?_
    exact z_iret dX6_drift_25 (zPI (by (repeat (first | rw [if_pos (by omega)] | rw [if_neg (by omega)])) <;> rfl) rfl)
  · refine z_iconst dX6_drift_10 ?_
    refine z_goto (tgt := 15) dX6_drift_11 (by decide) ?_
    refine z_istore_1 rfl dX6_drift_15 ?_
    refine z_aload_0 dX6_drift_16 ?_
    refine z_getR (r := 1) fl_X6_10 zk_0 rfl rfl dX6_drift_17 ?_
    refine z_iconst dX6_drift_20 ?_
    refine z_putI fl_X6_193 (zw_k isW1) rfl dX6_drift_21 ?_
    refine z_iload_1 dX6_drift_24 ?_
    exact z_iret dX6_drift_25 (zPI (by (repeat (first | rw [if_pos (by omega)] | rw [if_neg (by omega)])) <;> rfl) rfl)

theorem c_X6_tear {M : zM} (hi : M 0 3 = 0 ∨ M 0 3 = 1) : Call yX6_tear cX6_tear 2 (some .int) 0 [vR 0] (M) (PI (M 0 3) (zput M 0 3 0)) := by
  refine Call.of2 (own := RX6) (lv0 := [some (vR 0), none]) rfl (by decide) rfl (Nat.le_of_ble_eq_true rfl) ?_
  refine z_aload_0 dX6_tear_0 ?_
  refine z_getI fl_X6_22 zk_0 rfl dX6_tear_1 ?_
  refine z_if_eq (tgt := 11) (by omega) dX6_tear_4 (by decide) (fun c4 => ?_) (fun c4 => ?_)
  · refine z_iconst dX6_tear_11 ?_
    refine z_istore_1 rfl dX6_tear_12 ?_
    refine z_aload_0 dX6_tear_13 ?_
    refine z_iconst dX6_tear_14 ?_
    refine z_putZ (by first | omega | exact zb_01) fl_X6_22 zk_0 rfl dX6_tear_15 ?_
    refine z_iload_1 dX6_tear_18 ?_
    exact z_iret dX6_tear_19 (zPI (by omega) rfl)
  · refine z_iconst dX6_tear_7 ?_
    refine z_goto (tgt := 12) dX6_tear_8 (by decide) ?_
    refine z_istore_1 rfl dX6_tear_12 ?_
    refine z_aload_0 dX6_tear_13 ?_
    refine z_iconst dX6_tear_14 ?_
    refine z_putZ (by first | omega | exact zb_01) fl_X6_22 zk_0 rfl dX6_tear_15 ?_
    refine z_iload_1 dX6_tear_18 ?_
    exact z_iret dX6_tear_19 (zPI (by omega) rfl)

theorem c_X6_count {M : zM} {a_ : Int} (hO : WOK M 1) (ht8 : -2147483648 ≤ M 1 8 ∧ M 1 8 < 2147483648) (ha : -2147483648 ≤ a_ ∧ a_ < 2147483648) : Call yX6_count cX6_count 2 (some .int) 2 [vR 0, vI a_] (M) (PI (if a_ = 0 then M 1 6 else if a_ = 1 then openC (gW M 1) (M 1 0) (M 1 6).toNat else if a_ = 2 then looksC (gW M 1) (M 1 6).toNat else if a_ = 3 then (if 0 < M 1 8 then 1 else 0) else if a_ = 4 then M 0 5 else if a_ = 5 then nextC (gW M 1) (M 1 0) (M 1 6).toNat else -1000000001) (if 0 ≤ a_ ∧ a_ ≤ 5 then M else fnd6 M 0)) := by
  refine Call.of2 (own := RX6) (lv0 := [some (vR 0), some (vI a_)]) rfl (by decide) rfl (Nat.le_of_ble_eq_true rfl) ?_
  obtain ⟨⟨t0_, t1_⟩, ⟨h0_, h1_⟩, hn, hp⟩ := id hO
  obtain ⟨n0_, n1_⟩ := hn.1
  refine z_iload_1 dX6_count_0 ?_
  rcases (show (a_ < 0 ∨ 5 < a_) ∨ a_ = 0 ∨ a_ = 1 ∨ a_ = 2 ∨ a_ = 3 ∨ a_ = 4 ∨ a_ = 5 from by omega) with c1 | c1 | c1 | c1 | c1 | c1 | c1
  · refine z_tsOut (tgt := 93) (by omega) dX6_count_1 c1 (by decide) ?_
    refine z_aload_0 dX6_count_93 ?_
    refine z_ldc (n := -1000000001) kc_X6_79 (by decide) dX6_count_94 ?_
    refine z_cVI yv_X6_finding ml_X6_80 (c_X6_finding (by omega)) zk_0 rfl rfl (by decide) (Nat.le_of_ble_eq_true rfl) dX6_count_96 ?_
    exact z_iret dX6_count_99 (zPI (by (repeat (first | rw [if_pos (by omega)] | rw [if_neg (by omega)])) <;> rfl) (by (repeat (first | rw [if_pos (by omega)] | rw [if_neg (by omega)])) <;> rfl))
  · refine z_tsIn (off := 39) (tgt := 40) (by omega) dX6_count_1 (by omega) (by omega) (by rw [c1]; rfl) (by decide) ?_
    refine z_aload_0 dX6_count_40 ?_
    refine z_getR (r := 1) fl_X6_10 zk_0 rfl rfl dX6_count_41 ?_
    refine z_getI fl_X6_125 (zw_k isW1) rfl dX6_count_44 ?_
    exact z_iret dX6_count_47 (zPI (by (repeat (first | rw [if_pos (by omega)] | rw [if_neg (by omega)])) <;> rfl) (by (repeat (first | rw [if_pos (by omega)] | rw [if_neg (by omega)])) <;> rfl))
  · refine z_tsIn (off := 47) (tgt := 48) (by omega) dX6_count_1 (by omega) (by omega) (by rw [c1]; rfl) (by decide) ?_
    refine z_aload_0 dX6_count_48 ?_
    refine z_getR (r := 1) fl_X6_10 zk_0 rfl rfl dX6_count_49 ?_
    refine z_cVI yv_X5_openOnes ml_X6_307 (c_X5_openOnes isW1 hn ⟨t0_, t1_⟩) (zw_k isW1) rfl rfl (by decide) (Nat.le_of_ble_eq_true rfl) dX6_count_52 ?_
    exact z_iret dX6_count_55 (zPI (by (repeat (first | rw [if_pos (by omega)] | rw [if_neg (by omega)])) <;> rfl) (by (repeat (first | rw [if_pos (by omega)] | rw [if_neg (by omega)])) <;> rfl))
  · refine z_tsIn (off := 55) (tgt := 56) (by omega) dX6_count_1 (by omega) (by omega) (by rw [c1]; rfl) (by decide) ?_
    refine z_aload_0 dX6_count_56 ?_
    refine z_getR (r := 1) fl_X6_10 zk_0 rfl rfl dX6_count_57 ?_
    refine z_cVI yv_X5_allLooks ml_X6_311 (c_X5_allLooks isW1 hn) (zw_k isW1) rfl rfl (by decide) (Nat.le_of_ble_eq_true rfl) dX6_count_60 ?_
    exact z_iret dX6_count_63 (zPI (by (repeat (first | rw [if_pos (by omega)] | rw [if_neg (by omega)])) <;> rfl) (by (repeat (first | rw [if_pos (by omega)] | rw [if_neg (by omega)])) <;> rfl))
  · refine z_tsIn (off := 63) (tgt := 64) (by omega) dX6_count_1 (by omega) (by omega) (by rw [c1]; rfl) (by decide) ?_
    refine z_aload_0 dX6_count_64 ?_
    refine z_getR (r := 1) fl_X6_10 zk_0 rfl rfl dX6_count_65 ?_
    refine z_cVI yv_X5_hasRule ml_X6_196 (c_X5_hasRule isW1 ht8) (zw_k isW1) rfl rfl (by decide) (Nat.le_of_ble_eq_true rfl) dX6_count_68 ?_
    refine z_ifb_eq (tgt := 78) dX6_count_71 (by decide) (fun c71 => ?_) (fun c71 => ?_)
    · refine z_iconst dX6_count_78 ?_
      exact z_iret dX6_count_79 (zPI (by (repeat (first | rw [if_pos (by omega)] | rw [if_neg (by omega)])) <;> rfl) (by (repeat (first | rw [if_pos (by omega)] | rw [if_neg (by omega)])) <;> rfl))
    · refine z_iconst dX6_count_74 ?_
      refine z_goto (tgt := 79) dX6_count_75 (by decide) ?_
      exact z_iret dX6_count_79 (zPI (by (repeat (first | rw [if_pos (by omega)] | rw [if_neg (by omega)])) <;> rfl) (by (repeat (first | rw [if_pos (by omega)] | rw [if_neg (by omega)])) <;> rfl))
  · refine z_tsIn (off := 79) (tgt := 80) (by omega) dX6_count_1 (by omega) (by omega) (by rw [c1]; rfl) (by decide) ?_
    refine z_aload_0 dX6_count_80 ?_
    refine z_getI fl_X6_30 zk_0 rfl dX6_count_81 ?_
    exact z_iret dX6_count_84 (zPI (by (repeat (first | rw [if_pos (by omega)] | rw [if_neg (by omega)])) <;> rfl) (by (repeat (first | rw [if_pos (by omega)] | rw [if_neg (by omega)])) <;> rfl))
  · refine z_tsIn (off := 84) (tgt := 85) (by omega) dX6_count_1 (by omega) (by omega) (by rw [c1]; rfl) (by decide) ?_
    refine z_aload_0 dX6_count_85 ?_
    refine z_getR (r := 1) fl_X6_10 zk_0 rfl rfl dX6_count_86 ?_
    refine z_cVI yv_X5_nextWarned ml_X6_314 (c_X5_nextWarned isW1 hn ⟨t0_, t1_⟩) (zw_k isW1) rfl rfl (by decide) (Nat.le_of_ble_eq_true rfl) dX6_count_89 ?_
    exact z_iret dX6_count_92 (zPI (by (repeat (first | rw [if_pos (by omega)] | rw [if_neg (by omega)])) <;> rfl) (by (repeat (first | rw [if_pos (by omega)] | rw [if_neg (by omega)])) <;> rfl))
