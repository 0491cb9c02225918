theorem c_X7_in {M : zM} {v_ a_ b_ : Int} (hv : -9223372036854775808 ≤ v_ ∧ v_ < 9223372036854775808) (ha : -9223372036854775808 ≤ a_ ∧ a_ < 9223372036854775808) (hb : -9223372036854775808 ≤ b_ ∧ b_ < 9223372036854775808) : Call yX7_in cX7_in 6 (some .boolean) 0 [vJ v_, vJ a_, vJ b_] (M) (PI (zb (a_ ≤ v_ ∧ v_ ≤ b_)) M) := by
  refine Call.of2 (own := RX7) (lv0 := [some (vJ v_), none, some (vJ a_), none, some (vJ b_), none]) rfl (by decide) rfl (Nat.le_of_ble_eq_true rfl) ?_
  refine z_lload_0 dX7_in_0 ?_
  refine z_lload_2 dX7_in_1 ?_
  refine z_lcmp_lt (tgt := 17) (by omega) (by omega) dX7_in_2 dX7_in_3 (by decide) (fun c2 => ?_) (fun c2 => ?_)
  · refine z_iconst dX7_in_17 ?_
    exact z_zret (by first | exact Or.inl rfl | exact Or.inr rfl | exact zb_01 | omega) dX7_in_18 (zPI (by first | exact (zb_t (by omega)).symm | exact (zb_f (by omega)).symm) rfl)
  · refine z_lload_0 dX7_in_6 ?_
    refine z_lload_4 dX7_in_7 ?_
    refine z_lcmp_gt (tgt := 17) (by omega) (by omega) dX7_in_9 dX7_in_10 (by decide) (fun c9 => ?_) (fun c9 => ?_)
    · refine z_iconst dX7_in_17 ?_
      exact z_zret (by first | exact Or.inl rfl | exact Or.inr rfl | exact zb_01 | omega) dX7_in_18 (zPI (by first | exact (zb_t (by omega)).symm | exact (zb_f (by omega)).symm) rfl)
    · refine z_iconst dX7_in_13 ?_
      refine z_goto (tgt := 18) dX7_in_14 (by decide) ?_
      exact z_zret (by first | exact Or.inl rfl | exact Or.inr rfl | exact zb_01 | omega) dX7_in_18 (zPI (by first | exact (zb_t (by omega)).symm | exact (zb_f (by omega)).symm) rfl)

theorem c_X7_size {M : zM} {v_ : Int} (hv : -2147483648 ≤ v_ ∧ v_ < 2147483648) : Call yX7_size cX7_size 1 (some .int) 0 [vI v_] (M) (PI (zabs v_) M) := by
  refine Call.of2 (own := RX7) (lv0 := [some (vI v_)]) rfl (by decide) rfl (Nat.le_of_ble_eq_true rfl) ?_
  refine z_iload_0 dX7_size_0 ?_
  refine z_if_ge (tgt := 9) (by omega) dX7_size_1 (by decide) (fun c1 => ?_) (fun c1 => ?_)
  · refine z_iload_0 dX7_size_9 ?_
    exact z_iret dX7_size_10 (zPI (by unfold zabs; first | (rw [if_pos (by omega)]; done) | (rw [if_neg (by omega)]; done)) rfl)
  · refine z_iload_0 dX7_size_4 ?_
    refine z_ineg dX7_size_5 ?_
    refine z_goto (tgt := 10) dX7_size_6 (by decide) ?_
    exact z_iret dX7_size_10 (zPI (by unfold zabs; first | (rw [if_pos (by omega)]; done) | (rw [if_neg (by omega)]; done)) rfl)

theorem c_X7_finding {M : zM} {v_ : Int} (hv : 0 ≤ v_ ∧ v_ < 7) : Call yX7_finding cX7_finding 2 (some .int) 0 [vR 75, vI v_] (M) (PI (-1000000001 - v_) (zput M 78 v_ (M 78 v_ + 1))) := by
  refine Call.of2 (own := RX7) (lv0 := [some (vR 75), some (vI v_)]) rfl (by decide) rfl (Nat.le_of_ble_eq_true rfl) ?_
  refine z_aload_0 dX7_finding_0 ?_
  refine z_getR (r := 78) fl_X7_16 zk_75 rfl rfl dX7_finding_1 ?_
  refine z_iload_1 dX7_finding_4 ?_
  refine z_dup2_11 rfl rfl dX7_finding_5 ?_
  refine z_iald (n := 7) zk_78 rfl (by omega) dX7_finding_6 ?_
  refine z_iconst dX7_finding_7 ?_
  refine z_iadd dX7_finding_8 ?_
  refine z_iast (n := 7) zk_78 rfl (by omega) dX7_finding_9 ?_
  refine z_ldc (n := -1000000001) kc_X7_70 (by decide) dX7_finding_10 ?_
  refine z_iload_1 dX7_finding_12 ?_
  refine z_isub dX7_finding_13 ?_
  exact z_iret dX7_finding_14 (zPI rfl rfl)

theorem c_X7_its {M : zM} {v_ : Int} (hv : 0 ≤ v_ ∧ v_ < 214) : Call yX7_its cX7_its 2 (some .int) 0 [vR 75, vI v_] (M) (PI (M 76 v_) M) := by
  refine Call.of2 (own := RX7) (lv0 := [some (vR 75), some (vI v_)]) rfl (by decide) rfl (Nat.le_of_ble_eq_true rfl) ?_
  refine z_aload_0 dX7_its_0 ?_
  refine z_getR (r := 76) fl_X7_7 zk_75 rfl rfl dX7_its_1 ?_
  refine z_iload_1 dX7_its_4 ?_
  refine z_lald (n := 214) zk_76 rfl (by omega) dX7_its_5 ?_
  refine z_l2i dX7_its_6 ?_
  exact z_iret dX7_its_7 (zPI rfl rfl)

theorem c_X7_today {M : zM}  : Call yX7_today cX7_today 1 (some .int) 1 [vR 75] (M) (PI (M 76 0) M) := by
  refine Call.of2 (own := RX7) (lv0 := [some (vR 75)]) rfl (by decide) rfl (Nat.le_of_ble_eq_true rfl) ?_
  refine z_aload_0 dX7_today_0 ?_
  refine z_iconst dX7_today_1 ?_
  refine z_cVI yv_X7_its ml_X7_71 (c_X7_its (by omega)) zk_75 rfl rfl (by decide) (Nat.le_of_ble_eq_true rfl) dX7_today_2 ?_
  exact z_iret dX7_today_5 (zPI rfl rfl)

theorem c_X7_height {M : zM}  : Call yX7_height cX7_height 1 (some .int) 1 [vR 75] (M) (PI (M 76 1) M) := by
  refine Call.of2 (own := RX7) (lv0 := [some (vR 75)]) rfl (by decide) rfl (Nat.le_of_ble_eq_true rfl) ?_
  refine z_aload_0 dX7_height_0 ?_
  refine z_iconst dX7_height_1 ?_
  refine z_cVI yv_X7_its ml_X7_71 (c_X7_its (by omega)) zk_75 rfl rfl (by decide) (Nat.le_of_ble_eq_true rfl) dX7_height_2 ?_
  exact z_iret dX7_height_5 (zPI rfl rfl)

theorem c_X7_fuel {M : zM}  : Call yX7_fuel cX7_fuel 1 (some .int) 1 [vR 75] (M) (PI (M 76 7) M) := by
  refine Call.of2 (own := RX7) (lv0 := [some (vR 75)]) rfl (by decide) rfl (Nat.le_of_ble_eq_true rfl) ?_
  refine z_aload_0 dX7_fuel_0 ?_
  refine z_bipush dX7_fuel_1 (by decide) ?_
  refine z_cVI yv_X7_its ml_X7_71 (c_X7_its (by omega)) zk_75 rfl rfl (by decide) (Nat.le_of_ble_eq_true rfl) dX7_fuel_3 ?_
  exact z_iret dX7_fuel_6 (zPI rfl rfl)

theorem c_X7_mostOf {M : zM} {v_ : Int} (hv : 0 ≤ v_ ∧ v_ ≤ 5) : Call yX7_mostOf cX7_mostOf 1 (some .long) 0 [vI v_] (M) (PJ (zsf 1 v_) M) := by
  refine Call.of2 (own := RX7) (lv0 := [some (vI v_)]) rfl (by decide) rfl (Nat.le_of_ble_eq_true rfl) ?_
  refine z_iload_0 dX7_mostOf_0 ?_
  rcases (show (v_ < 0 ∨ 3 < v_) ∨ v_ = 0 ∨ v_ = 1 ∨ v_ = 2 ∨ v_ = 3 from by omega) with c1 | c1 | c1 | c1 | c1
  · refine z_tsOut (tgt := 48) (by omega) dX7_mostOf_1 c1 (by decide) ?_
    refine z_ldc2 (n := 60) kl_X7_81 (by decide) dX7_mostOf_48 ?_
    exact z_lret dX7_mostOf_51 (zPJ (by rcases (show v_ = 0 ∨ v_ = 1 ∨ v_ = 2 ∨ v_ = 3 ∨ v_ = 4 ∨ v_ = 5 by omega) with h_ | h_ | h_ | h_ | h_ | h_ <;> rw [h_] <;> first | rfl | (exfalso; omega)) rfl)
  · refine z_tsIn (off := 31) (tgt := 32) (by omega) dX7_mostOf_1 (by omega) (by omega) (by rw [c1]; rfl) (by decide) ?_
    refine z_ldc2 (n := 9) kl_X7_68 (by decide) dX7_mostOf_32 ?_
    exact z_lret dX7_mostOf_35 (zPJ (by rcases (show v_ = 0 ∨ v_ = 1 ∨ v_ = 2 ∨ v_ = 3 ∨ v_ = 4 ∨ v_ = 5 by omega) with h_ | h_ | h_ | h_ | h_ | h_ <;> rw [h_] <;> first | rfl | (exfalso; omega)) rfl)
  · refine z_tsIn (off := 35) (tgt := 36) (by omega) dX7_mostOf_1 (by omega) (by omega) (by rw [c1]; rfl) (by decide) ?_
    refine z_ldc2 (n := 9999) kl_X7_75 (by decide) dX7_mostOf_36 ?_
    exact z_lret dX7_mostOf_39 (zPJ (by rcases (show v_ = 0 ∨ v_ = 1 ∨ v_ = 2 ∨ v_ = 3 ∨ v_ = 4 ∨ v_ = 5 by omega) with h_ | h_ | h_ | h_ | h_ | h_ <;> rw [h_] <;> first | rfl | (exfalso; omega)) rfl)
  · refine z_tsIn (off := 39) (tgt := 40) (by omega) dX7_mostOf_1 (by omega) (by omega) (by rw [c1]; rfl) (by decide) ?_
    refine z_ldc2 (n := 999) kl_X7_77 (by decide) dX7_mostOf_40 ?_
    exact z_lret dX7_mostOf_43 (zPJ (by rcases (show v_ = 0 ∨ v_ = 1 ∨ v_ = 2 ∨ v_ = 3 ∨ v_ = 4 ∨ v_ = 5 by omega) with h_ | h_ | h_ | h_ | h_ | h_ <;> rw [h_] <;> first | rfl | (exfalso; omega)) rfl)
  · refine z_tsIn (off := 43) (tgt := 44) (by omega) dX7_mostOf_1 (by omega) (by omega) (by rw [c1]; rfl) (by decide) ?_
    refine z_ldc2 (n := 99999999) kl_X7_79 (by decide) dX7_mostOf_44 ?_
    exact z_lret dX7_mostOf_47 (zPJ (by rcases (show v_ = 0 ∨ v_ = 1 ∨ v_ = 2 ∨ v_ = 3 ∨ v_ = 4 ∨ v_ = 5 by omega) with h_ | h_ | h_ | h_ | h_ | h_ <;> rw [h_] <;> first | rfl | (exfalso; omega)) rfl)

theorem c_X7_isMove {M : zM} {v_ : Int} (hv : -9223372036854775808 ≤ v_ ∧ v_ < 9223372036854775808) : Call yX7_isMove cX7_isMove 2 (some .boolean) 1 [vJ v_] (M) (PI (zb (-24 ≤ v_ ∧ v_ ≤ 24)) M) := by
  refine Call.of2 (own := RX7) (lv0 := [some (vJ v_), none]) rfl (by decide) rfl (Nat.le_of_ble_eq_true rfl) ?_
  refine z_lload_0 dX7_isMove_0 ?_
  refine z_ldc2 (n := -24) kl_X7_103 (by decide) dX7_isMove_1 ?_
  refine z_ldc2 (n := 24) kl_X7_105 (by decide) dX7_isMove_4 ?_
  refine z_cSI ys_X7_in ml_X7_85 (c_X7_in (by omega) (by decide) (by decide)) rfl rfl (by decide) (Nat.le_of_ble_eq_true rfl) dX7_isMove_7 ?_
  exact z_zret (by first | exact Or.inl rfl | exact Or.inr rfl | exact zb_01 | omega) dX7_isMove_10 (zPI rfl rfl)

theorem c_X7_isHeight {M : zM} {v_ : Int} (hv : -2147483648 ≤ v_ ∧ v_ < 2147483648) : Call yX7_isHeight cX7_isHeight 1 (some .boolean) 1 [vI v_] (M) (PI (zb (-12 ≤ v_ ∧ v_ ≤ 12)) M) := by
  refine Call.of2 (own := RX7) (lv0 := [some (vI v_)]) rfl (by decide) rfl (Nat.le_of_ble_eq_true rfl) ?_
  refine z_iload_0 dX7_isHeight_0 ?_
  refine z_i2l (by omega) dX7_isHeight_1 ?_
  refine z_ldc2 (n := -12) kl_X7_96 (by decide) dX7_isHeight_2 ?_
  refine z_ldc2 (n := 12) kl_X7_98 (by decide) dX7_isHeight_5 ?_
  refine z_cSI ys_X7_in ml_X7_85 (c_X7_in (by omega) (by decide) (by decide)) rfl rfl (by decide) (Nat.le_of_ble_eq_true rfl) dX7_isHeight_8 ?_
  exact z_zret (by first | exact Or.inl rfl | exact Or.inr rfl | exact zb_01 | omega) dX7_isHeight_11 (zPI rfl rfl)

theorem c_X7_isDay {M : zM} {v_ : Int} (hv : -2147483648 ≤ v_ ∧ v_ < 2147483648) : Call yX7_isDay cX7_isDay 1 (some .boolean) 1 [vI v_] (M) (PI (zb (0 ≤ v_ ∧ v_ ≤ 999)) M) := by
  refine Call.of2 (own := RX7) (lv0 := [some (vI v_)]) rfl (by decide) rfl (Nat.le_of_ble_eq_true rfl) ?_
  refine z_iload_0 dX7_isDay_0 ?_
  refine z_i2l (by omega) dX7_isDay_1 ?_
  refine z_lconst0 dX7_isDay_2 ?_
  refine z_ldc2 (n := 999) kl_X7_77 (by decide) dX7_isDay_3 ?_
  refine z_cSI ys_X7_in ml_X7_85 (c_X7_in (by omega) (by decide) (by decide)) rfl rfl (by decide) (Nat.le_of_ble_eq_true rfl) dX7_isDay_6 ?_
  exact z_zret (by first | exact Or.inl rfl | exact Or.inr rfl | exact zb_01 | omega) dX7_isDay_9 (zPI rfl rfl)

theorem c_X7_isAhead {M : zM} {v_ : Int} (hv : -2147483648 ≤ v_ ∧ v_ < 2147483648) : Call yX7_isAhead cX7_isAhead 1 (some .boolean) 1 [vI v_] (M) (PI (zb (1 ≤ v_ ∧ v_ ≤ 8)) M) := by
  refine Call.of2 (own := RX7) (lv0 := [some (vI v_)]) rfl (by decide) rfl (Nat.le_of_ble_eq_true rfl) ?_
  refine z_iload_0 dX7_isAhead_0 ?_
  refine z_i2l (by omega) dX7_isAhead_1 ?_
  refine z_lconst1 dX7_isAhead_2 ?_
  refine z_ldc2 (n := 8) kl_X7_268 (by decide) dX7_isAhead_3 ?_
  refine z_cSI ys_X7_in ml_X7_85 (c_X7_in (by omega) (by decide) (by decide)) rfl rfl (by decide) (Nat.le_of_ble_eq_true rfl) dX7_isAhead_6 ?_
  exact z_zret (by first | exact Or.inl rfl | exact Or.inr rfl | exact zb_01 | omega) dX7_isAhead_9 (zPI rfl rfl)

theorem c_X7_isSheet {M : zM} {v_ : Int} (hv : -2147483648 ≤ v_ ∧ v_ < 2147483648) : Call yX7_isSheet cX7_isSheet 1 (some .boolean) 1 [vI v_] (M) (PI (zb (0 ≤ v_ ∧ v_ ≤ 3)) M) := by
  refine Call.of2 (own := RX7) (lv0 := [some (vI v_)]) rfl (by decide) rfl (Nat.le_of_ble_eq_true rfl) ?_
  refine z_iload_0 dX7_isSheet_0 ?_
  refine z_i2l (by omega) dX7_isSheet_1 ?_
  refine z_lconst0 dX7_isSheet_2 ?_
  refine z_ldc2 (n := 3) kl_X7_273 (by decide) dX7_isSheet_3 ?_
  refine z_cSI ys_X7_in ml_X7_85 (c_X7_in (by omega) (by decide) (by decide)) rfl rfl (by decide) (Nat.le_of_ble_eq_true rfl) dX7_isSheet_6 ?_
  exact z_zret (by first | exact Or.inl rfl | exact Or.inr rfl | exact zb_01 | omega) dX7_isSheet_9 (zPI rfl rfl)

theorem c_X7_can {M : zM} {h f_ s_ : Int} (hp : pOK (pS (M 76))) (hh : -12 ≤ h ∧ h ≤ 12) (hf : -1000 ≤ f_ ∧ f_ ≤ 1000) (hs : -24 ≤ s_ ∧ s_ ≤ 24) : Call yX7_can cX7_can 4 (some .boolean) 1 [vR 75, vI h, vI f_, vI s_] (M) (PI (zb (s_ = 0 ∨ (-12 ≤ h + s_ ∧ h + s_ ≤ 12) ∧ M 76 6 ≤ f_ - M 76 2 * zabs s_)) M) := by
  refine Call.of2 (own := RX7) (lv0 := [some (vR 75), some (vI h), some (vI f_), some (vI s_)]) rfl (by decide) rfl (Nat.le_of_ble_eq_true rfl) ?_
  obtain ⟨⟨p00, p01⟩, ⟨p10, p11⟩, ⟨p20, p21⟩, ⟨p30, p31⟩, ⟨p40, p41⟩, ⟨p50, p51⟩⟩ := pOK_s hp
  have hz_ := zabs_cases s_
  have hm_ := mul_box (a := M 76 2) (b := zabs s_) (by omega) p01 zabs_le (show _ ≤ 24 by omega)
  refine z_iload_3 dX7_can_0 ?_
  refine z_if_eq (tgt := 41) (by omega) dX7_can_1 (by decide) (fun c1 => ?_) (fun c1 => ?_)
  · refine z_iconst dX7_can_41 ?_
    refine z_goto (tgt := 46) dX7_can_42 (by decide) ?_
    exact z_zret (by first | exact Or.inl rfl | exact Or.inr rfl | exact zb_01 | omega) dX7_can_46 (zPI (by first | exact (zb_t (by omega)).symm | exact (zb_f (by omega)).symm) rfl)
  · refine z_iload_1 dX7_can_4 ?_
    refine z_iload_3 dX7_can_5 ?_
    refine z_iadd dX7_can_6 ?_
    refine z_i2l (by omega) dX7_can_7 ?_
    refine z_ldc2 (n := -12) kl_X7_96 (by decide) dX7_can_8 ?_
    refine z_ldc2 (n := 12) kl_X7_98 (by decide) dX7_can_11 ?_
    refine z_cSI ys_X7_in ml_X7_85 (c_X7_in (by omega) (by decide) (by decide)) rfl rfl (by decide) (Nat.le_of_ble_eq_true rfl) dX7_can_14 ?_
    refine z_ifb_eq (tgt := 45) dX7_can_17 (by decide) (fun c17 => ?_) (fun c17 => ?_)
    · refine z_iconst dX7_can_45 ?_
      exact z_zret (by first | exact Or.inl rfl | exact Or.inr rfl | exact zb_01 | omega) dX7_can_46 (zPI (by first | exact (zb_t (by omega)).symm | exact (zb_f (by omega)).symm) rfl)
    · refine z_iload_2 dX7_can_20 ?_
      refine z_aload_0 dX7_can_21 ?_
      refine z_iconst dX7_can_22 ?_
      refine z_cVI yv_X7_its ml_X7_71 (c_X7_its (by omega)) zk_75 rfl rfl (by decide) (Nat.le_of_ble_eq_true rfl) dX7_can_23 ?_
      refine z_iload_3 dX7_can_26 ?_
      refine z_cSI ys_X7_size ml_X7_100 (c_X7_size (by omega)) rfl rfl (by decide) (Nat.le_of_ble_eq_true rfl) dX7_can_27 ?_
      refine z_imul dX7_can_30 ?_
      refine z_isub dX7_can_31 ?_
      refine z_aload_0 dX7_can_32 ?_
      refine z_bipush dX7_can_33 (by decide) ?_
      refine z_cVI yv_X7_its ml_X7_71 (c_X7_its (by omega)) zk_75 rfl rfl (by decide) (Nat.le_of_ble_eq_true rfl) dX7_can_35 ?_
      refine z_icmp_lt (tgt := 45) (by omega) (by omega) dX7_can_38 (by decide) (fun c38 => ?_) (fun c38 => ?_)
      · refine z_iconst dX7_can_45 ?_
        exact z_zret (by first | exact Or.inl rfl | exact Or.inr rfl | exact zb_01 | omega) dX7_can_46 (zPI (by first | exact (zb_t (by omega)).symm | exact (zb_f (by omega)).symm) rfl)
      · refine z_iconst dX7_can_41 ?_
        refine z_goto (tgt := 46) dX7_can_42 (by decide) ?_
        exact z_zret (by first | exact Or.inl rfl | exact Or.inr rfl | exact zb_01 | omega) dX7_can_46 (zPI (by first | exact (zb_t (by omega)).symm | exact (zb_f (by omega)).symm) rfl)

theorem c_X7_goes {M : zM} {s_ : Int} (hs : -24 ≤ s_ ∧ s_ ≤ 24) : Call yX7_goes cX7_goes 2 none 1 [vR 75, vI s_] (M) (PN (zput (zput M 76 1 (M 76 1 + s_)) 76 7 (M 76 7 - M 76 2 * zabs s_))) := by
  refine Call.of2 (own := RX7) (lv0 := [some (vR 75), some (vI s_)]) rfl (by decide) rfl (Nat.le_of_ble_eq_true rfl) ?_
  have hz_ := zabs_cases s_
  refine z_aload_0 dX7_goes_0 ?_
  refine z_getR (r := 76) fl_X7_7 zk_75 rfl rfl dX7_goes_1 ?_
  refine z_iconst dX7_goes_4 ?_
  refine z_dup2_11 rfl rfl dX7_goes_5 ?_
  refine z_lald (n := 214) zk_76 rfl (by omega) dX7_goes_6 ?_
  refine z_iload_1 dX7_goes_7 ?_
  refine z_i2l (by omega) dX7_goes_8 ?_
  refine z_ladd dX7_goes_9 ?_
  refine z_last (n := 214) zk_76 rfl (by omega) dX7_goes_10 ?_
  refine z_aload_0 dX7_goes_11 ?_
  refine z_getR (r := 76) fl_X7_7 zk_75 rfl rfl dX7_goes_12 ?_
  refine z_bipush dX7_goes_15 (by decide) ?_
  refine z_dup2_11 rfl rfl dX7_goes_17 ?_
  refine z_laldv (n := 214) (v := (M 76 7)) zk_76 rfl (by omega) (by rw [zput_ne2 (by decide)]) dX7_goes_18 ?_
  refine z_aload_0 dX7_goes_19 ?_
  refine z_getR (r := 76) fl_X7_7 zk_75 rfl rfl dX7_goes_20 ?_
  refine z_iconst dX7_goes_23 ?_
  refine z_laldv (n := 214) (v := (M 76 2)) zk_76 rfl (by omega) (by rw [zput_ne2 (by decide)]) dX7_goes_24 ?_
  refine z_iload_1 dX7_goes_25 ?_
  refine z_cSI ys_X7_size ml_X7_100 (c_X7_size (by omega)) rfl rfl (by decide) (Nat.le_of_ble_eq_true rfl) dX7_goes_26 ?_
  refine z_i2l (by omega) dX7_goes_29 ?_
  refine z_lmul dX7_goes_30 ?_
  refine z_lsub dX7_goes_31 ?_
  refine z_last (n := 214) zk_76 rfl (by omega) dX7_goes_32 ?_
  exact z_vret dX7_goes_33 (zPN rfl)

theorem c_X7_useAt {M : zM} {h : Int} (hp : pOK (pS (M 76))) (hh : -12 ≤ h ∧ h ≤ 12) : Call yX7_useAt cX7_useAt 4 (some .long) 1 [vR 75, vI h] (M) (PJ (useS (pS (M 76)) h) M) := by
  refine Call.of2 (own := RX7) (lv0 := [some (vR 75), some (vI h), none, none]) rfl (by decide) rfl (Nat.le_of_ble_eq_true rfl) ?_
  obtain ⟨⟨p00, p01⟩, ⟨p10, p11⟩, ⟨p20, p21⟩, ⟨p30, p31⟩, ⟨p40, p41⟩, ⟨p50, p51⟩⟩ := pOK_s hp
  have hz_ := zabs_cases h
  have hm_ := mul_box (a := M 76 4) (b := zabs h) p20 p21 zabs_le (show _ ≤ 12 by omega)
  refine z_aload_0 dX7_useAt_0 ?_
  refine z_getR (r := 76) fl_X7_7 zk_75 rfl rfl dX7_useAt_1 ?_
  refine z_iconst dX7_useAt_4 ?_
  refine z_lald (n := 214) zk_76 rfl (by omega) dX7_useAt_5 ?_
  refine z_aload_0 dX7_useAt_6 ?_
  refine z_getR (r := 76) fl_X7_7 zk_75 rfl rfl dX7_useAt_7 ?_
  refine z_iconst dX7_useAt_10 ?_
  refine z_lald (n := 214) zk_76 rfl (by omega) dX7_useAt_11 ?_
  refine z_iload_1 dX7_useAt_12 ?_
  refine z_cSI ys_X7_size ml_X7_100 (c_X7_size (by omega)) rfl rfl (by decide) (Nat.le_of_ble_eq_true rfl) dX7_useAt_13 ?_
  refine z_i2l (by omega) dX7_useAt_16 ?_
  refine z_lmul dX7_useAt_17 ?_
  refine z_lsub dX7_useAt_18 ?_
  refine z_lstore_2 rfl dX7_useAt_19 ?_
  refine z_lload_2 dX7_useAt_20 ?_
  refine z_lconst0 dX7_useAt_21 ?_
  refine z_lcmp_ge (tgt := 30) (by omega) (by decide) dX7_useAt_22 dX7_useAt_23 (by decide) (fun c22 => ?_) (fun c22 => ?_)
  · refine z_lload_2 dX7_useAt_30 ?_
    exact z_lret dX7_useAt_31 (zPJ (by unfold useS; show _ = if M 76 3 - M 76 4 * zabs h < 0 then 0 else M 76 3 - M 76 4 * zabs h; first | (rw [if_pos (by omega)]; done) | (rw [if_neg (by omega)]; done)) rfl)
  · refine z_lconst0 dX7_useAt_26 ?_
    refine z_goto (tgt := 31) dX7_useAt_27 (by decide) ?_
    exact z_lret dX7_useAt_31 (zPJ (by unfold useS; show _ = if M 76 3 - M 76 4 * zabs h < 0 then 0 else M 76 3 - M 76 4 * zabs h; first | (rw [if_pos (by omega)]; done) | (rw [if_neg (by omega)]; done)) rfl)

theorem c_X7_of1 {M : zM} {w_ f_ : Int} (hw : 0 ≤ w_ ∧ w_ ≤ 11) (hf : 0 ≤ f_ ∧ f_ ≤ 5) : Call yX7_of1 cX7_of1 3 (some .int) 1 [vR 75, vI w_, vI f_] (M) (PI (M 76 (12 + 6 * w_ + f_)) M) := by
  refine Call.of2 (own := RX7) (lv0 := [some (vR 75), some (vI w_), some (vI f_)]) rfl (by decide) rfl (Nat.le_of_ble_eq_true rfl) ?_
  refine z_aload_0 dX7_of1_0 ?_
  refine z_bipush dX7_of1_1 (by decide) ?_
  refine z_bipush dX7_of1_3 (by decide) ?_
  refine z_iload_1 dX7_of1_5 ?_
  refine z_imul dX7_of1_6 ?_
  refine z_iadd dX7_of1_7 ?_
  refine z_iload_2 dX7_of1_8 ?_
  refine z_iadd dX7_of1_9 ?_
  refine z_cVI yv_X7_its ml_X7_71 (c_X7_its (by omega)) zk_75 rfl rfl (by decide) (Nat.le_of_ble_eq_true rfl) dX7_of1_10 ?_
  exact z_iret dX7_of1_13 (zPI rfl rfl)

theorem c_X7_isWarning {M : zM} {w_ : Int} (hw : -2147483648 ≤ w_ ∧ w_ < 2147483648) (hn : 0 ≤ M 76 10 ∧ M 76 10 ≤ 12) : Call yX7_isWarning cX7_isWarning 2 (some .boolean) 1 [vR 75, vI w_] (M) (PI (zb (0 ≤ w_ ∧ w_ ≤ M 76 10 - 1)) M) := by
  refine Call.of2 (own := RX7) (lv0 := [some (vR 75), some (vI w_)]) rfl (by decide) rfl (Nat.le_of_ble_eq_true rfl) ?_
  refine z_iload_1 dX7_isWarning_0 ?_
  refine z_i2l (by omega) dX7_isWarning_1 ?_
  refine z_lconst0 dX7_isWarning_2 ?_
  refine z_aload_0 dX7_isWarning_3 ?_
  refine z_getR (r := 76) fl_X7_7 zk_75 rfl rfl dX7_isWarning_4 ?_
  refine z_bipush dX7_isWarning_7 (by decide) ?_
  refine z_lald (n := 214) zk_76 rfl (by omega) dX7_isWarning_9 ?_
  refine z_lconst1 dX7_isWarning_10 ?_
  refine z_lsub dX7_isWarning_11 ?_
  refine z_cSI ys_X7_in ml_X7_85 (c_X7_in (by omega) (by decide) (by omega)) rfl rfl (by decide) (Nat.le_of_ble_eq_true rfl) dX7_isWarning_12 ?_
  exact z_zret (by first | exact Or.inl rfl | exact Or.inr rfl | exact zb_01 | omega) dX7_isWarning_15 (zPI rfl rfl)

theorem c_X7_isOpen {M : zM} {w_ d_ : Int} (hw : 0 ≤ w_ ∧ w_ ≤ 11) (hg : wOK (gI (M 76) w_)) (hd : -2147483648 ≤ d_ ∧ d_ < 2147483648) : Call yX7_isOpen cX7_isOpen 3 (some .boolean) 2 [vR 75, vI w_, vI d_] (M) (PI (zb (d_ < M 76 (12 + 6 * w_ + 1))) M) := by
  refine Call.of2 (own := RX7) (lv0 := [some (vR 75), some (vI w_), some (vI d_)]) rfl (by decide) rfl (Nat.le_of_ble_eq_true rfl) ?_
  have hg1_ := (gOK_s hg).2.1
  refine z_aload_0 dX7_isOpen_0 ?_
  refine z_iload_1 dX7_isOpen_1 ?_
  refine z_iconst dX7_isOpen_2 ?_
  refine z_cVI yv_X7_of1 ml_X7_147 (c_X7_of1 (by omega) (by omega)) zk_75 rfl rfl (by decide) (Nat.le_of_ble_eq_true rfl) dX7_isOpen_3 ?_
  refine z_iload_2 dX7_isOpen_6 ?_
  refine z_icmp_le (tgt := 14) (by omega) (by omega) dX7_isOpen_7 (by decide) (fun c7 => ?_) (fun c7 => ?_)
  · refine z_iconst dX7_isOpen_14 ?_
    exact z_zret (by first | exact Or.inl rfl | exact Or.inr rfl | exact zb_01 | omega) dX7_isOpen_15 (zPI (by first | exact (zb_t (by omega)).symm | exact (zb_f (by omega)).symm) rfl)
  · refine z_iconst dX7_isOpen_10 ?_
    refine z_goto (tgt := 15) dX7_isOpen_11 (by decide) ?_
    exact z_zret (by first | exact Or.inl rfl | exact Or.inr rfl | exact zb_01 | omega) dX7_isOpen_15 (zPI (by first | exact (zb_t (by omega)).symm | exact (zb_f (by omega)).symm) rfl)

theorem c_X7_plain {M : zM} {c_ w_ d_ : Int} (hc : 0 ≤ c_ ∧ c_ ≤ 1000000) (hw : 0 ≤ w_ ∧ w_ ≤ 9) (hd : 0 ≤ d_ ∧ d_ ≤ 1000) : Call yX7_plain cX7_plain 3 (some .int) 0 [vI c_, vI w_, vI d_] (M) (PI (plainS c_ w_ d_) M) := by
  refine Call.of2 (own := RX7) (lv0 := [some (vI c_), some (vI w_), some (vI d_)]) rfl (by decide) rfl (Nat.le_of_ble_eq_true rfl) ?_
  refine z_iload_2 dX7_plain_0 ?_
  refine z_iload_1 dX7_plain_1 ?_
  refine z_icmp_le (tgt := 9) (by omega) (by omega) dX7_plain_2 (by decide) (fun c2 => ?_) (fun c2 => ?_)
  · refine z_iload_0 dX7_plain_9 ?_
    refine z_i2l (by omega) dX7_plain_10 ?_
    refine z_iload_1 dX7_plain_11 ?_
    refine z_iconst dX7_plain_12 ?_
    refine z_iadd dX7_plain_13 ?_
    refine z_iload_2 dX7_plain_14 ?_
    refine z_isub dX7_plain_15 ?_
    refine z_i2l (by omega) dX7_plain_16 ?_
    have hm_ := mul_box (a := c_) (b := w_ + 1 - d_) hc.1 hc.2 (by omega) (show _ ≤ 10 by omega)
    refine z_lmul dX7_plain_17 ?_
    refine z_iload_1 dX7_plain_18 ?_
    refine z_iconst dX7_plain_19 ?_
    refine z_iadd dX7_plain_20 ?_
    refine z_i2l (by omega) dX7_plain_21 ?_
    refine z_ldivp (by omega) (by omega) dX7_plain_22 ?_
    refine z_l2i dX7_plain_23 ?_
    exact z_iret dX7_plain_24 (zPI (by unfold plainS; first | (rw [if_pos (by omega)]; done) | (rw [if_neg (by omega)]; done)) rfl)
  · refine z_iconst dX7_plain_5 ?_
    refine z_goto (tgt := 24) dX7_plain_6 (by decide) ?_
    exact z_iret dX7_plain_24 (zPI (by unfold plainS; first | (rw [if_pos (by omega)]; done) | (rw [if_neg (by omega)]; done)) rfl)

theorem c_X7_close {M : zM} {v_ : Int} (hv : 0 ≤ v_ ∧ v_ ≤ 1000000) : Call yX7_close cX7_close 2 (some .int) 0 [vI v_] (M) (PI (closeS v_) M) := by
  refine Call.of2 (own := RX7) (lv0 := [some (vI v_), none]) rfl (by decide) rfl (Nat.le_of_ble_eq_true rfl) ?_
  refine z_iload_0 dX7_close_0 ?_
  refine z_iload_0 dX7_close_1 ?_
  refine z_iconst dX7_close_2 ?_
  refine z_idivp (by omega) (by decide) dX7_close_3 ?_
  refine z_iadd dX7_close_4 ?_
  refine z_istore_1 rfl dX7_close_5 ?_
  refine z_iload_1 dX7_close_6 ?_
  refine z_ldc (n := 1000000) kc_X7_160 (by decide) dX7_close_7 ?_
  refine z_icmp_le (tgt := 17) (by omega) (by decide) dX7_close_9 (by decide) (fun c9 => ?_) (fun c9 => ?_)
  · refine z_iload_1 dX7_close_17 ?_
    exact z_iret dX7_close_18 (zPI (by unfold closeS; first | (rw [if_pos (by omega)]; done) | (rw [if_neg (by omega)]; done)) rfl)
  · refine z_ldc (n := 1000000) kc_X7_160 (by decide) dX7_close_12 ?_
    refine z_goto (tgt := 18) dX7_close_14 (by decide) ?_
    exact z_iret dX7_close_18 (zPI (by unfold closeS; first | (rw [if_pos (by omega)]; done) | (rw [if_neg (by omega)]; done)) rfl)

theorem c_X7_struckBy {M : zM} {w_ h : Int} (hw : 0 ≤ w_ ∧ w_ ≤ 11) (hg : wOK (gI (M 76) w_)) (hh : -12 ≤ h ∧ h ≤ 12) : Call yX7_struckBy cX7_struckBy 6 (some .int) 2 [vR 75, vI w_, vI h] (M) (PI (strikeG (gI (M 76) w_) h) M) := by
  refine Call.of2 (own := RX7) (lv0 := [some (vR 75), some (vI w_), some (vI h), none, none, none]) rfl (by decide) rfl (Nat.le_of_ble_eq_true rfl) ?_
  obtain ⟨⟨hk0, hk1⟩, ⟨hd0, hd1⟩, ⟨ha0, ha1⟩, ⟨hw0, hw1⟩, ⟨hc0, hc1⟩, ⟨hl0, hl1⟩⟩ := gOK_s hg
  have hz_ := zabs_cases (h - M 76 (12 + 6 * w_ + 2))
  have hgk_ : ∀ f_, gI (M 76) w_ f_ = M 76 (12 + 6 * w_ + f_) := fun f_ => rfl
  refine z_aload_0 dX7_struckBy_0 ?_
  refine z_iload_1 dX7_struckBy_1 ?_
  refine z_iconst dX7_struckBy_2 ?_
  refine z_cVI yv_X7_of1 ml_X7_147 (c_X7_of1 (by omega) (by omega)) zk_75 rfl rfl (by decide) (Nat.le_of_ble_eq_true rfl) dX7_struckBy_3 ?_
  refine z_istore_3 rfl dX7_struckBy_6 ?_
  refine z_aload_0 dX7_struckBy_7 ?_
  refine z_iload_1 dX7_struckBy_8 ?_
  refine z_iconst dX7_struckBy_9 ?_
  refine z_cVI yv_X7_of1 ml_X7_147 (c_X7_of1 (by omega) (by omega)) zk_75 rfl rfl (by decide) (Nat.le_of_ble_eq_true rfl) dX7_struckBy_10 ?_
  refine z_istore_4 rfl dX7_struckBy_13 ?_
  refine z_iload_2 dX7_struckBy_15 ?_
  refine z_aload_0 dX7_struckBy_16 ?_
  refine z_iload_1 dX7_struckBy_17 ?_
  refine z_iconst dX7_struckBy_18 ?_
  refine z_cVI yv_X7_of1 ml_X7_147 (c_X7_of1 (by omega) (by omega)) zk_75 rfl rfl (by decide) (Nat.le_of_ble_eq_true rfl) dX7_struckBy_19 ?_
  refine z_isub dX7_struckBy_22 ?_
  refine z_cSI ys_X7_size ml_X7_100 (c_X7_size (by omega)) rfl rfl (by decide) (Nat.le_of_ble_eq_true rfl) dX7_struckBy_23 ?_
  refine z_istore_5 rfl dX7_struckBy_26 ?_
  refine z_aload_0 dX7_struckBy_28 ?_
  refine z_iload_1 dX7_struckBy_29 ?_
  refine z_iconst dX7_struckBy_30 ?_
  refine z_cVI yv_X7_of1 ml_X7_147 (c_X7_of1 (by omega) (by omega)) zk_75 rfl rfl (by decide) (Nat.le_of_ble_eq_true rfl) dX7_struckBy_31 ?_
  rcases (show ((M 76 (12 + 6 * w_ + 0)) < 1 ∨ 5 < (M 76 (12 + 6 * w_ + 0))) ∨ (M 76 (12 + 6 * w_ + 0)) = 1 ∨ (M 76 (12 + 6 * w_ + 0)) = 2 ∨ (M 76 (12 + 6 * w_ + 0)) = 3 ∨ (M 76 (12 + 6 * w_ + 0)) = 4 ∨ (M 76 (12 + 6 * w_ + 0)) = 5 from by omega) with c34 | c34 | c34 | c34 | c34 | c34
  · refine z_tsOut (tgt := 147) (by omega) dX7_struckBy_34 c34 (by decide) ?_
    refine z_iload_3 dX7_struckBy_147 ?_
    refine z_iload_4 dX7_struckBy_148 ?_
    refine z_iload_5 dX7_struckBy_150 ?_
    refine z_cSI ys_X7_plain ml_X7_161 (c_X7_plain ⟨hc0, hc1⟩ ⟨hw0, hw1⟩ (by omega)) rfl rfl (by decide) (Nat.le_of_ble_eq_true rfl) dX7_struckBy_152 ?_
    have hp_ := plainS_le (c := (M 76 (12 + 6 * w_ + 4))) (w := (M 76 (12 + 6 * w_ + 3))) (d := (zabs (h - (M 76 (12 + 6 * w_ + 2))))) ⟨hc0, hc1⟩ hw0 (by omega)
    exact z_iret dX7_struckBy_155 (zPI (by unfold strikeG strike; simp only [hgk_]; (repeat (first | rw [if_pos (by omega)] | rw [if_neg (by omega)])); unfold farS; (repeat (first | rw [if_pos (by omega)] | rw [if_neg (by omega)]))) rfl)
  · refine z_tsIn (off := 34) (tgt := 68) (by omega) dX7_struckBy_34 (by omega) (by omega) (by rw [c34]; rfl) (by decide) ?_
    refine z_iload_3 dX7_struckBy_68 ?_
    refine z_iload_4 dX7_struckBy_69 ?_
    refine z_iload_5 dX7_struckBy_71 ?_
    refine z_cSI ys_X7_plain ml_X7_161 (c_X7_plain ⟨hc0, hc1⟩ ⟨hw0, hw1⟩ (by omega)) rfl rfl (by decide) (Nat.le_of_ble_eq_true rfl) dX7_struckBy_73 ?_
    have hp_ := plainS_le (c := (M 76 (12 + 6 * w_ + 4))) (w := (M 76 (12 + 6 * w_ + 3))) (d := (zabs (h - (M 76 (12 + 6 * w_ + 2))))) ⟨hc0, hc1⟩ hw0 (by omega)
    refine z_cSI ys_X7_close ml_X7_164 (c_X7_close hp_) rfl rfl (by decide) (Nat.le_of_ble_eq_true rfl) dX7_struckBy_76 ?_
    have hq_ := closeS_le hp_.1
    exact z_iret dX7_struckBy_79 (zPI (by unfold strikeG strike; simp only [hgk_]; (repeat (first | rw [if_pos (by omega)] | rw [if_neg (by omega)])); unfold farS; (repeat (first | rw [if_pos (by omega)] | rw [if_neg (by omega)]))) rfl)
  · refine z_tsIn (off := 60) (tgt := 94) (by omega) dX7_struckBy_34 (by omega) (by omega) (by rw [c34]; rfl) (by decide) ?_
    have J110 : ∀ (e_ : Int), (e_ = farS (M 76 (12 + 6 * w_ + 0)) (zabs (h - M 76 (12 + 6 * w_ + 2)))) → Z RX7 cX7_struckBy 6 (some .int) 2 (zQ (PI (strikeG (gI (M 76) w_) h) M)) 110 [some (vR 75), some (vI w_), some (vI h), some (vI (M 76 (12 + 6 * w_ + 4))), some (vI (M 76 (12 + 6 * w_ + 3))), some (vI (zabs (h - (M 76 (12 + 6 * w_ + 2)))))] [vI e_, vI (M 76 (12 + 6 * w_ + 3)), vI (M 76 (12 + 6 * w_ + 4))] (M) := by
      intro e_ he_
      have hf_ := farS_le (k := M 76 (12 + 6 * w_ + 0)) (d := zabs (h - M 76 (12 + 6 * w_ + 2))) zabs_le
      refine z_cSI ys_X7_plain ml_X7_161 (c_X7_plain ⟨hc0, hc1⟩ ⟨hw0, hw1⟩ (by omega)) rfl rfl (by decide) (Nat.le_of_ble_eq_true rfl) dX7_struckBy_110 ?_
      have hp_ := plainS_le (c := (M 76 (12 + 6 * w_ + 4))) (w := (M 76 (12 + 6 * w_ + 3))) (d := e_) ⟨hc0, hc1⟩ hw0 (by omega)
      exact z_iret dX7_struckBy_113 (zPI (by subst he_; unfold strikeG strike; simp only [hgk_]; (repeat (first | rw [if_pos (by omega)] | rw [if_neg (by omega)]))) rfl)
    refine z_iload_3 dX7_struckBy_94 ?_
    refine z_iload_4 dX7_struckBy_95 ?_
    refine z_iload_5 dX7_struckBy_97 ?_
    refine z_if_ne (tgt := 106) (by omega) dX7_struckBy_99 (by decide) (fun c99 => ?_) (fun c99 => ?_)
    · refine z_iload_5 dX7_struckBy_106 ?_
      refine z_iconst dX7_struckBy_108 ?_
      refine z_iadd dX7_struckBy_109 ?_
      exact J110 _ (by rw [← farS_2 (by omega) zabs_le]; first | (rw [if_pos (by omega)]; done) | (rw [if_neg (by omega)]; done))
    · refine z_iconst dX7_struckBy_102 ?_
      refine z_goto (tgt := 110) dX7_struckBy_103 (by decide) ?_
      exact J110 _ (by rw [← farS_2 (by omega) zabs_le]; first | (rw [if_pos (by omega)]; done) | (rw [if_neg (by omega)]; done))
  · refine z_tsIn (off := 102) (tgt := 136) (by omega) dX7_struckBy_34 (by omega) (by omega) (by rw [c34]; rfl) (by decide) ?_
    refine z_iload_3 dX7_struckBy_136 ?_
    refine z_iload_4 dX7_struckBy_137 ?_
    refine z_iload_5 dX7_struckBy_139 ?_
    refine z_iconst dX7_struckBy_141 ?_
    refine z_idivp (by omega) (by decide) dX7_struckBy_142 ?_
    refine z_cSI ys_X7_plain ml_X7_161 (c_X7_plain ⟨hc0, hc1⟩ ⟨hw0, hw1⟩ (by omega)) rfl rfl (by decide) (Nat.le_of_ble_eq_true rfl) dX7_struckBy_143 ?_
    have hp_ := plainS_le (c := (M 76 (12 + 6 * w_ + 4))) (w := (M 76 (12 + 6 * w_ + 3))) (d := ((zabs (h - (M 76 (12 + 6 * w_ + 2)))) / 2)) ⟨hc0, hc1⟩ hw0 (by omega)
    exact z_iret dX7_struckBy_146 (zPI (by unfold strikeG strike; simp only [hgk_]; (repeat (first | rw [if_pos (by omega)] | rw [if_neg (by omega)])); unfold farS; (repeat (first | rw [if_pos (by omega)] | rw [if_neg (by omega)]))) rfl)
  · refine z_tsIn (off := 80) (tgt := 114) (by omega) dX7_struckBy_34 (by omega) (by omega) (by rw [c34]; rfl) (by decide) ?_
    have J130 : ∀ (e_ : Int), (e_ = farS (M 76 (12 + 6 * w_ + 0)) (zabs (h - M 76 (12 + 6 * w_ + 2)))) → Z RX7 cX7_struckBy 6 (some .int) 2 (zQ (PI (strikeG (gI (M 76) w_) h) M)) 130 [some (vR 75), some (vI w_), some (vI h), some (vI (M 76 (12 + 6 * w_ + 4))), some (vI (M 76 (12 + 6 * w_ + 3))), some (vI (zabs (h - (M 76 (12 + 6 * w_ + 2)))))] [vI e_, vI (M 76 (12 + 6 * w_ + 3)), vI (M 76 (12 + 6 * w_ + 4))] (M) := by
      intro e_ he_
      have hf_ := farS_le (k := M 76 (12 + 6 * w_ + 0)) (d := zabs (h - M 76 (12 + 6 * w_ + 2))) zabs_le
      refine z_cSI ys_X7_plain ml_X7_161 (c_X7_plain ⟨hc0, hc1⟩ ⟨hw0, hw1⟩ (by omega)) rfl rfl (by decide) (Nat.le_of_ble_eq_true rfl) dX7_struckBy_130 ?_
      have hp_ := plainS_le (c := (M 76 (12 + 6 * w_ + 4))) (w := (M 76 (12 + 6 * w_ + 3))) (d := e_) ⟨hc0, hc1⟩ hw0 (by omega)
      refine z_iconst dX7_struckBy_133 ?_
      refine z_idivp (by omega) (by decide) dX7_struckBy_134 ?_
      exact z_iret dX7_struckBy_135 (zPI (by subst he_; unfold strikeG strike; simp only [hgk_]; (repeat (first | rw [if_pos (by omega)] | rw [if_neg (by omega)]))) rfl)
    refine z_iload_3 dX7_struckBy_114 ?_
    refine z_iload_4 dX7_struckBy_115 ?_
    refine z_iload_5 dX7_struckBy_117 ?_
    refine z_if_ne (tgt := 126) (by omega) dX7_struckBy_119 (by decide) (fun c119 => ?_) (fun c119 => ?_)
    · refine z_iload_5 dX7_struckBy_126 ?_
      refine z_iconst dX7_struckBy_128 ?_
      refine z_iadd dX7_struckBy_129 ?_
      exact J130 _ (by rw [← farS_2 (by omega) zabs_le]; first | (rw [if_pos (by omega)]; done) | (rw [if_neg (by omega)]; done))
    · refine z_iconst dX7_struckBy_122 ?_
      refine z_goto (tgt := 130) dX7_struckBy_123 (by decide) ?_
      exact J130 _ (by rw [← farS_2 (by omega) zabs_le]; first | (rw [if_pos (by omega)]; done) | (rw [if_neg (by omega)]; done))
  · refine z_tsIn (off := 46) (tgt := 80) (by omega) dX7_struckBy_34 (by omega) (by omega) (by rw [c34]; rfl) (by decide) ?_
    refine z_iload_3 dX7_struckBy_80 ?_
    refine z_iload_4 dX7_struckBy_81 ?_
    refine z_iload_5 dX7_struckBy_83 ?_
    refine z_cSI ys_X7_plain ml_X7_161 (c_X7_plain ⟨hc0, hc1⟩ ⟨hw0, hw1⟩ (by omega)) rfl rfl (by decide) (Nat.le_of_ble_eq_true rfl) dX7_struckBy_85 ?_
    have hp_ := plainS_le (c := (M 76 (12 + 6 * w_ + 4))) (w := (M 76 (12 + 6 * w_ + 3))) (d := (zabs (h - (M 76 (12 + 6 * w_ + 2))))) ⟨hc0, hc1⟩ hw0 (by omega)
    refine z_cSI ys_X7_close ml_X7_164 (c_X7_close hp_) rfl rfl (by decide) (Nat.le_of_ble_eq_true rfl) dX7_struckBy_88 ?_
    have hq_ := closeS_le hp_.1
    refine z_iconst dX7_struckBy_91 ?_
    refine z_idivp (by omega) (by decide) dX7_struckBy_92 ?_
    exact z_iret dX7_struckBy_93 (zPI (by unfold strikeG strike; simp only [hgk_]; (repeat (first | rw [if_pos (by omega)] | rw [if_neg (by omega)])); unfold farS; (repeat (first | rw [if_pos (by omega)] | rw [if_neg (by omega)]))) rfl)

theorem c_X7_behind {M : zM} {w_ s_ r_ : Int} (hw : 0 ≤ w_ ∧ w_ ≤ 11) (hg : wOK (gI (M 76) w_)) (hs : 0 ≤ s_ ∧ s_ ≤ 100) (hr : r_ = 0 ∨ r_ = 1) : Call yX7_behind cX7_behind 10 (some .int) 2 [vR 75, vI w_, vI s_, vI r_] (M) (PI (behindS (M 76 (12 + 6 * w_ + 4)) s_ r_) M) := by
  refine Call.of2 (own := RX7) (lv0 := [some (vR 75), some (vI w_), some (vI s_), some (vI r_), none, none, none, none, none, none]) rfl (by decide) rfl (Nat.le_of_ble_eq_true rfl) ?_
  obtain ⟨⟨hk0, hk1⟩, ⟨hd0, hd1⟩, ⟨ha0, ha1⟩, ⟨hw0, hw1⟩, ⟨hc0, hc1⟩, ⟨hl0, hl1⟩⟩ := gOK_s hg
  have hgk_ : ∀ f_, gI (M 76) w_ f_ = M 76 (12 + 6 * w_ + f_) := fun f_ => rfl
  refine z_aload_0 dX7_behind_0 ?_
  refine z_iload_1 dX7_behind_1 ?_
  refine z_iconst dX7_behind_2 ?_
  refine z_cVI yv_X7_of1 ml_X7_147 (c_X7_of1 (by omega) (by omega)) zk_75 rfl rfl (by decide) (Nat.le_of_ble_eq_true rfl) dX7_behind_3 ?_
  refine z_i2l (by omega) dX7_behind_6 ?_
  refine z_lstore_4 rfl dX7_behind_7 ?_
  have J30 : ∀ (y_ : Int), (y_ = M 76 (12 + 6 * w_ + 4) * (if r_ = 0 then 100 - s_ else s_)) → Z RX7 cX7_behind 10 (some .int) 2 (zQ (PI (behindS (M 76 (12 + 6 * w_ + 4)) s_ r_) M)) 30 [some (vR 75), some (vI w_), some (vI s_), some (vI r_), some (vJ (M 76 (12 + 6 * w_ + 4))), none, none, none, none, none] [vJ y_] (M) := by
    intro y_ hy_
    have ht_ : 0 ≤ (if r_ = 0 then 100 - s_ else s_) ∧ (if r_ = 0 then 100 - s_ else s_) ≤ 100 := by split <;> omega
    have hm_ := mul_box (a := M 76 (12 + 6 * w_ + 4)) hc0 hc1 ht_.1 ht_.2
    have hn_ := mul_box (a := 1000000 - M 76 (12 + 6 * w_ + 4)) (b := 100 - (if r_ = 0 then 100 - s_ else s_)) (by omega) (show _ ≤ 1000000 by omega) (by omega) (show _ ≤ 100 by omega)
    refine z_lstore_6 rfl dX7_behind_30 ?_
    refine z_ldc2 (n := 1000000) kl_X7_66 (by decide) dX7_behind_32 ?_
    refine z_lload_4 dX7_behind_35 ?_
    refine z_lsub dX7_behind_37 ?_
    have J53 : ∀ (x_ : Int), (x_ = 100 - (if r_ = 0 then 100 - s_ else s_)) → Z RX7 cX7_behind 10 (some .int) 2 (zQ (PI (behindS (M 76 (12 + 6 * w_ + 4)) s_ r_) M)) 53 [some (vR 75), some (vI w_), some (vI s_), some (vI r_), some (vJ (M 76 (12 + 6 * w_ + 4))), none, some (vJ y_), none, none, none] [vJ x_, vJ (1000000 - (M 76 (12 + 6 * w_ + 4)))] (M) := by
      intro x_ hx_
      refine z_lmul dX7_behind_53 ?_
      refine z_lstore_8 rfl dX7_behind_54 ?_
      refine z_lload_6 dX7_behind_56 ?_
      refine z_lload_8 dX7_behind_58 ?_
      refine z_ladd dX7_behind_60 ?_
      refine z_lconst0 dX7_behind_61 ?_
      refine z_lcmp_ne (tgt := 70) (by subst hx_ hy_; omega) (by decide) dX7_behind_62 dX7_behind_63 (by decide) (fun c62 => ?_) (fun c62 => ?_)
      · refine z_lload_6 dX7_behind_70 ?_
        refine z_ldc2 (n := 1000000) kl_X7_66 (by decide) dX7_behind_72 ?_
        refine z_lmul dX7_behind_75 ?_
        refine z_lload_6 dX7_behind_76 ?_
        refine z_lload_8 dX7_behind_78 ?_
        refine z_ladd dX7_behind_80 ?_
        refine z_ldivp (by subst hx_ hy_; omega) (by subst hx_ hy_; omega) dX7_behind_81 ?_
        refine z_l2i dX7_behind_82 ?_
        exact z_iret dX7_behind_83 (zPI (by subst hx_ hy_; unfold behindS; first | exact (if_pos (by omega)).symm | exact (if_neg (by omega)).symm) rfl)
      · refine z_iconst dX7_behind_66 ?_
        refine z_goto (tgt := 83) dX7_behind_67 (by decide) ?_
        exact z_iret dX7_behind_83 (zPI (by subst hx_ hy_; unfold behindS; first | exact (if_pos (by omega)).symm | exact (if_neg (by omega)).symm) rfl)
    refine z_iload_3 dX7_behind_38 ?_
    refine z_if_eq (tgt := 51) (by omega) dX7_behind_39 (by decide) (fun c39 => ?_) (fun c39 => ?_)
    · refine z_iload_2 dX7_behind_51 ?_
      refine z_i2l (by omega) dX7_behind_52 ?_
      exact J53 _ (by first | (rw [if_pos (by omega)]; omega) | (rw [if_neg (by omega)]; done))
    · refine z_ldc2 (n := 100) kl_X7_62 (by decide) dX7_behind_42 ?_
      refine z_iload_2 dX7_behind_45 ?_
      refine z_i2l (by omega) dX7_behind_46 ?_
      refine z_lsub dX7_behind_47 ?_
      refine z_goto (tgt := 53) dX7_behind_48 (by decide) ?_
      exact J53 _ (by first | (rw [if_pos (by omega)]; omega) | (rw [if_neg (by omega)]; done))
  refine z_iload_3 dX7_behind_9 ?_
  refine z_if_eq (tgt := 21) (by omega) dX7_behind_10 (by decide) (fun c10 => ?_) (fun c10 => ?_)
  · refine z_lload_4 dX7_behind_21 ?_
    refine z_ldc2 (n := 100) kl_X7_62 (by decide) dX7_behind_23 ?_
    refine z_iload_2 dX7_behind_26 ?_
    refine z_i2l (by omega) dX7_behind_27 ?_
    refine z_lsub dX7_behind_28 ?_
    refine z_lmul dX7_behind_29 ?_
    exact J30 _ (by first | (rw [if_pos (by omega)]; done) | (rw [if_neg (by omega)]; done))
  · refine z_lload_4 dX7_behind_13 ?_
    refine z_iload_2 dX7_behind_15 ?_
    refine z_i2l (by omega) dX7_behind_16 ?_
    refine z_lmul dX7_behind_17 ?_
    refine z_goto (tgt := 30) dX7_behind_18 (by decide) ?_
    exact J30 _ (by first | (rw [if_pos (by omega)]; done) | (rw [if_neg (by omega)]; done))

theorem c_X7_dangerAt {M : zM} {day h : Int} (hn : SN (M 76)) (hh : -12 ≤ h ∧ h ≤ 12) (hday : -2147483648 ≤ day ∧ day < 2147483648) : Call yX7_dangerAt cX7_dangerAt 5 (some .int) 3 [vR 75, vI day, vI h] (M) (PI (danger (M 76 10).toNat (gS (M 76)) day h) M) := by
  refine Call.of2 (own := RX7) (lv0 := [some (vR 75), some (vI day), some (vI h), none, none]) rfl (by decide) rfl (Nat.le_of_ble_eq_true rfl) ?_
  obtain ⟨⟨hn0, hn1⟩, hg⟩ := id hn
  refine z_iconst dX7_dangerAt_0 ?_
  refine z_istore_3 rfl dX7_dangerAt_1 ?_
  refine z_iconst dX7_dangerAt_2 ?_
  refine z_istore_4 rfl dX7_dangerAt_3 ?_
  have K5 : ∀ (fuel_ : Nat) (t_ : Int) (i_ : Int), M 76 10 - i_ < (fuel_ : Int) → (0 ≤ i_ ∧ i_ ≤ M 76 10) → (t_ = dsum (gS (M 76)) day h i_.toNat) → Z RX7 cX7_dangerAt 5 (some .int) 3 (zQ (PI (danger (M 76 10).toNat (gS (M 76)) day h) M)) 5 [some (vR 75), some (vI day), some (vI h), some (vI t_), some (vI i_)] [] (M) := by
    intro fuel_
    induction fuel_ with
    | zero => intro t_ i_ hfuel_ hi_ ha_; exfalso; omega
    | succ fuel_ ih5 =>
      intro t_ i_ hfuel_ hi_ ha_
      refine z_iload_4 dX7_dangerAt_5 ?_
      refine z_aload_0 dX7_dangerAt_7 ?_
      refine z_bipush dX7_dangerAt_8 (by decide) ?_
      refine z_cVI yv_X7_its ml_X7_71 (c_X7_its (by omega)) zk_75 rfl rfl (by decide) (Nat.le_of_ble_eq_true rfl) dX7_dangerAt_10 ?_
      refine z_icmp_ge (tgt := 47) (by omega) (by omega) dX7_dangerAt_13 (by decide) (fun c13 => ?_) (fun c13 => ?_)
      · have hs_ := dsum_le (g := gS (M 76)) (day := day) (h := h) i_.toNat (fun j hj => hg j (by omega))
        refine z_iload_3 dX7_dangerAt_47 ?_
        refine z_ldc (n := 1000000) kc_X7_160 (by decide) dX7_dangerAt_48 ?_
        refine z_icmp_le (tgt := 58) (by omega) (by decide) dX7_dangerAt_50 (by decide) (fun c50 => ?_) (fun c50 => ?_)
        · refine z_iload_3 dX7_dangerAt_58 ?_
          exact z_iret dX7_dangerAt_59 (zPI (by rw [show i_ = M 76 10 from (by omega)] at ha_; unfold danger; rw [← ha_]; first | (rw [if_pos (by omega)]; done) | (rw [if_neg (by omega)]; done)) rfl)
        · refine z_ldc (n := 1000000) kc_X7_160 (by decide) dX7_dangerAt_53 ?_
          refine z_goto (tgt := 59) dX7_dangerAt_55 (by decide) ?_
          exact z_iret dX7_dangerAt_59 (zPI (by rw [show i_ = M 76 10 from (by omega)] at ha_; unfold danger; rw [← ha_]; first | (rw [if_pos (by omega)]; done) | (rw [if_neg (by omega)]; done)) rfl)
      · have hgi_ := SN_i hn (i := i_) (by omega) (by omega)
        have hgi2_ := (gOK_s hgi_).2.1
        refine z_iload_3 dX7_dangerAt_16 ?_
        refine z_aload_0 dX7_dangerAt_17 ?_
        refine z_iload_4 dX7_dangerAt_18 ?_
        refine z_iconst dX7_dangerAt_20 ?_
        refine z_cVI yv_X7_of1 ml_X7_147 (c_X7_of1 (by omega) (by omega)) zk_75 rfl rfl (by decide) (Nat.le_of_ble_eq_true rfl) dX7_dangerAt_21 ?_
        refine z_iload_1 dX7_dangerAt_24 ?_
        refine z_icmp_ne (tgt := 38) (by omega) (by omega) dX7_dangerAt_25 (by decide) (fun c25 => ?_) (fun c25 => ?_)
        · refine z_iconst dX7_dangerAt_38 ?_
          refine z_iadd dX7_dangerAt_39 ?_
          refine z_istore_3 rfl dX7_dangerAt_40 ?_
          refine z_iinc_4 rfl dX7_dangerAt_41 ?_
          refine z_goto (tgt := 5) dX7_dangerAt_44 (by decide) ?_
          exact ih5 _ _ (by omega) (by omega) (by first | (rw [dsum_t (g := gS (M 76)) (by omega) (by rw [gS_i (by omega)]; exact c25), ha_, gS_i (by omega)]; done) | (rw [dsum_f (g := gS (M 76)) (by omega) (by rw [gS_i (by omega)]; exact c25), ha_]; omega))
        · refine z_aload_0 dX7_dangerAt_28 ?_
          refine z_iload_4 dX7_dangerAt_29 ?_
          refine z_iload_2 dX7_dangerAt_31 ?_
          refine z_cVI yv_X7_struckBy ml_X7_170 (c_X7_struckBy (by omega) hgi_ hh) zk_75 rfl rfl (by decide) (Nat.le_of_ble_eq_true rfl) dX7_dangerAt_32 ?_
          refine z_goto (tgt := 39) dX7_dangerAt_35 (by decide) ?_
          refine z_iadd dX7_dangerAt_39 ?_
          refine z_istore_3 rfl dX7_dangerAt_40 ?_
          refine z_iinc_4 rfl dX7_dangerAt_41 ?_
          refine z_goto (tgt := 5) dX7_dangerAt_44 (by decide) ?_
          exact ih5 _ _ (by omega) (by omega) (by first | (rw [dsum_t (g := gS (M 76)) (by omega) (by rw [gS_i (by omega)]; exact c25), ha_, gS_i (by omega)]; done) | (rw [dsum_f (g := gS (M 76)) (by omega) (by rw [gS_i (by omega)]; exact c25), ha_]; omega))
  have L5 : ∀ (t_ : Int) (i_ : Int), (0 ≤ i_ ∧ i_ ≤ M 76 10) → (t_ = dsum (gS (M 76)) day h i_.toNat) → Z RX7 cX7_dangerAt 5 (some .int) 3 (zQ (PI (danger (M 76 10).toNat (gS (M 76)) day h) M)) 5 [some (vR 75), some (vI day), some (vI h), some (vI t_), some (vI i_)] [] (M) := fun t_ i_ hi_ ha_ => K5 ((M 76 10 - i_).toNat + 1) t_ i_ (by omega) hi_ ha_
  exact L5 _ _ (by omega) (by rfl)
