abbrev fitB (M : zM) (i m c : Int) : Prop := M 71 (i * 41 + M 9 7 + m) = c ∧ (i = 0 ∨ M 9 6 ≤ zabs (M 70 i + m - M 70 (i - 1) - M 74 (i - 1)))
def firstF (M : zM) (i c : Int) : Nat → Int → Int
  | 0, _ => 0
  | f + 1, d => if fitB M i (-d) c then -d else if fitB M i d c then d else firstF M i c f (d + 1)
theorem c_X3_fits {M : zM} {i_ m_ c_ : Int} (hi : 0 ≤ i_ ∧ i_ < 12) (hm : -M 9 7 ≤ m_ ∧ m_ ≤ M 9 7) (hc : -2147483648 ≤ c_ ∧ c_ < 2147483648) (hg : 0 ≤ M 9 6 ∧ M 9 6 ≤ 50) (hq : 0 ≤ M 9 7 ∧ M 9 7 ≤ 20) (hH : ∀ j : Int, 0 ≤ j → j < 12 → -1000000 ≤ M 70 j ∧ M 70 j ≤ 1000000) (hC : ∀ j : Int, 0 ≤ j → j < 492 → 0 ≤ M 71 j ∧ M 71 j ≤ 1000000) (hV : ∀ j : Int, 0 ≤ j → j < 12 → -20 ≤ M 74 j ∧ M 74 j ≤ 20) : Call yX3_fits cX3_fits 4 (some .boolean) 1 [vR 9, vI i_, vI m_, vI c_] (M) (PI (zb (fitB M i_ m_ c_)) M) := by
  refine Call.of2 (own := RX3) (lv0 := [some (vR 9), some (vI i_), some (vI m_), some (vI c_)]) rfl (by decide) rfl (Nat.le_of_ble_eq_true rfl) ?_
  have a1_ := hH i_ (by omega) (by omega)
  have a3_ := hC (i_ * 41 + M 9 7 + m_) (by omega) (by omega)
  refine z_aload_0 dX3_fits_0 ?_
  refine z_getR (r := 71) fl_X3_15 zk_9 rfl rfl dX3_fits_1 ?_
  refine z_iload_1 dX3_fits_4 ?_
  refine z_bipush dX3_fits_5 (by decide) ?_
  refine z_imul dX3_fits_7 ?_
  refine z_aload_0 dX3_fits_8 ?_
  refine z_getI fl_X3_34 zk_9 rfl dX3_fits_9 ?_
  refine z_iadd dX3_fits_12 ?_
  refine z_iload_2 dX3_fits_13 ?_
  refine z_iadd dX3_fits_14 ?_
  refine z_iald (n := 492) zk_71 rfl (by omega) dX3_fits_15 ?_
  refine z_iload_3 dX3_fits_16 ?_
  refine z_icmp_eq (tgt := 22) (by omega) (by omega) dX3_fits_17 (by decide) (fun c17 => ?_) (fun c17 => ?_)
  · refine z_iload_1 dX3_fits_22 ?_
    refine z_if_eq (tgt := 62) (by omega) dX3_fits_23 (by decide) (fun c23 => ?_) (fun c23 => ?_)
    · refine z_iconst dX3_fits_62 ?_
      refine z_goto (tgt := 67) dX3_fits_63 (by decide) ?_
      exact z_zret (by first | exact Or.inl rfl | exact Or.inr rfl | exact zb_01 | omega) dX3_fits_67 (zPI (by first | exact (zb_t ⟨by omega, by omega⟩).symm | exact (zb_f (fun h_ => by have h1_ := h_.1; have h2_ := h_.2; omega)).symm) rfl)
    · refine z_aload_0 dX3_fits_26 ?_
      have a2_ := hH (i_ - 1) (by omega) (by omega)
      have a4_ := hV (i_ - 1) (by omega) (by omega)
      have a5_ := zabs_cases (M 70 i_ + m_ - M 70 (i_ - 1) - M 74 (i_ - 1))
      refine z_getR (r := 70) fl_X3_9 zk_9 rfl rfl dX3_fits_27 ?_
      refine z_iload_1 dX3_fits_30 ?_
      refine z_iald (n := 12) zk_70 rfl (by omega) dX3_fits_31 ?_
      refine z_iload_2 dX3_fits_32 ?_
      refine z_iadd dX3_fits_33 ?_
      refine z_aload_0 dX3_fits_34 ?_
      refine z_getR (r := 70) fl_X3_9 zk_9 rfl rfl dX3_fits_35 ?_
      refine z_iload_1 dX3_fits_38 ?_
      refine z_iconst dX3_fits_39 ?_
      refine z_isub dX3_fits_40 ?_
      refine z_iald (n := 12) zk_70 rfl (by omega) dX3_fits_41 ?_
      refine z_isub dX3_fits_42 ?_
      refine z_aload_0 dX3_fits_43 ?_
      refine z_getR (r := 74) fl_X3_24 zk_9 rfl rfl dX3_fits_44 ?_
      refine z_iload_1 dX3_fits_47 ?_
      refine z_iconst dX3_fits_48 ?_
      refine z_isub dX3_fits_49 ?_
      refine z_iald (n := 12) zk_74 rfl (by omega) dX3_fits_50 ?_
      refine z_isub dX3_fits_51 ?_
      refine z_mabs ml_X3_81 (by decide) (Nat.le_of_ble_eq_true rfl) (by omega) dX3_fits_52 ?_
      refine z_aload_0 dX3_fits_55 ?_
      refine z_getI fl_X3_31 zk_9 rfl dX3_fits_56 ?_
      refine z_icmp_lt (tgt := 66) (by omega) (by omega) dX3_fits_59 (by decide) (fun c59 => ?_) (fun c59 => ?_)
      · refine z_iconst dX3_fits_66 ?_
        exact z_zret (by first | exact Or.inl rfl | exact Or.inr rfl | exact zb_01 | omega) dX3_fits_67 (zPI (by first | exact (zb_t ⟨by omega, by omega⟩).symm | exact (zb_f (fun h_ => by have h1_ := h_.1; have h2_ := h_.2; omega)).symm) rfl)
      · refine z_iconst dX3_fits_62 ?_
        refine z_goto (tgt := 67) dX3_fits_63 (by decide) ?_
        exact z_zret (by first | exact Or.inl rfl | exact Or.inr rfl | exact zb_01 | omega) dX3_fits_67 (zPI (by first | exact (zb_t ⟨by omega, by omega⟩).symm | exact (zb_f (fun h_ => by have h1_ := h_.1; have h2_ := h_.2; omega)).symm) rfl)
  · refine z_iconst dX3_fits_20 ?_
    exact z_zret (by first | exact Or.inl rfl | exact Or.inr rfl | exact zb_01 | omega) dX3_fits_21 (zPI (by first | exact (zb_t ⟨by omega, by omega⟩).symm | exact (zb_f (fun h_ => by have h1_ := h_.1; have h2_ := h_.2; omega)).symm) rfl)

theorem c_X3_firstMove {M : zM} {i_ c_ : Int} (hi : 0 ≤ i_ ∧ i_ < 12) (hc : -2147483648 ≤ c_ ∧ c_ < 2147483648) (hg : 0 ≤ M 9 6 ∧ M 9 6 ≤ 50) (hq : 0 ≤ M 9 7 ∧ M 9 7 ≤ 20) (hH : ∀ j : Int, 0 ≤ j → j < 12 → -1000000 ≤ M 70 j ∧ M 70 j ≤ 1000000) (hC : ∀ j : Int, 0 ≤ j → j < 492 → 0 ≤ M 71 j ∧ M 71 j ≤ 1000000) (hV : ∀ j : Int, 0 ≤ j → j < 12 → -20 ≤ M 74 j ∧ M 74 j ≤ 20) : Call yX3_firstMove cX3_firstMove 4 (some .int) 2 [vR 9, vI i_, vI c_] (M) (PI (firstF M i_ c_ (M 9 7 + 1).toNat 0) M) := by
  refine Call.of2 (own := RX3) (lv0 := [some (vR 9), some (vI i_), some (vI c_), none]) rfl (by decide) rfl (Nat.le_of_ble_eq_true rfl) ?_
  refine z_iconst dX3_firstMove_0 ?_
  refine z_istore_3 rfl dX3_firstMove_1 ?_
  have K2 : ∀ (fuel_ : Nat) (d_ : Int), M 9 7 + 1 - d_ < (fuel_ : Int) → (0 ≤ d_ ∧ d_ ≤ M 9 7 + 1) → (firstF M i_ c_ (M 9 7 + 1 - d_).toNat d_ = firstF M i_ c_ (M 9 7 + 1).toNat 0) → Z RX3 cX3_firstMove 4 (some .int) 2 (zQ (PI (firstF M i_ c_ (M 9 7 + 1).toNat 0) M)) 2 [some (vR 9), some (vI i_), some (vI c_), some (vI d_)] [] (M) := by
    intro fuel_
    induction fuel_ with
    | zero => intro d_ hfuel_ hd_ hr_; exfalso; omega
    | succ fuel_ ih2 =>
      intro d_ hfuel_ hd_ hr_
      refine z_iload_3 dX3_firstMove_2 ?_
      refine z_aload_0 dX3_firstMove_3 ?_
      refine z_getI fl_X3_34 zk_9 rfl dX3_firstMove_4 ?_
      refine z_icmp_gt (tgt := 42) (by omega) (by omega) dX3_firstMove_7 (by decide) (fun c7 => ?_) (fun c7 => ?_)
      · refine z_iconst dX3_firstMove_42 ?_
        exact z_iret dX3_firstMove_43 (zPI (by rw [← hr_, show (M 9 7 + 1 - d_).toNat = 0 by omega, firstF]) rfl)
      · refine z_aload_0 dX3_firstMove_10 ?_
        refine z_iload_1 dX3_firstMove_11 ?_
        refine z_iload_3 dX3_firstMove_12 ?_
        refine z_ineg dX3_firstMove_13 ?_
        refine z_iload_2 dX3_firstMove_14 ?_
        refine z_cVI yv_X3_fits ml_X3_90 (c_X3_fits hi (by omega) hc hg hq hH hC hV) zk_9 rfl rfl (by decide) (Nat.le_of_ble_eq_true rfl) dX3_firstMove_15 ?_
        refine z_ifb_eq (tgt := 24) dX3_firstMove_18 (by decide) (fun c18 => ?_) (fun c18 => ?_)
        · refine z_aload_0 dX3_firstMove_24 ?_
          refine z_iload_1 dX3_firstMove_25 ?_
          refine z_iload_3 dX3_firstMove_26 ?_
          refine z_iload_2 dX3_firstMove_27 ?_
          refine z_cVI yv_X3_fits ml_X3_90 (c_X3_fits hi (by omega) hc hg hq hH hC hV) zk_9 rfl rfl (by decide) (Nat.le_of_ble_eq_true rfl) dX3_firstMove_28 ?_
          refine z_ifb_eq (tgt := 36) dX3_firstMove_31 (by decide) (fun c31 => ?_) (fun c31 => ?_)
          · refine z_iinc_3 rfl dX3_firstMove_36 ?_
            refine z_goto (tgt := 2) dX3_firstMove_39 (by decide) ?_
            exact ih2 _ (by omega) (by omega) (by rw [← hr_, show (M 9 7 + 1 - d_).toNat = (M 9 7 + 1 - (d_ + 1)).toNat + 1 by omega, firstF, if_neg c18, if_neg c31])
          · refine z_iload_3 dX3_firstMove_34 ?_
            exact z_iret dX3_firstMove_35 (zPI (by rw [← hr_, show (M 9 7 + 1 - d_).toNat = (M 9 7 + 1 - (d_ + 1)).toNat + 1 by omega, firstF, if_neg c18, if_pos c31]) rfl)
        · refine z_iload_3 dX3_firstMove_21 ?_
          refine z_ineg dX3_firstMove_22 ?_
          exact z_iret dX3_firstMove_23 (zPI (by rw [← hr_, show (M 9 7 + 1 - d_).toNat = (M 9 7 + 1 - (d_ + 1)).toNat + 1 by omega, firstF, if_pos c18]) rfl)
  have L2 : ∀ (d_ : Int), (0 ≤ d_ ∧ d_ ≤ M 9 7 + 1) → (firstF M i_ c_ (M 9 7 + 1 - d_).toNat d_ = firstF M i_ c_ (M 9 7 + 1).toNat 0) → Z RX3 cX3_firstMove 4 (some .int) 2 (zQ (PI (firstF M i_ c_ (M 9 7 + 1).toNat 0) M)) 2 [some (vR 9), some (vI i_), some (vI c_), some (vI d_)] [] (M) := fun d_ hd_ hr_ => K2 ((M 9 7 + 1 - d_).toNat + 1) d_ (by omega) hd_ hr_
  exact L2 _ (by omega) (by rw [Int.sub_zero])
