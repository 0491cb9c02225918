theorem c_X7_read {M : zM} {k_ : Int} (hS : SH7 M) (hn : SN (M 76)) (hh : -12 ≤ M 76 1 ∧ M 76 1 ≤ 12) (ht : 0 ≤ M 76 0 ∧ M 76 0 ≤ 2000) (hk : -2147483648 ≤ k_ ∧ k_ < 2147483648) : Call yX7_read cX7_read 4 (some .int) 4 [vR 75, vI k_] (M) (PI (if ¬ (0 ≤ k_ ∧ k_ ≤ 3) then -1000000001 else if M 87 k_ = 0 then -1000000006 else if rightN (fun j_ => M 89 (40 * k_ + j_)) (fun j_ => danger (M 76 10).toNat (gS (M 76)) (M 76 0 + 1 + j_) (M 76 1)) (M 88 k_).toNat 0 = M 88 k_ then 0 else 1 + rightN (fun j_ => M 89 (40 * k_ + j_)) (fun j_ => danger (M 76 10).toNat (gS (M 76)) (M 76 0 + 1 + j_) (M 76 1)) (M 88 k_).toNat 0) (if ¬ (0 ≤ k_ ∧ k_ ≤ 3) then fnd7 M 0 else if M 87 k_ = 0 then fnd7 M 5 else M)) := by
  refine Call.of2 (own := RX7) (lv0 := [some (vR 75), some (vI k_), none, none]) rfl (by decide) rfl (Nat.le_of_ble_eq_true rfl) ?_
  refine z_aload_0 dX7_read_0 ?_
  refine z_iload_1 dX7_read_1 ?_
  refine z_cVI yv_X7_lacks ml_X7_316 (c_X7_lacks hS hk) zk_75 rfl rfl (by decide) (Nat.le_of_ble_eq_true rfl) dX7_read_2 ?_
  generalize hq_ : (if ¬ (0 ≤ k_ ∧ k_ ≤ 3) then (0 : Int) else if M 87 k_ = 0 then 5 else -1) = q_
  have hq2_ : (¬ (0 ≤ k_ ∧ k_ ≤ 3) ∧ q_ = 0) ∨ ((0 ≤ k_ ∧ k_ ≤ 3) ∧ M 87 k_ = 0 ∧ q_ = 5) ∨ ((0 ≤ k_ ∧ k_ ≤ 3) ∧ ¬ M 87 k_ = 0 ∧ q_ = -1) := by rw [← hq_]; split <;> (try split) <;> omega
  refine z_istore_2 rfl dX7_read_5 ?_
  refine z_iload_2 dX7_read_6 ?_
  refine z_if_lt (tgt := 16) (by omega) dX7_read_7 (by decide) (fun c7 => ?_) (fun c7 => ?_)
  · have hs_ := hS k_ (by omega) (by omega)
    refine z_iconst dX7_read_16 ?_
    refine z_istore_3 rfl dX7_read_17 ?_
    have K18 : ∀ (fuel_ : Nat) (i_ : Int), M 88 k_ - i_ < (fuel_ : Int) → (0 ≤ i_ ∧ i_ ≤ M 88 k_) → (rightN (fun j_ => M 89 (40 * k_ + j_)) (fun j_ => danger (M 76 10).toNat (gS (M 76)) (M 76 0 + 1 + j_) (M 76 1)) (M 88 k_).toNat 0 = rightN (fun j_ => M 89 (40 * k_ + j_)) (fun j_ => danger (M 76 10).toNat (gS (M 76)) (M 76 0 + 1 + j_) (M 76 1)) (M 88 k_ - i_).toNat i_.toNat) → Z RX7 cX7_read 4 (some .int) 4 (zQ (PI (if ¬ (0 ≤ k_ ∧ k_ ≤ 3) then -1000000001 else if M 87 k_ = 0 then -1000000006 else if rightN (fun j_ => M 89 (40 * k_ + j_)) (fun j_ => danger (M 76 10).toNat (gS (M 76)) (M 76 0 + 1 + j_) (M 76 1)) (M 88 k_).toNat 0 = M 88 k_ then 0 else 1 + rightN (fun j_ => M 89 (40 * k_ + j_)) (fun j_ => danger (M 76 10).toNat (gS (M 76)) (M 76 0 + 1 + j_) (M 76 1)) (M 88 k_).toNat 0) (if ¬ (0 ≤ k_ ∧ k_ ≤ 3) then fnd7 M 0 else if M 87 k_ = 0 then fnd7 M 5 else M))) 18 [some (vR 75), some (vI k_), some (vI q_), some (vI i_)] [] (M) := by
      intro fuel_
      induction fuel_ with
      | zero => intro i_ hfuel_ hi_ ha_; exfalso; omega
      | succ fuel_ ih18 =>
        intro i_ hfuel_ hi_ ha_
        have J61 : (rightN (fun j_ => M 89 (40 * k_ + j_)) (fun j_ => danger (M 76 10).toNat (gS (M 76)) (M 76 0 + 1 + j_) (M 76 1)) (M 88 k_).toNat 0 = i_) → Z RX7 cX7_read 4 (some .int) 4 (zQ (PI (if ¬ (0 ≤ k_ ∧ k_ ≤ 3) then -1000000001 else if M 87 k_ = 0 then -1000000006 else if rightN (fun j_ => M 89 (40 * k_ + j_)) (fun j_ => danger (M 76 10).toNat (gS (M 76)) (M 76 0 + 1 + j_) (M 76 1)) (M 88 k_).toNat 0 = M 88 k_ then 0 else 1 + rightN (fun j_ => M 89 (40 * k_ + j_)) (fun j_ => danger (M 76 10).toNat (gS (M 76)) (M 76 0 + 1 + j_) (M 76 1)) (M 88 k_).toNat 0) (if ¬ (0 ≤ k_ ∧ k_ ≤ 3) then fnd7 M 0 else if M 87 k_ = 0 then fnd7 M 5 else M))) 61 [some (vR 75), some (vI k_), some (vI q_), some (vI i_)] [] (M) := by
          intro hr_
          refine z_iload_3 dX7_read_61 ?_
          refine z_aload_0 dX7_read_62 ?_
          refine z_getR (r := 88) fl_X7_47 zk_75 rfl rfl dX7_read_63 ?_
          refine z_iload_1 dX7_read_66 ?_
          refine z_iald (n := 4) zk_88 rfl (by omega) dX7_read_67 ?_
          refine z_icmp_ne (tgt := 75) (by omega) (by omega) dX7_read_68 (by decide) (fun c68 => ?_) (fun c68 => ?_)
          · refine z_iconst dX7_read_75 ?_
            refine z_iload_3 dX7_read_76 ?_
            refine z_iadd dX7_read_77 ?_
            exact z_iret dX7_read_78 (zPI (by rw [hr_]; symm; (repeat (first | rw [if_pos (by omega)] | rw [if_neg (by omega)])) <;> rfl) (by symm; (repeat (first | rw [if_pos (by omega)] | rw [if_neg (by omega)])) <;> rfl))
          · refine z_iconst dX7_read_71 ?_
            refine z_goto (tgt := 78) dX7_read_72 (by decide) ?_
            exact z_iret dX7_read_78 (zPI (by rw [hr_]; symm; (repeat (first | rw [if_pos (by omega)] | rw [if_neg (by omega)])) <;> rfl) (by symm; (repeat (first | rw [if_pos (by omega)] | rw [if_neg (by omega)])) <;> rfl))
        refine z_iload_3 dX7_read_18 ?_
        refine z_aload_0 dX7_read_19 ?_
        refine z_getR (r := 88) fl_X7_47 zk_75 rfl rfl dX7_read_20 ?_
        refine z_iload_1 dX7_read_23 ?_
        refine z_iald (n := 4) zk_88 rfl (by omega) dX7_read_24 ?_
        refine z_icmp_ge (tgt := 61) (by omega) (by omega) dX7_read_25 (by decide) (fun c25 => ?_) (fun c25 => ?_)
        · exact J61  (by first | (rw [ha_, show M 88 k_ - i_ = 0 by omega]; show ((i_.toNat : Nat) : Int) = i_; omega) | (rw [ha_, show (M 88 k_ - i_).toNat = (M 88 k_ - i_ - 1).toNat + 1 by omega, rightN, Int.toNat_of_nonneg hi_.1, if_neg c51]))
        · have hv_ := hs_.2.2 i_ (by omega) (by omega)
          have hd_ := danger_le (day := M 76 0 + 1 + i_) (h := M 76 1) (SN_all hn)
          refine z_aload_0 dX7_read_28 ?_
          refine z_iload_1 dX7_read_29 ?_
          refine z_iload_3 dX7_read_30 ?_
          refine z_cVJ yv_X7_numberOf ml_X7_298 (c_X7_numberOf (by omega) (by omega)) zk_75 rfl rfl (by decide) (Nat.le_of_ble_eq_true rfl) dX7_read_31 ?_
          refine z_aload_0 dX7_read_34 ?_
          refine z_aload_0 dX7_read_35 ?_
          refine z_cVI yv_X7_today ml_X7_129 c_X7_today zk_75 rfl rfl (by decide) (Nat.le_of_ble_eq_true rfl) dX7_read_36 ?_
          refine z_iconst dX7_read_39 ?_
          refine z_iadd dX7_read_40 ?_
          refine z_iload_3 dX7_read_41 ?_
          refine z_iadd dX7_read_42 ?_
          refine z_aload_0 dX7_read_43 ?_
          refine z_cVI yv_X7_height ml_X7_111 c_X7_height zk_75 rfl rfl (by decide) (Nat.le_of_ble_eq_true rfl) dX7_read_44 ?_
          refine z_cVI yv_X7_dangerAt ml_X7_132 (c_X7_dangerAt hn (by omega) (by omega)) zk_75 rfl rfl (by decide) (Nat.le_of_ble_eq_true rfl) dX7_read_47 ?_
          refine z_i2l (by omega) dX7_read_50 ?_
          refine z_lcmp_ne (tgt := 61) (by omega) (by omega) dX7_read_51 dX7_read_52 (by decide) (fun c51 => ?_) (fun c51 => ?_)
          · exact J61  (by first | (rw [ha_, show M 88 k_ - i_ = 0 by omega]; show ((i_.toNat : Nat) : Int) = i_; omega) | (rw [ha_, show (M 88 k_ - i_).toNat = (M 88 k_ - i_ - 1).toNat + 1 by omega, rightN, Int.toNat_of_nonneg hi_.1, if_neg c51]))
          · refine z_iinc_3 rfl dX7_read_55 ?_
            refine z_goto (tgt := 18) dX7_read_58 (by decide) ?_
            exact ih18 _ (by omega) (by omega) (by rw [ha_, show (M 88 k_ - i_).toNat = (M 88 k_ - (i_ + 1)).toNat + 1 by omega, rightN, Int.toNat_of_nonneg hi_.1, if_pos c51, nat_1 hi_.1])
    have L18 : ∀ (i_ : Int), (0 ≤ i_ ∧ i_ ≤ M 88 k_) → (rightN (fun j_ => M 89 (40 * k_ + j_)) (fun j_ => danger (M 76 10).toNat (gS (M 76)) (M 76 0 + 1 + j_) (M 76 1)) (M 88 k_).toNat 0 = rightN (fun j_ => M 89 (40 * k_ + j_)) (fun j_ => danger (M 76 10).toNat (gS (M 76)) (M 76 0 + 1 + j_) (M 76 1)) (M 88 k_ - i_).toNat i_.toNat) → Z RX7 cX7_read 4 (some .int) 4 (zQ (PI (if ¬ (0 ≤ k_ ∧ k_ ≤ 3) then -1000000001 else if M 87 k_ = 0 then -1000000006 else if rightN (fun j_ => M 89 (40 * k_ + j_)) (fun j_ => danger (M 76 10).toNat (gS (M 76)) (M 76 0 + 1 + j_) (M 76 1)) (M 88 k_).toNat 0 = M 88 k_ then 0 else 1 + rightN (fun j_ => M 89 (40 * k_ + j_)) (fun j_ => danger (M 76 10).toNat (gS (M 76)) (M 76 0 + 1 + j_) (M 76 1)) (M 88 k_).toNat 0) (if ¬ (0 ≤ k_ ∧ k_ ≤ 3) then fnd7 M 0 else if M 87 k_ = 0 then fnd7 M 5 else M))) 18 [some (vR 75), some (vI k_), some (vI q_), some (vI i_)] [] (M) := fun i_ hi_ ha_ => K18 ((M 88 k_ - i_).toNat + 1) i_ (by omega) hi_ ha_
    exact L18 _ (by omega) (by rw [Int.sub_zero]; rfl)
  · refine z_aload_0 dX7_read_10 ?_
    refine z_iload_2 dX7_read_11 ?_
    refine z_cVI yv_X7_finding ml_X7_93 (c_X7_finding (by omega)) zk_75 rfl rfl (by decide) (Nat.le_of_ble_eq_true rfl) dX7_read_12 ?_
    exact z_iret dX7_read_15 (zPI (by rcases hq2_ with h_ | h_ | h_ <;> ((repeat (first | rw [if_pos (by omega)] | rw [if_neg (by omega)])) <;> omega)) (by rcases hq2_ with h_ | h_ | h_ <;> first | (rw [if_pos h_.1, h_.2]; done) | (rw [if_neg (by omega), if_pos h_.2.1, h_.2.2]; done) | (exfalso; omega)))
