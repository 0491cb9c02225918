theorem c_X2_isMissing {M : zM} {i_ : Nat} (hi : i_ < 4) (hb : -2147483648 ≤ M (56 + i_) 0 ∧ M (56 + i_) 0 < 2147483648) : Call yX2_isMissing cX2_isMissing 1 (some .boolean) 0 [vR (56 + i_)] (M) (PI (zb (M (56 + i_) 0 = 0)) M) := by
  refine Call.of2 (own := RX2) (lv0 := [some (vR (56 + i_))]) rfl (by decide) rfl (Nat.le_of_ble_eq_true rfl) ?_
  refine z_aload_0 dX2_isMissing_0 ?_
  refine z_getI fl_X2_9 (zsh_k hi) rfl dX2_isMissing_1 ?_
  refine z_if_ne (tgt := 11) (by omega) dX2_isMissing_4 (by decide) (fun c4 => ?_) (fun c4 => ?_)
  · refine z_iconst dX2_isMissing_11 ?_
    exact z_zret (by first | exact Or.inl rfl | exact Or.inr rfl | exact zb_01 | omega) dX2_isMissing_12 (zPI (by first | exact (zb_t (by omega)).symm | exact (zb_f (by omega)).symm) rfl)
  · refine z_iconst dX2_isMissing_7 ?_
    refine z_goto (tgt := 12) dX2_isMissing_8 (by decide) ?_
    exact z_zret (by first | exact Or.inl rfl | exact Or.inr rfl | exact zb_01 | omega) dX2_isMissing_12 (zPI (by first | exact (zb_t (by omega)).symm | exact (zb_f (by omega)).symm) rfl)

theorem c_X2_begin {M : zM} {i_ : Nat} (hi : i_ < 4) {a_ n_ : Int} (ha : -2147483648 ≤ a_ ∧ a_ < 2147483648) (hn : -2147483648 ≤ n_ ∧ n_ < 2147483648) : Call yX2_begin cX2_begin 4 none 1 [vR (56 + i_), vI a_, vI n_] (M) (PN (zrow (zput (zput M (56 + i_) 0 a_) (56 + i_) 1 (if a_ = 0 then 0 else n_)) (60 + i_) (zfillA (fun _ => 0) (M (60 + i_)) 0 40))) := by
  refine Call.of2 (own := RX2) (lv0 := [some (vR (56 + i_)), some (vI a_), some (vI n_), none]) rfl (by decide) rfl (Nat.le_of_ble_eq_true rfl) ?_
  refine z_aload_0 dX2_begin_0 ?_
  refine z_iload_1 dX2_begin_1 ?_
  refine z_putI fl_X2_9 (zsh_k hi) rfl dX2_begin_2 ?_
  have J18 : ∀ (z_ : Int), (z_ = (if a_ = 0 then 0 else n_)) → Z RX2 cX2_begin 4 none 1 (zQ (PN (zrow (zput (zput M (56 + i_) 0 a_) (56 + i_) 1 (if a_ = 0 then 0 else n_)) (60 + i_) (zfillA (fun _ => 0) (M (60 + i_)) 0 40)))) 18 [some (vR (56 + i_)), some (vI a_), some (vI n_), none] [vI z_, vR (56 + i_)] ((zput M (56 + i_) 0 a_)) := by
    intro z_ hz_
    refine z_putI fl_X2_15 (zsh_k hi) rfl dX2_begin_18 ?_
    refine z_iconst dX2_begin_21 ?_
    refine z_istore_3 rfl dX2_begin_22 ?_
    have K23 : ∀ (fuel_ : Nat) (j_ : Int) (N_ : zM), 40 - j_ < (fuel_ : Int) → (0 ≤ j_ ∧ j_ ≤ 40) → (N_ = zrow (zput (zput M (56 + i_) 0 a_) (56 + i_) 1 z_) (60 + i_) (zfillA (fun _ => 0) (M (60 + i_)) 0 j_)) → Z RX2 cX2_begin 4 none 1 (zQ (PN (zrow (zput (zput M (56 + i_) 0 a_) (56 + i_) 1 (if a_ = 0 then 0 else n_)) (60 + i_) (zfillA (fun _ => 0) (M (60 + i_)) 0 40)))) 23 [some (vR (56 + i_)), some (vI a_), some (vI n_), some (vI j_)] [] (N_) := by
      intro fuel_
      induction fuel_ with
      | zero => intro j_ N_ hfuel_ hj_ hN_; exfalso; omega
      | succ fuel_ ih23 =>
        intro j_ N_ hfuel_ hj_ hN_
        refine z_iload_3 dX2_begin_23 ?_
        refine z_bipush dX2_begin_24 (by decide) ?_
        refine z_icmp_ge (tgt := 42) (by omega) (by decide) dX2_begin_26 (by decide) (fun c26 => ?_) (fun c26 => ?_)
        · exact z_vret dX2_begin_42 (zPN (by rw [hN_, hz_, show j_ = 40 by omega]))
        · refine z_aload_0 dX2_begin_29 ?_
          refine z_getR (r := (60 + i_)) fl_X2_18 (zsh_k hi) rfl (zsh_R hi) dX2_begin_30 ?_
          refine z_iload_3 dX2_begin_33 ?_
          refine z_lconst0 dX2_begin_34 ?_
          refine z_last (n := 40) (zsh_n hi) (zsh_N hi) (by omega) dX2_begin_35 ?_
          refine z_iinc_3 rfl dX2_begin_36 ?_
          refine z_goto (tgt := 23) dX2_begin_39 (by decide) ?_
          exact ih23 _ _ (by omega) (by omega) (by rw [hN_]; exact zfillA_10 (f := fun _ => 0) hj_.1)
    have L23 : ∀ (j_ : Int) (N_ : zM), (0 ≤ j_ ∧ j_ ≤ 40) → (N_ = zrow (zput (zput M (56 + i_) 0 a_) (56 + i_) 1 z_) (60 + i_) (zfillA (fun _ => 0) (M (60 + i_)) 0 j_)) → Z RX2 cX2_begin 4 none 1 (zQ (PN (zrow (zput (zput M (56 + i_) 0 a_) (56 + i_) 1 (if a_ = 0 then 0 else n_)) (60 + i_) (zfillA (fun _ => 0) (M (60 + i_)) 0 40)))) 23 [some (vR (56 + i_)), some (vI a_), some (vI n_), some (vI j_)] [] (N_) := fun j_ N_ hj_ hN_ => K23 ((40 - j_).toNat + 1) j_ N_ (by omega) hj_ hN_
    exact L23 _ _ (by omega) (by rw [zfillA_0, show M (60 + i_) = (zput (zput M (56 + i_) 0 a_) (56 + i_) 1 z_) (60 + i_) by rw [zput_ne (by omega), zput_ne (by omega)], zrow_self])
  refine z_aload_0 dX2_begin_5 ?_
  refine z_aload_0 dX2_begin_6 ?_
  refine z_cVI yv_X2_isMissing ml_X2_22 (c_X2_isMissing hi (by rw [zput_eq]; omega)) (zsh_k hi) rfl rfl (by decide) (Nat.le_of_ble_eq_true rfl) dX2_begin_7 ?_
  rw [zput_eq]
  refine z_ifb_eq (tgt := 17) dX2_begin_10 (by decide) (fun c10 => ?_) (fun c10 => ?_)
  · refine z_iload_2 dX2_begin_17 ?_
    exact J18 _ (by first | (rw [if_pos (by omega)]; done) | (rw [if_neg (by omega)]; done))
  · refine z_iconst dX2_begin_13 ?_
    refine z_goto (tgt := 18) dX2_begin_14 (by decide) ?_
    exact J18 _ (by first | (rw [if_pos (by omega)]; done) | (rw [if_neg (by omega)]; done))

theorem c_X2_put {M : zM} {i_ : Nat} (hi : i_ < 4) {j_ v_ : Int} (hj : 0 ≤ j_ ∧ j_ < 40) (hb : -2147483648 ≤ M (56 + i_) 0 ∧ M (56 + i_) 0 < 2147483648) : Call yX2_put cX2_put 4 none 0 [vR (56 + i_), vI j_, vJ v_] (M) (PN (zput M (60 + i_) j_ (if M (56 + i_) 0 = 8 then Int.bmod v_ 256 else if M (56 + i_) 0 = 16 then Int.bmod v_ 65536 else v_))) := by
  refine Call.of2 (own := RX2) (lv0 := [some (vR (56 + i_)), some (vI j_), some (vJ v_), none]) rfl (by decide) rfl (Nat.le_of_ble_eq_true rfl) ?_
  have hb1_ := Int.le_bmod (x := v_) (m := 256) (by decide)
  have hb2_ := Int.bmod_lt (x := v_) (m := 256) (by decide)
  have hb3_ := Int.le_bmod (x := v_) (m := 65536) (by decide)
  have hb4_ := Int.bmod_lt (x := v_) (m := 65536) (by decide)
  refine z_aload_0 dX2_put_0 ?_
  refine z_getI fl_X2_9 (zsh_k hi) rfl dX2_put_1 ?_
  rcases (show ((M (56 + i_) 0) ≠ 8 ∧ (M (56 + i_) 0) ≠ 16) ∨ (M (56 + i_) 0) = 8 ∨ (M (56 + i_) 0) = 16 from by omega) with c4 | c4 | c4
  · refine z_lookup (off := 54) (tgt := 58) (by omega) dX2_put_4 (by decide) (by simp [Op.lookupswitch.offset] <;> (repeat rw [if_neg (by omega)])) (by decide) ?_
    refine z_aload_0 dX2_put_58 ?_
    refine z_getR (r := (60 + i_)) fl_X2_18 (zsh_k hi) rfl (zsh_R hi) dX2_put_59 ?_
    refine z_iload_1 dX2_put_62 ?_
    refine z_lload_2 dX2_put_63 ?_
    refine z_last (n := 40) (zsh_n hi) (zsh_N hi) (by omega) dX2_put_64 ?_
    exact z_vret dX2_put_65 (zPN (by (repeat (first | rw [if_pos (by omega)] | rw [if_neg (by omega)])) <;> rfl))
  · refine z_lookup (off := 28) (tgt := 32) (by omega) dX2_put_4 (by decide) (by rw [c4]; rfl) (by decide) ?_
    refine z_aload_0 dX2_put_32 ?_
    refine z_getR (r := (60 + i_)) fl_X2_18 (zsh_k hi) rfl (zsh_R hi) dX2_put_33 ?_
    refine z_iload_1 dX2_put_36 ?_
    refine z_lload_2 dX2_put_37 ?_
    refine z_l2i dX2_put_38 ?_
    refine z_i2b dX2_put_39 ?_
    refine z_i2l (by omega) dX2_put_40 ?_
    refine z_last (n := 40) (zsh_n hi) (zsh_N hi) (by omega) dX2_put_41 ?_
    refine z_goto (tgt := 65) dX2_put_42 (by decide) ?_
    exact z_vret dX2_put_65 (zPN (by (repeat (first | rw [if_pos (by omega)] | rw [if_neg (by omega)])) <;> rfl))
  · refine z_lookup (off := 41) (tgt := 45) (by omega) dX2_put_4 (by decide) (by rw [c4]; rfl) (by decide) ?_
    refine z_aload_0 dX2_put_45 ?_
    refine z_getR (r := (60 + i_)) fl_X2_18 (zsh_k hi) rfl (zsh_R hi) dX2_put_46 ?_
    refine z_iload_1 dX2_put_49 ?_
    refine z_lload_2 dX2_put_50 ?_
    refine z_l2i dX2_put_51 ?_
    refine z_i2s dX2_put_52 ?_
    refine z_i2l (by omega) dX2_put_53 ?_
    refine z_last (n := 40) (zsh_n hi) (zsh_N hi) (by omega) dX2_put_54 ?_
    refine z_goto (tgt := 65) dX2_put_55 (by decide) ?_
    exact z_vret dX2_put_65 (zPN (by (repeat (first | rw [if_pos (by omega)] | rw [if_neg (by omega)])) <;> rfl))

theorem c_X2_hasFrom {M : zM} {i_ : Nat} (hi : i_ < 4) {a_ n_ : Int} (ha : -2147483648 ≤ a_ ∧ a_ < 2147483648) (hn : -2147483648 ≤ n_ ∧ n_ < 2147483648) (hs : 0 ≤ M (56 + i_) 1 ∧ M (56 + i_) 1 ≤ 40) : Call yX2_hasFrom cX2_hasFrom 3 (some .boolean) 0 [vR (56 + i_), vI a_, vI n_] (M) (PI (zb (0 ≤ a_ ∧ 0 ≤ n_ ∧ n_ ≤ M (56 + i_) 1 ∧ a_ ≤ M (56 + i_) 1 - n_)) M) := by
  refine Call.of2 (own := RX2) (lv0 := [some (vR (56 + i_)), some (vI a_), some (vI n_)]) rfl (by decide) rfl (Nat.le_of_ble_eq_true rfl) ?_
  refine z_iload_1 dX2_hasFrom_0 ?_
  refine z_if_lt (tgt := 30) (by omega) dX2_hasFrom_1 (by decide) (fun c1 => ?_) (fun c1 => ?_)
  · refine z_iconst dX2_hasFrom_30 ?_
    exact z_zret (by first | exact Or.inl rfl | exact Or.inr rfl | exact zb_01 | omega) dX2_hasFrom_31 (zPI (by first | exact (zb_t (by omega)).symm | exact (zb_f (by omega)).symm) rfl)
  · refine z_iload_2 dX2_hasFrom_4 ?_
    refine z_if_lt (tgt := 30) (by omega) dX2_hasFrom_5 (by decide) (fun c5 => ?_) (fun c5 => ?_)
    · refine z_iconst dX2_hasFrom_30 ?_
      exact z_zret (by first | exact Or.inl rfl | exact Or.inr rfl | exact zb_01 | omega) dX2_hasFrom_31 (zPI (by first | exact (zb_t (by omega)).symm | exact (zb_f (by omega)).symm) rfl)
    · refine z_iload_2 dX2_hasFrom_8 ?_
      refine z_aload_0 dX2_hasFrom_9 ?_
      refine z_getI fl_X2_15 (zsh_k hi) rfl dX2_hasFrom_10 ?_
      refine z_icmp_gt (tgt := 30) (by omega) (by omega) dX2_hasFrom_13 (by decide) (fun c13 => ?_) (fun c13 => ?_)
      · refine z_iconst dX2_hasFrom_30 ?_
        exact z_zret (by first | exact Or.inl rfl | exact Or.inr rfl | exact zb_01 | omega) dX2_hasFrom_31 (zPI (by first | exact (zb_t (by omega)).symm | exact (zb_f (by omega)).symm) rfl)
      · refine z_iload_1 dX2_hasFrom_16 ?_
        refine z_aload_0 dX2_hasFrom_17 ?_
        refine z_getI fl_X2_15 (zsh_k hi) rfl dX2_hasFrom_18 ?_
        refine z_iload_2 dX2_hasFrom_21 ?_
        refine z_isub dX2_hasFrom_22 ?_
        refine z_icmp_gt (tgt := 30) (by omega) (by omega) dX2_hasFrom_23 (by decide) (fun c23 => ?_) (fun c23 => ?_)
        · refine z_iconst dX2_hasFrom_30 ?_
          exact z_zret (by first | exact Or.inl rfl | exact Or.inr rfl | exact zb_01 | omega) dX2_hasFrom_31 (zPI (by first | exact (zb_t (by omega)).symm | exact (zb_f (by omega)).symm) rfl)
        · refine z_iconst dX2_hasFrom_26 ?_
          refine z_goto (tgt := 31) dX2_hasFrom_27 (by decide) ?_
          exact z_zret (by first | exact Or.inl rfl | exact Or.inr rfl | exact zb_01 | omega) dX2_hasFrom_31 (zPI (by first | exact (zb_t (by omega)).symm | exact (zb_f (by omega)).symm) rfl)

theorem c_X2_isWithin {M : zM} {i_ : Nat} (hi : i_ < 4) {b_ : Int} (hb : 0 ≤ b_ ∧ b_ ≤ 1000000) (hs : 0 ≤ M (56 + i_) 1 ∧ M (56 + i_) 1 ≤ 40) (hv : ∀ j : Int, 0 ≤ j → j < 40 → -9223372036854775808 ≤ M (60 + i_) j ∧ M (60 + i_) j < 9223372036854775808) : Call yX2_isWithin cX2_isWithin 3 (some .boolean) 0 [vR (56 + i_), vI b_] (M) (PI (zb (inAll (M (60 + i_)) b_ (M (56 + i_) 1).toNat = true)) M) := by
  refine Call.of2 (own := RX2) (lv0 := [some (vR (56 + i_)), some (vI b_), none]) rfl (by decide) rfl (Nat.le_of_ble_eq_true rfl) ?_
  refine z_iconst dX2_isWithin_0 ?_
  refine z_istore_2 rfl dX2_isWithin_1 ?_
  have K2 : ∀ (fuel_ : Nat) (j_ : Int), M (56 + i_) 1 - j_ < (fuel_ : Int) → (0 ≤ j_ ∧ j_ ≤ M (56 + i_) 1) → (inAll (M (60 + i_)) b_ j_.toNat = true) → Z RX2 cX2_isWithin 3 (some .boolean) 0 (zQ (PI (zb (inAll (M (60 + i_)) b_ (M (56 + i_) 1).toNat = true)) M)) 2 [some (vR (56 + i_)), some (vI b_), some (vI j_)] [] (M) := by
    intro fuel_
    induction fuel_ with
    | zero => intro j_ hfuel_ hj_ ha_; exfalso; omega
    | succ fuel_ ih2 =>
      intro j_ hfuel_ hj_ ha_
      refine z_iload_2 dX2_isWithin_2 ?_
      refine z_aload_0 dX2_isWithin_3 ?_
      refine z_getI fl_X2_15 (zsh_k hi) rfl dX2_isWithin_4 ?_
      refine z_icmp_ge (tgt := 43) (by omega) (by omega) dX2_isWithin_7 (by decide) (fun c7 => ?_) (fun c7 => ?_)
      · refine z_iconst dX2_isWithin_43 ?_
        exact z_zret (by first | exact Or.inl rfl | exact Or.inr rfl | exact zb_01 | omega) dX2_isWithin_44 (zPI ((zb_t (by rw [show M (56 + i_) 1 = j_ by omega]; exact ha_)).symm) rfl)
      · have hx_ := hv j_ (by omega) (by omega)
        refine z_aload_0 dX2_isWithin_10 ?_
        refine z_getR (r := (60 + i_)) fl_X2_18 (zsh_k hi) rfl (zsh_R hi) dX2_isWithin_11 ?_
        refine z_iload_2 dX2_isWithin_14 ?_
        refine z_lald (n := 40) (zsh_n hi) (zsh_N hi) (by omega) dX2_isWithin_15 ?_
        refine z_iload_1 dX2_isWithin_16 ?_
        refine z_ineg dX2_isWithin_17 ?_
        refine z_i2l (by omega) dX2_isWithin_18 ?_
        refine z_lcmp_lt (tgt := 35) (by omega) (by omega) dX2_isWithin_19 dX2_isWithin_20 (by decide) (fun c19 => ?_) (fun c19 => ?_)
        · refine z_iconst dX2_isWithin_35 ?_
          exact z_zret (by first | exact Or.inl rfl | exact Or.inr rfl | exact zb_01 | omega) dX2_isWithin_36 (zPI ((zb_f (fun h_ => by have h2_ := inAll_all _ h_ j_ (by omega) (by omega); omega)).symm) rfl)
        · refine z_aload_0 dX2_isWithin_23 ?_
          refine z_getR (r := (60 + i_)) fl_X2_18 (zsh_k hi) rfl (zsh_R hi) dX2_isWithin_24 ?_
          refine z_iload_2 dX2_isWithin_27 ?_
          refine z_lald (n := 40) (zsh_n hi) (zsh_N hi) (by omega) dX2_isWithin_28 ?_
          refine z_iload_1 dX2_isWithin_29 ?_
          refine z_i2l (by omega) dX2_isWithin_30 ?_
          refine z_lcmp_le (tgt := 37) (by omega) (by omega) dX2_isWithin_31 dX2_isWithin_32 (by decide) (fun c31 => ?_) (fun c31 => ?_)
          · refine z_iinc_2 rfl dX2_isWithin_37 ?_
            refine z_goto (tgt := 2) dX2_isWithin_40 (by decide) ?_
            exact ih2 _ (by omega) (by omega) (by rw [inAll_t (by omega) (by omega)]; exact ha_)
          · refine z_iconst dX2_isWithin_35 ?_
            exact z_zret (by first | exact Or.inl rfl | exact Or.inr rfl | exact zb_01 | omega) dX2_isWithin_36 (zPI ((zb_f (fun h_ => by have h2_ := inAll_all _ h_ j_ (by omega) (by omega); omega)).symm) rfl)
  have L2 : ∀ (j_ : Int), (0 ≤ j_ ∧ j_ ≤ M (56 + i_) 1) → (inAll (M (60 + i_)) b_ j_.toNat = true) → Z RX2 cX2_isWithin 3 (some .boolean) 0 (zQ (PI (zb (inAll (M (60 + i_)) b_ (M (56 + i_) 1).toNat = true)) M)) 2 [some (vR (56 + i_)), some (vI b_), some (vI j_)] [] (M) := fun j_ hj_ ha_ => K2 ((M (56 + i_) 1 - j_).toNat + 1) j_ (by omega) hj_ ha_
  exact L2 _ (by omega) (by rfl)

theorem c_X6_findingOfSheet {M : zM} {k_ : Int} (hS : SH6 M) (hk : -2147483648 ≤ k_ ∧ k_ < 2147483648) : Call yX6_findingOfSheet cX6_findingOfSheet 2 (some .int) 2 [vR 0, vI k_] (M) (PI (if ¬ (0 ≤ k_ ∧ k_ ≤ 3) then -1000000001 else if M (56 + k_.toNat) 0 = 0 then -1000000006 else 0) M) := by
  refine Call.of2 (own := RX6) (lv0 := [some (vR 0), some (vI k_)]) rfl (by decide) rfl (Nat.le_of_ble_eq_true rfl) ?_
  refine z_iload_1 dX6_findingOfSheet_0 ?_
  refine z_cSI ys_X6_isNoSheet ml_X6_261 (c_X6_isNoSheet (by omega)) rfl rfl (by decide) (Nat.le_of_ble_eq_true rfl) dX6_findingOfSheet_1 ?_
  refine z_ifb_eq (tgt := 10) dX6_findingOfSheet_4 (by decide) (fun c4 => ?_) (fun c4 => ?_)
  · have hs_ := hS k_.toNat (by omega)
    refine z_aload_0 dX6_findingOfSheet_10 ?_
    refine z_getR (r := 5) fl_X6_36 zk_0 rfl rfl dX6_findingOfSheet_11 ?_
    refine z_iload_1 dX6_findingOfSheet_14 ?_
    refine z_aald11 (n := 4) (r := (56 + k_.toNat)) zk_5 rfl (by omega) (zsh_A (by omega)) dX6_findingOfSheet_15 ?_
    refine z_cVI yv_X2_isMissing ml_X6_292 (c_X2_isMissing (by omega) (by omega)) (zsh_k (by omega)) rfl rfl (by decide) (Nat.le_of_ble_eq_true rfl) dX6_findingOfSheet_16 ?_
    refine z_ifb_eq (tgt := 28) dX6_findingOfSheet_19 (by decide) (fun c19 => ?_) (fun c19 => ?_)
    · refine z_iconst dX6_findingOfSheet_28 ?_
      exact z_iret dX6_findingOfSheet_29 (zPI (by (repeat (first | rw [if_pos (by omega)] | rw [if_neg (by omega)])) <;> rfl) rfl)
    · refine z_ldcw (n := -1000000006) kc_X6_295 (by decide) dX6_findingOfSheet_22 ?_
      refine z_goto (tgt := 29) dX6_findingOfSheet_25 (by decide) ?_
      exact z_iret dX6_findingOfSheet_29 (zPI (by (repeat (first | rw [if_pos (by omega)] | rw [if_neg (by omega)])) <;> rfl) rfl)
  · refine z_ldc (n := -1000000001) kc_X6_79 (by decide) dX6_findingOfSheet_7 ?_
    exact z_iret dX6_findingOfSheet_9 (zPI (by (repeat (first | rw [if_pos (by omega)] | rw [if_neg (by omega)])) <;> rfl) rfl)

theorem c_X6_findingOfPair {M : zM} {k_ : Int} (hS : SH6 M) (hk : -2147483648 ≤ k_ ∧ k_ < 2147483648) : Call yX6_findingOfPair cX6_findingOfPair 3 (some .int) 3 [vR 0, vI k_] (M) (PI (if ¬ (0 ≤ k_ ∧ k_ ≤ 3) then -1000000001 else if M (56 + k_.toNat) 0 = 0 then -1000000006 else if M (56 + k_.toNat) 1 ≠ 8 then -1000000007 else if inAll (M (60 + k_.toNat)) 1000000 (M (56 + k_.toNat) 1).toNat = true then 0 else -1000000003) M) := by
  refine Call.of2 (own := RX6) (lv0 := [some (vR 0), some (vI k_), none]) rfl (by decide) rfl (Nat.le_of_ble_eq_true rfl) ?_
  refine z_aload_0 dX6_findingOfPair_0 ?_
  refine z_iload_1 dX6_findingOfPair_1 ?_
  refine z_cVI yv_X6_findingOfSheet ml_X6_285 (c_X6_findingOfSheet hS hk) zk_0 rfl rfl (by decide) (Nat.le_of_ble_eq_true rfl) dX6_findingOfPair_2 ?_
  generalize hq_ : (if ¬ (0 ≤ k_ ∧ k_ ≤ 3) then (-1000000001 : Int) else if M (56 + k_.toNat) 0 = 0 then -1000000006 else 0) = q_
  have hq2_ : (¬ (0 ≤ k_ ∧ k_ ≤ 3) ∧ q_ = -1000000001) ∨ ((0 ≤ k_ ∧ k_ ≤ 3) ∧ M (56 + k_.toNat) 0 = 0 ∧ q_ = -1000000006) ∨ ((0 ≤ k_ ∧ k_ ≤ 3) ∧ ¬ M (56 + k_.toNat) 0 = 0 ∧ q_ = 0) := by rw [← hq_]; split <;> (try split) <;> omega
  refine z_istore_2 rfl dX6_findingOfPair_5 ?_
  refine z_iload_2 dX6_findingOfPair_6 ?_
  refine z_if_eq (tgt := 12) (by omega) dX6_findingOfPair_7 (by decide) (fun c7 => ?_) (fun c7 => ?_)
  · have hs_ := hS k_.toNat (by omega)
    refine z_aload_0 dX6_findingOfPair_12 ?_
    refine z_getR (r := 5) fl_X6_36 zk_0 rfl rfl dX6_findingOfPair_13 ?_
    refine z_iload_1 dX6_findingOfPair_16 ?_
    refine z_aald11 (n := 4) (r := (56 + k_.toNat)) zk_5 rfl (by omega) (zsh_A (by omega)) dX6_findingOfPair_17 ?_
    refine z_getI fl_X6_275 (zsh_k (by omega)) rfl dX6_findingOfPair_18 ?_
    refine z_bipush dX6_findingOfPair_21 (by decide) ?_
    refine z_icmp_eq (tgt := 30) (by omega) (by decide) dX6_findingOfPair_23 (by decide) (fun c23 => ?_) (fun c23 => ?_)
    · refine z_aload_0 dX6_findingOfPair_30 ?_
      refine z_getR (r := 5) fl_X6_36 zk_0 rfl rfl dX6_findingOfPair_31 ?_
      refine z_iload_1 dX6_findingOfPair_34 ?_
      refine z_aald11 (n := 4) (r := (56 + k_.toNat)) zk_5 rfl (by omega) (zsh_A (by omega)) dX6_findingOfPair_35 ?_
      refine z_ldc (n := 1000000) kc_X6_124 (by decide) dX6_findingOfPair_36 ?_
      refine z_cVI yv_X2_isWithin ml_X6_317 (c_X2_isWithin (by omega) (by decide) hs_.2.1 hs_.2.2) (zsh_k (by omega)) rfl rfl (by decide) (Nat.le_of_ble_eq_true rfl) dX6_findingOfPair_38 ?_
      refine z_ifb_eq (tgt := 48) dX6_findingOfPair_41 (by decide) (fun c41 => ?_) (fun c41 => ?_)
      · refine z_ldc (n := -1000000003) kc_X6_165 (by decide) dX6_findingOfPair_48 ?_
        exact z_iret dX6_findingOfPair_50 (zPI (by first | (rw [if_neg (by omega), if_neg (by omega), if_neg (by omega), if_pos c41]; done) | (rw [if_neg (by omega), if_neg (by omega), if_neg (by omega), if_neg c41]; done)) rfl)
      · refine z_iconst dX6_findingOfPair_44 ?_
        refine z_goto (tgt := 50) dX6_findingOfPair_45 (by decide) ?_
        exact z_iret dX6_findingOfPair_50 (zPI (by first | (rw [if_neg (by omega), if_neg (by omega), if_neg (by omega), if_pos c41]; done) | (rw [if_neg (by omega), if_neg (by omega), if_neg (by omega), if_neg c41]; done)) rfl)
    · refine z_ldcw (n := -1000000007) kc_X6_281 (by decide) dX6_findingOfPair_26 ?_
      exact z_iret dX6_findingOfPair_29 (zPI (by (repeat (first | rw [if_pos (by omega)] | rw [if_neg (by omega)])) <;> rfl) rfl)
  · refine z_iload_2 dX6_findingOfPair_10 ?_
    exact z_iret dX6_findingOfPair_11 (zPI (by (repeat (first | rw [if_pos (by omega)] | rw [if_neg (by omega)])) <;> omega) rfl)

theorem c_X6_sheet {M : zM} {k_ a_ n_ : Int} (hk : -2147483648 ≤ k_ ∧ k_ < 2147483648) (ha : -2147483648 ≤ a_ ∧ a_ < 2147483648) (hn : -2147483648 ≤ n_ ∧ n_ < 2147483648) : Call yX6_sheet cX6_sheet 4 (some .int) 2 [vR 0, vI k_, vI a_, vI n_] (M) (PI (if ¬ ((0 ≤ k_ ∧ k_ ≤ 3) ∧ (a_ = 0 ∨ a_ = 8 ∨ a_ = 16 ∨ a_ = 64)) then -1000000001 else if n_ < 0 then -1000000007 else if 40 < n_ then -1000000001 else (if a_ = 0 then 0 else n_)) (if ¬ ((0 ≤ k_ ∧ k_ ≤ 3) ∧ (a_ = 0 ∨ a_ = 8 ∨ a_ = 16 ∨ a_ = 64)) then fnd6 M 0 else if n_ < 0 then fnd6 M 6 else if 40 < n_ then fnd6 M 0 else (zrow (zput (zput M (56 + k_.toNat) 0 a_) (56 + k_.toNat) 1 (if a_ = 0 then 0 else n_)) (60 + k_.toNat) (zfillA (fun _ => 0) (M (60 + k_.toNat)) 0 40)))) := by
  refine Call.of2 (own := RX6) (lv0 := [some (vR 0), some (vI k_), some (vI a_), some (vI n_)]) rfl (by decide) rfl (Nat.le_of_ble_eq_true rfl) ?_
  refine z_iload_1 dX6_sheet_0 ?_
  refine z_cSI ys_X6_isNoSheet ml_X6_261 (c_X6_isNoSheet (by omega)) rfl rfl (by decide) (Nat.le_of_ble_eq_true rfl) dX6_sheet_1 ?_
  refine z_ifb_ne (tgt := 29) dX6_sheet_4 (by decide) (fun c4 => ?_) (fun c4 => ?_)
  · refine z_aload_0 dX6_sheet_29 ?_
    refine z_ldc (n := -1000000001) kc_X6_79 (by decide) dX6_sheet_30 ?_
    refine z_cVI yv_X6_finding ml_X6_80 (c_X6_finding (by omega)) zk_0 rfl rfl (by decide) (Nat.le_of_ble_eq_true rfl) dX6_sheet_32 ?_
    exact z_iret dX6_sheet_35 (zPI (by (repeat (first | rw [if_pos (by omega)] | rw [if_neg (by omega)])) <;> rfl) (by (repeat (first | rw [if_pos (by omega)] | rw [if_neg (by omega)])) <;> rfl))
  · refine z_iload_2 dX6_sheet_7 ?_
    refine z_if_eq (tgt := 36) (by omega) dX6_sheet_8 (by decide) (fun c8 => ?_) (fun c8 => ?_)
    · refine z_iload_3 dX6_sheet_36 ?_
      refine z_if_ge (tgt := 48) (by omega) dX6_sheet_37 (by decide) (fun c37 => ?_) (fun c37 => ?_)
      · refine z_iload_3 dX6_sheet_48 ?_
        refine z_bipush dX6_sheet_49 (by decide) ?_
        refine z_icmp_le (tgt := 61) (by omega) (by decide) dX6_sheet_51 (by decide) (fun c51 => ?_) (fun c51 => ?_)
        · refine z_aload_0 dX6_sheet_61 ?_
          refine z_getR (r := 5) fl_X6_36 zk_0 rfl rfl dX6_sheet_62 ?_
          refine z_iload_1 dX6_sheet_65 ?_
          refine z_aald11 (n := 4) (r := (56 + k_.toNat)) zk_5 rfl (by omega) (zsh_A (by omega)) dX6_sheet_66 ?_
          refine z_iload_2 dX6_sheet_67 ?_
          refine z_iload_3 dX6_sheet_68 ?_
          refine z_cVN yv_X2_begin ml_X6_282 (c_X2_begin (by omega) (by omega) (by omega)) (zsh_k (by omega)) rfl rfl (by decide) (Nat.le_of_ble_eq_true rfl) dX6_sheet_69 ?_
          refine z_aload_0 dX6_sheet_72 ?_
          refine z_getR (r := 5) fl_X6_36 zk_0 rfl rfl dX6_sheet_73 ?_
          refine z_iload_1 dX6_sheet_76 ?_
          refine z_aald11 (n := 4) (r := (56 + k_.toNat)) zk_5 rfl (by omega) (zsh_A (by omega)) dX6_sheet_77 ?_
          refine z_getIv (v := (if a_ = 0 then 0 else n_)) fl_X6_275 (zsh_k (by omega)) rfl (by rw [zrow_ne (by omega), zput_eq]) dX6_sheet_78 ?_
          exact z_iret dX6_sheet_81 (zPI (by rw [if_neg (show ¬ ¬ ((0 ≤ k_ ∧ k_ ≤ 3) ∧ (a_ = 0 ∨ a_ = 8 ∨ a_ = 16 ∨ a_ = 64)) by omega), if_neg (show ¬ n_ < 0 by omega), if_neg (show ¬ 40 < n_ by omega)]) (by rw [if_neg (show ¬ ¬ ((0 ≤ k_ ∧ k_ ≤ 3) ∧ (a_ = 0 ∨ a_ = 8 ∨ a_ = 16 ∨ a_ = 64)) by omega), if_neg (show ¬ n_ < 0 by omega), if_neg (show ¬ 40 < n_ by omega)]))
        · refine z_aload_0 dX6_sheet_54 ?_
          refine z_ldc (n := -1000000001) kc_X6_79 (by decide) dX6_sheet_55 ?_
          refine z_cVI yv_X6_finding ml_X6_80 (c_X6_finding (by omega)) zk_0 rfl rfl (by decide) (Nat.le_of_ble_eq_true rfl) dX6_sheet_57 ?_
          exact z_iret dX6_sheet_60 (zPI (by (repeat (first | rw [if_pos (by omega)] | rw [if_neg (by omega)])) <;> rfl) (by (repeat (first | rw [if_pos (by omega)] | rw [if_neg (by omega)])) <;> rfl))
      · refine z_aload_0 dX6_sheet_40 ?_
        refine z_ldcw (n := -1000000007) kc_X6_281 (by decide) dX6_sheet_41 ?_
        refine z_cVI yv_X6_finding ml_X6_80 (c_X6_finding (by omega)) zk_0 rfl rfl (by decide) (Nat.le_of_ble_eq_true rfl) dX6_sheet_44 ?_
        exact z_iret dX6_sheet_47 (zPI (by (repeat (first | rw [if_pos (by omega)] | rw [if_neg (by omega)])) <;> rfl) (by (repeat (first | rw [if_pos (by omega)] | rw [if_neg (by omega)])) <;> rfl))
    · refine z_iload_2 dX6_sheet_11 ?_
      refine z_bipush dX6_sheet_12 (by decide) ?_
      refine z_icmp_eq (tgt := 36) (by omega) (by decide) dX6_sheet_14 (by decide) (fun c14 => ?_) (fun c14 => ?_)
      · refine z_iload_3 dX6_sheet_36 ?_
        refine z_if_ge (tgt := 48) (by omega) dX6_sheet_37 (by decide) (fun c37 => ?_) (fun c37 => ?_)
        · refine z_iload_3 dX6_sheet_48 ?_
          refine z_bipush dX6_sheet_49 (by decide) ?_
          refine z_icmp_le (tgt := 61) (by omega) (by decide) dX6_sheet_51 (by decide) (fun c51 => ?_) (fun c51 => ?_)
          · refine z_aload_0 dX6_sheet_61 ?_
            refine z_getR (r := 5) fl_X6_36 zk_0 rfl rfl dX6_sheet_62 ?_
            refine z_iload_1 dX6_sheet_65 ?_
            refine z_aald11 (n := 4) (r := (56 + k_.toNat)) zk_5 rfl (by omega) (zsh_A (by omega)) dX6_sheet_66 ?_
            refine z_iload_2 dX6_sheet_67 ?_
            refine z_iload_3 dX6_sheet_68 ?_
            refine z_cVN yv_X2_begin ml_X6_282 (c_X2_begin (by omega) (by omega) (by omega)) (zsh_k (by omega)) rfl rfl (by decide) (Nat.le_of_ble_eq_true rfl) dX6_sheet_69 ?_
            refine z_aload_0 dX6_sheet_72 ?_
            refine z_getR (r := 5) fl_X6_36 zk_0 rfl rfl dX6_sheet_73 ?_
            refine z_iload_1 dX6_sheet_76 ?_
            refine z_aald11 (n := 4) (r := (56 + k_.toNat)) zk_5 rfl (by omega) (zsh_A (by omega)) dX6_sheet_77 ?_
            refine z_getIv (v := (if a_ = 0 then 0 else n_)) fl_X6_275 (zsh_k (by omega)) rfl (by rw [zrow_ne (by omega), zput_eq]) dX6_sheet_78 ?_
            exact z_iret dX6_sheet_81 (zPI (by rw [if_neg (show ¬ ¬ ((0 ≤ k_ ∧ k_ ≤ 3) ∧ (a_ = 0 ∨ a_ = 8 ∨ a_ = 16 ∨ a_ = 64)) by omega), if_neg (show ¬ n_ < 0 by omega), if_neg (show ¬ 40 < n_ by omega)]) (by rw [if_neg (show ¬ ¬ ((0 ≤ k_ ∧ k_ ≤ 3) ∧ (a_ = 0 ∨ a_ = 8 ∨ a_ = 16 ∨ a_ = 64)) by omega), if_neg (show ¬ n_ < 0 by omega), if_neg (show ¬ 40 < n_ by omega)]))
          · refine z_aload_0 dX6_sheet_54 ?_
            refine z_ldc (n := -1000000001) kc_X6_79 (by decide) dX6_sheet_55 ?_
            refine z_cVI yv_X6_finding ml_X6_80 (c_X6_finding (by omega)) zk_0 rfl rfl (by decide) (Nat.le_of_ble_eq_true rfl) dX6_sheet_57 ?_
            exact z_iret dX6_sheet_60 (zPI (by (repeat (first | rw [if_pos (by omega)] | rw [if_neg (by omega)])) <;> rfl) (by (repeat (first | rw [if_pos (by omega)] | rw [if_neg (by omega)])) <;> rfl))
        · refine z_aload_0 dX6_sheet_40 ?_
          refine z_ldcw (n := -1000000007) kc_X6_281 (by decide) dX6_sheet_41 ?_
          refine z_cVI yv_X6_finding ml_X6_80 (c_X6_finding (by omega)) zk_0 rfl rfl (by decide) (Nat.le_of_ble_eq_true rfl) dX6_sheet_44 ?_
          exact z_iret dX6_sheet_47 (zPI (by (repeat (first | rw [if_pos (by omega)] | rw [if_neg (by omega)])) <;> rfl) (by (repeat (first | rw [if_pos (by omega)] | rw [if_neg (by omega)])) <;> rfl))
      · refine z_iload_2 dX6_sheet_17 ?_
        refine z_bipush dX6_sheet_18 (by decide) ?_
        refine z_icmp_eq (tgt := 36) (by omega) (by decide) dX6_sheet_20 (by decide) (fun c20 => ?_) (fun c20 => ?_)
        · refine z_iload_3 dX6_sheet_36 ?_
          refine z_if_ge (tgt := 48) (by omega) dX6_sheet_37 (by decide) (fun c37 => ?_) (fun c37 => ?_)
          · refine z_iload_3 dX6_sheet_48 ?_
            refine z_bipush dX6_sheet_49 (by decide) ?_
            refine z_icmp_le (tgt := 61) (by omega) (by decide) dX6_sheet_51 (by decide) (fun c51 => ?_) (fun c51 => ?_)
            · refine z_aload_0 dX6_sheet_61 ?_
              refine z_getR (r := 5) fl_X6_36 zk_0 rfl rfl dX6_sheet_62 ?_
              refine z_iload_1 dX6_sheet_65 ?_
              refine z_aald11 (n := 4) (r := (56 + k_.toNat)) zk_5 rfl (by omega) (zsh_A (by omega)) dX6_sheet_66 ?_
              refine z_iload_2 dX6_sheet_67 ?_
              refine z_iload_3 dX6_sheet_68 ?_
              refine z_cVN yv_X2_begin ml_X6_282 (c_X2_begin (by omega) (by omega) (by omega)) (zsh_k (by omega)) rfl rfl (by decide) (Nat.le_of_ble_eq_true rfl) dX6_sheet_69 ?_
              refine z_aload_0 dX6_sheet_72 ?_
              refine z_getR (r := 5) fl_X6_36 zk_0 rfl rfl dX6_sheet_73 ?_
              refine z_iload_1 dX6_sheet_76 ?_
              refine z_aald11 (n := 4) (r := (56 + k_.toNat)) zk_5 rfl (by omega) (zsh_A (by omega)) dX6_sheet_77 ?_
              refine z_getIv (v := (if a_ = 0 then 0 else n_)) fl_X6_275 (zsh_k (by omega)) rfl (by rw [zrow_ne (by omega), zput_eq]) dX6_sheet_78 ?_
              exact z_iret dX6_sheet_81 (zPI (by rw [if_neg (show ¬ ¬ ((0 ≤ k_ ∧ k_ ≤ 3) ∧ (a_ = 0 ∨ a_ = 8 ∨ a_ = 16 ∨ a_ = 64)) by omega), if_neg (show ¬ n_ < 0 by omega), if_neg (show ¬ 40 < n_ by omega)]) (by rw [if_neg (show ¬ ¬ ((0 ≤ k_ ∧ k_ ≤ 3) ∧ (a_ = 0 ∨ a_ = 8 ∨ a_ = 16 ∨ a_ = 64)) by omega), if_neg (show ¬ n_ < 0 by omega), if_neg (show ¬ 40 < n_ by omega)]))
            · refine z_aload_0 dX6_sheet_54 ?_
              refine z_ldc (n := -1000000001) kc_X6_79 (by decide) dX6_sheet_55 ?_
              refine z_cVI yv_X6_finding ml_X6_80 (c_X6_finding (by omega)) zk_0 rfl rfl (by decide) (Nat.le_of_ble_eq_true rfl) dX6_sheet_57 ?_
              exact z_iret dX6_sheet_60 (zPI (by (repeat (first | rw [if_pos (by omega)] | rw [if_neg (by omega)])) <;> rfl) (by (repeat (first | rw [if_pos (by omega)] | rw [if_neg (by omega)])) <;> rfl))
          · refine z_aload_0 dX6_sheet_40 ?_
            refine z_ldcw (n := -1000000007) kc_X6_281 (by decide) dX6_sheet_41 ?_
            refine z_cVI yv_X6_finding ml_X6_80 (c_X6_finding (by omega)) zk_0 rfl rfl (by decide) (Nat.le_of_ble_eq_true rfl) dX6_sheet_44 ?_
            exact z_iret dX6_sheet_47 (zPI (by (repeat (first | rw [if_pos (by omega)] | rw [if_neg (by omega)])) <;> rfl) (by (repeat (first | rw [if_pos (by omega)] | rw [if_neg (by omega)])) <;> rfl))
        · refine z_iload_2 dX6_sheet_23 ?_
          refine z_bipush dX6_sheet_24 (by decide) ?_
          refine z_icmp_eq (tgt := 36) (by omega) (by decide) dX6_sheet_26 (by decide) (fun c26 => ?_) (fun c26 => ?_)
          · refine z_iload_3 dX6_sheet_36 ?_
            refine z_if_ge (tgt := 48) (by omega) dX6_sheet_37 (by decide) (fun c37 => ?_) (fun c37 => ?_)
            · refine z_iload_3 dX6_sheet_48 ?_
              refine z_bipush dX6_sheet_49 (by decide) ?_
              refine z_icmp_le (tgt := 61) (by omega) (by decide) dX6_sheet_51 (by decide) (fun c51 => ?_) (fun c51 => ?_)
              · refine z_aload_0 dX6_sheet_61 ?_
                refine z_getR (r := 5) fl_X6_36 zk_0 rfl rfl dX6_sheet_62 ?_
                refine z_iload_1 dX6_sheet_65 ?_
                refine z_aald11 (n := 4) (r := (56 + k_.toNat)) zk_5 rfl (by omega) (zsh_A (by omega)) dX6_sheet_66 ?_
                refine z_iload_2 dX6_sheet_67 ?_
                refine z_iload_3 dX6_sheet_68 ?_
                refine z_cVN yv_X2_begin ml_X6_282 (c_X2_begin (by omega) (by omega) (by omega)) (zsh_k (by omega)) rfl rfl (by decide) (Nat.le_of_ble_eq_true rfl) dX6_sheet_69 ?_
                refine z_aload_0 dX6_sheet_72 ?_
                refine z_getR (r := 5) fl_X6_36 zk_0 rfl rfl dX6_sheet_73 ?_
                refine z_iload_1 dX6_sheet_76 ?_
                refine z_aald11 (n := 4) (r := (56 + k_.toNat)) zk_5 rfl (by omega) (zsh_A (by omega)) dX6_sheet_77 ?_
                refine z_getIv (v := (if a_ = 0 then 0 else n_)) fl_X6_275 (zsh_k (by omega)) rfl (by rw [zrow_ne (by omega), zput_eq]) dX6_sheet_78 ?_
                exact z_iret dX6_sheet_81 (zPI (by rw [if_neg (show ¬ ¬ ((0 ≤ k_ ∧ k_ ≤ 3) ∧ (a_ = 0 ∨ a_ = 8 ∨ a_ = 16 ∨ a_ = 64)) by omega), if_neg (show ¬ n_ < 0 by omega), if_neg (show ¬ 40 < n_ by omega)]) (by rw [if_neg (show ¬ ¬ ((0 ≤ k_ ∧ k_ ≤ 3) ∧ (a_ = 0 ∨ a_ = 8 ∨ a_ = 16 ∨ a_ = 64)) by omega), if_neg (show ¬ n_ < 0 by omega), if_neg (show ¬ 40 < n_ by omega)]))
              · refine z_aload_0 dX6_sheet_54 ?_
                refine z_ldc (n := -1000000001) kc_X6_79 (by decide) dX6_sheet_55 ?_
                refine z_cVI yv_X6_finding ml_X6_80 (c_X6_finding (by omega)) zk_0 rfl rfl (by decide) (Nat.le_of_ble_eq_true rfl) dX6_sheet_57 ?_
                exact z_iret dX6_sheet_60 (zPI (by (repeat (first | rw [if_pos (by omega)] | rw [if_neg (by omega)])) <;> rfl) (by (repeat (first | rw [if_pos (by omega)] | rw [if_neg (by omega)])) <;> rfl))
            · refine z_aload_0 dX6_sheet_40 ?_
              refine z_ldcw (n := -1000000007) kc_X6_281 (by decide) dX6_sheet_41 ?_
              refine z_cVI yv_X6_finding ml_X6_80 (c_X6_finding (by omega)) zk_0 rfl rfl (by decide) (Nat.le_of_ble_eq_true rfl) dX6_sheet_44 ?_
              exact z_iret dX6_sheet_47 (zPI (by (repeat (first | rw [if_pos (by omega)] | rw [if_neg (by omega)])) <;> rfl) (by (repeat (first | rw [if_pos (by omega)] | rw [if_neg (by omega)])) <;> rfl))
          · refine z_aload_0 dX6_sheet_29 ?_
            refine z_ldc (n := -1000000001) kc_X6_79 (by decide) dX6_sheet_30 ?_
            refine z_cVI yv_X6_finding ml_X6_80 (c_X6_finding (by omega)) zk_0 rfl rfl (by decide) (Nat.le_of_ble_eq_true rfl) dX6_sheet_32 ?_
            exact z_iret dX6_sheet_35 (zPI (by (repeat (first | rw [if_pos (by omega)] | rw [if_neg (by omega)])) <;> rfl) (by (repeat (first | rw [if_pos (by omega)] | rw [if_neg (by omega)])) <;> rfl))

theorem c_X6_write {M : zM} {k_ j_ v_ : Int} (hS : SH6 M) (hk : -2147483648 ≤ k_ ∧ k_ < 2147483648) (hj : -2147483648 ≤ j_ ∧ j_ < 2147483648) : Call yX6_write cX6_write 8 (some .long) 3 [vR 0, vI k_, vI j_, vJ v_] (M) (PJ (if ¬ (0 ≤ k_ ∧ k_ ≤ 3) then -1000000001 else if M (56 + k_.toNat) 0 = 0 then -1000000006 else if ¬ (0 ≤ j_ ∧ j_ ≤ M (56 + k_.toNat) 1 - 1) then -1000000001 else M (60 + k_.toNat) j_) (if ¬ (0 ≤ k_ ∧ k_ ≤ 3) then fnd6 M 0 else if M (56 + k_.toNat) 0 = 0 then fnd6 M 5 else if ¬ (0 ≤ j_ ∧ j_ ≤ M (56 + k_.toNat) 1 - 1) then fnd6 M 0 else zput M (60 + k_.toNat) j_ (if M (56 + k_.toNat) 0 = 8 then Int.bmod v_ 256 else if M (56 + k_.toNat) 0 = 16 then Int.bmod v_ 65536 else v_))) := by
  refine Call.of2 (own := RX6) (lv0 := [some (vR 0), some (vI k_), some (vI j_), some (vJ v_), none, none, none, none]) rfl (by decide) rfl (Nat.le_of_ble_eq_true rfl) ?_
  refine z_aload_0 dX6_write_0 ?_
  refine z_iload_1 dX6_write_1 ?_
  refine z_cVI yv_X6_findingOfSheet ml_X6_285 (c_X6_findingOfSheet hS hk) zk_0 rfl rfl (by decide) (Nat.le_of_ble_eq_true rfl) dX6_write_2 ?_
  generalize hq_ : (if ¬ (0 ≤ k_ ∧ k_ ≤ 3) then (-1000000001 : Int) else if M (56 + k_.toNat) 0 = 0 then -1000000006 else 0) = q_
  have hq2_ : (¬ (0 ≤ k_ ∧ k_ ≤ 3) ∧ q_ = -1000000001) ∨ ((0 ≤ k_ ∧ k_ ≤ 3) ∧ M (56 + k_.toNat) 0 = 0 ∧ q_ = -1000000006) ∨ ((0 ≤ k_ ∧ k_ ≤ 3) ∧ ¬ M (56 + k_.toNat) 0 = 0 ∧ q_ = 0) := by rw [← hq_]; split <;> (try split) <;> omega
  refine z_istore_5 rfl dX6_write_5 ?_
  have J35 : ∀ (e_ : Int), ((¬ (0 ≤ k_ ∧ k_ ≤ 3) ∧ e_ = -1000000001) ∨ ((0 ≤ k_ ∧ k_ ≤ 3) ∧ M (56 + k_.toNat) 0 = 0 ∧ e_ = -1000000006) ∨ ((0 ≤ k_ ∧ k_ ≤ 3) ∧ ¬ M (56 + k_.toNat) 0 = 0 ∧ ¬ (0 ≤ j_ ∧ j_ ≤ M (56 + k_.toNat) 1 - 1) ∧ e_ = -1000000001) ∨ ((0 ≤ k_ ∧ k_ ≤ 3) ∧ ¬ M (56 + k_.toNat) 0 = 0 ∧ (0 ≤ j_ ∧ j_ ≤ M (56 + k_.toNat) 1 - 1) ∧ e_ = 0)) → Z RX6 cX6_write 8 (some .long) 3 (zQ (PJ (if ¬ (0 ≤ k_ ∧ k_ ≤ 3) then -1000000001 else if M (56 + k_.toNat) 0 = 0 then -1000000006 else if ¬ (0 ≤ j_ ∧ j_ ≤ M (56 + k_.toNat) 1 - 1) then -1000000001 else M (60 + k_.toNat) j_) (if ¬ (0 ≤ k_ ∧ k_ ≤ 3) then fnd6 M 0 else if M (56 + k_.toNat) 0 = 0 then fnd6 M 5 else if ¬ (0 ≤ j_ ∧ j_ ≤ M (56 + k_.toNat) 1 - 1) then fnd6 M 0 else zput M (60 + k_.toNat) j_ (if M (56 + k_.toNat) 0 = 8 then Int.bmod v_ 256 else if M (56 + k_.toNat) 0 = 16 then Int.bmod v_ 65536 else v_)))) 35 [some (vR 0), some (vI k_), some (vI j_), some (vJ v_), none, some (vI e_), none, none] [] (M) := by
    intro e_ he_
    refine z_iload_5 dX6_write_35 ?_
    refine z_if_eq (tgt := 48) (by omega) dX6_write_37 (by decide) (fun c37 => ?_) (fun c37 => ?_)
    · have hs_ := hS k_.toNat (by omega)
      refine z_aload_0 dX6_write_48 ?_
      refine z_getR (r := 5) fl_X6_36 zk_0 rfl rfl dX6_write_49 ?_
      refine z_iload_1 dX6_write_52 ?_
      refine z_aald11 (n := 4) (r := (56 + k_.toNat)) zk_5 rfl (by omega) (zsh_A (by omega)) dX6_write_53 ?_
      refine z_getR (r := (60 + k_.toNat)) fl_X6_249 (zsh_k (by omega)) rfl (zsh_R (by omega)) dX6_write_54 ?_
      refine z_iload_2 dX6_write_57 ?_
      refine z_lald (n := 40) (zsh_n (by omega)) (zsh_N (by omega)) (by omega) dX6_write_58 ?_
      refine z_lstore_6 rfl dX6_write_59 ?_
      refine z_aload_0 dX6_write_61 ?_
      refine z_getR (r := 5) fl_X6_36 zk_0 rfl rfl dX6_write_62 ?_
      refine z_iload_1 dX6_write_65 ?_
      refine z_aald11 (n := 4) (r := (56 + k_.toNat)) zk_5 rfl (by omega) (zsh_A (by omega)) dX6_write_66 ?_
      refine z_iload_2 dX6_write_67 ?_
      refine z_lload_3 dX6_write_68 ?_
      refine z_cVN yv_X2_put ml_X6_288 (c_X2_put (by omega) (by omega) (by omega)) (zsh_k (by omega)) rfl rfl (by decide) (Nat.le_of_ble_eq_true rfl) dX6_write_69 ?_
      refine z_lload_6 dX6_write_72 ?_
      exact z_lret dX6_write_74 (zPJ (by rw [if_neg (show ¬ (¬ (0 ≤ k_ ∧ k_ ≤ 3)) by omega), if_neg (show ¬ (M (56 + k_.toNat) 0 = 0) by omega), if_neg (show ¬ (¬ (0 ≤ j_ ∧ j_ ≤ M (56 + k_.toNat) 1 - 1)) by omega)]) (by rw [if_neg (show ¬ (¬ (0 ≤ k_ ∧ k_ ≤ 3)) by omega), if_neg (show ¬ (M (56 + k_.toNat) 0 = 0) by omega), if_neg (show ¬ (¬ (0 ≤ j_ ∧ j_ ≤ M (56 + k_.toNat) 1 - 1)) by omega)]))
    · refine z_aload_0 dX6_write_40 ?_
      refine z_iload_5 dX6_write_41 ?_
      refine z_cVI yv_X6_finding ml_X6_80 (c_X6_finding (by omega)) zk_0 rfl rfl (by decide) (Nat.le_of_ble_eq_true rfl) dX6_write_43 ?_
      refine z_i2l (by omega) dX6_write_46 ?_
      exact z_lret dX6_write_47 (zPJ (by rcases he_ with h_ | h_ | h_ | h_ <;> first | (exfalso; omega) | (rw [if_pos (show (¬ (0 ≤ k_ ∧ k_ ≤ 3)) by omega), h_.2] <;> rfl) | (rw [if_neg (show ¬ (¬ (0 ≤ k_ ∧ k_ ≤ 3)) by omega), if_pos (show (M (56 + k_.toNat) 0 = 0) by omega), h_.2.2] <;> rfl) | (rw [if_neg (show ¬ (¬ (0 ≤ k_ ∧ k_ ≤ 3)) by omega), if_neg (show ¬ (M (56 + k_.toNat) 0 = 0) by omega), if_pos (show (¬ (0 ≤ j_ ∧ j_ ≤ M (56 + k_.toNat) 1 - 1)) by omega), h_.2.2.2] <;> rfl)) (by rcases he_ with h_ | h_ | h_ | h_ <;> first | (exfalso; omega) | (rw [if_pos (show (¬ (0 ≤ k_ ∧ k_ ≤ 3)) by omega), h_.2] <;> rfl) | (rw [if_neg (show ¬ (¬ (0 ≤ k_ ∧ k_ ≤ 3)) by omega), if_pos (show (M (56 + k_.toNat) 0 = 0) by omega), h_.2.2] <;> rfl) | (rw [if_neg (show ¬ (¬ (0 ≤ k_ ∧ k_ ≤ 3)) by omega), if_neg (show ¬ (M (56 + k_.toNat) 0 = 0) by omega), if_pos (show (¬ (0 ≤ j_ ∧ j_ ≤ M (56 + k_.toNat) 1 - 1)) by omega), h_.2.2.2] <;> rfl)))
  refine z_iload_5 dX6_write_7 ?_
  refine z_if_ne (tgt := 35) (by omega) dX6_write_9 (by decide) (fun c9 => ?_) (fun c9 => ?_)
  · exact J35 _ (by omega)
  · have hs_ := hS k_.toNat (by omega)
    refine z_iload_2 dX6_write_12 ?_
    refine z_iconst dX6_write_13 ?_
    refine z_aload_0 dX6_write_14 ?_
    refine z_getR (r := 5) fl_X6_36 zk_0 rfl rfl dX6_write_15 ?_
    refine z_iload_1 dX6_write_18 ?_
    refine z_aald11 (n := 4) (r := (56 + k_.toNat)) zk_5 rfl (by omega) (zsh_A (by omega)) dX6_write_19 ?_
    refine z_getI fl_X6_275 (zsh_k (by omega)) rfl dX6_write_20 ?_
    refine z_iconst dX6_write_23 ?_
    refine z_isub dX6_write_24 ?_
    refine z_cSI ys_X6_isOutside ml_X6_69 (c_X6_isOutside (by omega) (by omega) (by omega)) rfl rfl (by decide) (Nat.le_of_ble_eq_true rfl) dX6_write_25 ?_
    refine z_ifb_eq (tgt := 35) dX6_write_28 (by decide) (fun c28 => ?_) (fun c28 => ?_)
    · exact J35 _ (by omega)
    · refine z_ldc (n := -1000000001) kc_X6_79 (by decide) dX6_write_31 ?_
      refine z_istore_5 rfl dX6_write_33 ?_
      exact J35 _ (by omega)
