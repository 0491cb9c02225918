theorem c_X7_sheet {M : zM} {k_ a_ n_ : Int} (hk : -2147483648 ≤ k_ ∧ k_ < 2147483648) (ha : -2147483648 ≤ a_ ∧ a_ < 2147483648) (hn : -2147483648 ≤ n_ ∧ n_ < 2147483648) : Call yX7_sheet cX7_sheet 5 (some .int) 2 [vR 75, vI k_, vI a_, vI n_] (M) (PI (if ¬ ((0 ≤ k_ ∧ k_ ≤ 3) ∧ (a_ = 0 ∨ a_ = 8 ∨ a_ = 16 ∨ a_ = 64)) then -1000000001 else if n_ < 0 then -1000000007 else if 40 < n_ then -1000000001 else (if a_ = 0 then 0 else n_)) (if ¬ ((0 ≤ k_ ∧ k_ ≤ 3) ∧ (a_ = 0 ∨ a_ = 8 ∨ a_ = 16 ∨ a_ = 64)) then fnd7 M 0 else if n_ < 0 then fnd7 M 6 else if 40 < n_ then fnd7 M 0 else zrow (zput (zput M 87 k_ a_) 88 k_ (if a_ = 0 then 0 else n_)) 89 (zfillA (fun _ => 0) (M 89) (40 * k_) 40))) := by
  refine Call.of2 (own := RX7) (lv0 := [some (vR 75), some (vI k_), some (vI a_), some (vI n_), none]) rfl (by decide) rfl (Nat.le_of_ble_eq_true rfl) ?_
  refine z_iload_1 dX7_sheet_0 ?_
  refine z_cSI ys_X7_isSheet ml_X7_295 (c_X7_isSheet (by omega)) rfl rfl (by decide) (Nat.le_of_ble_eq_true rfl) dX7_sheet_1 ?_
  refine z_ifb_eq (tgt := 29) dX7_sheet_4 (by decide) (fun c4 => ?_) (fun c4 => ?_)
  · refine z_aload_0 dX7_sheet_29 ?_
    refine z_iconst dX7_sheet_30 ?_
    refine z_cVI yv_X7_finding ml_X7_93 (c_X7_finding (by omega)) zk_75 rfl rfl (by decide) (Nat.le_of_ble_eq_true rfl) dX7_sheet_31 ?_
    exact z_iret dX7_sheet_34 (zPI (by (repeat (first | rw [if_pos (by omega)] | rw [if_neg (by omega)])) <;> rfl) (by (repeat (first | rw [if_pos (by omega)] | rw [if_neg (by omega)])) <;> rfl))
  · refine z_iload_2 dX7_sheet_7 ?_
    refine z_if_eq (tgt := 35) (by omega) dX7_sheet_8 (by decide) (fun c8 => ?_) (fun c8 => ?_)
    · refine z_iload_3 dX7_sheet_35 ?_
      refine z_if_ge (tgt := 46) (by omega) dX7_sheet_36 (by decide) (fun c36 => ?_) (fun c36 => ?_)
      · refine z_iload_3 dX7_sheet_46 ?_
        refine z_bipush dX7_sheet_47 (by decide) ?_
        refine z_icmp_le (tgt := 58) (by omega) (by decide) dX7_sheet_49 (by decide) (fun c49 => ?_) (fun c49 => ?_)
        · refine z_aload_0 dX7_sheet_58 ?_
          refine z_getR (r := 87) fl_X7_44 zk_75 rfl rfl dX7_sheet_59 ?_
          refine z_iload_1 dX7_sheet_62 ?_
          refine z_iload_2 dX7_sheet_63 ?_
          refine z_iast (n := 4) zk_87 rfl (by omega) dX7_sheet_64 ?_
          have J79 : ∀ (z_ : Int), (z_ = (if a_ = 0 then 0 else n_)) → Z RX7 cX7_sheet 5 (some .int) 2 (zQ (PI (if ¬ ((0 ≤ k_ ∧ k_ ≤ 3) ∧ (a_ = 0 ∨ a_ = 8 ∨ a_ = 16 ∨ a_ = 64)) then -1000000001 else if n_ < 0 then -1000000007 else if 40 < n_ then -1000000001 else (if a_ = 0 then 0 else n_)) (if ¬ ((0 ≤ k_ ∧ k_ ≤ 3) ∧ (a_ = 0 ∨ a_ = 8 ∨ a_ = 16 ∨ a_ = 64)) then fnd7 M 0 else if n_ < 0 then fnd7 M 6 else if 40 < n_ then fnd7 M 0 else zrow (zput (zput M 87 k_ a_) 88 k_ (if a_ = 0 then 0 else n_)) 89 (zfillA (fun _ => 0) (M 89) (40 * k_) 40)))) 79 [some (vR 75), some (vI k_), some (vI a_), some (vI n_), none] [vI z_, vI k_, vR 88] ((zput M 87 k_ a_)) := by
            intro z_ hz_
            refine z_iast (n := 4) zk_88 rfl (by omega) dX7_sheet_79 ?_
            refine z_iconst dX7_sheet_80 ?_
            refine z_istore_4 rfl dX7_sheet_81 ?_
            have K83 : ∀ (fuel_ : Nat) (i_ : Int) (N_ : zM), 40 - i_ < (fuel_ : Int) → (0 ≤ i_ ∧ i_ ≤ 40) → (N_ = zrow (zput (zput M 87 k_ a_) 88 k_ z_) 89 (zfillA (fun _ => 0) (M 89) (40 * k_) i_)) → Z RX7 cX7_sheet 5 (some .int) 2 (zQ (PI (if ¬ ((0 ≤ k_ ∧ k_ ≤ 3) ∧ (a_ = 0 ∨ a_ = 8 ∨ a_ = 16 ∨ a_ = 64)) then -1000000001 else if n_ < 0 then -1000000007 else if 40 < n_ then -1000000001 else (if a_ = 0 then 0 else n_)) (if ¬ ((0 ≤ k_ ∧ k_ ≤ 3) ∧ (a_ = 0 ∨ a_ = 8 ∨ a_ = 16 ∨ a_ = 64)) then fnd7 M 0 else if n_ < 0 then fnd7 M 6 else if 40 < n_ then fnd7 M 0 else zrow (zput (zput M 87 k_ a_) 88 k_ (if a_ = 0 then 0 else n_)) 89 (zfillA (fun _ => 0) (M 89) (40 * k_) 40)))) 83 [some (vR 75), some (vI k_), some (vI a_), some (vI n_), some (vI i_)] [] (N_) := by
              intro fuel_
              induction fuel_ with
              | zero => intro i_ N_ hfuel_ hi_ hN_; exfalso; omega
              | succ fuel_ ih83 =>
                intro i_ N_ hfuel_ hi_ hN_
                refine z_iload_4 dX7_sheet_83 ?_
                refine z_bipush dX7_sheet_85 (by decide) ?_
                refine z_icmp_ge (tgt := 109) (by omega) (by decide) dX7_sheet_87 (by decide) (fun c87 => ?_) (fun c87 => ?_)
                · refine z_aload_0 dX7_sheet_109 ?_
                  refine z_getR (r := 88) fl_X7_47 zk_75 rfl rfl dX7_sheet_110 ?_
                  refine z_iload_1 dX7_sheet_113 ?_
                  refine z_ialdv (n := 4) (v := z_) zk_88 rfl (by omega) (by rw [hN_, zrow_ne (by decide), zput_eq]) dX7_sheet_114 ?_
                  exact z_iret dX7_sheet_115 (zPI (by rw [hz_]; symm; (repeat (first | rw [if_pos (by omega)] | rw [if_neg (by omega)])) <;> rfl) (by rw [hN_, hz_, show i_ = 40 by omega]; symm; (repeat (first | rw [if_pos (by omega)] | rw [if_neg (by omega)])) <;> rfl))
                · refine z_aload_0 dX7_sheet_90 ?_
                  refine z_getR (r := 89) fl_X7_50 zk_75 rfl rfl dX7_sheet_91 ?_
                  refine z_bipush dX7_sheet_94 (by decide) ?_
                  refine z_iload_1 dX7_sheet_96 ?_
                  refine z_imul dX7_sheet_97 ?_
                  refine z_iload_4 dX7_sheet_98 ?_
                  refine z_iadd dX7_sheet_100 ?_
                  refine z_lconst0 dX7_sheet_101 ?_
                  refine z_last (n := 160) zk_89 rfl (by omega) dX7_sheet_102 ?_
                  refine z_iinc_4 rfl dX7_sheet_103 ?_
                  refine z_goto (tgt := 83) dX7_sheet_106 (by decide) ?_
                  exact ih83 _ _ (by omega) (by omega) (by rw [hN_]; exact zfillA_1 (f := fun _ => 0) hi_.1)
            have L83 : ∀ (i_ : Int) (N_ : zM), (0 ≤ i_ ∧ i_ ≤ 40) → (N_ = zrow (zput (zput M 87 k_ a_) 88 k_ z_) 89 (zfillA (fun _ => 0) (M 89) (40 * k_) i_)) → Z RX7 cX7_sheet 5 (some .int) 2 (zQ (PI (if ¬ ((0 ≤ k_ ∧ k_ ≤ 3) ∧ (a_ = 0 ∨ a_ = 8 ∨ a_ = 16 ∨ a_ = 64)) then -1000000001 else if n_ < 0 then -1000000007 else if 40 < n_ then -1000000001 else (if a_ = 0 then 0 else n_)) (if ¬ ((0 ≤ k_ ∧ k_ ≤ 3) ∧ (a_ = 0 ∨ a_ = 8 ∨ a_ = 16 ∨ a_ = 64)) then fnd7 M 0 else if n_ < 0 then fnd7 M 6 else if 40 < n_ then fnd7 M 0 else zrow (zput (zput M 87 k_ a_) 88 k_ (if a_ = 0 then 0 else n_)) 89 (zfillA (fun _ => 0) (M 89) (40 * k_) 40)))) 83 [some (vR 75), some (vI k_), some (vI a_), some (vI n_), some (vI i_)] [] (N_) := fun i_ N_ hi_ hN_ => K83 ((40 - i_).toNat + 1) i_ N_ (by omega) hi_ hN_
            exact L83 _ _ (by omega) (by rw [zfillA_0]; exact (show zrow (zput (zput M 87 k_ a_) 88 k_ z_) 89 ((zput (zput M 87 k_ a_) 88 k_ z_) 89) = zrow _ 89 (M 89) by rw [zput_ne (by decide), zput_ne (by decide)]) ▸ zrow_self.symm)
          refine z_aload_0 dX7_sheet_65 ?_
          refine z_getR (r := 88) fl_X7_47 zk_75 rfl rfl dX7_sheet_66 ?_
          refine z_iload_1 dX7_sheet_69 ?_
          refine z_iload_2 dX7_sheet_70 ?_
          refine z_if_ne (tgt := 78) (by omega) dX7_sheet_71 (by decide) (fun c71 => ?_) (fun c71 => ?_)
          · refine z_iload_3 dX7_sheet_78 ?_
            exact J79 _ (by first | (rw [if_pos (by omega)]; done) | (rw [if_neg (by omega)]; done))
          · refine z_iconst dX7_sheet_74 ?_
            refine z_goto (tgt := 79) dX7_sheet_75 (by decide) ?_
            exact J79 _ (by first | (rw [if_pos (by omega)]; done) | (rw [if_neg (by omega)]; done))
        · refine z_aload_0 dX7_sheet_52 ?_
          refine z_iconst dX7_sheet_53 ?_
          refine z_cVI yv_X7_finding ml_X7_93 (c_X7_finding (by omega)) zk_75 rfl rfl (by decide) (Nat.le_of_ble_eq_true rfl) dX7_sheet_54 ?_
          exact z_iret dX7_sheet_57 (zPI (by (repeat (first | rw [if_pos (by omega)] | rw [if_neg (by omega)])) <;> rfl) (by (repeat (first | rw [if_pos (by omega)] | rw [if_neg (by omega)])) <;> rfl))
      · refine z_aload_0 dX7_sheet_39 ?_
        refine z_bipush dX7_sheet_40 (by decide) ?_
        refine z_cVI yv_X7_finding ml_X7_93 (c_X7_finding (by omega)) zk_75 rfl rfl (by decide) (Nat.le_of_ble_eq_true rfl) dX7_sheet_42 ?_
        exact z_iret dX7_sheet_45 (zPI (by (repeat (first | rw [if_pos (by omega)] | rw [if_neg (by omega)])) <;> rfl) (by (repeat (first | rw [if_pos (by omega)] | rw [if_neg (by omega)])) <;> rfl))
    · refine z_iload_2 dX7_sheet_11 ?_
      refine z_bipush dX7_sheet_12 (by decide) ?_
      refine z_icmp_eq (tgt := 35) (by omega) (by decide) dX7_sheet_14 (by decide) (fun c14 => ?_) (fun c14 => ?_)
      · refine z_iload_3 dX7_sheet_35 ?_
        refine z_if_ge (tgt := 46) (by omega) dX7_sheet_36 (by decide) (fun c36 => ?_) (fun c36 => ?_)
        · refine z_iload_3 dX7_sheet_46 ?_
          refine z_bipush dX7_sheet_47 (by decide) ?_
          refine z_icmp_le (tgt := 58) (by omega) (by decide) dX7_sheet_49 (by decide) (fun c49 => ?_) (fun c49 => ?_)
          · refine z_aload_0 dX7_sheet_58 ?_
            refine z_getR (r := 87) fl_X7_44 zk_75 rfl rfl dX7_sheet_59 ?_
            refine z_iload_1 dX7_sheet_62 ?_
            refine z_iload_2 dX7_sheet_63 ?_
            refine z_iast (n := 4) zk_87 rfl (by omega) dX7_sheet_64 ?_
            have J79 : ∀ (z_ : Int), (z_ = (if a_ = 0 then 0 else n_)) → Z RX7 cX7_sheet 5 (some .int) 2 (zQ (PI (if ¬ ((0 ≤ k_ ∧ k_ ≤ 3) ∧ (a_ = 0 ∨ a_ = 8 ∨ a_ = 16 ∨ a_ = 64)) then -1000000001 else if n_ < 0 then -1000000007 else if 40 < n_ then -1000000001 else (if a_ = 0 then 0 else n_)) (if ¬ ((0 ≤ k_ ∧ k_ ≤ 3) ∧ (a_ = 0 ∨ a_ = 8 ∨ a_ = 16 ∨ a_ = 64)) then fnd7 M 0 else if n_ < 0 then fnd7 M 6 else if 40 < n_ then fnd7 M 0 else zrow (zput (zput M 87 k_ a_) 88 k_ (if a_ = 0 then 0 else n_)) 89 (zfillA (fun _ => 0) (M 89) (40 * k_) 40)))) 79 [some (vR 75), some (vI k_), some (vI a_), some (vI n_), none] [vI z_, vI k_, vR 88] ((zput M 87 k_ a_)) := by
              intro z_ hz_
              refine z_iast (n := 4) zk_88 rfl (by omega) dX7_sheet_79 ?_
              refine z_iconst dX7_sheet_80 ?_
              refine z_istore_4 rfl dX7_sheet_81 ?_
              have K83 : ∀ (fuel_ : Nat) (i_ : Int) (N_ : zM), 40 - i_ < (fuel_ : Int) → (0 ≤ i_ ∧ i_ ≤ 40) → (N_ = zrow (zput (zput M 87 k_ a_) 88 k_ z_) 89 (zfillA (fun _ => 0) (M 89) (40 * k_) i_)) → Z RX7 cX7_sheet 5 (some .int) 2 (zQ (PI (if ¬ ((0 ≤ k_ ∧ k_ ≤ 3) ∧ (a_ = 0 ∨ a_ = 8 ∨ a_ = 16 ∨ a_ = 64)) then -1000000001 else if n_ < 0 then -1000000007 else if 40 < n_ then -1000000001 else (if a_ = 0 then 0 else n_)) (if ¬ ((0 ≤ k_ ∧ k_ ≤ 3) ∧ (a_ = 0 ∨ a_ = 8 ∨ a_ = 16 ∨ a_ = 64)) then fnd7 M 0 else if n_ < 0 then fnd7 M 6 else if 40 < n_ then fnd7 M 0 else zrow (zput (zput M 87 k_ a_) 88 k_ (if a_ = 0 then 0 else n_)) 89 (zfillA (fun _ => 0) (M 89) (40 * k_) 40)))) 83 [some (vR 75), some (vI k_), some (vI a_), some (vI n_), some (vI i_)] [] (N_) := by
                intro fuel_
                induction fuel_ with
                | zero => intro i_ N_ hfuel_ hi_ hN_; exfalso; omega
                | succ fuel_ ih83 =>
                  intro i_ N_ hfuel_ hi_ hN_
                  refine z_iload_4 dX7_sheet_83 ?_
                  refine z_bipush dX7_sheet_85 (by decide) ?_
                  refine z_icmp_ge (tgt := 109) (by omega) (by decide) dX7_sheet_87 (by decide) (fun c87 => ?_) (fun c87 => ?_)
                  · refine z_aload_0 dX7_sheet_109 ?_
                    refine z_getR (r := 88) fl_X7_47 zk_75 rfl rfl dX7_sheet_110 ?_
                    refine z_iload_1 dX7_sheet_113 ?_
                    refine z_ialdv (n := 4) (v := z_) zk_88 rfl (by omega) (by rw [hN_, zrow_ne (by decide), zput_eq]) dX7_sheet_114 ?_
                    exact z_iret dX7_sheet_115 (zPI (by rw [hz_]; symm; (repeat (first | rw [if_pos (by omega)] | rw [if_neg (by omega)])) <;> rfl) (by rw [hN_, hz_, show i_ = 40 by omega]; symm; (repeat (first | rw [if_pos (by omega)] | rw [if_neg (by omega)])) <;> rfl))
                  · refine z_aload_0 dX7_sheet_90 ?_
                    refine z_getR (r := 89) fl_X7_50 zk_75 rfl rfl dX7_sheet_91 ?_
                    refine z_bipush dX7_sheet_94 (by decide) ?_
                    refine z_iload_1 dX7_sheet_96 ?_
                    refine z_imul dX7_sheet_97 ?_
                    refine z_iload_4 dX7_sheet_98 ?_
                    refine z_iadd dX7_sheet_100 ?_
                    refine z_lconst0 dX7_sheet_101 ?_
                    refine z_last (n := 160) zk_89 rfl (by omega) dX7_sheet_102 ?_
                    refine z_iinc_4 rfl dX7_sheet_103 ?_
                    refine z_goto (tgt := 83) dX7_sheet_106 (by decide) ?_
                    exact ih83 _ _ (by omega) (by omega) (by rw [hN_]; exact zfillA_1 (f := fun _ => 0) hi_.1)
              have L83 : ∀ (i_ : Int) (N_ : zM), (0 ≤ i_ ∧ i_ ≤ 40) → (N_ = zrow (zput (zput M 87 k_ a_) 88 k_ z_) 89 (zfillA (fun _ => 0) (M 89) (40 * k_) i_)) → Z RX7 cX7_sheet 5 (some .int) 2 (zQ (PI (if ¬ ((0 ≤ k_ ∧ k_ ≤ 3) ∧ (a_ = 0 ∨ a_ = 8 ∨ a_ = 16 ∨ a_ = 64)) then -1000000001 else if n_ < 0 then -1000000007 else if 40 < n_ then -1000000001 else (if a_ = 0 then 0 else n_)) (if ¬ ((0 ≤ k_ ∧ k_ ≤ 3) ∧ (a_ = 0 ∨ a_ = 8 ∨ a_ = 16 ∨ a_ = 64)) then fnd7 M 0 else if n_ < 0 then fnd7 M 6 else if 40 < n_ then fnd7 M 0 else zrow (zput (zput M 87 k_ a_) 88 k_ (if a_ = 0 then 0 else n_)) 89 (zfillA (fun _ => 0) (M 89) (40 * k_) 40)))) 83 [some (vR 75), some (vI k_), some (vI a_), some (vI n_), some (vI i_)] [] (N_) := fun i_ N_ hi_ hN_ => K83 ((40 - i_).toNat + 1) i_ N_ (by omega) hi_ hN_
              exact L83 _ _ (by omega) (by rw [zfillA_0]; exact (show zrow (zput (zput M 87 k_ a_) 88 k_ z_) 89 ((zput (zput M 87 k_ a_) 88 k_ z_) 89) = zrow _ 89 (M 89) by rw [zput_ne (by decide), zput_ne (by decide)]) ▸ zrow_self.symm)
            refine z_aload_0 dX7_sheet_65 ?_
            refine z_getR (r := 88) fl_X7_47 zk_75 rfl rfl dX7_sheet_66 ?_
            refine z_iload_1 dX7_sheet_69 ?_
            refine z_iload_2 dX7_sheet_70 ?_
            refine z_if_ne (tgt := 78) (by omega) dX7_sheet_71 (by decide) (fun c71 => ?_) (fun c71 => ?_)
            · refine z_iload_3 dX7_sheet_78 ?_
              exact J79 _ (by first | (rw [if_pos (by omega)]; done) | (rw [if_neg (by omega)]; done))
            · refine z_iconst dX7_sheet_74 ?_
              refine z_goto (tgt := 79) dX7_sheet_75 (by decide) ?_
              exact J79 _ (by first | (rw [if_pos (by omega)]; done) | (rw [if_neg (by omega)]; done))
          · refine z_aload_0 dX7_sheet_52 ?_
            refine z_iconst dX7_sheet_53 ?_
            refine z_cVI yv_X7_finding ml_X7_93 (c_X7_finding (by omega)) zk_75 rfl rfl (by decide) (Nat.le_of_ble_eq_true rfl) dX7_sheet_54 ?_
            exact z_iret dX7_sheet_57 (zPI (by (repeat (first | rw [if_pos (by omega)] | rw [if_neg (by omega)])) <;> rfl) (by (repeat (first | rw [if_pos (by omega)] | rw [if_neg (by omega)])) <;> rfl))
        · refine z_aload_0 dX7_sheet_39 ?_
          refine z_bipush dX7_sheet_40 (by decide) ?_
          refine z_cVI yv_X7_finding ml_X7_93 (c_X7_finding (by omega)) zk_75 rfl rfl (by decide) (Nat.le_of_ble_eq_true rfl) dX7_sheet_42 ?_
          exact z_iret dX7_sheet_45 (zPI (by (repeat (first | rw [if_pos (by omega)] | rw [if_neg (by omega)])) <;> rfl) (by (repeat (first | rw [if_pos (by omega)] | rw [if_neg (by omega)])) <;> rfl))
      · refine z_iload_2 dX7_sheet_17 ?_
        refine z_bipush dX7_sheet_18 (by decide) ?_
        refine z_icmp_eq (tgt := 35) (by omega) (by decide) dX7_sheet_20 (by decide) (fun c20 => ?_) (fun c20 => ?_)
        · refine z_iload_3 dX7_sheet_35 ?_
          refine z_if_ge (tgt := 46) (by omega) dX7_sheet_36 (by decide) (fun c36 => ?_) (fun c36 => ?_)
          · refine z_iload_3 dX7_sheet_46 ?_
            refine z_bipush dX7_sheet_47 (by decide) ?_
            refine z_icmp_le (tgt := 58) (by omega) (by decide) dX7_sheet_49 (by decide) (fun c49 => ?_) (fun c49 => ?_)
            · refine z_aload_0 dX7_sheet_58 ?_
              refine z_getR (r := 87) fl_X7_44 zk_75 rfl rfl dX7_sheet_59 ?_
              refine z_iload_1 dX7_sheet_62 ?_
              refine z_iload_2 dX7_sheet_63 ?_
              refine z_iast (n := 4) zk_87 rfl (by omega) dX7_sheet_64 ?_
              have J79 : ∀ (z_ : Int), (z_ = (if a_ = 0 then 0 else n_)) → Z RX7 cX7_sheet 5 (some .int) 2 (zQ (PI (if ¬ ((0 ≤ k_ ∧ k_ ≤ 3) ∧ (a_ = 0 ∨ a_ = 8 ∨ a_ = 16 ∨ a_ = 64)) then -1000000001 else if n_ < 0 then -1000000007 else if 40 < n_ then -1000000001 else (if a_ = 0 then 0 else n_)) (if ¬ ((0 ≤ k_ ∧ k_ ≤ 3) ∧ (a_ = 0 ∨ a_ = 8 ∨ a_ = 16 ∨ a_ = 64)) then fnd7 M 0 else if n_ < 0 then fnd7 M 6 else if 40 < n_ then fnd7 M 0 else zrow (zput (zput M 87 k_ a_) 88 k_ (if a_ = 0 then 0 else n_)) 89 (zfillA (fun _ => 0) (M 89) (40 * k_) 40)))) 79 [some (vR 75), some (vI k_), some (vI a_), some (vI n_), none] [vI z_, vI k_, vR 88] ((zput M 87 k_ a_)) := by
                intro z_ hz_
                refine z_iast (n := 4) zk_88 rfl (by omega) dX7_sheet_79 ?_
                refine z_iconst dX7_sheet_80 ?_
                refine z_istore_4 rfl dX7_sheet_81 ?_
                have K83 : ∀ (fuel_ : Nat) (i_ : Int) (N_ : zM), 40 - i_ < (fuel_ : Int) → (0 ≤ i_ ∧ i_ ≤ 40) → (N_ = zrow (zput (zput M 87 k_ a_) 88 k_ z_) 89 (zfillA (fun _ => 0) (M 89) (40 * k_) i_)) → Z RX7 cX7_sheet 5 (some .int) 2 (zQ (PI (if ¬ ((0 ≤ k_ ∧ k_ ≤ 3) ∧ (a_ = 0 ∨ a_ = 8 ∨ a_ = 16 ∨ a_ = 64)) then -1000000001 else if n_ < 0 then -1000000007 else if 40 < n_ then -1000000001 else (if a_ = 0 then 0 else n_)) (if ¬ ((0 ≤ k_ ∧ k_ ≤ 3) ∧ (a_ = 0 ∨ a_ = 8 ∨ a_ = 16 ∨ a_ = 64)) then fnd7 M 0 else if n_ < 0 then fnd7 M 6 else if 40 < n_ then fnd7 M 0 else zrow (zput (zput M 87 k_ a_) 88 k_ (if a_ = 0 then 0 else n_)) 89 (zfillA (fun _ => 0) (M 89) (40 * k_) 40)))) 83 [some (vR 75), some (vI k_), some (vI a_), some (vI n_), some (vI i_)] [] (N_) := by
                  intro fuel_
                  induction fuel_ with
                  | zero => intro i_ N_ hfuel_ hi_ hN_; exfalso; omega
                  | succ fuel_ ih83 =>
                    intro i_ N_ hfuel_ hi_ hN_
                    refine z_iload_4 dX7_sheet_83 ?_
                    refine z_bipush dX7_sheet_85 (by decide) ?_
                    refine z_icmp_ge (tgt := 109) (by omega) (by decide) dX7_sheet_87 (by decide) (fun c87 => ?_) (fun c87 => ?_)
                    · refine z_aload_0 dX7_sheet_109 ?_
                      refine z_getR (r := 88) fl_X7_47 zk_75 rfl rfl dX7_sheet_110 ?_
                      refine z_iload_1 dX7_sheet_113 ?_
                      refine z_ialdv (n := 4) (v := z_) zk_88 rfl (by omega) (by rw [hN_, zrow_ne (by decide), zput_eq]) dX7_sheet_114 ?_
                      exact z_iret dX7_sheet_115 (zPI (by rw [hz_]; symm; (repeat (first | rw [if_pos (by omega)] | rw [if_neg (by omega)])) <;> rfl) (by rw [hN_, hz_, show i_ = 40 by omega]; symm; (repeat (first | rw [if_pos (by omega)] | rw [if_neg (by omega)])) <;> rfl))
                    · refine z_aload_0 dX7_sheet_90 ?_
                      refine z_getR (r := 89) fl_X7_50 zk_75 rfl rfl dX7_sheet_91 ?_
                      refine z_bipush dX7_sheet_94 (by decide) ?_
                      refine z_iload_1 dX7_sheet_96 ?_
                      refine z_imul dX7_sheet_97 ?_
                      refine z_iload_4 dX7_sheet_98 ?_
                      refine z_iadd dX7_sheet_100 ?_
                      refine z_lconst0 dX7_sheet_101 ?_
                      refine z_last (n := 160) zk_89 rfl (by omega) dX7_sheet_102 ?_
                      refine z_iinc_4 rfl dX7_sheet_103 ?_
                      refine z_goto (tgt := 83) dX7_sheet_106 (by decide) ?_
                      exact ih83 _ _ (by omega) (by omega) (by rw [hN_]; exact zfillA_1 (f := fun _ => 0) hi_.1)
                have L83 : ∀ (i_ : Int) (N_ : zM), (0 ≤ i_ ∧ i_ ≤ 40) → (N_ = zrow (zput (zput M 87 k_ a_) 88 k_ z_) 89 (zfillA (fun _ => 0) (M 89) (40 * k_) i_)) → Z RX7 cX7_sheet 5 (some .int) 2 (zQ (PI (if ¬ ((0 ≤ k_ ∧ k_ ≤ 3) ∧ (a_ = 0 ∨ a_ = 8 ∨ a_ = 16 ∨ a_ = 64)) then -1000000001 else if n_ < 0 then -1000000007 else if 40 < n_ then -1000000001 else (if a_ = 0 then 0 else n_)) (if ¬ ((0 ≤ k_ ∧ k_ ≤ 3) ∧ (a_ = 0 ∨ a_ = 8 ∨ a_ = 16 ∨ a_ = 64)) then fnd7 M 0 else if n_ < 0 then fnd7 M 6 else if 40 < n_ then fnd7 M 0 else zrow (zput (zput M 87 k_ a_) 88 k_ (if a_ = 0 then 0 else n_)) 89 (zfillA (fun _ => 0) (M 89) (40 * k_) 40)))) 83 [some (vR 75), some (vI k_), some (vI a_), some (vI n_), some (vI i_)] [] (N_) := fun i_ N_ hi_ hN_ => K83 ((40 - i_).toNat + 1) i_ N_ (by omega) hi_ hN_
                exact L83 _ _ (by omega) (by rw [zfillA_0]; exact (show zrow (zput (zput M 87 k_ a_) 88 k_ z_) 89 ((zput (zput M 87 k_ a_) 88 k_ z_) 89) = zrow _ 89 (M 89) by rw [zput_ne (by decide), zput_ne (by decide)]) ▸ zrow_self.symm)
              refine z_aload_0 dX7_sheet_65 ?_
              refine z_getR (r := 88) fl_X7_47 zk_75 rfl rfl dX7_sheet_66 ?_
              refine z_iload_1 dX7_sheet_69 ?_
              refine z_iload_2 dX7_sheet_70 ?_
              refine z_if_ne (tgt := 78) (by omega) dX7_sheet_71 (by decide) (fun c71 => ?_) (fun c71 => ?_)
              · refine z_iload_3 dX7_sheet_78 ?_
                exact J79 _ (by first | (rw [if_pos (by omega)]; done) | (rw [if_neg (by omega)]; done))
              · refine z_iconst dX7_sheet_74 ?_
                refine z_goto (tgt := 79) dX7_sheet_75 (by decide) ?_
                exact J79 _ (by first | (rw [if_pos (by omega)]; done) | (rw [if_neg (by omega)]; done))
            · refine z_aload_0 dX7_sheet_52 ?_
              refine z_iconst dX7_sheet_53 ?_
              refine z_cVI yv_X7_finding ml_X7_93 (c_X7_finding (by omega)) zk_75 rfl rfl (by decide) (Nat.le_of_ble_eq_true rfl) dX7_sheet_54 ?_
              exact z_iret dX7_sheet_57 (zPI (by (repeat (first | rw [if_pos (by omega)] | rw [if_neg (by omega)])) <;> rfl) (by (repeat (first | rw [if_pos (by omega)] | rw [if_neg (by omega)])) <;> rfl))
          · refine z_aload_0 dX7_sheet_39 ?_
            refine z_bipush dX7_sheet_40 (by decide) ?_
            refine z_cVI yv_X7_finding ml_X7_93 (c_X7_finding (by omega)) zk_75 rfl rfl (by decide) (Nat.le_of_ble_eq_true rfl) dX7_sheet_42 ?_
            exact z_iret dX7_sheet_45 (zPI (by (repeat (first | rw [if_pos (by omega)] | rw [if_neg (by omega)])) <;> rfl) (by (repeat (first | rw [if_pos (by omega)] | rw [if_neg (by omega)])) <;> rfl))
        · refine z_iload_2 dX7_sheet_23 ?_
          refine z_bipush dX7_sheet_24 (by decide) ?_
          refine z_icmp_eq (tgt := 35) (by omega) (by decide) dX7_sheet_26 (by decide) (fun c26 => ?_) (fun c26 => ?_)
          · refine z_iload_3 dX7_sheet_35 ?_
            refine z_if_ge (tgt := 46) (by omega) dX7_sheet_36 (by decide) (fun c36 => ?_) (fun c36 => ?_)
            · refine z_iload_3 dX7_sheet_46 ?_
              refine z_bipush dX7_sheet_47 (by decide) ?_
              refine z_icmp_le (tgt := 58) (by omega) (by decide) dX7_sheet_49 (by decide) (fun c49 => ?_) (fun c49 => ?_)
              · refine z_aload_0 dX7_sheet_58 ?_
                refine z_getR (r := 87) fl_X7_44 zk_75 rfl rfl dX7_sheet_59 ?_
                refine z_iload_1 dX7_sheet_62 ?_
                refine z_iload_2 dX7_sheet_63 ?_
                refine z_iast (n := 4) zk_87 rfl (by omega) dX7_sheet_64 ?_
                have J79 : ∀ (z_ : Int), (z_ = (if a_ = 0 then 0 else n_)) → Z RX7 cX7_sheet 5 (some .int) 2 (zQ (PI (if ¬ ((0 ≤ k_ ∧ k_ ≤ 3) ∧ (a_ = 0 ∨ a_ = 8 ∨ a_ = 16 ∨ a_ = 64)) then -1000000001 else if n_ < 0 then -1000000007 else if 40 < n_ then -1000000001 else (if a_ = 0 then 0 else n_)) (if ¬ ((0 ≤ k_ ∧ k_ ≤ 3) ∧ (a_ = 0 ∨ a_ = 8 ∨ a_ = 16 ∨ a_ = 64)) then fnd7 M 0 else if n_ < 0 then fnd7 M 6 else if 40 < n_ then fnd7 M 0 else zrow (zput (zput M 87 k_ a_) 88 k_ (if a_ = 0 then 0 else n_)) 89 (zfillA (fun _ => 0) (M 89) (40 * k_) 40)))) 79 [some (vR 75), some (vI k_), some (vI a_), some (vI n_), none] [vI z_, vI k_, vR 88] ((zput M 87 k_ a_)) := by
                  intro z_ hz_
                  refine z_iast (n := 4) zk_88 rfl (by omega) dX7_sheet_79 ?_
                  refine z_iconst dX7_sheet_80 ?_
                  refine z_istore_4 rfl dX7_sheet_81 ?_
                  have K83 : ∀ (fuel_ : Nat) (i_ : Int) (N_ : zM), 40 - i_ < (fuel_ : Int) → (0 ≤ i_ ∧ i_ ≤ 40) → (N_ = zrow (zput (zput M 87 k_ a_) 88 k_ z_) 89 (zfillA (fun _ => 0) (M 89) (40 * k_) i_)) → Z RX7 cX7_sheet 5 (some .int) 2 (zQ (PI (if ¬ ((0 ≤ k_ ∧ k_ ≤ 3) ∧ (a_ = 0 ∨ a_ = 8 ∨ a_ = 16 ∨ a_ = 64)) then -1000000001 else if n_ < 0 then -1000000007 else if 40 < n_ then -1000000001 else (if a_ = 0 then 0 else n_)) (if ¬ ((0 ≤ k_ ∧ k_ ≤ 3) ∧ (a_ = 0 ∨ a_ = 8 ∨ a_ = 16 ∨ a_ = 64)) then fnd7 M 0 else if n_ < 0 then fnd7 M 6 else if 40 < n_ then fnd7 M 0 else zrow (zput (zput M 87 k_ a_) 88 k_ (if a_ = 0 then 0 else n_)) 89 (zfillA (fun _ => 0) (M 89) (40 * k_) 40)))) 83 [some (vR 75), some (vI k_), some (vI a_), some (vI n_), some (vI i_)] [] (N_) := by
                    intro fuel_
                    induction fuel_ with
                    | zero => intro i_ N_ hfuel_ hi_ hN_; exfalso; omega
                    | succ fuel_ ih83 =>
                      intro i_ N_ hfuel_ hi_ hN_
                      refine z_iload_4 dX7_sheet_83 ?_
                      refine z_bipush dX7_sheet_85 (by decide) ?_
                      refine z_icmp_ge (tgt := 109) (by omega) (by decide) dX7_sheet_87 (by decide) (fun c87 => ?_) (fun c87 => ?_)
                      · refine z_aload_0 dX7_sheet_109 ?_
                        refine z_getR (r := 88) fl_X7_47 zk_75 rfl rfl dX7_sheet_110 ?_
                        refine z_iload_1 dX7_sheet_113 ?_
                        refine z_ialdv (n := 4) (v := z_) zk_88 rfl (by omega) (by rw [hN_, zrow_ne (by decide), zput_eq]) dX7_sheet_114 ?_
                        exact z_iret dX7_sheet_115 (zPI (by rw [hz_]; symm; (repeat (first | rw [if_pos (by omega)] | rw [if_neg (by omega)])) <;> rfl) (by rw [hN_, hz_, show i_ = 40 by omega]; symm; (repeat (first | rw [if_pos (by omega)] | rw [if_neg (by omega)])) <;> rfl))
                      · refine z_aload_0 dX7_sheet_90 ?_
                        refine z_getR (r := 89) fl_X7_50 zk_75 rfl rfl dX7_sheet_91 ?_
                        refine z_bipush dX7_sheet_94 (by decide) ?_
                        refine z_iload_1 dX7_sheet_96 ?_
                        refine z_imul dX7_sheet_97 ?_
                        refine z_iload_4 dX7_sheet_98 ?_
                        refine z_iadd dX7_sheet_100 ?_
                        refine z_lconst0 dX7_sheet_101 ?_
                        refine z_last (n := 160) zk_89 rfl (by omega) dX7_sheet_102 ?_
                        refine z_iinc_4 rfl dX7_sheet_103 ?_
                        refine z_goto (tgt := 83) dX7_sheet_106 (by decide) ?_
                        exact ih83 _ _ (by omega) (by omega) (by rw [hN_]; exact zfillA_1 (f := fun _ => 0) hi_.1)
                  have L83 : ∀ (i_ : Int) (N_ : zM), (0 ≤ i_ ∧ i_ ≤ 40) → (N_ = zrow (zput (zput M 87 k_ a_) 88 k_ z_) 89 (zfillA (fun _ => 0) (M 89) (40 * k_) i_)) → Z RX7 cX7_sheet 5 (some .int) 2 (zQ (PI (if ¬ ((0 ≤ k_ ∧ k_ ≤ 3) ∧ (a_ = 0 ∨ a_ = 8 ∨ a_ = 16 ∨ a_ = 64)) then -1000000001 else if n_ < 0 then -1000000007 else if 40 < n_ then -1000000001 else (if a_ = 0 then 0 else n_)) (if ¬ ((0 ≤ k_ ∧ k_ ≤ 3) ∧ (a_ = 0 ∨ a_ = 8 ∨ a_ = 16 ∨ a_ = 64)) then fnd7 M 0 else if n_ < 0 then fnd7 M 6 else if 40 < n_ then fnd7 M 0 else zrow (zput (zput M 87 k_ a_) 88 k_ (if a_ = 0 then 0 else n_)) 89 (zfillA (fun _ => 0) (M 89) (40 * k_) 40)))) 83 [some (vR 75), some (vI k_), some (vI a_), some (vI n_), some (vI i_)] [] (N_) := fun i_ N_ hi_ hN_ => K83 ((40 - i_).toNat + 1) i_ N_ (by omega) hi_ hN_
                  exact L83 _ _ (by omega) (by rw [zfillA_0]; exact (show zrow (zput (zput M 87 k_ a_) 88 k_ z_) 89 ((zput (zput M 87 k_ a_) 88 k_ z_) 89) = zrow _ 89 (M 89) by rw [zput_ne (by decide), zput_ne (by decide)]) ▸ zrow_self.symm)
                refine z_aload_0 dX7_sheet_65 ?_
                refine z_getR (r := 88) fl_X7_47 zk_75 rfl rfl dX7_sheet_66 ?_
                refine z_iload_1 dX7_sheet_69 ?_
                refine z_iload_2 dX7_sheet_70 ?_
                refine z_if_ne (tgt := 78) (by omega) dX7_sheet_71 (by decide) (fun c71 => ?_) (fun c71 => ?_)
                · refine z_iload_3 dX7_sheet_78 ?_
                  exact J79 _ (by first | (rw [if_pos (by omega)]; done) | (rw [if_neg (by omega)]; done))
                · refine z_iconst dX7_sheet_74 ?_
                  refine z_goto (tgt := 79) dX7_sheet_75 (by decide) ?_
                  exact J79 _ (by first | (rw [if_pos (by omega)]; done) | (rw [if_neg (by omega)]; done))
              · refine z_aload_0 dX7_sheet_52 ?_
                refine z_iconst dX7_sheet_53 ?_
                refine z_cVI yv_X7_finding ml_X7_93 (c_X7_finding (by omega)) zk_75 rfl rfl (by decide) (Nat.le_of_ble_eq_true rfl) dX7_sheet_54 ?_
                exact z_iret dX7_sheet_57 (zPI (by (repeat (first | rw [if_pos (by omega)] | rw [if_neg (by omega)])) <;> rfl) (by (repeat (first | rw [if_pos (by omega)] | rw [if_neg (by omega)])) <;> rfl))
            · refine z_aload_0 dX7_sheet_39 ?_
              refine z_bipush dX7_sheet_40 (by decide) ?_
              refine z_cVI yv_X7_finding ml_X7_93 (c_X7_finding (by omega)) zk_75 rfl rfl (by decide) (Nat.le_of_ble_eq_true rfl) dX7_sheet_42 ?_
              exact z_iret dX7_sheet_45 (zPI (by (repeat (first | rw [if_pos (by omega)] | rw [if_neg (by omega)])) <;> rfl) (by (repeat (first | rw [if_pos (by omega)] | rw [if_neg (by omega)])) <;> rfl))
          · refine z_aload_0 dX7_sheet_29 ?_
            refine z_iconst dX7_sheet_30 ?_
            refine z_cVI yv_X7_finding ml_X7_93 (c_X7_finding (by omega)) zk_75 rfl rfl (by decide) (Nat.le_of_ble_eq_true rfl) dX7_sheet_31 ?_
            exact z_iret dX7_sheet_34 (zPI (by (repeat (first | rw [if_pos (by omega)] | rw [if_neg (by omega)])) <;> rfl) (by (repeat (first | rw [if_pos (by omega)] | rw [if_neg (by omega)])) <;> rfl))

theorem c_X7_write {M : zM} {k_ j_ v_ : Int} (hS : SH7 M) (hk : -2147483648 ≤ k_ ∧ k_ < 2147483648) (hj : -2147483648 ≤ j_ ∧ j_ < 2147483648) : Call yX7_write cX7_write 7 (some .long) 2 [vR 75, vI k_, vI j_, vJ v_] (M) (PJ (if ¬ (0 ≤ k_ ∧ k_ ≤ 3) then -1000000001 else if M 87 k_ = 0 then -1000000006 else if ¬ (0 ≤ j_ ∧ j_ ≤ M 88 k_ - 1) then -1000000001 else M 89 (40 * k_ + j_)) (if ¬ (0 ≤ k_ ∧ k_ ≤ 3) then fnd7 M 0 else if M 87 k_ = 0 then fnd7 M 5 else if ¬ (0 ≤ j_ ∧ j_ ≤ M 88 k_ - 1) then fnd7 M 0 else zput M 89 (40 * k_ + j_) (if M 87 k_ = 8 then Int.bmod v_ 256 else if M 87 k_ = 16 then Int.bmod v_ 65536 else v_))) := by
  refine Call.of2 (own := RX7) (lv0 := [some (vR 75), some (vI k_), some (vI j_), some (vJ v_), none, none, none]) rfl (by decide) rfl (Nat.le_of_ble_eq_true rfl) ?_
  refine z_iload_1 dX7_write_0 ?_
  refine z_cSI ys_X7_isSheet ml_X7_295 (c_X7_isSheet (by omega)) rfl rfl (by decide) (Nat.le_of_ble_eq_true rfl) dX7_write_1 ?_
  refine z_ifb_ne (tgt := 14) dX7_write_4 (by decide) (fun c4 => ?_) (fun c4 => ?_)
  · have hs_ := hS k_ (by omega) (by omega)
    refine z_aload_0 dX7_write_14 ?_
    refine z_getR (r := 87) fl_X7_44 zk_75 rfl rfl dX7_write_15 ?_
    refine z_iload_1 dX7_write_18 ?_
    refine z_iald (n := 4) zk_87 rfl (by omega) dX7_write_19 ?_
    refine z_if_ne (tgt := 30) (by omega) dX7_write_20 (by decide) (fun c20 => ?_) (fun c20 => ?_)
    · refine z_iload_2 dX7_write_30 ?_
      refine z_i2l (by omega) dX7_write_31 ?_
      refine z_lconst0 dX7_write_32 ?_
      refine z_aload_0 dX7_write_33 ?_
      refine z_getR (r := 88) fl_X7_47 zk_75 rfl rfl dX7_write_34 ?_
      refine z_iload_1 dX7_write_37 ?_
      refine z_iald (n := 4) zk_88 rfl (by omega) dX7_write_38 ?_
      refine z_iconst dX7_write_39 ?_
      refine z_isub dX7_write_40 ?_
      refine z_i2l (by omega) dX7_write_41 ?_
      refine z_cSI ys_X7_in ml_X7_85 (c_X7_in (by omega) (by decide) (by omega)) rfl rfl (by decide) (Nat.le_of_ble_eq_true rfl) dX7_write_42 ?_
      refine z_ifb_ne (tgt := 55) dX7_write_45 (by decide) (fun c45 => ?_) (fun c45 => ?_)
      · have hb1_ := Int.le_bmod (x := v_) (m := 256) (by decide)
        have hb2_ := Int.bmod_lt (x := v_) (m := 256) (by decide)
        have hb3_ := Int.le_bmod (x := v_) (m := 65536) (by decide)
        have hb4_ := Int.bmod_lt (x := v_) (m := 65536) (by decide)
        refine z_aload_0 dX7_write_55 ?_
        refine z_iload_1 dX7_write_56 ?_
        refine z_iload_2 dX7_write_57 ?_
        refine z_cVJ yv_X7_numberOf ml_X7_298 (c_X7_numberOf (by omega) (by omega)) zk_75 rfl rfl (by decide) (Nat.le_of_ble_eq_true rfl) dX7_write_58 ?_
        refine z_lstore_5 rfl dX7_write_61 ?_
        refine z_aload_0 dX7_write_63 ?_
        refine z_getR (r := 89) fl_X7_50 zk_75 rfl rfl dX7_write_64 ?_
        refine z_bipush dX7_write_67 (by decide) ?_
        refine z_iload_1 dX7_write_69 ?_
        refine z_imul dX7_write_70 ?_
        refine z_iload_2 dX7_write_71 ?_
        refine z_iadd dX7_write_72 ?_
        have J110 : ∀ (u_ : Int), (u_ = (if M 87 k_ = 8 then Int.bmod v_ 256 else if M 87 k_ = 16 then Int.bmod v_ 65536 else v_)) → Z RX7 cX7_write 7 (some .long) 2 (zQ (PJ (if ¬ (0 ≤ k_ ∧ k_ ≤ 3) then -1000000001 else if M 87 k_ = 0 then -1000000006 else if ¬ (0 ≤ j_ ∧ j_ ≤ M 88 k_ - 1) then -1000000001 else M 89 (40 * k_ + j_)) (if ¬ (0 ≤ k_ ∧ k_ ≤ 3) then fnd7 M 0 else if M 87 k_ = 0 then fnd7 M 5 else if ¬ (0 ≤ j_ ∧ j_ ≤ M 88 k_ - 1) then fnd7 M 0 else zput M 89 (40 * k_ + j_) (if M 87 k_ = 8 then Int.bmod v_ 256 else if M 87 k_ = 16 then Int.bmod v_ 65536 else v_)))) 110 [some (vR 75), some (vI k_), some (vI j_), some (vJ v_), none, some (vJ (M 89 (40 * k_ + j_))), none] [vJ u_, vI (40 * k_ + j_), vR 89] (M) := by
          intro u_ hu_
          refine z_last (n := 160) zk_89 rfl (by omega) dX7_write_110 ?_
          refine z_lload_5 dX7_write_111 ?_
          exact z_lret dX7_write_113 (zPJ (by rw [if_neg (by omega), if_neg (by omega), if_neg (by omega)]) (by rw [if_neg (by omega), if_neg (by omega), if_neg (by omega), hu_]))
        refine z_aload_0 dX7_write_73 ?_
        refine z_getR (r := 87) fl_X7_44 zk_75 rfl rfl dX7_write_74 ?_
        refine z_iload_1 dX7_write_77 ?_
        refine z_iald (n := 4) zk_87 rfl (by omega) dX7_write_78 ?_
        refine z_bipush dX7_write_79 (by decide) ?_
        refine z_icmp_ne (tgt := 91) (by omega) (by decide) dX7_write_81 (by decide) (fun c81 => ?_) (fun c81 => ?_)
        · refine z_aload_0 dX7_write_91 ?_
          refine z_getR (r := 87) fl_X7_44 zk_75 rfl rfl dX7_write_92 ?_
          refine z_iload_1 dX7_write_95 ?_
          refine z_iald (n := 4) zk_87 rfl (by omega) dX7_write_96 ?_
          refine z_bipush dX7_write_97 (by decide) ?_
          refine z_icmp_ne (tgt := 109) (by omega) (by decide) dX7_write_99 (by decide) (fun c99 => ?_) (fun c99 => ?_)
          · refine z_lload_3 dX7_write_109 ?_
            exact J110 _ (by symm; (repeat (first | rw [if_pos (by omega)] | rw [if_neg (by omega)])))
          · refine z_lload_3 dX7_write_102 ?_
            refine z_l2i dX7_write_103 ?_
            refine z_i2s dX7_write_104 ?_
            refine z_i2l (by omega) dX7_write_105 ?_
            refine z_goto (tgt := 110) dX7_write_106 (by decide) ?_
            exact J110 _ (by symm; (repeat (first | rw [if_pos (by omega)] | rw [if_neg (by omega)])))
        · refine z_lload_3 dX7_write_84 ?_
          refine z_l2i dX7_write_85 ?_
          refine z_i2b dX7_write_86 ?_
          refine z_i2l (by omega) dX7_write_87 ?_
          refine z_goto (tgt := 110) dX7_write_88 (by decide) ?_
          exact J110 _ (by symm; (repeat (first | rw [if_pos (by omega)] | rw [if_neg (by omega)])))
      · refine z_aload_0 dX7_write_48 ?_
        refine z_iconst dX7_write_49 ?_
        refine z_cVI yv_X7_finding ml_X7_93 (c_X7_finding (by omega)) zk_75 rfl rfl (by decide) (Nat.le_of_ble_eq_true rfl) dX7_write_50 ?_
        refine z_i2l (by omega) dX7_write_53 ?_
        exact z_lret dX7_write_54 (zPJ (by (repeat (first | rw [if_pos (by omega)] | rw [if_neg (by omega)])) <;> rfl) (by (repeat (first | rw [if_pos (by omega)] | rw [if_neg (by omega)])) <;> rfl))
    · refine z_aload_0 dX7_write_23 ?_
      refine z_iconst dX7_write_24 ?_
      refine z_cVI yv_X7_finding ml_X7_93 (c_X7_finding (by omega)) zk_75 rfl rfl (by decide) (Nat.le_of_ble_eq_true rfl) dX7_write_25 ?_
      refine z_i2l (by omega) dX7_write_28 ?_
      exact z_lret dX7_write_29 (zPJ (by (repeat (first | rw [if_pos (by omega)] | rw [if_neg (by omega)])) <;> rfl) (by (repeat (first | rw [if_pos (by omega)] | rw [if_neg (by omega)])) <;> rfl))
  · refine z_aload_0 dX7_write_7 ?_
    refine z_iconst dX7_write_8 ?_
    refine z_cVI yv_X7_finding ml_X7_93 (c_X7_finding (by omega)) zk_75 rfl rfl (by decide) (Nat.le_of_ble_eq_true rfl) dX7_write_9 ?_
    refine z_i2l (by omega) dX7_write_12 ?_
    exact z_lret dX7_write_13 (zPJ (by (repeat (first | rw [if_pos (by omega)] | rw [if_neg (by omega)])) <;> rfl) (by (repeat (first | rw [if_pos (by omega)] | rw [if_neg (by omega)])) <;> rfl))
