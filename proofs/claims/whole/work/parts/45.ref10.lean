def calmB (dg : Int → Int) (c s : Int) : Nat → Int
  | 0 => 1
  | n + 1 => if calmB dg c s n ≠ 0 ∧ dg (s + n) ≤ c then 1 else 0
theorem calmB_01 {dg : Int → Int} {c s : Int} : ∀ n : Nat, calmB dg c s n = 0 ∨ calmB dg c s n = 1
  | 0 => Or.inr rfl
  | n + 1 => by
    unfold calmB
    split
    · exact Or.inr rfl
    · exact Or.inl rfl
/-- the first start of n + 1 calm days, from s on -/
def homeR (dg : Int → Int) (c n : Int) : Nat → Int → Int
  | 0, _ => -1
  | f + 1, s => if calmB dg c s (n.toNat + 1) ≠ 0 then s else homeR dg c n f (s + 1)
theorem c_X7_copy {M : zM} {a_ i_ b_ j_ n_ : Int} (hS : SH7 M) (ha : -2147483648 ≤ a_ ∧ a_ < 2147483648) (hi : -2147483648 ≤ i_ ∧ i_ < 2147483648) (hb : -2147483648 ≤ b_ ∧ b_ < 2147483648) (hj : -2147483648 ≤ j_ ∧ j_ < 2147483648) (hn : -2147483648 ≤ n_ ∧ n_ < 2147483648) : Call yX7_copy cX7_copy 7 (some .int) 2 [vR 75, vI a_, vI i_, vI b_, vI j_, vI n_] (M) (PI (if ¬ ((0 ≤ a_ ∧ a_ ≤ 3) ∧ (0 ≤ b_ ∧ b_ ≤ 3)) then -1000000001 else if M 87 a_ = 0 ∨ M 87 b_ = 0 then -1000000006 else if ¬ M 87 a_ = M 87 b_ then -1000000003 else if ¬ (0 ≤ i_ ∧ 0 ≤ j_ ∧ 0 ≤ n_ ∧ i_ ≤ M 88 a_ - n_ ∧ j_ ≤ M 88 b_ - n_) then -1000000001 else n_) (if ¬ ((0 ≤ a_ ∧ a_ ≤ 3) ∧ (0 ≤ b_ ∧ b_ ≤ 3)) then fnd7 M 0 else if M 87 a_ = 0 ∨ M 87 b_ = 0 then fnd7 M 5 else if ¬ M 87 a_ = M 87 b_ then fnd7 M 2 else if ¬ (0 ≤ i_ ∧ 0 ≤ j_ ∧ 0 ≤ n_ ∧ i_ ≤ M 88 a_ - n_ ∧ j_ ≤ M 88 b_ - n_) then fnd7 M 0 else (zrow (zrow M 90 (zfillA (fun t_ => M 89 (40 * a_ + i_ + t_)) (M 90) 0 n_)) 89 (zfillA (fun t_ => M 89 (40 * a_ + i_ + (t_ - (40 * b_ + j_)))) (M 89) (40 * b_ + j_) n_)))) := by
  refine Call.of2 (own := RX7) (lv0 := [some (vR 75), some (vI a_), some (vI i_), some (vI b_), some (vI j_), some (vI n_), none]) rfl (by decide) rfl (Nat.le_of_ble_eq_true rfl) ?_
  have J14 : (¬ ((0 ≤ a_ ∧ a_ ≤ 3) ∧ (0 ≤ b_ ∧ b_ ≤ 3))) → Z RX7 cX7_copy 7 (some .int) 2 (zQ (PI (if ¬ ((0 ≤ a_ ∧ a_ ≤ 3) ∧ (0 ≤ b_ ∧ b_ ≤ 3)) then -1000000001 else if M 87 a_ = 0 ∨ M 87 b_ = 0 then -1000000006 else if ¬ M 87 a_ = M 87 b_ then -1000000003 else if ¬ (0 ≤ i_ ∧ 0 ≤ j_ ∧ 0 ≤ n_ ∧ i_ ≤ M 88 a_ - n_ ∧ j_ ≤ M 88 b_ - n_) then -1000000001 else n_) (if ¬ ((0 ≤ a_ ∧ a_ ≤ 3) ∧ (0 ≤ b_ ∧ b_ ≤ 3)) then fnd7 M 0 else if M 87 a_ = 0 ∨ M 87 b_ = 0 then fnd7 M 5 else if ¬ M 87 a_ = M 87 b_ then fnd7 M 2 else if ¬ (0 ≤ i_ ∧ 0 ≤ j_ ∧ 0 ≤ n_ ∧ i_ ≤ M 88 a_ - n_ ∧ j_ ≤ M 88 b_ - n_) then fnd7 M 0 else (zrow (zrow M 90 (zfillA (fun t_ => M 89 (40 * a_ + i_ + t_)) (M 90) 0 n_)) 89 (zfillA (fun t_ => M 89 (40 * a_ + i_ + (t_ - (40 * b_ + j_)))) (M 89) (40 * b_ + j_) n_))))) 14 [some (vR 75), some (vI a_), some (vI i_), some (vI b_), some (vI j_), some (vI n_), none] [] (M) := by
    intro hz_
    refine z_aload_0 dX7_copy_14 ?_
    refine z_iconst dX7_copy_15 ?_
    refine z_cVI yv_X7_finding ml_X7_93 (c_X7_finding (by omega)) zk_75 rfl rfl (by decide) (Nat.le_of_ble_eq_true rfl) dX7_copy_16 ?_
    exact z_iret dX7_copy_19 (zPI (by (repeat (first | rw [if_pos (by omega)] | rw [if_neg (by omega)])) <;> rfl) (by (repeat (first | rw [if_pos (by omega)] | rw [if_neg (by omega)])) <;> rfl))
  refine z_iload_1 dX7_copy_0 ?_
  refine z_cSI ys_X7_isSheet ml_X7_295 (c_X7_isSheet (by omega)) rfl rfl (by decide) (Nat.le_of_ble_eq_true rfl) dX7_copy_1 ?_
  refine z_ifb_eq (tgt := 14) dX7_copy_4 (by decide) (fun c4 => ?_) (fun c4 => ?_)
  · exact J14  (by omega)
  · refine z_iload_3 dX7_copy_7 ?_
    refine z_cSI ys_X7_isSheet ml_X7_295 (c_X7_isSheet (by omega)) rfl rfl (by decide) (Nat.le_of_ble_eq_true rfl) dX7_copy_8 ?_
    refine z_ifb_ne (tgt := 20) dX7_copy_11 (by decide) (fun c11 => ?_) (fun c11 => ?_)
    · have J38 : (M 87 a_ = 0 ∨ M 87 b_ = 0) → Z RX7 cX7_copy 7 (some .int) 2 (zQ (PI (if ¬ ((0 ≤ a_ ∧ a_ ≤ 3) ∧ (0 ≤ b_ ∧ b_ ≤ 3)) then -1000000001 else if M 87 a_ = 0 ∨ M 87 b_ = 0 then -1000000006 else if ¬ M 87 a_ = M 87 b_ then -1000000003 else if ¬ (0 ≤ i_ ∧ 0 ≤ j_ ∧ 0 ≤ n_ ∧ i_ ≤ M 88 a_ - n_ ∧ j_ ≤ M 88 b_ - n_) then -1000000001 else n_) (if ¬ ((0 ≤ a_ ∧ a_ ≤ 3) ∧ (0 ≤ b_ ∧ b_ ≤ 3)) then fnd7 M 0 else if M 87 a_ = 0 ∨ M 87 b_ = 0 then fnd7 M 5 else if ¬ M 87 a_ = M 87 b_ then fnd7 M 2 else if ¬ (0 ≤ i_ ∧ 0 ≤ j_ ∧ 0 ≤ n_ ∧ i_ ≤ M 88 a_ - n_ ∧ j_ ≤ M 88 b_ - n_) then fnd7 M 0 else (zrow (zrow M 90 (zfillA (fun t_ => M 89 (40 * a_ + i_ + t_)) (M 90) 0 n_)) 89 (zfillA (fun t_ => M 89 (40 * a_ + i_ + (t_ - (40 * b_ + j_)))) (M 89) (40 * b_ + j_) n_))))) 38 [some (vR 75), some (vI a_), some (vI i_), some (vI b_), some (vI j_), some (vI n_), none] [] (M) := by
        intro hz_
        refine z_aload_0 dX7_copy_38 ?_
        refine z_iconst dX7_copy_39 ?_
        refine z_cVI yv_X7_finding ml_X7_93 (c_X7_finding (by omega)) zk_75 rfl rfl (by decide) (Nat.le_of_ble_eq_true rfl) dX7_copy_40 ?_
        exact z_iret dX7_copy_43 (zPI (by (repeat (first | rw [if_pos (by omega)] | rw [if_neg (by omega)])) <;> rfl) (by (repeat (first | rw [if_pos (by omega)] | rw [if_neg (by omega)])) <;> rfl))
      have hs1_ := hS a_ (by omega) (by omega)
      have hs2_ := hS b_ (by omega) (by omega)
      refine z_aload_0 dX7_copy_20 ?_
      refine z_getR (r := 87) fl_X7_44 zk_75 rfl rfl dX7_copy_21 ?_
      refine z_iload_1 dX7_copy_24 ?_
      refine z_iald (n := 4) zk_87 rfl (by omega) dX7_copy_25 ?_
      refine z_if_eq (tgt := 38) (by omega) dX7_copy_26 (by decide) (fun c26 => ?_) (fun c26 => ?_)
      · exact J38  (by omega)
      · refine z_aload_0 dX7_copy_29 ?_
        refine z_getR (r := 87) fl_X7_44 zk_75 rfl rfl dX7_copy_30 ?_
        refine z_iload_3 dX7_copy_33 ?_
        refine z_iald (n := 4) zk_87 rfl (by omega) dX7_copy_34 ?_
        refine z_if_ne (tgt := 44) (by omega) dX7_copy_35 (by decide) (fun c35 => ?_) (fun c35 => ?_)
        · refine z_aload_0 dX7_copy_44 ?_
          refine z_getR (r := 87) fl_X7_44 zk_75 rfl rfl dX7_copy_45 ?_
          refine z_iload_1 dX7_copy_48 ?_
          refine z_iald (n := 4) zk_87 rfl (by omega) dX7_copy_49 ?_
          refine z_aload_0 dX7_copy_50 ?_
          refine z_getR (r := 87) fl_X7_44 zk_75 rfl rfl dX7_copy_51 ?_
          refine z_iload_3 dX7_copy_54 ?_
          refine z_iald (n := 4) zk_87 rfl (by omega) dX7_copy_55 ?_
          refine z_icmp_eq (tgt := 65) (by omega) (by omega) dX7_copy_56 (by decide) (fun c56 => ?_) (fun c56 => ?_)
          · have J106 : (¬ (0 ≤ i_ ∧ 0 ≤ j_ ∧ 0 ≤ n_ ∧ i_ ≤ M 88 a_ - n_ ∧ j_ ≤ M 88 b_ - n_)) → Z RX7 cX7_copy 7 (some .int) 2 (zQ (PI (if ¬ ((0 ≤ a_ ∧ a_ ≤ 3) ∧ (0 ≤ b_ ∧ b_ ≤ 3)) then -1000000001 else if M 87 a_ = 0 ∨ M 87 b_ = 0 then -1000000006 else if ¬ M 87 a_ = M 87 b_ then -1000000003 else if ¬ (0 ≤ i_ ∧ 0 ≤ j_ ∧ 0 ≤ n_ ∧ i_ ≤ M 88 a_ - n_ ∧ j_ ≤ M 88 b_ - n_) then -1000000001 else n_) (if ¬ ((0 ≤ a_ ∧ a_ ≤ 3) ∧ (0 ≤ b_ ∧ b_ ≤ 3)) then fnd7 M 0 else if M 87 a_ = 0 ∨ M 87 b_ = 0 then fnd7 M 5 else if ¬ M 87 a_ = M 87 b_ then fnd7 M 2 else if ¬ (0 ≤ i_ ∧ 0 ≤ j_ ∧ 0 ≤ n_ ∧ i_ ≤ M 88 a_ - n_ ∧ j_ ≤ M 88 b_ - n_) then fnd7 M 0 else (zrow (zrow M 90 (zfillA (fun t_ => M 89 (40 * a_ + i_ + t_)) (M 90) 0 n_)) 89 (zfillA (fun t_ => M 89 (40 * a_ + i_ + (t_ - (40 * b_ + j_)))) (M 89) (40 * b_ + j_) n_))))) 106 [some (vR 75), some (vI a_), some (vI i_), some (vI b_), some (vI j_), some (vI n_), none] [] (M) := by
              intro hz_
              refine z_aload_0 dX7_copy_106 ?_
              refine z_iconst dX7_copy_107 ?_
              refine z_cVI yv_X7_finding ml_X7_93 (c_X7_finding (by omega)) zk_75 rfl rfl (by decide) (Nat.le_of_ble_eq_true rfl) dX7_copy_108 ?_
              exact z_iret dX7_copy_111 (zPI (by (repeat (first | rw [if_pos (by omega)] | rw [if_neg (by omega)])) <;> rfl) (by (repeat (first | rw [if_pos (by omega)] | rw [if_neg (by omega)])) <;> rfl))
            refine z_iload_2 dX7_copy_65 ?_
            refine z_if_lt (tgt := 106) (by omega) dX7_copy_66 (by decide) (fun c66 => ?_) (fun c66 => ?_)
            · exact J106  (by omega)
            · refine z_iload_4 dX7_copy_69 ?_
              refine z_if_lt (tgt := 106) (by omega) dX7_copy_71 (by decide) (fun c71 => ?_) (fun c71 => ?_)
              · exact J106  (by omega)
              · refine z_iload_5 dX7_copy_74 ?_
                refine z_if_lt (tgt := 106) (by omega) dX7_copy_76 (by decide) (fun c76 => ?_) (fun c76 => ?_)
                · exact J106  (by omega)
                · refine z_iload_2 dX7_copy_79 ?_
                  refine z_aload_0 dX7_copy_80 ?_
                  refine z_getR (r := 88) fl_X7_47 zk_75 rfl rfl dX7_copy_81 ?_
                  refine z_iload_1 dX7_copy_84 ?_
                  refine z_iald (n := 4) zk_88 rfl (by omega) dX7_copy_85 ?_
                  refine z_iload_5 dX7_copy_86 ?_
                  refine z_isub dX7_copy_88 ?_
                  refine z_icmp_gt (tgt := 106) (by omega) (by omega) dX7_copy_89 (by decide) (fun c89 => ?_) (fun c89 => ?_)
                  · exact J106  (by omega)
                  · refine z_iload_4 dX7_copy_92 ?_
                    refine z_aload_0 dX7_copy_94 ?_
                    refine z_getR (r := 88) fl_X7_47 zk_75 rfl rfl dX7_copy_95 ?_
                    refine z_iload_3 dX7_copy_98 ?_
                    refine z_iald (n := 4) zk_88 rfl (by omega) dX7_copy_99 ?_
                    refine z_iload_5 dX7_copy_100 ?_
                    refine z_isub dX7_copy_102 ?_
                    refine z_icmp_le (tgt := 112) (by omega) (by omega) dX7_copy_103 (by decide) (fun c103 => ?_) (fun c103 => ?_)
                    · refine z_iconst dX7_copy_112 ?_
                      refine z_istore_6 rfl dX7_copy_113 ?_
                      have K115 : ∀ (fuel_ : Nat) (t_ : Int) (N_ : zM), n_ - t_ < (fuel_ : Int) → (0 ≤ t_ ∧ t_ ≤ n_) → (N_ = zrow M 90 (zfillA (fun t_ => M 89 (40 * a_ + i_ + t_)) (M 90) 0 t_)) → Z RX7 cX7_copy 7 (some .int) 2 (zQ (PI (if ¬ ((0 ≤ a_ ∧ a_ ≤ 3) ∧ (0 ≤ b_ ∧ b_ ≤ 3)) then -1000000001 else if M 87 a_ = 0 ∨ M 87 b_ = 0 then -1000000006 else if ¬ M 87 a_ = M 87 b_ then -1000000003 else if ¬ (0 ≤ i_ ∧ 0 ≤ j_ ∧ 0 ≤ n_ ∧ i_ ≤ M 88 a_ - n_ ∧ j_ ≤ M 88 b_ - n_) then -1000000001 else n_) (if ¬ ((0 ≤ a_ ∧ a_ ≤ 3) ∧ (0 ≤ b_ ∧ b_ ≤ 3)) then fnd7 M 0 else if M 87 a_ = 0 ∨ M 87 b_ = 0 then fnd7 M 5 else if ¬ M 87 a_ = M 87 b_ then fnd7 M 2 else if ¬ (0 ≤ i_ ∧ 0 ≤ j_ ∧ 0 ≤ n_ ∧ i_ ≤ M 88 a_ - n_ ∧ j_ ≤ M 88 b_ - n_) then fnd7 M 0 else (zrow (zrow M 90 (zfillA (fun t_ => M 89 (40 * a_ + i_ + t_)) (M 90) 0 n_)) 89 (zfillA (fun t_ => M 89 (40 * a_ + i_ + (t_ - (40 * b_ + j_)))) (M 89) (40 * b_ + j_) n_))))) 115 [some (vR 75), some (vI a_), some (vI i_), some (vI b_), some (vI j_), some (vI n_), some (vI t_)] [] (N_) := by
                        intro fuel_
                        induction fuel_ with
                        | zero => intro t_ N_ hfuel_ ht_ hN_; exfalso; omega
                        | succ fuel_ ih115 =>
                          intro t_ N_ hfuel_ ht_ hN_
                          refine z_iload_6 dX7_copy_115 ?_
                          refine z_iload_5 dX7_copy_117 ?_
                          refine z_icmp_ge (tgt := 149) (by omega) (by omega) dX7_copy_119 (by decide) (fun c119 => ?_) (fun c119 => ?_)
                          · refine z_iconst dX7_copy_149 ?_
                            refine z_istore_6 rfl dX7_copy_150 ?_
                            have K152 : ∀ (fuel_ : Nat) (t_ : Int) (P_ : zM), n_ - t_ < (fuel_ : Int) → (0 ≤ t_ ∧ t_ ≤ n_) → (P_ = (zrow (zrow M 90 (zfillA (fun t_ => M 89 (40 * a_ + i_ + t_)) (M 90) 0 n_)) 89 (zfillA (fun t_ => M 89 (40 * a_ + i_ + (t_ - (40 * b_ + j_)))) (M 89) (40 * b_ + j_) t_))) → Z RX7 cX7_copy 7 (some .int) 2 (zQ (PI (if ¬ ((0 ≤ a_ ∧ a_ ≤ 3) ∧ (0 ≤ b_ ∧ b_ ≤ 3)) then -1000000001 else if M 87 a_ = 0 ∨ M 87 b_ = 0 then -1000000006 else if ¬ M 87 a_ = M 87 b_ then -1000000003 else if ¬ (0 ≤ i_ ∧ 0 ≤ j_ ∧ 0 ≤ n_ ∧ i_ ≤ M 88 a_ - n_ ∧ j_ ≤ M 88 b_ - n_) then -1000000001 else n_) (if ¬ ((0 ≤ a_ ∧ a_ ≤ 3) ∧ (0 ≤ b_ ∧ b_ ≤ 3)) then fnd7 M 0 else if M 87 a_ = 0 ∨ M 87 b_ = 0 then fnd7 M 5 else if ¬ M 87 a_ = M 87 b_ then fnd7 M 2 else if ¬ (0 ≤ i_ ∧ 0 ≤ j_ ∧ 0 ≤ n_ ∧ i_ ≤ M 88 a_ - n_ ∧ j_ ≤ M 88 b_ - n_) then fnd7 M 0 else (zrow (zrow M 90 (zfillA (fun t_ => M 89 (40 * a_ + i_ + t_)) (M 90) 0 n_)) 89 (zfillA (fun t_ => M 89 (40 * a_ + i_ + (t_ - (40 * b_ + j_)))) (M 89) (40 * b_ + j_) n_))))) 152 [some (vR 75), some (vI a_), some (vI i_), some (vI b_), some (vI j_), some (vI n_), some (vI t_)] [] (P_) := by
                              intro fuel_
                              induction fuel_ with
                              | zero => intro t_ P_ hfuel_ ht_ hP_; exfalso; omega
                              | succ fuel_ ih152 =>
                                intro t_ P_ hfuel_ ht_ hP_
                                refine z_iload_6 dX7_copy_152 ?_
                                refine z_iload_5 dX7_copy_154 ?_
                                refine z_icmp_ge (tgt := 187) (by omega) (by omega) dX7_copy_156 (by decide) (fun c156 => ?_) (fun c156 => ?_)
                                · refine z_iload_5 dX7_copy_187 ?_
                                  exact z_iret dX7_copy_189 (zPI (by (repeat (first | rw [if_pos (by omega)] | rw [if_neg (by omega)])) <;> rfl) (by rw [if_neg (by omega), if_neg (by omega), if_neg (by omega), if_neg (by omega), hP_, show t_ = n_ by omega]))
                                · refine z_aload_0 dX7_copy_159 ?_
                                  refine z_getR (r := 89) fl_X7_50 zk_75 rfl rfl dX7_copy_160 ?_
                                  refine z_bipush dX7_copy_163 (by decide) ?_
                                  refine z_iload_3 dX7_copy_165 ?_
                                  refine z_imul dX7_copy_166 ?_
                                  refine z_iload_4 dX7_copy_167 ?_
                                  refine z_iadd dX7_copy_169 ?_
                                  refine z_iload_6 dX7_copy_170 ?_
                                  refine z_iadd dX7_copy_172 ?_
                                  refine z_aload_0 dX7_copy_173 ?_
                                  refine z_getR (r := 90) fl_X7_53 zk_75 rfl rfl dX7_copy_174 ?_
                                  refine z_iload_6 dX7_copy_177 ?_
                                  refine z_laldv (n := 40) (v := (M 89 (40 * a_ + i_ + ((40 * b_ + j_) + t_ - (40 * b_ + j_))))) zk_90 rfl (by omega) (by rw [hP_, zrow_ne (by decide), zrow_eq]; unfold zfillA; rw [if_pos (by omega), show (40 * b_ + j_) + t_ - (40 * b_ + j_) = t_ by omega]) dX7_copy_179 ?_
                                  refine z_last (n := 160) zk_89 rfl (by omega) dX7_copy_180 ?_
                                  refine z_iinc_6 rfl dX7_copy_181 ?_
                                  refine z_goto (tgt := 152) dX7_copy_184 (by decide) ?_
                                  exact ih152 _ _ (by omega) (by omega) (by rw [hP_]; exact zfillA_1 (f := (fun t_ => M 89 (40 * a_ + i_ + (t_ - (40 * b_ + j_))))) ht_.1)
                            have L152 : ∀ (t_ : Int) (P_ : zM), (0 ≤ t_ ∧ t_ ≤ n_) → (P_ = (zrow (zrow M 90 (zfillA (fun t_ => M 89 (40 * a_ + i_ + t_)) (M 90) 0 n_)) 89 (zfillA (fun t_ => M 89 (40 * a_ + i_ + (t_ - (40 * b_ + j_)))) (M 89) (40 * b_ + j_) t_))) → Z RX7 cX7_copy 7 (some .int) 2 (zQ (PI (if ¬ ((0 ≤ a_ ∧ a_ ≤ 3) ∧ (0 ≤ b_ ∧ b_ ≤ 3)) then -1000000001 else if M 87 a_ = 0 ∨ M 87 b_ = 0 then -1000000006 else if ¬ M 87 a_ = M 87 b_ then -1000000003 else if ¬ (0 ≤ i_ ∧ 0 ≤ j_ ∧ 0 ≤ n_ ∧ i_ ≤ M 88 a_ - n_ ∧ j_ ≤ M 88 b_ - n_) then -1000000001 else n_) (if ¬ ((0 ≤ a_ ∧ a_ ≤ 3) ∧ (0 ≤ b_ ∧ b_ ≤ 3)) then fnd7 M 0 else if M 87 a_ = 0 ∨ M 87 b_ = 0 then fnd7 M 5 else if ¬ M 87 a_ = M 87 b_ then fnd7 M 2 else if ¬ (0 ≤ i_ ∧ 0 ≤ j_ ∧ 0 ≤ n_ ∧ i_ ≤ M 88 a_ - n_ ∧ j_ ≤ M 88 b_ - n_) then fnd7 M 0 else (zrow (zrow M 90 (zfillA (fun t_ => M 89 (40 * a_ + i_ + t_)) (M 90) 0 n_)) 89 (zfillA (fun t_ => M 89 (40 * a_ + i_ + (t_ - (40 * b_ + j_)))) (M 89) (40 * b_ + j_) n_))))) 152 [some (vR 75), some (vI a_), some (vI i_), some (vI b_), some (vI j_), some (vI n_), some (vI t_)] [] (P_) := fun t_ P_ ht_ hP_ => K152 ((n_ - t_).toNat + 1) t_ P_ (by omega) ht_ hP_
                            exact L152 _ _ (by omega) (by rw [hN_, show t_ = n_ by omega]; exact zfillA_0M)
                          · refine z_aload_0 dX7_copy_122 ?_
                            refine z_getR (r := 90) fl_X7_53 zk_75 rfl rfl dX7_copy_123 ?_
                            refine z_iload_6 dX7_copy_126 ?_
                            refine z_aload_0 dX7_copy_128 ?_
                            refine z_getR (r := 89) fl_X7_50 zk_75 rfl rfl dX7_copy_129 ?_
                            refine z_bipush dX7_copy_132 (by decide) ?_
                            refine z_iload_1 dX7_copy_134 ?_
                            refine z_imul dX7_copy_135 ?_
                            refine z_iload_2 dX7_copy_136 ?_
                            refine z_iadd dX7_copy_137 ?_
                            refine z_iload_6 dX7_copy_138 ?_
                            refine z_iadd dX7_copy_140 ?_
                            refine z_laldv (n := 160) (v := (M 89 (40 * a_ + i_ + t_))) zk_89 rfl (by omega) (by rw [hN_, zrow_ne (by decide)]) dX7_copy_141 ?_
                            refine z_last (n := 40) zk_90 rfl (by omega) dX7_copy_142 ?_
                            refine z_iinc_6 rfl dX7_copy_143 ?_
                            refine z_goto (tgt := 115) dX7_copy_146 (by decide) ?_
                            exact ih115 _ _ (by omega) (by omega) (by rw [hN_]; exact zfillA_10 (f := (fun t_ => M 89 (40 * a_ + i_ + t_))) ht_.1)
                      have L115 : ∀ (t_ : Int) (N_ : zM), (0 ≤ t_ ∧ t_ ≤ n_) → (N_ = zrow M 90 (zfillA (fun t_ => M 89 (40 * a_ + i_ + t_)) (M 90) 0 t_)) → Z RX7 cX7_copy 7 (some .int) 2 (zQ (PI (if ¬ ((0 ≤ a_ ∧ a_ ≤ 3) ∧ (0 ≤ b_ ∧ b_ ≤ 3)) then -1000000001 else if M 87 a_ = 0 ∨ M 87 b_ = 0 then -1000000006 else if ¬ M 87 a_ = M 87 b_ then -1000000003 else if ¬ (0 ≤ i_ ∧ 0 ≤ j_ ∧ 0 ≤ n_ ∧ i_ ≤ M 88 a_ - n_ ∧ j_ ≤ M 88 b_ - n_) then -1000000001 else n_) (if ¬ ((0 ≤ a_ ∧ a_ ≤ 3) ∧ (0 ≤ b_ ∧ b_ ≤ 3)) then fnd7 M 0 else if M 87 a_ = 0 ∨ M 87 b_ = 0 then fnd7 M 5 else if ¬ M 87 a_ = M 87 b_ then fnd7 M 2 else if ¬ (0 ≤ i_ ∧ 0 ≤ j_ ∧ 0 ≤ n_ ∧ i_ ≤ M 88 a_ - n_ ∧ j_ ≤ M 88 b_ - n_) then fnd7 M 0 else (zrow (zrow M 90 (zfillA (fun t_ => M 89 (40 * a_ + i_ + t_)) (M 90) 0 n_)) 89 (zfillA (fun t_ => M 89 (40 * a_ + i_ + (t_ - (40 * b_ + j_)))) (M 89) (40 * b_ + j_) n_))))) 115 [some (vR 75), some (vI a_), some (vI i_), some (vI b_), some (vI j_), some (vI n_), some (vI t_)] [] (N_) := fun t_ N_ ht_ hN_ => K115 ((n_ - t_).toNat + 1) t_ N_ (by omega) ht_ hN_
                      exact L115 _ _ (by omega) (by exact zfillA_0M)
                    · exact J106  (by omega)
          · refine z_aload_0 dX7_copy_59 ?_
            refine z_iconst dX7_copy_60 ?_
            refine z_cVI yv_X7_finding ml_X7_93 (c_X7_finding (by omega)) zk_75 rfl rfl (by decide) (Nat.le_of_ble_eq_true rfl) dX7_copy_61 ?_
            exact z_iret dX7_copy_64 (zPI (by (repeat (first | rw [if_pos (by omega)] | rw [if_neg (by omega)])) <;> rfl) (by (repeat (first | rw [if_pos (by omega)] | rw [if_neg (by omega)])) <;> rfl))
        · exact J38  (by omega)
    · exact J14  (by omega)

theorem c_X7_home {M : zM} {c_ n_ : Int} (hn : SN (M 76)) (hp : pOK (pS (M 76))) (hh : -12 ≤ M 76 1 ∧ M 76 1 ≤ 12) (ht : 0 ≤ M 76 0 ∧ M 76 0 ≤ 2000) (hfu : -1000 ≤ M 76 7 ∧ M 76 7 ≤ 1000) (hc : -2147483648 ≤ c_ ∧ c_ < 2147483648) (hn0 : -2147483648 ≤ n_ ∧ n_ < 2147483648) : Call yX7_home cX7_home 7 (some .int) 4 [vR 75, vI c_, vI n_] (M) (PI (if ¬ ((0 ≤ c_ ∧ c_ ≤ 1000000) ∧ (0 ≤ n_ ∧ n_ ≤ 20)) then -1000000001 else if M 76 1 = 0 then -1000000005 else if (-M 76 1 = 0 ∨ (-12 ≤ M 76 1 + -M 76 1 ∧ M 76 1 + -M 76 1 ≤ 12) ∧ M 76 6 ≤ M 76 7 - M 76 2 * zabs (-M 76 1)) ∧ 0 ≤ homeR (fun d_ => danger (M 76 10).toNat (gS (M 76)) (M 76 0 + d_) 0) c_ n_ 40 1 then homeR (fun d_ => danger (M 76 10).toNat (gS (M 76)) (M 76 0 + d_) 0) c_ n_ 40 1 else -1000000004) (if ¬ ((0 ≤ c_ ∧ c_ ≤ 1000000) ∧ (0 ≤ n_ ∧ n_ ≤ 20)) then fnd7 M 0 else if M 76 1 = 0 then fnd7 M 4 else if (-M 76 1 = 0 ∨ (-12 ≤ M 76 1 + -M 76 1 ∧ M 76 1 + -M 76 1 ≤ 12) ∧ M 76 6 ≤ M 76 7 - M 76 2 * zabs (-M 76 1)) ∧ 0 ≤ homeR (fun d_ => danger (M 76 10).toNat (gS (M 76)) (M 76 0 + d_) 0) c_ n_ 40 1 then M else fnd7 M 3)) := by
  refine Call.of2 (own := RX7) (lv0 := [some (vR 75), some (vI c_), some (vI n_), none, none, none, none]) rfl (by decide) rfl (Nat.le_of_ble_eq_true rfl) ?_
  obtain ⟨⟨p00, p01⟩, ⟨p10, p11⟩, ⟨p20, p21⟩, ⟨p30, p31⟩, ⟨p40, p41⟩, ⟨p50, p51⟩⟩ := pOK_s hp
  have J24 : (¬ ((0 ≤ c_ ∧ c_ ≤ 1000000) ∧ (0 ≤ n_ ∧ n_ ≤ 20))) → Z RX7 cX7_home 7 (some .int) 4 (zQ (PI (if ¬ ((0 ≤ c_ ∧ c_ ≤ 1000000) ∧ (0 ≤ n_ ∧ n_ ≤ 20)) then -1000000001 else if M 76 1 = 0 then -1000000005 else if (-M 76 1 = 0 ∨ (-12 ≤ M 76 1 + -M 76 1 ∧ M 76 1 + -M 76 1 ≤ 12) ∧ M 76 6 ≤ M 76 7 - M 76 2 * zabs (-M 76 1)) ∧ 0 ≤ homeR (fun d_ => danger (M 76 10).toNat (gS (M 76)) (M 76 0 + d_) 0) c_ n_ 40 1 then homeR (fun d_ => danger (M 76 10).toNat (gS (M 76)) (M 76 0 + d_) 0) c_ n_ 40 1 else -1000000004) (if ¬ ((0 ≤ c_ ∧ c_ ≤ 1000000) ∧ (0 ≤ n_ ∧ n_ ≤ 20)) then fnd7 M 0 else if M 76 1 = 0 then fnd7 M 4 else if (-M 76 1 = 0 ∨ (-12 ≤ M 76 1 + -M 76 1 ∧ M 76 1 + -M 76 1 ≤ 12) ∧ M 76 6 ≤ M 76 7 - M 76 2 * zabs (-M 76 1)) ∧ 0 ≤ homeR (fun d_ => danger (M 76 10).toNat (gS (M 76)) (M 76 0 + d_) 0) c_ n_ 40 1 then M else fnd7 M 3))) 24 [some (vR 75), some (vI c_), some (vI n_), none, none, none, none] [] (M) := by
    intro hz_
    refine z_aload_0 dX7_home_24 ?_
    refine z_iconst dX7_home_25 ?_
    refine z_cVI yv_X7_finding ml_X7_93 (c_X7_finding (by omega)) zk_75 rfl rfl (by decide) (Nat.le_of_ble_eq_true rfl) dX7_home_26 ?_
    exact z_iret dX7_home_29 (zPI (by rw [if_pos hz_] <;> rfl) (by rw [if_pos hz_] <;> rfl))
  refine z_iload_1 dX7_home_0 ?_
  refine z_i2l (by omega) dX7_home_1 ?_
  refine z_lconst0 dX7_home_2 ?_
  refine z_ldc2 (n := 1000000) kl_X7_66 (by decide) dX7_home_3 ?_
  refine z_cSI ys_X7_in ml_X7_85 (c_X7_in (by omega) (by decide) (by decide)) rfl rfl (by decide) (Nat.le_of_ble_eq_true rfl) dX7_home_6 ?_
  refine z_ifb_eq (tgt := 24) dX7_home_9 (by decide) (fun c9 => ?_) (fun c9 => ?_)
  · exact J24  (by omega)
  · refine z_iload_2 dX7_home_12 ?_
    refine z_i2l (by omega) dX7_home_13 ?_
    refine z_lconst0 dX7_home_14 ?_
    refine z_ldc2 (n := 20) kl_X7_281 (by decide) dX7_home_15 ?_
    refine z_cSI ys_X7_in ml_X7_85 (c_X7_in (by omega) (by decide) (by decide)) rfl rfl (by decide) (Nat.le_of_ble_eq_true rfl) dX7_home_18 ?_
    refine z_ifb_ne (tgt := 30) dX7_home_21 (by decide) (fun c21 => ?_) (fun c21 => ?_)
    · refine z_aload_0 dX7_home_30 ?_
      refine z_getR (r := 76) fl_X7_7 zk_75 rfl rfl dX7_home_31 ?_
      refine z_iconst dX7_home_34 ?_
      refine z_lald (n := 214) zk_76 rfl (by omega) dX7_home_35 ?_
      refine z_lconst0 dX7_home_36 ?_
      refine z_lcmp_ne (tgt := 47) (by omega) (by decide) dX7_home_37 dX7_home_38 (by decide) (fun c37 => ?_) (fun c37 => ?_)
      · refine z_iconst dX7_home_47 ?_
        refine z_istore_3 rfl dX7_home_48 ?_
        refine z_iconst dX7_home_49 ?_
        refine z_istore_4 rfl dX7_home_50 ?_
        have K52 : ∀ (fuel_ : Nat) (r_ : Int) (s_ : Int), 41 - s_ < (fuel_ : Int) → (1 ≤ s_ ∧ s_ ≤ 41) → ((r_ = -1 ∧ homeR (fun d_ => danger (M 76 10).toNat (gS (M 76)) (M 76 0 + d_) 0) c_ n_ (41 - s_).toNat s_ = homeR (fun d_ => danger (M 76 10).toNat (gS (M 76)) (M 76 0 + d_) 0) c_ n_ 40 1) ∨ (0 ≤ r_ ∧ r_ ≤ 40 ∧ (-M 76 1 = 0 ∨ (-12 ≤ M 76 1 + -M 76 1 ∧ M 76 1 + -M 76 1 ≤ 12) ∧ M 76 6 ≤ M 76 7 - M 76 2 * zabs (-M 76 1)) ∧ r_ = homeR (fun d_ => danger (M 76 10).toNat (gS (M 76)) (M 76 0 + d_) 0) c_ n_ 40 1)) → Z RX7 cX7_home 7 (some .int) 4 (zQ (PI (if ¬ ((0 ≤ c_ ∧ c_ ≤ 1000000) ∧ (0 ≤ n_ ∧ n_ ≤ 20)) then -1000000001 else if M 76 1 = 0 then -1000000005 else if (-M 76 1 = 0 ∨ (-12 ≤ M 76 1 + -M 76 1 ∧ M 76 1 + -M 76 1 ≤ 12) ∧ M 76 6 ≤ M 76 7 - M 76 2 * zabs (-M 76 1)) ∧ 0 ≤ homeR (fun d_ => danger (M 76 10).toNat (gS (M 76)) (M 76 0 + d_) 0) c_ n_ 40 1 then homeR (fun d_ => danger (M 76 10).toNat (gS (M 76)) (M 76 0 + d_) 0) c_ n_ 40 1 else -1000000004) (if ¬ ((0 ≤ c_ ∧ c_ ≤ 1000000) ∧ (0 ≤ n_ ∧ n_ ≤ 20)) then fnd7 M 0 else if M 76 1 = 0 then fnd7 M 4 else if (-M 76 1 = 0 ∨ (-12 ≤ M 76 1 + -M 76 1 ∧ M 76 1 + -M 76 1 ≤ 12) ∧ M 76 6 ≤ M 76 7 - M 76 2 * zabs (-M 76 1)) ∧ 0 ≤ homeR (fun d_ => danger (M 76 10).toNat (gS (M 76)) (M 76 0 + d_) 0) c_ n_ 40 1 then M else fnd7 M 3))) 52 [some (vR 75), some (vI c_), some (vI n_), some (vI r_), some (vI s_), none, none] [] (M) := by
          intro fuel_
          induction fuel_ with
          | zero => intro r_ s_ hfuel_ hs_ hi_; exfalso; omega
          | succ fuel_ ih52 =>
            intro r_ s_ hfuel_ hs_ hi_
            have J150 : ((r_ < 0 ∧ r_ = -1 ∧ ¬ ((-M 76 1 = 0 ∨ (-12 ≤ M 76 1 + -M 76 1 ∧ M 76 1 + -M 76 1 ≤ 12) ∧ M 76 6 ≤ M 76 7 - M 76 2 * zabs (-M 76 1)) ∧ 0 ≤ homeR (fun d_ => danger (M 76 10).toNat (gS (M 76)) (M 76 0 + d_) 0) c_ n_ 40 1)) ∨ (0 ≤ r_ ∧ (-M 76 1 = 0 ∨ (-12 ≤ M 76 1 + -M 76 1 ∧ M 76 1 + -M 76 1 ≤ 12) ∧ M 76 6 ≤ M 76 7 - M 76 2 * zabs (-M 76 1)) ∧ r_ = homeR (fun d_ => danger (M 76 10).toNat (gS (M 76)) (M 76 0 + d_) 0) c_ n_ 40 1)) → Z RX7 cX7_home 7 (some .int) 4 (zQ (PI (if ¬ ((0 ≤ c_ ∧ c_ ≤ 1000000) ∧ (0 ≤ n_ ∧ n_ ≤ 20)) then -1000000001 else if M 76 1 = 0 then -1000000005 else if (-M 76 1 = 0 ∨ (-12 ≤ M 76 1 + -M 76 1 ∧ M 76 1 + -M 76 1 ≤ 12) ∧ M 76 6 ≤ M 76 7 - M 76 2 * zabs (-M 76 1)) ∧ 0 ≤ homeR (fun d_ => danger (M 76 10).toNat (gS (M 76)) (M 76 0 + d_) 0) c_ n_ 40 1 then homeR (fun d_ => danger (M 76 10).toNat (gS (M 76)) (M 76 0 + d_) 0) c_ n_ 40 1 else -1000000004) (if ¬ ((0 ≤ c_ ∧ c_ ≤ 1000000) ∧ (0 ≤ n_ ∧ n_ ≤ 20)) then fnd7 M 0 else if M 76 1 = 0 then fnd7 M 4 else if (-M 76 1 = 0 ∨ (-12 ≤ M 76 1 + -M 76 1 ∧ M 76 1 + -M 76 1 ≤ 12) ∧ M 76 6 ≤ M 76 7 - M 76 2 * zabs (-M 76 1)) ∧ 0 ≤ homeR (fun d_ => danger (M 76 10).toNat (gS (M 76)) (M 76 0 + d_) 0) c_ n_ 40 1 then M else fnd7 M 3))) 150 [some (vR 75), some (vI c_), some (vI n_), some (vI r_), some (vI s_), none, none] [] (M) := by
              intro hr_
              refine z_iload_3 dX7_home_150 ?_
              refine z_if_ge (tgt := 162) (by omega) dX7_home_151 (by decide) (fun c151 => ?_) (fun c151 => ?_)
              · refine z_iload_3 dX7_home_162 ?_
                exact z_iret dX7_home_163 (zPI (by rcases hr_ with ⟨k1_, k0_, k2_⟩ | ⟨k1_, k2_, k3_⟩ <;> first | (exfalso; omega) | (rw [if_neg (by omega), if_neg (by omega), if_pos ⟨k2_, by omega⟩, k3_]; done) | (rw [if_neg (by omega), if_neg (by omega), if_neg k2_] <;> rfl) | (rw [if_neg (by omega), if_neg (by omega), if_pos ⟨k2_, by omega⟩])) (by rcases hr_ with ⟨k1_, k0_, k2_⟩ | ⟨k1_, k2_, k3_⟩ <;> first | (exfalso; omega) | (rw [if_neg (by omega), if_neg (by omega), if_pos ⟨k2_, by omega⟩, k3_]; done) | (rw [if_neg (by omega), if_neg (by omega), if_neg k2_] <;> rfl) | (rw [if_neg (by omega), if_neg (by omega), if_pos ⟨k2_, by omega⟩])))
              · refine z_aload_0 dX7_home_154 ?_
                refine z_iconst dX7_home_155 ?_
                refine z_cVI yv_X7_finding ml_X7_93 (c_X7_finding (by omega)) zk_75 rfl rfl (by decide) (Nat.le_of_ble_eq_true rfl) dX7_home_156 ?_
                refine z_goto (tgt := 163) dX7_home_159 (by decide) ?_
                exact z_iret dX7_home_163 (zPI (by rcases hr_ with ⟨k1_, k0_, k2_⟩ | ⟨k1_, k2_, k3_⟩ <;> first | (exfalso; omega) | (rw [if_neg (by omega), if_neg (by omega), if_pos ⟨k2_, by omega⟩, k3_]; done) | (rw [if_neg (by omega), if_neg (by omega), if_neg k2_] <;> rfl) | (rw [if_neg (by omega), if_neg (by omega), if_pos ⟨k2_, by omega⟩])) (by rcases hr_ with ⟨k1_, k0_, k2_⟩ | ⟨k1_, k2_, k3_⟩ <;> first | (exfalso; omega) | (rw [if_neg (by omega), if_neg (by omega), if_pos ⟨k2_, by omega⟩, k3_]; done) | (rw [if_neg (by omega), if_neg (by omega), if_neg k2_] <;> rfl) | (rw [if_neg (by omega), if_neg (by omega), if_pos ⟨k2_, by omega⟩])))
            refine z_iload_4 dX7_home_52 ?_
            refine z_bipush dX7_home_54 (by decide) ?_
            refine z_icmp_gt (tgt := 150) (by omega) (by decide) dX7_home_56 (by decide) (fun c56 => ?_) (fun c56 => ?_)
            · exact J150  (by rcases hi_ with ⟨k1_, k2_⟩ | ⟨k1_, k3_, k2_, k4_⟩ <;> first | exact Or.inr ⟨k1_, k2_, k4_⟩ | (refine Or.inl ⟨by omega, k1_, fun x_ => ?_⟩; first | exact c80 x_.1 | (have x2_ := x_.2; rw [← k2_, show (41 - s_).toNat = 0 by omega] at x2_; exact absurd (show (0 : Int) ≤ -1 from x2_) (by decide))))
            · refine z_iload_3 dX7_home_59 ?_
              refine z_if_ge (tgt := 150) (by omega) dX7_home_60 (by decide) (fun c60 => ?_) (fun c60 => ?_)
              · exact J150  (by rcases hi_ with ⟨k1_, k2_⟩ | ⟨k1_, k3_, k2_, k4_⟩ <;> first | exact Or.inr ⟨k1_, k2_, k4_⟩ | (refine Or.inl ⟨by omega, k1_, fun x_ => ?_⟩; first | exact c80 x_.1 | (have x2_ := x_.2; rw [← k2_, show (41 - s_).toNat = 0 by omega] at x2_; exact absurd (show (0 : Int) ≤ -1 from x2_) (by decide))))
              · have hin_ : homeR (fun d_ => danger (M 76 10).toNat (gS (M 76)) (M 76 0 + d_) 0) c_ n_ (41 - s_).toNat s_ = homeR (fun d_ => danger (M 76 10).toNat (gS (M 76)) (M 76 0 + d_) 0) c_ n_ 40 1 := by rcases hi_ with h_ | h_; exact h_.2; exact absurd h_.1 (by omega)
                refine z_aload_0 dX7_home_63 ?_
                refine z_aload_0 dX7_home_64 ?_
                refine z_cVI yv_X7_height ml_X7_111 c_X7_height zk_75 rfl rfl (by decide) (Nat.le_of_ble_eq_true rfl) dX7_home_65 ?_
                refine z_aload_0 dX7_home_68 ?_
                refine z_cVI yv_X7_fuel ml_X7_115 c_X7_fuel zk_75 rfl rfl (by decide) (Nat.le_of_ble_eq_true rfl) dX7_home_69 ?_
                refine z_aload_0 dX7_home_72 ?_
                refine z_cVI yv_X7_height ml_X7_111 c_X7_height zk_75 rfl rfl (by decide) (Nat.le_of_ble_eq_true rfl) dX7_home_73 ?_
                refine z_ineg dX7_home_76 ?_
                refine z_cVI yv_X7_can ml_X7_118 (c_X7_can hp (by omega) (by omega) (by omega)) zk_75 rfl rfl (by decide) (Nat.le_of_ble_eq_true rfl) dX7_home_77 ?_
                refine z_ifb_eq (tgt := 150) dX7_home_80 (by decide) (fun c80 => ?_) (fun c80 => ?_)
                · exact J150  (by rcases hi_ with ⟨k1_, k2_⟩ | ⟨k1_, k3_, k2_, k4_⟩ <;> first | exact Or.inr ⟨k1_, k2_, k4_⟩ | (refine Or.inl ⟨by omega, k1_, fun x_ => ?_⟩; first | exact c80 x_.1 | (have x2_ := x_.2; rw [← k2_, show (41 - s_).toNat = 0 by omega] at x2_; exact absurd (show (0 : Int) ≤ -1 from x2_) (by decide))))
                · refine z_iconst dX7_home_83 ?_
                  refine z_istore_5 rfl dX7_home_84 ?_
                  refine z_iconst dX7_home_86 ?_
                  refine z_istore_6 rfl dX7_home_87 ?_
                  have K89 : ∀ (fuel_ : Nat) (o_ : Int) (f_ : Int), n_ + 1 - f_ < (fuel_ : Int) → (0 ≤ f_ ∧ f_ ≤ n_ + 1) → (o_ = calmB (fun d_ => danger (M 76 10).toNat (gS (M 76)) (M 76 0 + d_) 0) c_ s_ f_.toNat) → Z RX7 cX7_home 7 (some .int) 4 (zQ (PI (if ¬ ((0 ≤ c_ ∧ c_ ≤ 1000000) ∧ (0 ≤ n_ ∧ n_ ≤ 20)) then -1000000001 else if M 76 1 = 0 then -1000000005 else if (-M 76 1 = 0 ∨ (-12 ≤ M 76 1 + -M 76 1 ∧ M 76 1 + -M 76 1 ≤ 12) ∧ M 76 6 ≤ M 76 7 - M 76 2 * zabs (-M 76 1)) ∧ 0 ≤ homeR (fun d_ => danger (M 76 10).toNat (gS (M 76)) (M 76 0 + d_) 0) c_ n_ 40 1 then homeR (fun d_ => danger (M 76 10).toNat (gS (M 76)) (M 76 0 + d_) 0) c_ n_ 40 1 else -1000000004) (if ¬ ((0 ≤ c_ ∧ c_ ≤ 1000000) ∧ (0 ≤ n_ ∧ n_ ≤ 20)) then fnd7 M 0 else if M 76 1 = 0 then fnd7 M 4 else if (-M 76 1 = 0 ∨ (-12 ≤ M 76 1 + -M 76 1 ∧ M 76 1 + -M 76 1 ≤ 12) ∧ M 76 6 ≤ M 76 7 - M 76 2 * zabs (-M 76 1)) ∧ 0 ≤ homeR (fun d_ => danger (M 76 10).toNat (gS (M 76)) (M 76 0 + d_) 0) c_ n_ 40 1 then M else fnd7 M 3))) 89 [some (vR 75), some (vI c_), some (vI n_), some (vI r_), some (vI s_), some (vI o_), some (vI f_)] [] (M) := by
                    intro fuel_
                    induction fuel_ with
                    | zero => intro o_ f_ hfuel_ hf_ ho_; exfalso; omega
                    | succ fuel_ ih89 =>
                      intro o_ f_ hfuel_ hf_ ho_
                      refine z_iload_6 dX7_home_89 ?_
                      refine z_iload_2 dX7_home_91 ?_
                      have h02_ := calmB_01 (dg := (fun d_ => danger (M 76 10).toNat (gS (M 76)) (M 76 0 + d_) 0)) (c := c_) (s := s_) f_.toNat
                      refine z_icmp_gt (tgt := 132) (by omega) (by omega) dX7_home_92 (by decide) (fun c92 => ?_) (fun c92 => ?_)
                      · have J143 : ∀ (r2_ : Int), ((r2_ = -1 ∧ homeR (fun d_ => danger (M 76 10).toNat (gS (M 76)) (M 76 0 + d_) 0) c_ n_ (41 - (s_ + 1)).toNat (s_ + 1) = homeR (fun d_ => danger (M 76 10).toNat (gS (M 76)) (M 76 0 + d_) 0) c_ n_ 40 1) ∨ (0 ≤ r2_ ∧ r2_ ≤ 40 ∧ (-M 76 1 = 0 ∨ (-12 ≤ M 76 1 + -M 76 1 ∧ M 76 1 + -M 76 1 ≤ 12) ∧ M 76 6 ≤ M 76 7 - M 76 2 * zabs (-M 76 1)) ∧ r2_ = homeR (fun d_ => danger (M 76 10).toNat (gS (M 76)) (M 76 0 + d_) 0) c_ n_ 40 1)) → Z RX7 cX7_home 7 (some .int) 4 (zQ (PI (if ¬ ((0 ≤ c_ ∧ c_ ≤ 1000000) ∧ (0 ≤ n_ ∧ n_ ≤ 20)) then -1000000001 else if M 76 1 = 0 then -1000000005 else if (-M 76 1 = 0 ∨ (-12 ≤ M 76 1 + -M 76 1 ∧ M 76 1 + -M 76 1 ≤ 12) ∧ M 76 6 ≤ M 76 7 - M 76 2 * zabs (-M 76 1)) ∧ 0 ≤ homeR (fun d_ => danger (M 76 10).toNat (gS (M 76)) (M 76 0 + d_) 0) c_ n_ 40 1 then homeR (fun d_ => danger (M 76 10).toNat (gS (M 76)) (M 76 0 + d_) 0) c_ n_ 40 1 else -1000000004) (if ¬ ((0 ≤ c_ ∧ c_ ≤ 1000000) ∧ (0 ≤ n_ ∧ n_ ≤ 20)) then fnd7 M 0 else if M 76 1 = 0 then fnd7 M 4 else if (-M 76 1 = 0 ∨ (-12 ≤ M 76 1 + -M 76 1 ∧ M 76 1 + -M 76 1 ≤ 12) ∧ M 76 6 ≤ M 76 7 - M 76 2 * zabs (-M 76 1)) ∧ 0 ≤ homeR (fun d_ => danger (M 76 10).toNat (gS (M 76)) (M 76 0 + d_) 0) c_ n_ 40 1 then M else fnd7 M 3))) 143 [some (vR 75), some (vI c_), some (vI n_), some (vI r_), some (vI s_), some (vI o_), some (vI f_)] [vI r2_] (M) := by
                          intro r2_ hi2_
                          refine z_istore_3 rfl dX7_home_143 ?_
                          refine z_iinc_4 rfl dX7_home_144 ?_
                          refine z_goto (tgt := 52) dX7_home_147 (by decide) ?_
                          refine z_drop_5 ?_
                          refine z_drop_6 ?_
                          exact ih52 _ _ (by omega) (by omega) (by exact hi2_)
                        have ho4_ : o_ = calmB (fun d_ => danger (M 76 10).toNat (gS (M 76)) (M 76 0 + d_) 0) c_ s_ (n_.toNat + 1) := by rw [ho_, show f_.toNat = n_.toNat + 1 by omega]
                        refine z_iload_5 dX7_home_132 ?_
                        refine z_if_eq (tgt := 142) (by omega) dX7_home_134 (by decide) (fun c134 => ?_) (fun c134 => ?_)
                        · refine z_iconst dX7_home_142 ?_
                          exact J143 _ (by first | (refine Or.inl ⟨rfl, ?_⟩; rw [← hin_, show (41 - s_).toNat = (41 - (s_ + 1)).toNat + 1 by omega]; refine Eq.symm ?_; rw [homeR, if_neg (by rw [← ho4_]; omega)]; done) | (refine Or.inr ⟨by omega, by omega, by assumption, ?_⟩; rw [← hin_, show (41 - s_).toNat = (41 - (s_ + 1)).toNat + 1 by omega]; rw [homeR, if_pos (by rw [← ho4_]; omega)]))
                        · refine z_iload_4 dX7_home_137 ?_
                          refine z_goto (tgt := 143) dX7_home_139 (by decide) ?_
                          exact J143 _ (by first | (refine Or.inl ⟨rfl, ?_⟩; rw [← hin_, show (41 - s_).toNat = (41 - (s_ + 1)).toNat + 1 by omega]; refine Eq.symm ?_; rw [homeR, if_neg (by rw [← ho4_]; omega)]; done) | (refine Or.inr ⟨by omega, by omega, by assumption, ?_⟩; rw [← hin_, show (41 - s_).toNat = (41 - (s_ + 1)).toNat + 1 by omega]; rw [homeR, if_pos (by rw [← ho4_]; omega)]))
                      · have J124 : ∀ (o2_ : Int), (o2_ = calmB (fun d_ => danger (M 76 10).toNat (gS (M 76)) (M 76 0 + d_) 0) c_ s_ (f_ + 1).toNat) → Z RX7 cX7_home 7 (some .int) 4 (zQ (PI (if ¬ ((0 ≤ c_ ∧ c_ ≤ 1000000) ∧ (0 ≤ n_ ∧ n_ ≤ 20)) then -1000000001 else if M 76 1 = 0 then -1000000005 else if (-M 76 1 = 0 ∨ (-12 ≤ M 76 1 + -M 76 1 ∧ M 76 1 + -M 76 1 ≤ 12) ∧ M 76 6 ≤ M 76 7 - M 76 2 * zabs (-M 76 1)) ∧ 0 ≤ homeR (fun d_ => danger (M 76 10).toNat (gS (M 76)) (M 76 0 + d_) 0) c_ n_ 40 1 then homeR (fun d_ => danger (M 76 10).toNat (gS (M 76)) (M 76 0 + d_) 0) c_ n_ 40 1 else -1000000004) (if ¬ ((0 ≤ c_ ∧ c_ ≤ 1000000) ∧ (0 ≤ n_ ∧ n_ ≤ 20)) then fnd7 M 0 else if M 76 1 = 0 then fnd7 M 4 else if (-M 76 1 = 0 ∨ (-12 ≤ M 76 1 + -M 76 1 ∧ M 76 1 + -M 76 1 ≤ 12) ∧ M 76 6 ≤ M 76 7 - M 76 2 * zabs (-M 76 1)) ∧ 0 ≤ homeR (fun d_ => danger (M 76 10).toNat (gS (M 76)) (M 76 0 + d_) 0) c_ n_ 40 1 then M else fnd7 M 3))) 124 [some (vR 75), some (vI c_), some (vI n_), some (vI r_), some (vI s_), some (vI o_), some (vI f_)] [vI o2_] (M) := by
                          intro o2_ ho2_
                          refine z_istore_5 rfl dX7_home_124 ?_
                          refine z_iinc_6 rfl dX7_home_126 ?_
                          refine z_goto (tgt := 89) dX7_home_129 (by decide) ?_
                          exact ih89 _ _ (by omega) (by omega) (by exact ho2_)
                        have h01_ := calmB_01 (dg := (fun d_ => danger (M 76 10).toNat (gS (M 76)) (M 76 0 + d_) 0)) (c := c_) (s := s_) f_.toNat
                        have hdl_ := danger_le (day := M 76 0 + s_ + f_) (h := 0) (SN_all hn)
                        refine z_iload_5 dX7_home_95 ?_
                        refine z_if_eq (tgt := 123) (by omega) dX7_home_97 (by decide) (fun c97 => ?_) (fun c97 => ?_)
                        · refine z_iconst dX7_home_123 ?_
                          exact J124 _ (by rw [nat_1 hf_.1, calmB, Int.toNat_of_nonneg hf_.1, ← ho_]; first | exact (if_pos ⟨by omega, by show danger _ _ (M 76 0 + (s_ + f_)) _ ≤ c_; rw [← Int.add_assoc]; omega⟩).symm | exact (if_neg (fun x_ => by have x1_ := x_.1; omega)).symm | exact (if_neg (fun x_ => by have x2_ : danger (M 76 10).toNat (gS (M 76)) (M 76 0 + (s_ + f_)) 0 ≤ c_ := x_.2; rw [← Int.add_assoc] at x2_; omega)).symm)
                        · refine z_aload_0 dX7_home_100 ?_
                          refine z_aload_0 dX7_home_101 ?_
                          refine z_cVI yv_X7_today ml_X7_129 c_X7_today zk_75 rfl rfl (by decide) (Nat.le_of_ble_eq_true rfl) dX7_home_102 ?_
                          refine z_iload_4 dX7_home_105 ?_
                          refine z_iadd dX7_home_107 ?_
                          refine z_iload_6 dX7_home_108 ?_
                          refine z_iadd dX7_home_110 ?_
                          refine z_iconst dX7_home_111 ?_
                          refine z_cVI yv_X7_dangerAt ml_X7_132 (c_X7_dangerAt hn (by omega) (by omega)) zk_75 rfl rfl (by decide) (Nat.le_of_ble_eq_true rfl) dX7_home_112 ?_
                          refine z_iload_1 dX7_home_115 ?_
                          refine z_icmp_gt (tgt := 123) (by omega) (by omega) dX7_home_116 (by decide) (fun c116 => ?_) (fun c116 => ?_)
                          · refine z_iconst dX7_home_123 ?_
                            exact J124 _ (by rw [nat_1 hf_.1, calmB, Int.toNat_of_nonneg hf_.1, ← ho_]; first | exact (if_pos ⟨by omega, by show danger _ _ (M 76 0 + (s_ + f_)) _ ≤ c_; rw [← Int.add_assoc]; omega⟩).symm | exact (if_neg (fun x_ => by have x1_ := x_.1; omega)).symm | exact (if_neg (fun x_ => by have x2_ : danger (M 76 10).toNat (gS (M 76)) (M 76 0 + (s_ + f_)) 0 ≤ c_ := x_.2; rw [← Int.add_assoc] at x2_; omega)).symm)
                          · refine z_iconst dX7_home_119 ?_
                            refine z_goto (tgt := 124) dX7_home_120 (by decide) ?_
                            exact J124 _ (by rw [nat_1 hf_.1, calmB, Int.toNat_of_nonneg hf_.1, ← ho_]; first | exact (if_pos ⟨by omega, by show danger _ _ (M 76 0 + (s_ + f_)) _ ≤ c_; rw [← Int.add_assoc]; omega⟩).symm | exact (if_neg (fun x_ => by have x1_ := x_.1; omega)).symm | exact (if_neg (fun x_ => by have x2_ : danger (M 76 10).toNat (gS (M 76)) (M 76 0 + (s_ + f_)) 0 ≤ c_ := x_.2; rw [← Int.add_assoc] at x2_; omega)).symm)
                  have L89 : ∀ (o_ : Int) (f_ : Int), (0 ≤ f_ ∧ f_ ≤ n_ + 1) → (o_ = calmB (fun d_ => danger (M 76 10).toNat (gS (M 76)) (M 76 0 + d_) 0) c_ s_ f_.toNat) → Z RX7 cX7_home 7 (some .int) 4 (zQ (PI (if ¬ ((0 ≤ c_ ∧ c_ ≤ 1000000) ∧ (0 ≤ n_ ∧ n_ ≤ 20)) then -1000000001 else if M 76 1 = 0 then -1000000005 else if (-M 76 1 = 0 ∨ (-12 ≤ M 76 1 + -M 76 1 ∧ M 76 1 + -M 76 1 ≤ 12) ∧ M 76 6 ≤ M 76 7 - M 76 2 * zabs (-M 76 1)) ∧ 0 ≤ homeR (fun d_ => danger (M 76 10).toNat (gS (M 76)) (M 76 0 + d_) 0) c_ n_ 40 1 then homeR (fun d_ => danger (M 76 10).toNat (gS (M 76)) (M 76 0 + d_) 0) c_ n_ 40 1 else -1000000004) (if ¬ ((0 ≤ c_ ∧ c_ ≤ 1000000) ∧ (0 ≤ n_ ∧ n_ ≤ 20)) then fnd7 M 0 else if M 76 1 = 0 then fnd7 M 4 else if (-M 76 1 = 0 ∨ (-12 ≤ M 76 1 + -M 76 1 ∧ M 76 1 + -M 76 1 ≤ 12) ∧ M 76 6 ≤ M 76 7 - M 76 2 * zabs (-M 76 1)) ∧ 0 ≤ homeR (fun d_ => danger (M 76 10).toNat (gS (M 76)) (M 76 0 + d_) 0) c_ n_ 40 1 then M else fnd7 M 3))) 89 [some (vR 75), some (vI c_), some (vI n_), some (vI r_), some (vI s_), some (vI o_), some (vI f_)] [] (M) := fun o_ f_ hf_ ho_ => K89 ((n_ + 1 - f_).toNat + 1) o_ f_ (by omega) hf_ ho_
                  exact L89 _ _ (by omega) (by rfl)
        have L52 : ∀ (r_ : Int) (s_ : Int), (1 ≤ s_ ∧ s_ ≤ 41) → ((r_ = -1 ∧ homeR (fun d_ => danger (M 76 10).toNat (gS (M 76)) (M 76 0 + d_) 0) c_ n_ (41 - s_).toNat s_ = homeR (fun d_ => danger (M 76 10).toNat (gS (M 76)) (M 76 0 + d_) 0) c_ n_ 40 1) ∨ (0 ≤ r_ ∧ r_ ≤ 40 ∧ (-M 76 1 = 0 ∨ (-12 ≤ M 76 1 + -M 76 1 ∧ M 76 1 + -M 76 1 ≤ 12) ∧ M 76 6 ≤ M 76 7 - M 76 2 * zabs (-M 76 1)) ∧ r_ = homeR (fun d_ => danger (M 76 10).toNat (gS (M 76)) (M 76 0 + d_) 0) c_ n_ 40 1)) → Z RX7 cX7_home 7 (some .int) 4 (zQ (PI (if ¬ ((0 ≤ c_ ∧ c_ ≤ 1000000) ∧ (0 ≤ n_ ∧ n_ ≤ 20)) then -1000000001 else if M 76 1 = 0 then -1000000005 else if (-M 76 1 = 0 ∨ (-12 ≤ M 76 1 + -M 76 1 ∧ M 76 1 + -M 76 1 ≤ 12) ∧ M 76 6 ≤ M 76 7 - M 76 2 * zabs (-M 76 1)) ∧ 0 ≤ homeR (fun d_ => danger (M 76 10).toNat (gS (M 76)) (M 76 0 + d_) 0) c_ n_ 40 1 then homeR (fun d_ => danger (M 76 10).toNat (gS (M 76)) (M 76 0 + d_) 0) c_ n_ 40 1 else -1000000004) (if ¬ ((0 ≤ c_ ∧ c_ ≤ 1000000) ∧ (0 ≤ n_ ∧ n_ ≤ 20)) then fnd7 M 0 else if M 76 1 = 0 then fnd7 M 4 else if (-M 76 1 = 0 ∨ (-12 ≤ M 76 1 + -M 76 1 ∧ M 76 1 + -M 76 1 ≤ 12) ∧ M 76 6 ≤ M 76 7 - M 76 2 * zabs (-M 76 1)) ∧ 0 ≤ homeR (fun d_ => danger (M 76 10).toNat (gS (M 76)) (M 76 0 + d_) 0) c_ n_ 40 1 then M else fnd7 M 3))) 52 [some (vR 75), some (vI c_), some (vI n_), some (vI r_), some (vI s_), none, none] [] (M) := fun r_ s_ hs_ hi_ => K52 ((41 - s_).toNat + 1) r_ s_ (by omega) hs_ hi_
        exact L52 _ _ (by omega) (by exact Or.inl ⟨rfl, rfl⟩)
      · refine z_aload_0 dX7_home_41 ?_
        refine z_iconst dX7_home_42 ?_
        refine z_cVI yv_X7_finding ml_X7_93 (c_X7_finding (by omega)) zk_75 rfl rfl (by decide) (Nat.le_of_ble_eq_true rfl) dX7_home_43 ?_
        exact z_iret dX7_home_46 (zPI (by (repeat (first | rw [if_pos (by omega)] | rw [if_neg (by omega)])) <;> rfl) (by (repeat (first | rw [if_pos (by omega)] | rw [if_neg (by omega)])) <;> rfl))
    · exact J24  (by omega)
