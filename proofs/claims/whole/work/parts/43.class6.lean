theorem pair_0 {M : zM} {k_ : Int} (h_ : (if ¬ (0 ≤ k_ ∧ k_ ≤ 3) then -1000000001 else if M (56 + k_.toNat) 0 = 0 then -1000000006 else if M (56 + k_.toNat) 1 ≠ 8 then -1000000007 else if inAll (M (60 + k_.toNat)) 1000000 (M (56 + k_.toNat) 1).toNat = true then 0 else -1000000003) = (0 : Int)) : (0 ≤ k_ ∧ k_ ≤ 3) ∧ (M (56 + k_.toNat) 1).toNat = 8 ∧ inAll (M (60 + k_.toNat)) 1000000 (M (56 + k_.toNat) 1).toNat = true := by
  by_cases e1_ : ¬ (0 ≤ k_ ∧ k_ ≤ 3)
  · rw [if_pos e1_] at h_; exfalso; omega
  rw [if_neg e1_] at h_
  by_cases e2_ : M (56 + k_.toNat) 0 = 0
  · rw [if_pos e2_] at h_; exfalso; omega
  rw [if_neg e2_] at h_
  by_cases e3_ : M (56 + k_.toNat) 1 ≠ 8
  · rw [if_pos e3_] at h_; exfalso; omega
  rw [if_neg e3_] at h_
  by_cases e4_ : inAll (M (60 + k_.toNat)) 1000000 (M (56 + k_.toNat) 1).toNat = true
  · exact ⟨by omega, by omega, e4_⟩
  rw [if_neg e4_] at h_; exfalso; omega
theorem c_X6_both {M : zM} {k_ b_ : Int} (hS : SH6 M) (hk : -2147483648 ≤ k_ ∧ k_ < 2147483648) (hb : -2147483648 ≤ b_ ∧ b_ < 2147483648) : Call yX6_both cX6_both 7 (some .int) 4 [vR 0, vI k_, vI b_] (M) (PI (if ¬ (if ¬ (0 ≤ b_ ∧ b_ ≤ 1) then -1000000001 else (if ¬ (0 ≤ k_ ∧ k_ ≤ 3) then -1000000001 else if M (56 + k_.toNat) 0 = 0 then -1000000006 else if M (56 + k_.toNat) 1 ≠ 8 then -1000000007 else if inAll (M (60 + k_.toNat)) 1000000 (M (56 + k_.toNat) 1).toNat = true then 0 else -1000000003)) = 0 then (if ¬ (0 ≤ b_ ∧ b_ ≤ 1) then -1000000001 else (if ¬ (0 ≤ k_ ∧ k_ ≤ 3) then -1000000001 else if M (56 + k_.toNat) 0 = 0 then -1000000006 else if M (56 + k_.toNat) 1 ≠ 8 then -1000000007 else if inAll (M (60 + k_.toNat)) 1000000 (M (56 + k_.toNat) 1).toNat = true then 0 else -1000000003)) else if b_ = 0 then (mostW (M (60 + k_.toNat)) 15 4) else if (restsS (M (60 + k_.toNat)) 4) = 0 then -1000000004 else (mostW (M (60 + k_.toNat)) 15 4) - (mostW (M (60 + k_.toNat)) (restsS (M (60 + k_.toNat)) 4) 4)) (if ¬ (if ¬ (0 ≤ b_ ∧ b_ ≤ 1) then -1000000001 else (if ¬ (0 ≤ k_ ∧ k_ ≤ 3) then -1000000001 else if M (56 + k_.toNat) 0 = 0 then -1000000006 else if M (56 + k_.toNat) 1 ≠ 8 then -1000000007 else if inAll (M (60 + k_.toNat)) 1000000 (M (56 + k_.toNat) 1).toNat = true then 0 else -1000000003)) = 0 then fnd6 M (-1000000001 - (if ¬ (0 ≤ b_ ∧ b_ ≤ 1) then -1000000001 else (if ¬ (0 ≤ k_ ∧ k_ ≤ 3) then -1000000001 else if M (56 + k_.toNat) 0 = 0 then -1000000006 else if M (56 + k_.toNat) 1 ≠ 8 then -1000000007 else if inAll (M (60 + k_.toNat)) 1000000 (M (56 + k_.toNat) 1).toNat = true then 0 else -1000000003))) else if b_ = 0 then M else if (restsS (M (60 + k_.toNat)) 4) = 0 then fnd6 M 3 else M)) := by
  refine Call.of2 (own := RX6) (lv0 := [some (vR 0), some (vI k_), some (vI b_), none, none, none, none]) rfl (by decide) rfl (Nat.le_of_ble_eq_true rfl) ?_
  have J19 : ∀ (q_ : Int), (q_ = (if ¬ (0 ≤ b_ ∧ b_ ≤ 1) then -1000000001 else (if ¬ (0 ≤ k_ ∧ k_ ≤ 3) then -1000000001 else if M (56 + k_.toNat) 0 = 0 then -1000000006 else if M (56 + k_.toNat) 1 ≠ 8 then -1000000007 else if inAll (M (60 + k_.toNat)) 1000000 (M (56 + k_.toNat) 1).toNat = true then 0 else -1000000003))) → (q_ = 0 ∨ (-1000000007 ≤ q_ ∧ q_ ≤ -1000000001)) → (q_ = 0 → (0 ≤ k_ ∧ k_ ≤ 3) ∧ (M (56 + k_.toNat) 1).toNat = 8 ∧ inAll (M (60 + k_.toNat)) 1000000 (M (56 + k_.toNat) 1).toNat = true) → Z RX6 cX6_both 7 (some .int) 4 (zQ (PI (if ¬ (if ¬ (0 ≤ b_ ∧ b_ ≤ 1) then -1000000001 else (if ¬ (0 ≤ k_ ∧ k_ ≤ 3) then -1000000001 else if M (56 + k_.toNat) 0 = 0 then -1000000006 else if M (56 + k_.toNat) 1 ≠ 8 then -1000000007 else if inAll (M (60 + k_.toNat)) 1000000 (M (56 + k_.toNat) 1).toNat = true then 0 else -1000000003)) = 0 then (if ¬ (0 ≤ b_ ∧ b_ ≤ 1) then -1000000001 else (if ¬ (0 ≤ k_ ∧ k_ ≤ 3) then -1000000001 else if M (56 + k_.toNat) 0 = 0 then -1000000006 else if M (56 + k_.toNat) 1 ≠ 8 then -1000000007 else if inAll (M (60 + k_.toNat)) 1000000 (M (56 + k_.toNat) 1).toNat = true then 0 else -1000000003)) else if b_ = 0 then (mostW (M (60 + k_.toNat)) 15 4) else if (restsS (M (60 + k_.toNat)) 4) = 0 then -1000000004 else (mostW (M (60 + k_.toNat)) 15 4) - (mostW (M (60 + k_.toNat)) (restsS (M (60 + k_.toNat)) 4) 4)) (if ¬ (if ¬ (0 ≤ b_ ∧ b_ ≤ 1) then -1000000001 else (if ¬ (0 ≤ k_ ∧ k_ ≤ 3) then -1000000001 else if M (56 + k_.toNat) 0 = 0 then -1000000006 else if M (56 + k_.toNat) 1 ≠ 8 then -1000000007 else if inAll (M (60 + k_.toNat)) 1000000 (M (56 + k_.toNat) 1).toNat = true then 0 else -1000000003)) = 0 then fnd6 M (-1000000001 - (if ¬ (0 ≤ b_ ∧ b_ ≤ 1) then -1000000001 else (if ¬ (0 ≤ k_ ∧ k_ ≤ 3) then -1000000001 else if M (56 + k_.toNat) 0 = 0 then -1000000006 else if M (56 + k_.toNat) 1 ≠ 8 then -1000000007 else if inAll (M (60 + k_.toNat)) 1000000 (M (56 + k_.toNat) 1).toNat = true then 0 else -1000000003))) else if b_ = 0 then M else if (restsS (M (60 + k_.toNat)) 4) = 0 then fnd6 M 3 else M))) 19 [some (vR 0), some (vI k_), some (vI b_), none, none, none, none] [vI q_] (M) := by
    intro q_ hq_ hq3_ hi8_
    refine z_istore_3 rfl dX6_both_19 ?_
    refine z_iload_3 dX6_both_20 ?_
    refine z_if_eq (tgt := 30) (by omega) dX6_both_21 (by decide) (fun c21 => ?_) (fun c21 => ?_)
    · have hz_ : q_ = 0 := by omega
      have hk0_ := (hi8_ hz_).1
      have hs_ := hS k_.toNat (by omega)
      have hv8_ : ∀ j : Int, 0 ≤ j → j < 8 → -1000000 ≤ M (60 + k_.toNat) j ∧ M (60 + k_.toNat) j ≤ 1000000 := fun j_ h1_ h2_ => inAll_all _ (hi8_ hz_).2.2 j_ h1_ (by rw [(hi8_ hz_).2.1]; omega)
      have hrr_ := restsS_r (f := M (60 + k_.toNat)) 4
      refine z_aload_0 dX6_both_30 ?_
      refine z_getR (r := 5) fl_X6_36 zk_0 rfl rfl dX6_both_31 ?_
      refine z_iload_1 dX6_both_34 ?_
      refine z_aald11 (n := 4) (r := (56 + k_.toNat)) zk_5 rfl (by omega) (zsh_A (by omega)) dX6_both_35 ?_
      refine z_getR (r := (60 + k_.toNat)) fl_X6_249 (zsh_k (by omega)) rfl (zsh_R (by omega)) dX6_both_36 ?_
      refine z_astore_4 rfl dX6_both_39 ?_
      refine z_aload_4 dX6_both_41 ?_
      refine z_bipush dX6_both_43 (by decide) ?_
      refine z_cSI ys_X6_mostTogether ml_X6_257 (c_X6_mostTogether (by omega) hv8_ (by omega)) rfl rfl (by decide) (Nat.le_of_ble_eq_true rfl) dX6_both_45 ?_
      refine z_istore_5 rfl dX6_both_48 ?_
      refine z_iload_2 dX6_both_50 ?_
      refine z_if_ne (tgt := 57) (by omega) dX6_both_51 (by decide) (fun c51 => ?_) (fun c51 => ?_)
      · refine z_aload_4 dX6_both_57 ?_
        refine z_cSI ys_X6_restsOf ml_X6_253 (c_X6_restsOf (by omega) hs_.2.2) rfl rfl (by decide) (Nat.le_of_ble_eq_true rfl) dX6_both_59 ?_
        refine z_istore_6 rfl dX6_both_62 ?_
        refine z_iload_6 dX6_both_64 ?_
        refine z_if_ne (tgt := 78) (by omega) dX6_both_66 (by decide) (fun c66 => ?_) (fun c66 => ?_)
        · refine z_iload_5 dX6_both_78 ?_
          refine z_aload_4 dX6_both_80 ?_
          refine z_iload_6 dX6_both_82 ?_
          refine z_cSI ys_X6_mostTogether ml_X6_257 (c_X6_mostTogether (by omega) hv8_ (by omega)) rfl rfl (by decide) (Nat.le_of_ble_eq_true rfl) dX6_both_84 ?_
          refine z_isub dX6_both_87 ?_
          exact z_iret dX6_both_88 (zPI (by rw [← hq_, if_neg (by omega), if_neg c51]; first | rw [if_pos c66] | rw [if_neg c66]) (by rw [← hq_, if_neg (by omega), if_neg c51]; first | (rw [if_pos c66] <;> rfl) | rw [if_neg c66]))
        · refine z_aload_0 dX6_both_69 ?_
          refine z_ldc (n := -1000000004) kc_X6_227 (by decide) dX6_both_70 ?_
          refine z_cVI yv_X6_finding ml_X6_80 (c_X6_finding (by omega)) zk_0 rfl rfl (by decide) (Nat.le_of_ble_eq_true rfl) dX6_both_72 ?_
          refine z_goto (tgt := 88) dX6_both_75 (by decide) ?_
          exact z_iret dX6_both_88 (zPI (by rw [← hq_, if_neg (by omega), if_neg c51]; first | rw [if_pos c66] | rw [if_neg c66]) (by rw [← hq_, if_neg (by omega), if_neg c51]; first | (rw [if_pos c66] <;> rfl) | rw [if_neg c66]))
      · refine z_iload_5 dX6_both_54 ?_
        exact z_iret dX6_both_56 (zPI (by rw [← hq_, if_neg (by omega), if_pos c51]) (by rw [← hq_, if_neg (by omega), if_pos c51]))
    · refine z_aload_0 dX6_both_24 ?_
      refine z_iload_3 dX6_both_25 ?_
      refine z_cVI yv_X6_finding ml_X6_80 (c_X6_finding (by omega)) zk_0 rfl rfl (by decide) (Nat.le_of_ble_eq_true rfl) dX6_both_26 ?_
      exact z_iret dX6_both_29 (zPI (by rw [← hq_, if_pos c21]) (by rw [← hq_, if_pos c21] <;> rfl))
  refine z_iload_2 dX6_both_0 ?_
  refine z_iconst dX6_both_1 ?_
  refine z_iconst dX6_both_2 ?_
  refine z_cSI ys_X6_isOutside ml_X6_69 (c_X6_isOutside (by omega) (by omega) (by omega)) rfl rfl (by decide) (Nat.le_of_ble_eq_true rfl) dX6_both_3 ?_
  refine z_ifb_eq (tgt := 14) dX6_both_6 (by decide) (fun c6 => ?_) (fun c6 => ?_)
  · refine z_aload_0 dX6_both_14 ?_
    refine z_iload_1 dX6_both_15 ?_
    refine z_cVI yv_X6_findingOfPair ml_X6_246 (c_X6_findingOfPair hS hk) zk_0 rfl rfl (by decide) (Nat.le_of_ble_eq_true rfl) dX6_both_16 ?_
    exact J19 _ (by first | exact (if_pos (by omega)).symm | exact (if_neg (by omega)).symm | omega | (split <;> (try split) <;> (try split) <;> (try split) <;> omega) | (intro h_; exfalso; omega) | exact pair_0) (by first | exact (if_pos (by omega)).symm | exact (if_neg (by omega)).symm | omega | (split <;> (try split) <;> (try split) <;> (try split) <;> omega) | (intro h_; exfalso; omega) | exact pair_0) (by first | exact (if_pos (by omega)).symm | exact (if_neg (by omega)).symm | omega | (split <;> (try split) <;> (try split) <;> (try split) <;> omega) | (intro h_; exfalso; omega) | exact pair_0)
  · refine z_ldc (n := -1000000001) kc_X6_79 (by decide) dX6_both_9 ?_
    refine z_goto (tgt := 19) dX6_both_11 (by decide) ?_
    exact J19 _ (by first | exact (if_pos (by omega)).symm | exact (if_neg (by omega)).symm | omega | (split <;> (try split) <;> (try split) <;> (try split) <;> omega) | (intro h_; exfalso; omega) | exact pair_0) (by first | exact (if_pos (by omega)).symm | exact (if_neg (by omega)).symm | omega | (split <;> (try split) <;> (try split) <;> (try split) <;> omega) | (intro h_; exfalso; omega) | exact pair_0) (by first | exact (if_pos (by omega)).symm | exact (if_neg (by omega)).symm | omega | (split <;> (try split) <;> (try split) <;> (try split) <;> omega) | (intro h_; exfalso; omega) | exact pair_0)

theorem c_X6_copy {M : zM} {a_ i_ b_ j_ n_ : Int} (hS : SH6 M) (ha : -2147483648 ≤ a_ ∧ a_ < 2147483648) (hi : -2147483648 ≤ i_ ∧ i_ < 2147483648) (hb : -2147483648 ≤ b_ ∧ b_ < 2147483648) (hj : -2147483648 ≤ j_ ∧ j_ < 2147483648) (hn : -2147483648 ≤ n_ ∧ n_ < 2147483648) : Call yX6_copy cX6_copy 6 (some .int) 3 [vR 0, vI a_, vI i_, vI b_, vI j_, vI n_] (M) (PI (if ¬ ((0 ≤ a_ ∧ a_ ≤ 3) ∧ (0 ≤ b_ ∧ b_ ≤ 3)) then -1000000001 else if M (56 + a_.toNat) 0 = 0 ∨ M (56 + b_.toNat) 0 = 0 then -1000000006 else if ¬ M (56 + a_.toNat) 0 = M (56 + b_.toNat) 0 then -1000000003 else if ¬ ((0 ≤ i_ ∧ 0 ≤ n_ ∧ n_ ≤ M (56 + a_.toNat) 1 ∧ i_ ≤ M (56 + a_.toNat) 1 - n_) ∧ (0 ≤ j_ ∧ 0 ≤ n_ ∧ n_ ≤ M (56 + b_.toNat) 1 ∧ j_ ≤ M (56 + b_.toNat) 1 - n_)) then -1000000001 else n_) (if ¬ ((0 ≤ a_ ∧ a_ ≤ 3) ∧ (0 ≤ b_ ∧ b_ ≤ 3)) then fnd6 M 0 else if M (56 + a_.toNat) 0 = 0 ∨ M (56 + b_.toNat) 0 = 0 then fnd6 M 5 else if ¬ M (56 + a_.toNat) 0 = M (56 + b_.toNat) 0 then fnd6 M 2 else if ¬ ((0 ≤ i_ ∧ 0 ≤ n_ ∧ n_ ≤ M (56 + a_.toNat) 1 ∧ i_ ≤ M (56 + a_.toNat) 1 - n_) ∧ (0 ≤ j_ ∧ 0 ≤ n_ ∧ n_ ≤ M (56 + b_.toNat) 1 ∧ j_ ≤ M (56 + b_.toNat) 1 - n_)) then fnd6 M 0 else zrow M (60 + b_.toNat) (zcopy (M (60 + a_.toNat)) (M (60 + b_.toNat)) i_ j_ n_))) := by
  refine Call.of2 (own := RX6) (lv0 := [some (vR 0), some (vI a_), some (vI i_), some (vI b_), some (vI j_), some (vI n_)]) rfl (by decide) rfl (Nat.le_of_ble_eq_true rfl) ?_
  have J14 : (¬ ((0 ≤ a_ ∧ a_ ≤ 3) ∧ (0 ≤ b_ ∧ b_ ≤ 3))) → Z RX6 cX6_copy 6 (some .int) 3 (zQ (PI (if ¬ ((0 ≤ a_ ∧ a_ ≤ 3) ∧ (0 ≤ b_ ∧ b_ ≤ 3)) then -1000000001 else if M (56 + a_.toNat) 0 = 0 ∨ M (56 + b_.toNat) 0 = 0 then -1000000006 else if ¬ M (56 + a_.toNat) 0 = M (56 + b_.toNat) 0 then -1000000003 else if ¬ ((0 ≤ i_ ∧ 0 ≤ n_ ∧ n_ ≤ M (56 + a_.toNat) 1 ∧ i_ ≤ M (56 + a_.toNat) 1 - n_) ∧ (0 ≤ j_ ∧ 0 ≤ n_ ∧ n_ ≤ M (56 + b_.toNat) 1 ∧ j_ ≤ M (56 + b_.toNat) 1 - n_)) then -1000000001 else n_) (if ¬ ((0 ≤ a_ ∧ a_ ≤ 3) ∧ (0 ≤ b_ ∧ b_ ≤ 3)) then fnd6 M 0 else if M (56 + a_.toNat) 0 = 0 ∨ M (56 + b_.toNat) 0 = 0 then fnd6 M 5 else if ¬ M (56 + a_.toNat) 0 = M (56 + b_.toNat) 0 then fnd6 M 2 else if ¬ ((0 ≤ i_ ∧ 0 ≤ n_ ∧ n_ ≤ M (56 + a_.toNat) 1 ∧ i_ ≤ M (56 + a_.toNat) 1 - n_) ∧ (0 ≤ j_ ∧ 0 ≤ n_ ∧ n_ ≤ M (56 + b_.toNat) 1 ∧ j_ ≤ M (56 + b_.toNat) 1 - n_)) then fnd6 M 0 else zrow M (60 + b_.toNat) (zcopy (M (60 + a_.toNat)) (M (60 + b_.toNat)) i_ j_ n_)))) 14 [some (vR 0), some (vI a_), some (vI i_), some (vI b_), some (vI j_), some (vI n_)] [] (M) := by
    intro hz_
    refine z_aload_0 dX6_copy_14 ?_
    refine z_ldc (n := -1000000001) kc_X6_79 (by decide) dX6_copy_15 ?_
    refine z_cVI yv_X6_finding ml_X6_80 (c_X6_finding (by omega)) zk_0 rfl rfl (by decide) (Nat.le_of_ble_eq_true rfl) dX6_copy_17 ?_
    exact z_iret dX6_copy_20 (zPI (by (repeat (first | rw [if_pos (by omega)] | rw [if_neg (by omega)])) <;> rfl) (by (repeat (first | rw [if_pos (by omega)] | rw [if_neg (by omega)])) <;> rfl))
  refine z_iload_1 dX6_copy_0 ?_
  refine z_cSI ys_X6_isNoSheet ml_X6_261 (c_X6_isNoSheet (by omega)) rfl rfl (by decide) (Nat.le_of_ble_eq_true rfl) dX6_copy_1 ?_
  refine z_ifb_ne (tgt := 14) dX6_copy_4 (by decide) (fun c4 => ?_) (fun c4 => ?_)
  · exact J14  (by omega)
  · refine z_iload_3 dX6_copy_7 ?_
    refine z_cSI ys_X6_isNoSheet ml_X6_261 (c_X6_isNoSheet (by omega)) rfl rfl (by decide) (Nat.le_of_ble_eq_true rfl) dX6_copy_8 ?_
    refine z_ifb_eq (tgt := 21) dX6_copy_11 (by decide) (fun c11 => ?_) (fun c11 => ?_)
    · have J45 : (M (56 + a_.toNat) 0 = 0 ∨ M (56 + b_.toNat) 0 = 0) → Z RX6 cX6_copy 6 (some .int) 3 (zQ (PI (if ¬ ((0 ≤ a_ ∧ a_ ≤ 3) ∧ (0 ≤ b_ ∧ b_ ≤ 3)) then -1000000001 else if M (56 + a_.toNat) 0 = 0 ∨ M (56 + b_.toNat) 0 = 0 then -1000000006 else if ¬ M (56 + a_.toNat) 0 = M (56 + b_.toNat) 0 then -1000000003 else if ¬ ((0 ≤ i_ ∧ 0 ≤ n_ ∧ n_ ≤ M (56 + a_.toNat) 1 ∧ i_ ≤ M (56 + a_.toNat) 1 - n_) ∧ (0 ≤ j_ ∧ 0 ≤ n_ ∧ n_ ≤ M (56 + b_.toNat) 1 ∧ j_ ≤ M (56 + b_.toNat) 1 - n_)) then -1000000001 else n_) (if ¬ ((0 ≤ a_ ∧ a_ ≤ 3) ∧ (0 ≤ b_ ∧ b_ ≤ 3)) then fnd6 M 0 else if M (56 + a_.toNat) 0 = 0 ∨ M (56 + b_.toNat) 0 = 0 then fnd6 M 5 else if ¬ M (56 + a_.toNat) 0 = M (56 + b_.toNat) 0 then fnd6 M 2 else if ¬ ((0 ≤ i_ ∧ 0 ≤ n_ ∧ n_ ≤ M (56 + a_.toNat) 1 ∧ i_ ≤ M (56 + a_.toNat) 1 - n_) ∧ (0 ≤ j_ ∧ 0 ≤ n_ ∧ n_ ≤ M (56 + b_.toNat) 1 ∧ j_ ≤ M (56 + b_.toNat) 1 - n_)) then fnd6 M 0 else zrow M (60 + b_.toNat) (zcopy (M (60 + a_.toNat)) (M (60 + b_.toNat)) i_ j_ n_)))) 45 [some (vR 0), some (vI a_), some (vI i_), some (vI b_), some (vI j_), some (vI n_)] [] (M) := by
        intro hz_
        refine z_aload_0 dX6_copy_45 ?_
        refine z_ldcw (n := -1000000006) kc_X6_295 (by decide) dX6_copy_46 ?_
        refine z_cVI yv_X6_finding ml_X6_80 (c_X6_finding (by omega)) zk_0 rfl rfl (by decide) (Nat.le_of_ble_eq_true rfl) dX6_copy_49 ?_
        exact z_iret dX6_copy_52 (zPI (by (repeat (first | rw [if_pos (by omega)] | rw [if_neg (by omega)])) <;> rfl) (by (repeat (first | rw [if_pos (by omega)] | rw [if_neg (by omega)])) <;> rfl))
      have hs1_ := hS a_.toNat (by omega)
      have hs2_ := hS b_.toNat (by omega)
      refine z_aload_0 dX6_copy_21 ?_
      refine z_getR (r := 5) fl_X6_36 zk_0 rfl rfl dX6_copy_22 ?_
      refine z_iload_1 dX6_copy_25 ?_
      refine z_aald11 (n := 4) (r := (56 + a_.toNat)) zk_5 rfl (by omega) (zsh_A (by omega)) dX6_copy_26 ?_
      refine z_cVI yv_X2_isMissing ml_X6_292 (c_X2_isMissing (by omega) (by omega)) (zsh_k (by omega)) rfl rfl (by decide) (Nat.le_of_ble_eq_true rfl) dX6_copy_27 ?_
      refine z_ifb_ne (tgt := 45) dX6_copy_30 (by decide) (fun c30 => ?_) (fun c30 => ?_)
      · exact J45  (by first | exact Or.inl (by assumption) | exact Or.inr (by assumption))
      · refine z_aload_0 dX6_copy_33 ?_
        refine z_getR (r := 5) fl_X6_36 zk_0 rfl rfl dX6_copy_34 ?_
        refine z_iload_3 dX6_copy_37 ?_
        refine z_aald11 (n := 4) (r := (56 + b_.toNat)) zk_5 rfl (by omega) (zsh_A (by omega)) dX6_copy_38 ?_
        refine z_cVI yv_X2_isMissing ml_X6_292 (c_X2_isMissing (by omega) (by omega)) (zsh_k (by omega)) rfl rfl (by decide) (Nat.le_of_ble_eq_true rfl) dX6_copy_39 ?_
        refine z_ifb_eq (tgt := 53) dX6_copy_42 (by decide) (fun c42 => ?_) (fun c42 => ?_)
        · refine z_aload_0 dX6_copy_53 ?_
          refine z_getR (r := 5) fl_X6_36 zk_0 rfl rfl dX6_copy_54 ?_
          refine z_iload_1 dX6_copy_57 ?_
          refine z_aald11 (n := 4) (r := (56 + a_.toNat)) zk_5 rfl (by omega) (zsh_A (by omega)) dX6_copy_58 ?_
          refine z_getI fl_X6_296 (zsh_k (by omega)) rfl dX6_copy_59 ?_
          refine z_aload_0 dX6_copy_62 ?_
          refine z_getR (r := 5) fl_X6_36 zk_0 rfl rfl dX6_copy_63 ?_
          refine z_iload_3 dX6_copy_66 ?_
          refine z_aald11 (n := 4) (r := (56 + b_.toNat)) zk_5 rfl (by omega) (zsh_A (by omega)) dX6_copy_67 ?_
          refine z_getI fl_X6_296 (zsh_k (by omega)) rfl dX6_copy_68 ?_
          refine z_icmp_eq (tgt := 81) (by omega) (by omega) dX6_copy_71 (by decide) (fun c71 => ?_) (fun c71 => ?_)
          · have J112 : (¬ ((0 ≤ i_ ∧ 0 ≤ n_ ∧ n_ ≤ M (56 + a_.toNat) 1 ∧ i_ ≤ M (56 + a_.toNat) 1 - n_) ∧ (0 ≤ j_ ∧ 0 ≤ n_ ∧ n_ ≤ M (56 + b_.toNat) 1 ∧ j_ ≤ M (56 + b_.toNat) 1 - n_))) → Z RX6 cX6_copy 6 (some .int) 3 (zQ (PI (if ¬ ((0 ≤ a_ ∧ a_ ≤ 3) ∧ (0 ≤ b_ ∧ b_ ≤ 3)) then -1000000001 else if M (56 + a_.toNat) 0 = 0 ∨ M (56 + b_.toNat) 0 = 0 then -1000000006 else if ¬ M (56 + a_.toNat) 0 = M (56 + b_.toNat) 0 then -1000000003 else if ¬ ((0 ≤ i_ ∧ 0 ≤ n_ ∧ n_ ≤ M (56 + a_.toNat) 1 ∧ i_ ≤ M (56 + a_.toNat) 1 - n_) ∧ (0 ≤ j_ ∧ 0 ≤ n_ ∧ n_ ≤ M (56 + b_.toNat) 1 ∧ j_ ≤ M (56 + b_.toNat) 1 - n_)) then -1000000001 else n_) (if ¬ ((0 ≤ a_ ∧ a_ ≤ 3) ∧ (0 ≤ b_ ∧ b_ ≤ 3)) then fnd6 M 0 else if M (56 + a_.toNat) 0 = 0 ∨ M (56 + b_.toNat) 0 = 0 then fnd6 M 5 else if ¬ M (56 + a_.toNat) 0 = M (56 + b_.toNat) 0 then fnd6 M 2 else if ¬ ((0 ≤ i_ ∧ 0 ≤ n_ ∧ n_ ≤ M (56 + a_.toNat) 1 ∧ i_ ≤ M (56 + a_.toNat) 1 - n_) ∧ (0 ≤ j_ ∧ 0 ≤ n_ ∧ n_ ≤ M (56 + b_.toNat) 1 ∧ j_ ≤ M (56 + b_.toNat) 1 - n_)) then fnd6 M 0 else zrow M (60 + b_.toNat) (zcopy (M (60 + a_.toNat)) (M (60 + b_.toNat)) i_ j_ n_)))) 112 [some (vR 0), some (vI a_), some (vI i_), some (vI b_), some (vI j_), some (vI n_)] [] (M) := by
              intro hz_
              refine z_aload_0 dX6_copy_112 ?_
              refine z_ldc (n := -1000000001) kc_X6_79 (by decide) dX6_copy_113 ?_
              refine z_cVI yv_X6_finding ml_X6_80 (c_X6_finding (by omega)) zk_0 rfl rfl (by decide) (Nat.le_of_ble_eq_true rfl) dX6_copy_115 ?_
              exact z_iret dX6_copy_118 (zPI (by (repeat (first | rw [if_pos (by omega)] | rw [if_neg (by omega)])) <;> rfl) (by (repeat (first | rw [if_pos (by omega)] | rw [if_neg (by omega)])) <;> rfl))
            refine z_aload_0 dX6_copy_81 ?_
            refine z_getR (r := 5) fl_X6_36 zk_0 rfl rfl dX6_copy_82 ?_
            refine z_iload_1 dX6_copy_85 ?_
            refine z_aald11 (n := 4) (r := (56 + a_.toNat)) zk_5 rfl (by omega) (zsh_A (by omega)) dX6_copy_86 ?_
            refine z_iload_2 dX6_copy_87 ?_
            refine z_iload_5 dX6_copy_88 ?_
            refine z_cVI yv_X2_hasFrom ml_X6_299 (c_X2_hasFrom (by omega) (by omega) (by omega) hs1_.2.1) (zsh_k (by omega)) rfl rfl (by decide) (Nat.le_of_ble_eq_true rfl) dX6_copy_90 ?_
            refine z_ifb_eq (tgt := 112) dX6_copy_93 (by decide) (fun c93 => ?_) (fun c93 => ?_)
            · exact J112  (by first | exact fun h_ => absurd h_.1 (by assumption) | exact fun h_ => absurd h_.2 (by assumption))
            · refine z_aload_0 dX6_copy_96 ?_
              refine z_getR (r := 5) fl_X6_36 zk_0 rfl rfl dX6_copy_97 ?_
              refine z_iload_3 dX6_copy_100 ?_
              refine z_aald11 (n := 4) (r := (56 + b_.toNat)) zk_5 rfl (by omega) (zsh_A (by omega)) dX6_copy_101 ?_
              refine z_iload_4 dX6_copy_102 ?_
              refine z_iload_5 dX6_copy_104 ?_
              refine z_cVI yv_X2_hasFrom ml_X6_299 (c_X2_hasFrom (by omega) (by omega) (by omega) hs2_.2.1) (zsh_k (by omega)) rfl rfl (by decide) (Nat.le_of_ble_eq_true rfl) dX6_copy_106 ?_
              refine z_ifb_ne (tgt := 119) dX6_copy_109 (by decide) (fun c109 => ?_) (fun c109 => ?_)
              · refine z_aload_0 dX6_copy_119 ?_
                refine z_getR (r := 5) fl_X6_36 zk_0 rfl rfl dX6_copy_120 ?_
                refine z_iload_1 dX6_copy_123 ?_
                refine z_aald11 (n := 4) (r := (56 + a_.toNat)) zk_5 rfl (by omega) (zsh_A (by omega)) dX6_copy_124 ?_
                refine z_getR (r := (60 + a_.toNat)) fl_X6_249 (zsh_k (by omega)) rfl (zsh_R (by omega)) dX6_copy_125 ?_
                refine z_iload_2 dX6_copy_128 ?_
                refine z_aload_0 dX6_copy_129 ?_
                refine z_getR (r := 5) fl_X6_36 zk_0 rfl rfl dX6_copy_130 ?_
                refine z_iload_3 dX6_copy_133 ?_
                refine z_aald11 (n := 4) (r := (56 + b_.toNat)) zk_5 rfl (by omega) (zsh_A (by omega)) dX6_copy_134 ?_
                refine z_getR (r := (60 + b_.toNat)) fl_X6_249 (zsh_k (by omega)) rfl (zsh_R (by omega)) dX6_copy_135 ?_
                refine z_iload_4 dX6_copy_138 ?_
                refine z_iload_5 dX6_copy_140 ?_
                refine z_acopyJ (n1 := 40) (n2 := 40) ml_X6_187 (by decide) (Nat.le_of_ble_eq_true rfl) (zsh_n (by omega)) (zsh_n (by omega)) (zsh_N (by omega)) (zsh_N (by omega)) (by omega) (by omega) (by omega) (by omega) (by omega) dX6_copy_142 ?_
                refine z_iload_5 dX6_copy_145 ?_
                exact z_iret dX6_copy_147 (zPI (by (repeat (first | rw [if_pos (by omega)] | rw [if_neg (by omega)])) <;> rfl) (by (repeat (first | rw [if_pos (by omega)] | rw [if_neg (by omega)])) <;> rfl))
              · exact J112  (by first | exact fun h_ => absurd h_.1 (by assumption) | exact fun h_ => absurd h_.2 (by assumption))
          · refine z_aload_0 dX6_copy_74 ?_
            refine z_ldc (n := -1000000003) kc_X6_165 (by decide) dX6_copy_75 ?_
            refine z_cVI yv_X6_finding ml_X6_80 (c_X6_finding (by omega)) zk_0 rfl rfl (by decide) (Nat.le_of_ble_eq_true rfl) dX6_copy_77 ?_
            exact z_iret dX6_copy_80 (zPI (by (repeat (first | rw [if_pos (by omega)] | rw [if_neg (by omega)])) <;> rfl) (by (repeat (first | rw [if_pos (by omega)] | rw [if_neg (by omega)])) <;> rfl))
        · exact J45  (by first | exact Or.inl (by assumption) | exact Or.inr (by assumption))
    · exact J14  (by omega)
