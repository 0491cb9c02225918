theorem c_X6_findingOfRow {M : zM} {i_ : Nat} (hi : i_ < 4) (hS : SH6 M) : Call yX6_findingOfRow cX6_findingOfRow 1 (some .int) 2 [vR (56 + i_)] (M) (PI (if M (56 + i_) 0 = 0 then -1000000006 else if ¬ (2 ≤ M (56 + i_) 1 ∧ M (56 + i_) 1 ≤ 12) then -1000000007 else if inAll (M (60 + i_)) 100 (M (56 + i_) 1).toNat = true then 0 else -1000000003) M) := by
  refine Call.of2 (own := RX6) (lv0 := [some (vR (56 + i_))]) rfl (by decide) rfl (Nat.le_of_ble_eq_true rfl) ?_
  have hs_ := hS i_ hi
  refine z_aload_0 dX6_findingOfRow_0 ?_
  refine z_cVI yv_X2_isMissing ml_X6_292 (c_X2_isMissing hi (by omega)) (zsh_k hi) rfl rfl (by decide) (Nat.le_of_ble_eq_true rfl) dX6_findingOfRow_1 ?_
  refine z_ifb_eq (tgt := 11) dX6_findingOfRow_4 (by decide) (fun c4 => ?_) (fun c4 => ?_)
  · refine z_aload_0 dX6_findingOfRow_11 ?_
    refine z_getI fl_X6_275 (zsh_k hi) rfl dX6_findingOfRow_12 ?_
    refine z_iconst dX6_findingOfRow_15 ?_
    refine z_bipush dX6_findingOfRow_16 (by decide) ?_
    refine z_cSI ys_X6_isOutside ml_X6_69 (c_X6_isOutside (by omega) (by omega) (by omega)) rfl rfl (by decide) (Nat.le_of_ble_eq_true rfl) dX6_findingOfRow_18 ?_
    refine z_ifb_eq (tgt := 28) dX6_findingOfRow_21 (by decide) (fun c21 => ?_) (fun c21 => ?_)
    · refine z_aload_0 dX6_findingOfRow_28 ?_
      refine z_bipush dX6_findingOfRow_29 (by decide) ?_
      refine z_cVI yv_X2_isWithin ml_X6_317 (c_X2_isWithin hi (by decide) hs_.2.1 hs_.2.2) (zsh_k hi) rfl rfl (by decide) (Nat.le_of_ble_eq_true rfl) dX6_findingOfRow_31 ?_
      refine z_ifb_eq (tgt := 41) dX6_findingOfRow_34 (by decide) (fun c34 => ?_) (fun c34 => ?_)
      · refine z_ldc (n := -1000000003) kc_X6_165 (by decide) dX6_findingOfRow_41 ?_
        exact z_iret dX6_findingOfRow_43 (zPI (by first | (rw [if_neg (by omega), if_neg (by omega), if_pos c34]; done) | (rw [if_neg (by omega), if_neg (by omega), if_neg c34]; done)) rfl)
      · refine z_iconst dX6_findingOfRow_37 ?_
        refine z_goto (tgt := 43) dX6_findingOfRow_38 (by decide) ?_
        exact z_iret dX6_findingOfRow_43 (zPI (by first | (rw [if_neg (by omega), if_neg (by omega), if_pos c34]; done) | (rw [if_neg (by omega), if_neg (by omega), if_neg c34]; done)) rfl)
    · refine z_ldcw (n := -1000000007) kc_X6_281 (by decide) dX6_findingOfRow_24 ?_
      exact z_iret dX6_findingOfRow_27 (zPI (by (repeat (first | rw [if_pos (by omega)] | rw [if_neg (by omega)])) <;> rfl) rfl)
  · refine z_ldcw (n := -1000000006) kc_X6_295 (by decide) dX6_findingOfRow_7 ?_
    exact z_iret dX6_findingOfRow_10 (zPI (by (repeat (first | rw [if_pos (by omega)] | rw [if_neg (by omega)])) <;> rfl) rfl)
