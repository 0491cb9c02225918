def costO (m : Int) : Int := if m = 0 then 0 else 1000 + zabs m
theorem c_X3_costOf {M : zM} {m_ : Int} (hm : -1000 ≤ m_ ∧ m_ ≤ 1000) : Call yX3_costOf cX3_costOf 1 (some .int) 1 [vI m_] (M) (PI (costO m_) M) := by
  refine Call.of2 (own := RX3) (lv0 := [some (vI m_)]) rfl (by decide) rfl (Nat.le_of_ble_eq_true rfl) ?_
  refine z_iload_0 dX3_costOf_0 ?_
  refine z_if_ne (tgt := 8) (by omega) dX3_costOf_1 (by decide) (fun c1 => ?_) (fun c1 => ?_)
  · refine z_sipush dX3_costOf_8 (by decide) ?_
    refine z_iload_0 dX3_costOf_11 ?_
    refine z_mabs ml_X3_81 (by decide) (Nat.le_of_ble_eq_true rfl) (by omega) dX3_costOf_12 ?_
    refine z_iadd dX3_costOf_15 ?_
    exact z_iret dX3_costOf_16 (zPI (by unfold costO; (repeat (first | rw [if_pos (by omega)] | rw [if_neg (by omega)])) <;> rfl) rfl)
  · refine z_iconst dX3_costOf_4 ?_
    refine z_goto (tgt := 16) dX3_costOf_5 (by decide) ?_
    exact z_iret dX3_costOf_16 (zPI (by unfold costO; (repeat (first | rw [if_pos (by omega)] | rw [if_neg (by omega)])) <;> rfl) rfl)
