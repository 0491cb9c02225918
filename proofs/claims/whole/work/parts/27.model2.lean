theorem c_X7_plan {M : zM} {a_ v_ : Int} (ha : -2147483648 ≤ a_ ∧ a_ < 2147483648) (hv : -2147483648 ≤ v_ ∧ v_ < 2147483648) : Call yX7_plan cX7_plan 4 (some .int) 2 [vR 75, vI a_, vI v_] (M) (PI (if (0 ≤ a_ ∧ a_ ≤ 5) ∧ ((if a_ = 0 then 1 else 0) ≤ v_ ∧ v_ ≤ zsf 1 a_) then M 76 (2 + a_) else -1000000001) (if (0 ≤ a_ ∧ a_ ≤ 5) ∧ ((if a_ = 0 then 1 else 0) ≤ v_ ∧ v_ ≤ zsf 1 a_) then zput M 76 (2 + a_) v_ else fnd7 M 0)) := by
  refine Call.of2 (own := RX7) (lv0 := [some (vR 75), some (vI a_), some (vI v_), none]) rfl (by decide) rfl (Nat.le_of_ble_eq_true rfl) ?_
  refine z_iload_1 dX7_plan_0 ?_
  refine z_i2l (by omega) dX7_plan_1 ?_
  refine z_lconst0 dX7_plan_2 ?_
  refine z_ldc2 (n := 5) kl_X7_83 (by decide) dX7_plan_3 ?_
  refine z_cSI ys_X7_in ml_X7_85 (c_X7_in (by omega) (by decide) (by decide)) rfl rfl (by decide) (Nat.le_of_ble_eq_true rfl) dX7_plan_6 ?_
  refine z_ifb_eq (tgt := 33) dX7_plan_9 (by decide) (fun c9 => ?_) (fun c9 => ?_)
  · refine z_aload_0 dX7_plan_33 ?_
    refine z_iconst dX7_plan_34 ?_
    refine z_cVI yv_X7_finding ml_X7_93 (c_X7_finding (by omega)) zk_75 rfl rfl (by decide) (Nat.le_of_ble_eq_true rfl) dX7_plan_35 ?_
    exact z_iret dX7_plan_38 (zPI (by rw [if_neg (by omega)] <;> rfl) (by rw [if_neg (by omega)] <;> rfl))
  · have J23 : ∀ (l_ : Int), (l_ = if a_ = 0 then 1 else 0) → Z RX7 cX7_plan 4 (some .int) 2 (zQ (PI (if (0 ≤ a_ ∧ a_ ≤ 5) ∧ ((if a_ = 0 then 1 else 0) ≤ v_ ∧ v_ ≤ zsf 1 a_) then M 76 (2 + a_) else -1000000001) (if (0 ≤ a_ ∧ a_ ≤ 5) ∧ ((if a_ = 0 then 1 else 0) ≤ v_ ∧ v_ ≤ zsf 1 a_) then zput M 76 (2 + a_) v_ else fnd7 M 0))) 23 [some (vR 75), some (vI a_), some (vI v_), none] [vJ l_, vJ v_] (M) := by
      intro l_ hl_
      have hl2_ : 0 ≤ l_ ∧ l_ ≤ 1 := by rw [hl_]; split <;> omega
      have hz_ : 0 ≤ zsf 1 a_ ∧ zsf 1 a_ ≤ 99999999 := by rcases (show a_ = 0 ∨ a_ = 1 ∨ a_ = 2 ∨ a_ = 3 ∨ a_ = 4 ∨ a_ = 5 by omega) with h_ | h_ | h_ | h_ | h_ | h_ <;> rw [h_] <;> decide
      refine z_iload_1 dX7_plan_23 ?_
      refine z_cSJ ys_X7_mostOf ml_X7_89 (c_X7_mostOf (by omega)) rfl rfl (by decide) (Nat.le_of_ble_eq_true rfl) dX7_plan_24 ?_
      refine z_cSI ys_X7_in ml_X7_85 (c_X7_in (by omega) (by omega) (by omega)) rfl rfl (by decide) (Nat.le_of_ble_eq_true rfl) dX7_plan_27 ?_
      refine z_ifb_ne (tgt := 39) dX7_plan_30 (by decide) (fun c30 => ?_) (fun c30 => ?_)
      · refine z_aload_0 dX7_plan_39 ?_
        refine z_iconst dX7_plan_40 ?_
        refine z_iload_1 dX7_plan_41 ?_
        refine z_iadd dX7_plan_42 ?_
        refine z_cVI yv_X7_its ml_X7_71 (c_X7_its (by omega)) zk_75 rfl rfl (by decide) (Nat.le_of_ble_eq_true rfl) dX7_plan_43 ?_
        refine z_istore_3 rfl dX7_plan_46 ?_
        refine z_aload_0 dX7_plan_47 ?_
        refine z_getR (r := 76) fl_X7_7 zk_75 rfl rfl dX7_plan_48 ?_
        refine z_iconst dX7_plan_51 ?_
        refine z_iload_1 dX7_plan_52 ?_
        refine z_iadd dX7_plan_53 ?_
        refine z_iload_2 dX7_plan_54 ?_
        refine z_i2l (by omega) dX7_plan_55 ?_
        refine z_last (n := 214) zk_76 rfl (by omega) dX7_plan_56 ?_
        refine z_iload_3 dX7_plan_57 ?_
        exact z_iret dX7_plan_58 (zPI (by rw [if_pos (by omega)]) (by rw [if_pos (by omega)]))
      · refine z_aload_0 dX7_plan_33 ?_
        refine z_iconst dX7_plan_34 ?_
        refine z_cVI yv_X7_finding ml_X7_93 (c_X7_finding (by omega)) zk_75 rfl rfl (by decide) (Nat.le_of_ble_eq_true rfl) dX7_plan_35 ?_
        exact z_iret dX7_plan_38 (zPI (by rw [if_neg (by omega)] <;> rfl) (by rw [if_neg (by omega)] <;> rfl))
    refine z_iload_2 dX7_plan_12 ?_
    refine z_i2l (by omega) dX7_plan_13 ?_
    refine z_iload_1 dX7_plan_14 ?_
    refine z_if_ne (tgt := 22) (by omega) dX7_plan_15 (by decide) (fun c15 => ?_) (fun c15 => ?_)
    · refine z_lconst0 dX7_plan_22 ?_
      exact J23 _ (by first | (rw [if_pos (by omega)]; done) | (rw [if_neg (by omega)]; done))
    · refine z_lconst1 dX7_plan_18 ?_
      refine z_goto (tgt := 23) dX7_plan_19 (by decide) ?_
      exact J23 _ (by first | (rw [if_pos (by omega)]; done) | (rw [if_neg (by omega)]; done))

theorem c_X7_move {M : zM} {s_ : Int} (hp : pOK (pS (M 76))) (hh : -12 ≤ M 76 1 ∧ M 76 1 ≤ 12) (hs : -2147483648 ≤ s_ ∧ s_ < 2147483648) : Call yX7_move cX7_move 2 (some .int) 2 [vR 75, vI s_] (M) (PI (if ¬ (-24 ≤ s_ ∧ s_ ≤ 24) then -1000000001 else if ¬ (s_ = 0 ∨ (-12 ≤ M 76 1 + s_ ∧ M 76 1 + s_ ≤ 12) ∧ M 76 6 ≤ M 76 7 - M 76 2 * zabs s_) then -1000000005 else M 76 1 + s_) (if ¬ (-24 ≤ s_ ∧ s_ ≤ 24) then fnd7 M 0 else if ¬ (s_ = 0 ∨ (-12 ≤ M 76 1 + s_ ∧ M 76 1 + s_ ≤ 12) ∧ M 76 6 ≤ M 76 7 - M 76 2 * zabs s_) then fnd7 M 4 else zrow M 76 (goesS (M 76) s_))) := by
  refine Call.of2 (own := RX7) (lv0 := [some (vR 75), some (vI s_)]) rfl (by decide) rfl (Nat.le_of_ble_eq_true rfl) ?_
  obtain ⟨⟨p00, p01⟩, ⟨p10, p11⟩, ⟨p20, p21⟩, ⟨p30, p31⟩, ⟨p40, p41⟩, ⟨p50, p51⟩⟩ := pOK_s hp
  refine z_iload_1 dX7_move_0 ?_
  refine z_i2l (by omega) dX7_move_1 ?_
  refine z_cSI ys_X7_isMove ml_X7_107 (c_X7_isMove (by omega)) rfl rfl (by decide) (Nat.le_of_ble_eq_true rfl) dX7_move_2 ?_
  refine z_ifb_ne (tgt := 14) dX7_move_5 (by decide) (fun c5 => ?_) (fun c5 => ?_)
  · refine z_aload_0 dX7_move_14 ?_
    refine z_aload_0 dX7_move_15 ?_
    refine z_cVI yv_X7_height ml_X7_111 c_X7_height zk_75 rfl rfl (by decide) (Nat.le_of_ble_eq_true rfl) dX7_move_16 ?_
    refine z_aload_0 dX7_move_19 ?_
    refine z_cVI yv_X7_fuel ml_X7_115 c_X7_fuel zk_75 rfl rfl (by decide) (Nat.le_of_ble_eq_true rfl) dX7_move_20 ?_
    refine z_iload_1 dX7_move_23 ?_
    refine z_cVI yv_X7_can ml_X7_118 (c_X7_can hp (by omega) (by omega) (by omega)) zk_75 rfl rfl (by decide) (Nat.le_of_ble_eq_true rfl) dX7_move_24 ?_
    refine z_ifb_ne (tgt := 36) dX7_move_27 (by decide) (fun c27 => ?_) (fun c27 => ?_)
    · refine z_aload_0 dX7_move_36 ?_
      refine z_iload_1 dX7_move_37 ?_
      refine z_cVN yv_X7_goes ml_X7_122 (c_X7_goes (by omega)) zk_75 rfl rfl (by decide) (Nat.le_of_ble_eq_true rfl) dX7_move_38 ?_
      refine z_aload_0 dX7_move_41 ?_
      refine z_cVI yv_X7_height ml_X7_111 c_X7_height zk_75 rfl rfl (by decide) (Nat.le_of_ble_eq_true rfl) dX7_move_42 ?_
      exact z_iret dX7_move_45 (zPI (by rw [if_neg (by omega), if_neg (fun q_ => q_ c27), zput_ne2 (by decide), zput_eq]) (by rw [if_neg (by omega), if_neg (fun q_ => q_ c27), zput_row, zput_row, zrow_eq, zrow_row]; rfl))
    · refine z_aload_0 dX7_move_30 ?_
      refine z_iconst dX7_move_31 ?_
      refine z_cVI yv_X7_finding ml_X7_93 (c_X7_finding (by omega)) zk_75 rfl rfl (by decide) (Nat.le_of_ble_eq_true rfl) dX7_move_32 ?_
      exact z_iret dX7_move_35 (zPI (by rw [if_neg (by omega), if_pos c27] <;> rfl) (by rw [if_neg (by omega), if_pos c27] <;> rfl))
  · refine z_aload_0 dX7_move_8 ?_
    refine z_iconst dX7_move_9 ?_
    refine z_cVI yv_X7_finding ml_X7_93 (c_X7_finding (by omega)) zk_75 rfl rfl (by decide) (Nat.le_of_ble_eq_true rfl) dX7_move_10 ?_
    exact z_iret dX7_move_13 (zPI (by rw [if_pos (by omega)] <;> rfl) (by rw [if_pos (by omega)] <;> rfl))

theorem c_X7_may {M : zM} {s_ : Int} (hp : pOK (pS (M 76))) (hh : -12 ≤ M 76 1 ∧ M 76 1 ≤ 12) (hs : -2147483648 ≤ s_ ∧ s_ < 2147483648) : Call yX7_may cX7_may 2 (some .int) 2 [vR 75, vI s_] (M) (PI (if ¬ (-24 ≤ s_ ∧ s_ ≤ 24) then -1000000001 else if (s_ = 0 ∨ (-12 ≤ M 76 1 + s_ ∧ M 76 1 + s_ ≤ 12) ∧ M 76 6 ≤ M 76 7 - M 76 2 * zabs s_) then 1 else 0) (if ¬ (-24 ≤ s_ ∧ s_ ≤ 24) then fnd7 M 0 else M)) := by
  refine Call.of2 (own := RX7) (lv0 := [some (vR 75), some (vI s_)]) rfl (by decide) rfl (Nat.le_of_ble_eq_true rfl) ?_
  obtain ⟨⟨p00, p01⟩, ⟨p10, p11⟩, ⟨p20, p21⟩, ⟨p30, p31⟩, ⟨p40, p41⟩, ⟨p50, p51⟩⟩ := pOK_s hp
  refine z_iload_1 dX7_may_0 ?_
  refine z_i2l (by omega) dX7_may_1 ?_
  refine z_cSI ys_X7_isMove ml_X7_107 (c_X7_isMove (by omega)) rfl rfl (by decide) (Nat.le_of_ble_eq_true rfl) dX7_may_2 ?_
  refine z_ifb_ne (tgt := 16) dX7_may_5 (by decide) (fun c5 => ?_) (fun c5 => ?_)
  · refine z_aload_0 dX7_may_16 ?_
    refine z_aload_0 dX7_may_17 ?_
    refine z_cVI yv_X7_height ml_X7_111 c_X7_height zk_75 rfl rfl (by decide) (Nat.le_of_ble_eq_true rfl) dX7_may_18 ?_
    refine z_aload_0 dX7_may_21 ?_
    refine z_cVI yv_X7_fuel ml_X7_115 c_X7_fuel zk_75 rfl rfl (by decide) (Nat.le_of_ble_eq_true rfl) dX7_may_22 ?_
    refine z_iload_1 dX7_may_25 ?_
    refine z_cVI yv_X7_can ml_X7_118 (c_X7_can hp (by omega) (by omega) (by omega)) zk_75 rfl rfl (by decide) (Nat.le_of_ble_eq_true rfl) dX7_may_26 ?_
    refine z_ifb_eq (tgt := 36) dX7_may_29 (by decide) (fun c29 => ?_) (fun c29 => ?_)
    · refine z_iconst dX7_may_36 ?_
      exact z_iret dX7_may_37 (zPI (by first | (rw [if_pos (by omega)] <;> rfl) | (rw [if_neg (by omega), if_pos c29]; done) | (rw [if_neg (by omega), if_neg c29]; done)) (by first | (rw [if_pos (by omega)]; done) | (rw [if_neg (by omega)]; done)))
    · refine z_iconst dX7_may_32 ?_
      refine z_goto (tgt := 37) dX7_may_33 (by decide) ?_
      exact z_iret dX7_may_37 (zPI (by first | (rw [if_pos (by omega)] <;> rfl) | (rw [if_neg (by omega), if_pos c29]; done) | (rw [if_neg (by omega), if_neg c29]; done)) (by first | (rw [if_pos (by omega)]; done) | (rw [if_neg (by omega)]; done)))
  · refine z_aload_0 dX7_may_8 ?_
    refine z_iconst dX7_may_9 ?_
    refine z_cVI yv_X7_finding ml_X7_93 (c_X7_finding (by omega)) zk_75 rfl rfl (by decide) (Nat.le_of_ble_eq_true rfl) dX7_may_10 ?_
    refine z_goto (tgt := 37) dX7_may_13 (by decide) ?_
    exact z_iret dX7_may_37 (zPI (by first | (rw [if_pos (by omega)] <;> rfl) | (rw [if_neg (by omega), if_pos c29]; done) | (rw [if_neg (by omega), if_neg c29]; done)) (by first | (rw [if_pos (by omega)]; done) | (rw [if_neg (by omega)]; done)))

theorem c_X7_thing {M : zM} {a_ : Int} (ha : -2147483648 ≤ a_ ∧ a_ < 2147483648) : Call yX7_thing cX7_thing 2 (some .long) 1 [vR 75, vI a_] (M) (PJ (if a_ = 0 then M 76 0 else if a_ = 1 then M 76 1 else if a_ = 2 then M 76 7 else if a_ = 3 then M 76 8 else if a_ = 4 then M 76 9 else -1000000001) (if 0 ≤ a_ ∧ a_ ≤ 4 then M else fnd7 M 0)) := by
  refine Call.of2 (own := RX7) (lv0 := [some (vR 75), some (vI a_)]) rfl (by decide) rfl (Nat.le_of_ble_eq_true rfl) ?_
  refine z_iload_1 dX7_thing_0 ?_
  rcases (show (a_ < 0 ∨ 4 < a_) ∨ a_ = 0 ∨ a_ = 1 ∨ a_ = 2 ∨ a_ = 3 ∨ a_ = 4 from by omega) with c1 | c1 | c1 | c1 | c1 | c1
  · refine z_tsOut (tgt := 74) (by omega) dX7_thing_1 c1 (by decide) ?_
    refine z_aload_0 dX7_thing_74 ?_
    refine z_iconst dX7_thing_75 ?_
    refine z_cVI yv_X7_finding ml_X7_93 (c_X7_finding (by omega)) zk_75 rfl rfl (by decide) (Nat.le_of_ble_eq_true rfl) dX7_thing_76 ?_
    refine z_i2l (by omega) dX7_thing_79 ?_
    exact z_lret dX7_thing_80 (zPJ (by (repeat (first | rw [if_pos (by omega)] | rw [if_neg (by omega)])) <;> rfl) (by (repeat (first | rw [if_pos (by omega)] | rw [if_neg (by omega)])) <;> rfl))
  · refine z_tsIn (off := 35) (tgt := 36) (by omega) dX7_thing_1 (by omega) (by omega) (by rw [c1]; rfl) (by decide) ?_
    refine z_aload_0 dX7_thing_36 ?_
    refine z_getR (r := 76) fl_X7_7 zk_75 rfl rfl dX7_thing_37 ?_
    refine z_iconst dX7_thing_40 ?_
    refine z_lald (n := 214) zk_76 rfl (by omega) dX7_thing_41 ?_
    exact z_lret dX7_thing_42 (zPJ (by (repeat (first | rw [if_pos (by omega)] | rw [if_neg (by omega)])) <;> rfl) (by (repeat (first | rw [if_pos (by omega)] | rw [if_neg (by omega)])) <;> rfl))
  · refine z_tsIn (off := 42) (tgt := 43) (by omega) dX7_thing_1 (by omega) (by omega) (by rw [c1]; rfl) (by decide) ?_
    refine z_aload_0 dX7_thing_43 ?_
    refine z_getR (r := 76) fl_X7_7 zk_75 rfl rfl dX7_thing_44 ?_
    refine z_iconst dX7_thing_47 ?_
    refine z_lald (n := 214) zk_76 rfl (by omega) dX7_thing_48 ?_
    exact z_lret dX7_thing_49 (zPJ (by (repeat (first | rw [if_pos (by omega)] | rw [if_neg (by omega)])) <;> rfl) (by (repeat (first | rw [if_pos (by omega)] | rw [if_neg (by omega)])) <;> rfl))
  · refine z_tsIn (off := 49) (tgt := 50) (by omega) dX7_thing_1 (by omega) (by omega) (by rw [c1]; rfl) (by decide) ?_
    refine z_aload_0 dX7_thing_50 ?_
    refine z_getR (r := 76) fl_X7_7 zk_75 rfl rfl dX7_thing_51 ?_
    refine z_bipush dX7_thing_54 (by decide) ?_
    refine z_lald (n := 214) zk_76 rfl (by omega) dX7_thing_56 ?_
    exact z_lret dX7_thing_57 (zPJ (by (repeat (first | rw [if_pos (by omega)] | rw [if_neg (by omega)])) <;> rfl) (by (repeat (first | rw [if_pos (by omega)] | rw [if_neg (by omega)])) <;> rfl))
  · refine z_tsIn (off := 57) (tgt := 58) (by omega) dX7_thing_1 (by omega) (by omega) (by rw [c1]; rfl) (by decide) ?_
    refine z_aload_0 dX7_thing_58 ?_
    refine z_getR (r := 76) fl_X7_7 zk_75 rfl rfl dX7_thing_59 ?_
    refine z_bipush dX7_thing_62 (by decide) ?_
    refine z_lald (n := 214) zk_76 rfl (by omega) dX7_thing_64 ?_
    exact z_lret dX7_thing_65 (zPJ (by (repeat (first | rw [if_pos (by omega)] | rw [if_neg (by omega)])) <;> rfl) (by (repeat (first | rw [if_pos (by omega)] | rw [if_neg (by omega)])) <;> rfl))
  · refine z_tsIn (off := 65) (tgt := 66) (by omega) dX7_thing_1 (by omega) (by omega) (by rw [c1]; rfl) (by decide) ?_
    refine z_aload_0 dX7_thing_66 ?_
    refine z_getR (r := 76) fl_X7_7 zk_75 rfl rfl dX7_thing_67 ?_
    refine z_bipush dX7_thing_70 (by decide) ?_
    refine z_lald (n := 214) zk_76 rfl (by omega) dX7_thing_72 ?_
    exact z_lret dX7_thing_73 (zPJ (by (repeat (first | rw [if_pos (by omega)] | rw [if_neg (by omega)])) <;> rfl) (by (repeat (first | rw [if_pos (by omega)] | rw [if_neg (by omega)])) <;> rfl))

theorem c_X7_of {M : zM} {w_ a_ : Int} (hn : SN (M 76)) (ht : 0 ≤ M 76 0 ∧ M 76 0 ≤ 2000) (hw : -2147483648 ≤ w_ ∧ w_ < 2147483648) (ha : -2147483648 ≤ a_ ∧ a_ < 2147483648) : Call yX7_of cX7_of 3 (some .int) 3 [vR 75, vI w_, vI a_] (M) (PI (if (0 ≤ w_ ∧ w_ ≤ M 76 10 - 1) ∧ (0 ≤ a_ ∧ a_ ≤ 6) then (if a_ < 6 then M 76 (12 + 6 * w_ + a_) else if M 76 0 < M 76 (12 + 6 * w_ + 1) then 1 else 0) else -1000000001) (if (0 ≤ w_ ∧ w_ ≤ M 76 10 - 1) ∧ (0 ≤ a_ ∧ a_ ≤ 6) then M else fnd7 M 0)) := by
  refine Call.of2 (own := RX7) (lv0 := [some (vR 75), some (vI w_), some (vI a_)]) rfl (by decide) rfl (Nat.le_of_ble_eq_true rfl) ?_
  have hn1_ := hn.1
  refine z_aload_0 dX7_of_0 ?_
  refine z_iload_1 dX7_of_1 ?_
  refine z_cVI yv_X7_isWarning ml_X7_150 (c_X7_isWarning (by omega) hn.1) zk_75 rfl rfl (by decide) (Nat.le_of_ble_eq_true rfl) dX7_of_2 ?_
  refine z_ifb_eq (tgt := 20) dX7_of_5 (by decide) (fun c5 => ?_) (fun c5 => ?_)
  · refine z_aload_0 dX7_of_20 ?_
    refine z_iconst dX7_of_21 ?_
    refine z_cVI yv_X7_finding ml_X7_93 (c_X7_finding (by omega)) zk_75 rfl rfl (by decide) (Nat.le_of_ble_eq_true rfl) dX7_of_22 ?_
    exact z_iret dX7_of_25 (zPI (by (repeat (first | rw [if_pos (by omega)] | rw [if_neg (by omega)])) <;> rfl) (by (repeat (first | rw [if_pos (by omega)] | rw [if_neg (by omega)])) <;> rfl))
  · refine z_iload_2 dX7_of_8 ?_
    refine z_i2l (by omega) dX7_of_9 ?_
    refine z_lconst0 dX7_of_10 ?_
    refine z_ldc2 (n := 6) kl_X7_154 (by decide) dX7_of_11 ?_
    refine z_cSI ys_X7_in ml_X7_85 (c_X7_in (by omega) (by decide) (by decide)) rfl rfl (by decide) (Nat.le_of_ble_eq_true rfl) dX7_of_14 ?_
    refine z_ifb_ne (tgt := 26) dX7_of_17 (by decide) (fun c17 => ?_) (fun c17 => ?_)
    · refine z_iload_2 dX7_of_26 ?_
      refine z_bipush dX7_of_27 (by decide) ?_
      refine z_icmp_ge (tgt := 41) (by omega) (by decide) dX7_of_29 (by decide) (fun c29 => ?_) (fun c29 => ?_)
      · refine z_aload_0 dX7_of_41 ?_
        refine z_iload_1 dX7_of_42 ?_
        refine z_aload_0 dX7_of_43 ?_
        refine z_cVI yv_X7_today ml_X7_129 c_X7_today zk_75 rfl rfl (by decide) (Nat.le_of_ble_eq_true rfl) dX7_of_44 ?_
        refine z_cVI yv_X7_isOpen ml_X7_156 (c_X7_isOpen (by omega) (SN_i hn (by omega) (by omega)) (by omega)) zk_75 rfl rfl (by decide) (Nat.le_of_ble_eq_true rfl) dX7_of_47 ?_
        refine z_ifb_eq (tgt := 57) dX7_of_50 (by decide) (fun c50 => ?_) (fun c50 => ?_)
        · refine z_iconst dX7_of_57 ?_
          exact z_iret dX7_of_58 (zPI (by (repeat (first | rw [if_pos (by omega)] | rw [if_neg (by omega)])) <;> rfl) (by (repeat (first | rw [if_pos (by omega)] | rw [if_neg (by omega)])) <;> rfl))
        · refine z_iconst dX7_of_53 ?_
          refine z_goto (tgt := 58) dX7_of_54 (by decide) ?_
          exact z_iret dX7_of_58 (zPI (by (repeat (first | rw [if_pos (by omega)] | rw [if_neg (by omega)])) <;> rfl) (by (repeat (first | rw [if_pos (by omega)] | rw [if_neg (by omega)])) <;> rfl))
      · refine z_aload_0 dX7_of_32 ?_
        refine z_iload_1 dX7_of_33 ?_
        refine z_iload_2 dX7_of_34 ?_
        refine z_cVI yv_X7_of1 ml_X7_147 (c_X7_of1 (by omega) (by omega)) zk_75 rfl rfl (by decide) (Nat.le_of_ble_eq_true rfl) dX7_of_35 ?_
        refine z_goto (tgt := 58) dX7_of_38 (by decide) ?_
        exact z_iret dX7_of_58 (zPI (by (repeat (first | rw [if_pos (by omega)] | rw [if_neg (by omega)])) <;> rfl) (by (repeat (first | rw [if_pos (by omega)] | rw [if_neg (by omega)])) <;> rfl))
    · refine z_aload_0 dX7_of_20 ?_
      refine z_iconst dX7_of_21 ?_
      refine z_cVI yv_X7_finding ml_X7_93 (c_X7_finding (by omega)) zk_75 rfl rfl (by decide) (Nat.le_of_ble_eq_true rfl) dX7_of_22 ?_
      exact z_iret dX7_of_25 (zPI (by (repeat (first | rw [if_pos (by omega)] | rw [if_neg (by omega)])) <;> rfl) (by (repeat (first | rw [if_pos (by omega)] | rw [if_neg (by omega)])) <;> rfl))

theorem c_X7_as {M : zM} {w_ a_ : Int} (hn : SN (M 76)) (hw : -2147483648 ≤ w_ ∧ w_ < 2147483648) (ha : -2147483648 ≤ a_ ∧ a_ < 2147483648) : Call yX7_as cX7_as 5 (some .int) 2 [vR 75, vI w_, vI a_] (M) (PI (if (0 ≤ w_ ∧ w_ ≤ M 76 10 - 1) ∧ (0 ≤ a_ ∧ a_ ≤ 5) then (if a_ = 0 ∨ a_ = M 76 (12 + 6 * w_ + 0) ∨ (a_ = 2 ∧ M 76 (12 + 6 * w_ + 0) = 4) ∨ (a_ = 1 ∧ M 76 (12 + 6 * w_ + 0) = 5) then M 76 (12 + 6 * w_ + 4) else -1000000003) else -1000000001) (if (0 ≤ w_ ∧ w_ ≤ M 76 10 - 1) ∧ (0 ≤ a_ ∧ a_ ≤ 5) then (if a_ = 0 ∨ a_ = M 76 (12 + 6 * w_ + 0) ∨ (a_ = 2 ∧ M 76 (12 + 6 * w_ + 0) = 4) ∨ (a_ = 1 ∧ M 76 (12 + 6 * w_ + 0) = 5) then M else fnd7 M 2) else fnd7 M 0)) := by
  refine Call.of2 (own := RX7) (lv0 := [some (vR 75), some (vI w_), some (vI a_), none, none]) rfl (by decide) rfl (Nat.le_of_ble_eq_true rfl) ?_
  have hn1_ := hn.1
  refine z_aload_0 dX7_as_0 ?_
  refine z_iload_1 dX7_as_1 ?_
  refine z_cVI yv_X7_isWarning ml_X7_150 (c_X7_isWarning (by omega) hn.1) zk_75 rfl rfl (by decide) (Nat.le_of_ble_eq_true rfl) dX7_as_2 ?_
  refine z_ifb_eq (tgt := 20) dX7_as_5 (by decide) (fun c5 => ?_) (fun c5 => ?_)
  · refine z_aload_0 dX7_as_20 ?_
    refine z_iconst dX7_as_21 ?_
    refine z_cVI yv_X7_finding ml_X7_93 (c_X7_finding (by omega)) zk_75 rfl rfl (by decide) (Nat.le_of_ble_eq_true rfl) dX7_as_22 ?_
    exact z_iret dX7_as_25 (zPI (by (repeat (first | rw [if_pos (by omega)] | rw [if_neg (by omega)])) <;> rfl) (by (repeat (first | rw [if_pos (by omega)] | rw [if_neg (by omega)])) <;> rfl))
  · refine z_iload_2 dX7_as_8 ?_
    refine z_i2l (by omega) dX7_as_9 ?_
    refine z_lconst0 dX7_as_10 ?_
    refine z_ldc2 (n := 5) kl_X7_83 (by decide) dX7_as_11 ?_
    refine z_cSI ys_X7_in ml_X7_85 (c_X7_in (by omega) (by decide) (by decide)) rfl rfl (by decide) (Nat.le_of_ble_eq_true rfl) dX7_as_14 ?_
    refine z_ifb_ne (tgt := 26) dX7_as_17 (by decide) (fun c17 => ?_) (fun c17 => ?_)
    · refine z_aload_0 dX7_as_26 ?_
      refine z_iload_1 dX7_as_27 ?_
      refine z_iconst dX7_as_28 ?_
      refine z_cVI yv_X7_of1 ml_X7_147 (c_X7_of1 (by omega) (by omega)) zk_75 rfl rfl (by decide) (Nat.le_of_ble_eq_true rfl) dX7_as_29 ?_
      refine z_istore_3 rfl dX7_as_32 ?_
      have J67 : Z RX7 cX7_as 5 (some .int) 2 (zQ (PI (if (0 ≤ w_ ∧ w_ ≤ M 76 10 - 1) ∧ (0 ≤ a_ ∧ a_ ≤ 5) then (if a_ = 0 ∨ a_ = M 76 (12 + 6 * w_ + 0) ∨ (a_ = 2 ∧ M 76 (12 + 6 * w_ + 0) = 4) ∨ (a_ = 1 ∧ M 76 (12 + 6 * w_ + 0) = 5) then M 76 (12 + 6 * w_ + 4) else -1000000003) else -1000000001) (if (0 ≤ w_ ∧ w_ ≤ M 76 10 - 1) ∧ (0 ≤ a_ ∧ a_ ≤ 5) then (if a_ = 0 ∨ a_ = M 76 (12 + 6 * w_ + 0) ∨ (a_ = 2 ∧ M 76 (12 + 6 * w_ + 0) = 4) ∨ (a_ = 1 ∧ M 76 (12 + 6 * w_ + 0) = 5) then M else fnd7 M 2) else fnd7 M 0))) 67 [some (vR 75), some (vI w_), some (vI a_), some (vI (M 76 (12 + 6 * w_ + 0))), none] [vI (zb (a_ = 0 ∨ a_ = M 76 (12 + 6 * w_ + 0) ∨ (a_ = 2 ∧ M 76 (12 + 6 * w_ + 0) = 4) ∨ (a_ = 1 ∧ M 76 (12 + 6 * w_ + 0) = 5)))] (M) := by
        refine z_istore_4 rfl dX7_as_67 ?_
        refine z_iload_4 dX7_as_69 ?_
        refine z_ifb_eq (tgt := 83) dX7_as_71 (by decide) (fun c71 => ?_) (fun c71 => ?_)
        · refine z_aload_0 dX7_as_83 ?_
          refine z_iconst dX7_as_84 ?_
          refine z_cVI yv_X7_finding ml_X7_93 (c_X7_finding (by omega)) zk_75 rfl rfl (by decide) (Nat.le_of_ble_eq_true rfl) dX7_as_85 ?_
          exact z_iret dX7_as_88 (zPI (by (repeat (first | rw [if_pos (by omega)] | rw [if_neg (by omega)])) <;> rfl) (by (repeat (first | rw [if_pos (by omega)] | rw [if_neg (by omega)])) <;> rfl))
        · refine z_aload_0 dX7_as_74 ?_
          refine z_iload_1 dX7_as_75 ?_
          refine z_iconst dX7_as_76 ?_
          refine z_cVI yv_X7_of1 ml_X7_147 (c_X7_of1 (by omega) (by omega)) zk_75 rfl rfl (by decide) (Nat.le_of_ble_eq_true rfl) dX7_as_77 ?_
          refine z_goto (tgt := 88) dX7_as_80 (by decide) ?_
          exact z_iret dX7_as_88 (zPI (by (repeat (first | rw [if_pos (by omega)] | rw [if_neg (by omega)])) <;> rfl) (by (repeat (first | rw [if_pos (by omega)] | rw [if_neg (by omega)])) <;> rfl))
      have hgi_ := gOK_s (SN_i hn (i := w_) (by omega) (by omega))
      refine z_iload_2 dX7_as_33 ?_
      refine z_if_eq (tgt := 62) (by omega) dX7_as_34 (by decide) (fun c34 => ?_) (fun c34 => ?_)
      · refine z_iconst dX7_as_62 ?_
        refine z_goto (tgt := 67) dX7_as_63 (by decide) ?_
        exact z_topI (by first | exact (zb_t (by omega)).symm | exact (zb_f (by omega)).symm) (J67  )
      · refine z_iload_3 dX7_as_37 ?_
        refine z_iload_2 dX7_as_38 ?_
        refine z_icmp_eq (tgt := 62) (by omega) (by omega) dX7_as_39 (by decide) (fun c39 => ?_) (fun c39 => ?_)
        · refine z_iconst dX7_as_62 ?_
          refine z_goto (tgt := 67) dX7_as_63 (by decide) ?_
          exact z_topI (by first | exact (zb_t (by omega)).symm | exact (zb_f (by omega)).symm) (J67  )
        · refine z_iload_2 dX7_as_42 ?_
          refine z_iconst dX7_as_43 ?_
          refine z_icmp_ne (tgt := 52) (by omega) (by decide) dX7_as_44 (by decide) (fun c44 => ?_) (fun c44 => ?_)
          · refine z_iload_2 dX7_as_52 ?_
            refine z_iconst dX7_as_53 ?_
            refine z_icmp_ne (tgt := 66) (by omega) (by decide) dX7_as_54 (by decide) (fun c54 => ?_) (fun c54 => ?_)
            · refine z_iconst dX7_as_66 ?_
              exact z_topI (by first | exact (zb_t (by omega)).symm | exact (zb_f (by omega)).symm) (J67  )
            · refine z_iload_3 dX7_as_57 ?_
              refine z_iconst dX7_as_58 ?_
              refine z_icmp_ne (tgt := 66) (by omega) (by decide) dX7_as_59 (by decide) (fun c59 => ?_) (fun c59 => ?_)
              · refine z_iconst dX7_as_66 ?_
                exact z_topI (by first | exact (zb_t (by omega)).symm | exact (zb_f (by omega)).symm) (J67  )
              · refine z_iconst dX7_as_62 ?_
                refine z_goto (tgt := 67) dX7_as_63 (by decide) ?_
                exact z_topI (by first | exact (zb_t (by omega)).symm | exact (zb_f (by omega)).symm) (J67  )
          · refine z_iload_3 dX7_as_47 ?_
            refine z_iconst dX7_as_48 ?_
            refine z_icmp_eq (tgt := 62) (by omega) (by decide) dX7_as_49 (by decide) (fun c49 => ?_) (fun c49 => ?_)
            · refine z_iconst dX7_as_62 ?_
              refine z_goto (tgt := 67) dX7_as_63 (by decide) ?_
              exact z_topI (by first | exact (zb_t (by omega)).symm | exact (zb_f (by omega)).symm) (J67  )
            · refine z_iload_2 dX7_as_52 ?_
              refine z_iconst dX7_as_53 ?_
              refine z_icmp_ne (tgt := 66) (by omega) (by decide) dX7_as_54 (by decide) (fun c54 => ?_) (fun c54 => ?_)
              · refine z_iconst dX7_as_66 ?_
                exact z_topI (by first | exact (zb_t (by omega)).symm | exact (zb_f (by omega)).symm) (J67  )
              · refine z_iload_3 dX7_as_57 ?_
                refine z_iconst dX7_as_58 ?_
                refine z_icmp_ne (tgt := 66) (by omega) (by decide) dX7_as_59 (by decide) (fun c59 => ?_) (fun c59 => ?_)
                · refine z_iconst dX7_as_66 ?_
                  exact z_topI (by first | exact (zb_t (by omega)).symm | exact (zb_f (by omega)).symm) (J67  )
                · refine z_iconst dX7_as_62 ?_
                  refine z_goto (tgt := 67) dX7_as_63 (by decide) ?_
                  exact z_topI (by first | exact (zb_t (by omega)).symm | exact (zb_f (by omega)).symm) (J67  )
    · refine z_aload_0 dX7_as_20 ?_
      refine z_iconst dX7_as_21 ?_
      refine z_cVI yv_X7_finding ml_X7_93 (c_X7_finding (by omega)) zk_75 rfl rfl (by decide) (Nat.le_of_ble_eq_true rfl) dX7_as_22 ?_
      exact z_iret dX7_as_25 (zPI (by (repeat (first | rw [if_pos (by omega)] | rw [if_neg (by omega)])) <;> rfl) (by (repeat (first | rw [if_pos (by omega)] | rw [if_neg (by omega)])) <;> rfl))

theorem c_X7_struck {M : zM} {w_ h_ : Int} (hn : SN (M 76)) (hw : -2147483648 ≤ w_ ∧ w_ < 2147483648) (hh : -2147483648 ≤ h_ ∧ h_ < 2147483648) : Call yX7_struck cX7_struck 3 (some .int) 3 [vR 75, vI w_, vI h_] (M) (PI (if (0 ≤ w_ ∧ w_ ≤ M 76 10 - 1) ∧ (-12 ≤ h_ ∧ h_ ≤ 12) then strikeG (gI (M 76) w_) h_ else -1000000001) (if (0 ≤ w_ ∧ w_ ≤ M 76 10 - 1) ∧ (-12 ≤ h_ ∧ h_ ≤ 12) then M else fnd7 M 0)) := by
  refine Call.of2 (own := RX7) (lv0 := [some (vR 75), some (vI w_), some (vI h_)]) rfl (by decide) rfl (Nat.le_of_ble_eq_true rfl) ?_
  have hn1_ := hn.1
  refine z_aload_0 dX7_struck_0 ?_
  refine z_iload_1 dX7_struck_1 ?_
  refine z_cVI yv_X7_isWarning ml_X7_150 (c_X7_isWarning (by omega) hn.1) zk_75 rfl rfl (by decide) (Nat.le_of_ble_eq_true rfl) dX7_struck_2 ?_
  refine z_ifb_eq (tgt := 24) dX7_struck_5 (by decide) (fun c5 => ?_) (fun c5 => ?_)
  · refine z_aload_0 dX7_struck_24 ?_
    refine z_iconst dX7_struck_25 ?_
    refine z_cVI yv_X7_finding ml_X7_93 (c_X7_finding (by omega)) zk_75 rfl rfl (by decide) (Nat.le_of_ble_eq_true rfl) dX7_struck_26 ?_
    exact z_iret dX7_struck_29 (zPI (by (repeat (first | rw [if_pos (by omega)] | rw [if_neg (by omega)])) <;> rfl) (by (repeat (first | rw [if_pos (by omega)] | rw [if_neg (by omega)])) <;> rfl))
  · refine z_iload_2 dX7_struck_8 ?_
    refine z_cSI ys_X7_isHeight ml_X7_167 (c_X7_isHeight (by omega)) rfl rfl (by decide) (Nat.le_of_ble_eq_true rfl) dX7_struck_9 ?_
    refine z_ifb_eq (tgt := 24) dX7_struck_12 (by decide) (fun c12 => ?_) (fun c12 => ?_)
    · refine z_aload_0 dX7_struck_24 ?_
      refine z_iconst dX7_struck_25 ?_
      refine z_cVI yv_X7_finding ml_X7_93 (c_X7_finding (by omega)) zk_75 rfl rfl (by decide) (Nat.le_of_ble_eq_true rfl) dX7_struck_26 ?_
      exact z_iret dX7_struck_29 (zPI (by (repeat (first | rw [if_pos (by omega)] | rw [if_neg (by omega)])) <;> rfl) (by (repeat (first | rw [if_pos (by omega)] | rw [if_neg (by omega)])) <;> rfl))
    · refine z_aload_0 dX7_struck_15 ?_
      refine z_iload_1 dX7_struck_16 ?_
      refine z_iload_2 dX7_struck_17 ?_
      refine z_cVI yv_X7_struckBy ml_X7_170 (c_X7_struckBy (by omega) (SN_i hn (by omega) (by omega)) (by omega)) zk_75 rfl rfl (by decide) (Nat.le_of_ble_eq_true rfl) dX7_struck_18 ?_
      refine z_goto (tgt := 29) dX7_struck_21 (by decide) ?_
      exact z_iret dX7_struck_29 (zPI (by (repeat (first | rw [if_pos (by omega)] | rw [if_neg (by omega)])) <;> rfl) (by (repeat (first | rw [if_pos (by omega)] | rw [if_neg (by omega)])) <;> rfl))

theorem c_X7_looks {M : zM} {w_ s_ r_ l_ : Int} (hn : SN (M 76)) (ht : 0 ≤ M 76 0 ∧ M 76 0 ≤ 2000) (hw : -2147483648 ≤ w_ ∧ w_ < 2147483648) (hs : -2147483648 ≤ s_ ∧ s_ < 2147483648) (hr : r_ = 0 ∨ r_ = 1) (hl : l_ = 0 ∨ l_ = 1) : Call yX7_looks cX7_looks 6 (some .int) 3 [vR 75, vI w_, vI s_, vI r_, vI l_] (M) (PI (if ((0 ≤ w_ ∧ w_ ≤ M 76 10 - 1) ∧ (50 ≤ s_ ∧ s_ ≤ 100)) then (if (M 76 0 < M 76 (12 + 6 * w_ + 1) ∧ 0 ≤ behindS (M 76 (12 + 6 * w_ + 4)) s_ r_) then behindS (M 76 (12 + 6 * w_ + 4)) s_ r_ else -1000000005) else -1000000001) (if ((0 ≤ w_ ∧ w_ ≤ M 76 10 - 1) ∧ (50 ≤ s_ ∧ s_ ≤ 100)) then (if (M 76 0 < M 76 (12 + 6 * w_ + 1) ∧ 0 ≤ behindS (M 76 (12 + 6 * w_ + 4)) s_ r_) then (if l_ = 1 then zput (zput M 76 (12 + 6 * w_ + 4) (behindS (M 76 (12 + 6 * w_ + 4)) s_ r_)) 76 (12 + 6 * w_ + 5) (M 76 (12 + 6 * w_ + 5) + 1) else M) else fnd7 M 4) else fnd7 M 0)) := by
  refine Call.of2 (own := RX7) (lv0 := [some (vR 75), some (vI w_), some (vI s_), some (vI r_), some (vI l_), none]) rfl (by decide) rfl (Nat.le_of_ble_eq_true rfl) ?_
  have hn1_ := hn.1
  refine z_aload_0 dX7_looks_0 ?_
  refine z_iload_1 dX7_looks_1 ?_
  refine z_cVI yv_X7_isWarning ml_X7_150 (c_X7_isWarning (by omega) hn.1) zk_75 rfl rfl (by decide) (Nat.le_of_ble_eq_true rfl) dX7_looks_2 ?_
  refine z_ifb_eq (tgt := 22) dX7_looks_5 (by decide) (fun c5 => ?_) (fun c5 => ?_)
  · refine z_aload_0 dX7_looks_22 ?_
    refine z_iconst dX7_looks_23 ?_
    refine z_cVI yv_X7_finding ml_X7_93 (c_X7_finding (by omega)) zk_75 rfl rfl (by decide) (Nat.le_of_ble_eq_true rfl) dX7_looks_24 ?_
    exact z_iret dX7_looks_27 (zPI (by (repeat (first | rw [if_pos (by omega)] | rw [if_neg (by omega)])) <;> rfl) (by (repeat (first | rw [if_pos (by omega)] | rw [if_neg (by omega)])) <;> rfl))
  · refine z_iload_2 dX7_looks_8 ?_
    refine z_i2l (by omega) dX7_looks_9 ?_
    refine z_ldc2 (n := 50) kl_X7_173 (by decide) dX7_looks_10 ?_
    refine z_ldc2 (n := 100) kl_X7_62 (by decide) dX7_looks_13 ?_
    refine z_cSI ys_X7_in ml_X7_85 (c_X7_in (by omega) (by decide) (by decide)) rfl rfl (by decide) (Nat.le_of_ble_eq_true rfl) dX7_looks_16 ?_
    refine z_ifb_ne (tgt := 28) dX7_looks_19 (by decide) (fun c19 => ?_) (fun c19 => ?_)
    · have hgi_ := gOK_s (SN_i hn (i := w_) (by omega) (by omega))
      have hb_ := behindS_le (c := M 76 (12 + 6 * w_ + 4)) (s := s_) (r := r_) hgi_.2.2.2.2.1 (by omega)
      refine z_aload_0 dX7_looks_28 ?_
      refine z_iload_1 dX7_looks_29 ?_
      refine z_iload_2 dX7_looks_30 ?_
      refine z_iload_3 dX7_looks_31 ?_
      refine z_cVI yv_X7_behind ml_X7_175 (c_X7_behind (by omega) (SN_i hn (by omega) (by omega)) (by omega) (by omega)) zk_75 rfl rfl (by decide) (Nat.le_of_ble_eq_true rfl) dX7_looks_32 ?_
      refine z_istore_5 rfl dX7_looks_35 ?_
      refine z_aload_0 dX7_looks_37 ?_
      refine z_iload_1 dX7_looks_38 ?_
      refine z_aload_0 dX7_looks_39 ?_
      refine z_cVI yv_X7_today ml_X7_129 c_X7_today zk_75 rfl rfl (by decide) (Nat.le_of_ble_eq_true rfl) dX7_looks_40 ?_
      refine z_cVI yv_X7_isOpen ml_X7_156 (c_X7_isOpen (by omega) (SN_i hn (by omega) (by omega)) (by omega)) zk_75 rfl rfl (by decide) (Nat.le_of_ble_eq_true rfl) dX7_looks_43 ?_
      refine z_ifb_eq (tgt := 54) dX7_looks_46 (by decide) (fun c46 => ?_) (fun c46 => ?_)
      · refine z_aload_0 dX7_looks_54 ?_
        refine z_iconst dX7_looks_55 ?_
        refine z_cVI yv_X7_finding ml_X7_93 (c_X7_finding (by omega)) zk_75 rfl rfl (by decide) (Nat.le_of_ble_eq_true rfl) dX7_looks_56 ?_
        exact z_iret dX7_looks_59 (zPI (by (repeat (first | rw [if_pos (by omega)] | rw [if_neg (by omega)])) <;> rfl) (by (repeat (first | rw [if_pos (by omega)] | rw [if_neg (by omega)])) <;> rfl))
      · refine z_iload_5 dX7_looks_49 ?_
        refine z_if_ge (tgt := 60) (by omega) dX7_looks_51 (by decide) (fun c51 => ?_) (fun c51 => ?_)
        · refine z_iload_4 dX7_looks_60 ?_
          refine z_if_eq (tgt := 100) (by omega) dX7_looks_62 (by decide) (fun c62 => ?_) (fun c62 => ?_)
          · refine z_iload_5 dX7_looks_100 ?_
            exact z_iret dX7_looks_102 (zPI (by (repeat (first | rw [if_pos (by omega)] | rw [if_neg (by omega)])) <;> rfl) (by (repeat (first | rw [if_pos (by omega)] | rw [if_neg (by omega)])) <;> rfl))
          · refine z_aload_0 dX7_looks_65 ?_
            refine z_getR (r := 76) fl_X7_7 zk_75 rfl rfl dX7_looks_66 ?_
            refine z_bipush dX7_looks_69 (by decide) ?_
            refine z_bipush dX7_looks_71 (by decide) ?_
            refine z_iload_1 dX7_looks_73 ?_
            refine z_imul dX7_looks_74 ?_
            refine z_iadd dX7_looks_75 ?_
            refine z_iconst dX7_looks_76 ?_
            refine z_iadd dX7_looks_77 ?_
            refine z_iload_5 dX7_looks_78 ?_
            refine z_i2l (by omega) dX7_looks_80 ?_
            refine z_last (n := 214) zk_76 rfl (by omega) dX7_looks_81 ?_
            refine z_aload_0 dX7_looks_82 ?_
            refine z_getR (r := 76) fl_X7_7 zk_75 rfl rfl dX7_looks_83 ?_
            refine z_bipush dX7_looks_86 (by decide) ?_
            refine z_bipush dX7_looks_88 (by decide) ?_
            refine z_iload_1 dX7_looks_90 ?_
            refine z_imul dX7_looks_91 ?_
            refine z_iadd dX7_looks_92 ?_
            refine z_iconst dX7_looks_93 ?_
            refine z_iadd dX7_looks_94 ?_
            refine z_dup2_11 rfl rfl dX7_looks_95 ?_
            refine z_laldv (n := 214) (v := (M 76 (12 + 6 * w_ + 5))) zk_76 rfl (by omega) (by rw [zput_ne2 (by omega)]) dX7_looks_96 ?_
            refine z_lconst1 dX7_looks_97 ?_
            refine z_ladd dX7_looks_98 ?_
            refine z_last (n := 214) zk_76 rfl (by omega) dX7_looks_99 ?_
            refine z_iload_5 dX7_looks_100 ?_
            exact z_iret dX7_looks_102 (zPI (by (repeat (first | rw [if_pos (by omega)] | rw [if_neg (by omega)])) <;> rfl) (by (repeat (first | rw [if_pos (by omega)] | rw [if_neg (by omega)])) <;> rfl))
        · refine z_aload_0 dX7_looks_54 ?_
          refine z_iconst dX7_looks_55 ?_
          refine z_cVI yv_X7_finding ml_X7_93 (c_X7_finding (by omega)) zk_75 rfl rfl (by decide) (Nat.le_of_ble_eq_true rfl) dX7_looks_56 ?_
          exact z_iret dX7_looks_59 (zPI (by (repeat (first | rw [if_pos (by omega)] | rw [if_neg (by omega)])) <;> rfl) (by (repeat (first | rw [if_pos (by omega)] | rw [if_neg (by omega)])) <;> rfl))
    · refine z_aload_0 dX7_looks_22 ?_
      refine z_iconst dX7_looks_23 ?_
      refine z_cVI yv_X7_finding ml_X7_93 (c_X7_finding (by omega)) zk_75 rfl rfl (by decide) (Nat.le_of_ble_eq_true rfl) dX7_looks_24 ?_
      exact z_iret dX7_looks_27 (zPI (by (repeat (first | rw [if_pos (by omega)] | rw [if_neg (by omega)])) <;> rfl) (by (repeat (first | rw [if_pos (by omega)] | rw [if_neg (by omega)])) <;> rfl))

theorem c_X7_look {M : zM} {w_ s_ r_ : Int} (hn : SN (M 76)) (ht : 0 ≤ M 76 0 ∧ M 76 0 ≤ 2000) (hw : -2147483648 ≤ w_ ∧ w_ < 2147483648) (hs : -2147483648 ≤ s_ ∧ s_ < 2147483648) (hr : r_ = 0 ∨ r_ = 1) : Call yX7_look cX7_look 4 (some .int) 4 [vR 75, vI w_, vI s_, vI r_] (M) (PI (if ((0 ≤ w_ ∧ w_ ≤ M 76 10 - 1) ∧ (50 ≤ s_ ∧ s_ ≤ 100)) then (if (M 76 0 < M 76 (12 + 6 * w_ + 1) ∧ 0 ≤ behindS (M 76 (12 + 6 * w_ + 4)) s_ r_) then behindS (M 76 (12 + 6 * w_ + 4)) s_ r_ else -1000000005) else -1000000001) (if ((0 ≤ w_ ∧ w_ ≤ M 76 10 - 1) ∧ (50 ≤ s_ ∧ s_ ≤ 100)) then (if (M 76 0 < M 76 (12 + 6 * w_ + 1) ∧ 0 ≤ behindS (M 76 (12 + 6 * w_ + 4)) s_ r_) then (if (1 : Int) = 1 then zput (zput M 76 (12 + 6 * w_ + 4) (behindS (M 76 (12 + 6 * w_ + 4)) s_ r_)) 76 (12 + 6 * w_ + 5) (M 76 (12 + 6 * w_ + 5) + 1) else M) else fnd7 M 4) else fnd7 M 0)) := by
  refine Call.of2 (own := RX7) (lv0 := [some (vR 75), some (vI w_), some (vI s_), some (vI r_)]) rfl (by decide) rfl (Nat.le_of_ble_eq_true rfl) ?_
  refine z_aload_0 dX7_look_0 ?_
  refine z_iload_1 dX7_look_1 ?_
  refine z_iload_2 dX7_look_2 ?_
  refine z_iload_3 dX7_look_3 ?_
  refine z_iconst dX7_look_4 ?_
  refine z_cVI yv_X7_looks ml_X7_179 (c_X7_looks hn ht hw hs hr (by omega)) zk_75 rfl rfl (by decide) (Nat.le_of_ble_eq_true rfl) dX7_look_5 ?_
  exact z_iret dX7_look_8 (zPI rfl rfl)

theorem c_X7_think {M : zM} {w_ s_ r_ : Int} (hn : SN (M 76)) (ht : 0 ≤ M 76 0 ∧ M 76 0 ≤ 2000) (hw : -2147483648 ≤ w_ ∧ w_ < 2147483648) (hs : -2147483648 ≤ s_ ∧ s_ < 2147483648) (hr : r_ = 0 ∨ r_ = 1) : Call yX7_think cX7_think 4 (some .int) 4 [vR 75, vI w_, vI s_, vI r_] (M) (PI (if ((0 ≤ w_ ∧ w_ ≤ M 76 10 - 1) ∧ (50 ≤ s_ ∧ s_ ≤ 100)) then (if (M 76 0 < M 76 (12 + 6 * w_ + 1) ∧ 0 ≤ behindS (M 76 (12 + 6 * w_ + 4)) s_ r_) then behindS (M 76 (12 + 6 * w_ + 4)) s_ r_ else -1000000005) else -1000000001) (if ((0 ≤ w_ ∧ w_ ≤ M 76 10 - 1) ∧ (50 ≤ s_ ∧ s_ ≤ 100)) then (if (M 76 0 < M 76 (12 + 6 * w_ + 1) ∧ 0 ≤ behindS (M 76 (12 + 6 * w_ + 4)) s_ r_) then (if (0 : Int) = 1 then zput (zput M 76 (12 + 6 * w_ + 4) (behindS (M 76 (12 + 6 * w_ + 4)) s_ r_)) 76 (12 + 6 * w_ + 5) (M 76 (12 + 6 * w_ + 5) + 1) else M) else fnd7 M 4) else fnd7 M 0)) := by
  refine Call.of2 (own := RX7) (lv0 := [some (vR 75), some (vI w_), some (vI s_), some (vI r_)]) rfl (by decide) rfl (Nat.le_of_ble_eq_true rfl) ?_
  refine z_aload_0 dX7_think_0 ?_
  refine z_iload_1 dX7_think_1 ?_
  refine z_iload_2 dX7_think_2 ?_
  refine z_iload_3 dX7_think_3 ?_
  refine z_iconst dX7_think_4 ?_
  refine z_cVI yv_X7_looks ml_X7_179 (c_X7_looks hn ht hw hs hr (by omega)) zk_75 rfl rfl (by decide) (Nat.le_of_ble_eq_true rfl) dX7_think_5 ?_
  exact z_iret dX7_think_8 (zPI rfl rfl)

theorem c_X7_danger {M : zM} {a_ h_ : Int} (hn : SN (M 76)) (ha : -2147483648 ≤ a_ ∧ a_ < 2147483648) (hh : -2147483648 ≤ h_ ∧ h_ < 2147483648) : Call yX7_danger cX7_danger 3 (some .int) 4 [vR 75, vI a_, vI h_] (M) (PI (if (0 ≤ a_ ∧ a_ ≤ 999) ∧ (-12 ≤ h_ ∧ h_ ≤ 12) then danger (M 76 10).toNat (gS (M 76)) a_ h_ else -1000000001) (if (0 ≤ a_ ∧ a_ ≤ 999) ∧ (-12 ≤ h_ ∧ h_ ≤ 12) then M else fnd7 M 0)) := by
  refine Call.of2 (own := RX7) (lv0 := [some (vR 75), some (vI a_), some (vI h_)]) rfl (by decide) rfl (Nat.le_of_ble_eq_true rfl) ?_
  refine z_iload_1 dX7_danger_0 ?_
  refine z_cSI ys_X7_isDay ml_X7_183 (c_X7_isDay (by omega)) rfl rfl (by decide) (Nat.le_of_ble_eq_true rfl) dX7_danger_1 ?_
  refine z_ifb_eq (tgt := 23) dX7_danger_4 (by decide) (fun c4 => ?_) (fun c4 => ?_)
  · refine z_aload_0 dX7_danger_23 ?_
    refine z_iconst dX7_danger_24 ?_
    refine z_cVI yv_X7_finding ml_X7_93 (c_X7_finding (by omega)) zk_75 rfl rfl (by decide) (Nat.le_of_ble_eq_true rfl) dX7_danger_25 ?_
    exact z_iret dX7_danger_28 (zPI (by (repeat (first | rw [if_pos (by omega)] | rw [if_neg (by omega)])) <;> rfl) (by (repeat (first | rw [if_pos (by omega)] | rw [if_neg (by omega)])) <;> rfl))
  · refine z_iload_2 dX7_danger_7 ?_
    refine z_cSI ys_X7_isHeight ml_X7_167 (c_X7_isHeight (by omega)) rfl rfl (by decide) (Nat.le_of_ble_eq_true rfl) dX7_danger_8 ?_
    refine z_ifb_eq (tgt := 23) dX7_danger_11 (by decide) (fun c11 => ?_) (fun c11 => ?_)
    · refine z_aload_0 dX7_danger_23 ?_
      refine z_iconst dX7_danger_24 ?_
      refine z_cVI yv_X7_finding ml_X7_93 (c_X7_finding (by omega)) zk_75 rfl rfl (by decide) (Nat.le_of_ble_eq_true rfl) dX7_danger_25 ?_
      exact z_iret dX7_danger_28 (zPI (by (repeat (first | rw [if_pos (by omega)] | rw [if_neg (by omega)])) <;> rfl) (by (repeat (first | rw [if_pos (by omega)] | rw [if_neg (by omega)])) <;> rfl))
    · refine z_aload_0 dX7_danger_14 ?_
      refine z_iload_1 dX7_danger_15 ?_
      refine z_iload_2 dX7_danger_16 ?_
      refine z_cVI yv_X7_dangerAt ml_X7_132 (c_X7_dangerAt hn (by omega) (by omega)) zk_75 rfl rfl (by decide) (Nat.le_of_ble_eq_true rfl) dX7_danger_17 ?_
      refine z_goto (tgt := 28) dX7_danger_20 (by decide) ?_
      exact z_iret dX7_danger_28 (zPI (by (repeat (first | rw [if_pos (by omega)] | rw [if_neg (by omega)])) <;> rfl) (by (repeat (first | rw [if_pos (by omega)] | rw [if_neg (by omega)])) <;> rfl))

theorem c_X7_safest {M : zM} {a_ : Int} (hn : SN (M 76)) (hh : -12 ≤ M 76 1 ∧ M 76 1 ≤ 12) (ha : -2147483648 ≤ a_ ∧ a_ < 2147483648) : Call yX7_safest cX7_safest 5 (some .int) 4 [vR 75, vI a_] (M) (PI (if 0 ≤ a_ ∧ a_ ≤ 999 then safeM (danger (M 76 10).toNat (gS (M 76)) a_) (M 76 1) 24 else -1000000001) (if 0 ≤ a_ ∧ a_ ≤ 999 then M else fnd7 M 0)) := by
  refine Call.of2 (own := RX7) (lv0 := [some (vR 75), some (vI a_), none, none, none]) rfl (by decide) rfl (Nat.le_of_ble_eq_true rfl) ?_
  refine z_iload_1 dX7_safest_0 ?_
  refine z_cSI ys_X7_isDay ml_X7_183 (c_X7_isDay (by omega)) rfl rfl (by decide) (Nat.le_of_ble_eq_true rfl) dX7_safest_1 ?_
  refine z_ifb_ne (tgt := 13) dX7_safest_4 (by decide) (fun c4 => ?_) (fun c4 => ?_)
  · refine z_bipush dX7_safest_13 (by decide) ?_
    refine z_istore_2 rfl dX7_safest_15 ?_
    refine z_bipush dX7_safest_16 (by decide) ?_
    refine z_istore_3 rfl dX7_safest_18 ?_
    have K19 : ∀ (fuel_ : Nat) (b_ : Int) (i_ : Int), 13 - i_ < (fuel_ : Int) → (-11 ≤ i_ ∧ i_ ≤ 13) → (b_ = safeM (danger (M 76 10).toNat (gS (M 76)) a_) (M 76 1) (i_ + 11).toNat) → Z RX7 cX7_safest 5 (some .int) 4 (zQ (PI (if 0 ≤ a_ ∧ a_ ≤ 999 then safeM (danger (M 76 10).toNat (gS (M 76)) a_) (M 76 1) 24 else -1000000001) (if 0 ≤ a_ ∧ a_ ≤ 999 then M else fnd7 M 0))) 19 [some (vR 75), some (vI a_), some (vI b_), some (vI i_), none] [] (M) := by
      intro fuel_
      induction fuel_ with
      | zero => intro b_ i_ hfuel_ hi_ hb_; exfalso; omega
      | succ fuel_ ih19 =>
        intro b_ i_ hfuel_ hi_ hb_
        refine z_iload_3 dX7_safest_19 ?_
        refine z_bipush dX7_safest_20 (by decide) ?_
        refine z_icmp_gt (tgt := 83) (by omega) (by decide) dX7_safest_22 (by decide) (fun c22 => ?_) (fun c22 => ?_)
        · refine z_iload_2 dX7_safest_83 ?_
          exact z_iret dX7_safest_84 (zPI (by rw [if_pos (by omega), hb_, show (i_ + 11).toNat = 24 by omega]) (by rw [if_pos (by omega)]))
        · have hs_ := safeM_le (dg := (danger (M 76 10).toNat (gS (M 76)) a_)) (ht := M 76 1) (i_ + 11).toNat
          have hd1_ := danger_le (day := a_) (h := i_) (SN_all hn)
          have hd2_ := danger_le (day := a_) (h := b_) (SN_all hn)
          have hz1_ := zabs_cases (i_ - M 76 1)
          have hz2_ := zabs_cases (b_ - M 76 1)
          refine z_aload_0 dX7_safest_25 ?_
          refine z_iload_1 dX7_safest_26 ?_
          refine z_iload_3 dX7_safest_27 ?_
          refine z_cVI yv_X7_dangerAt ml_X7_132 (c_X7_dangerAt hn (by omega) (by omega)) zk_75 rfl rfl (by decide) (Nat.le_of_ble_eq_true rfl) dX7_safest_28 ?_
          refine z_aload_0 dX7_safest_31 ?_
          refine z_iload_1 dX7_safest_32 ?_
          refine z_iload_2 dX7_safest_33 ?_
          refine z_cVI yv_X7_dangerAt ml_X7_132 (c_X7_dangerAt hn (by omega) (by omega)) zk_75 rfl rfl (by decide) (Nat.le_of_ble_eq_true rfl) dX7_safest_34 ?_
          refine z_isub dX7_safest_37 ?_
          refine z_istore_4 rfl dX7_safest_38 ?_
          refine z_iload_4 dX7_safest_40 ?_
          refine z_if_lt (tgt := 71) (by omega) dX7_safest_42 (by decide) (fun c42 => ?_) (fun c42 => ?_)
          · refine z_iload_3 dX7_safest_71 ?_
            refine z_goto (tgt := 76) dX7_safest_72 (by decide) ?_
            refine z_istore_2 rfl dX7_safest_76 ?_
            refine z_iinc_3 rfl dX7_safest_77 ?_
            refine z_goto (tgt := 19) dX7_safest_80 (by decide) ?_
            refine z_drop_4 ?_
            exact ih19 _ _ (by omega) (by omega) (by rw [show (i_ + 1 + 11).toNat = (i_ + 11).toNat + 1 by omega, safeM, ← hb_, show (-11 + ((i_ + 11).toNat : Int)) = i_ by omega]; first | exact (if_pos (by omega)).symm | exact (if_neg (by omega)).symm)
          · refine z_iload_4 dX7_safest_45 ?_
            refine z_if_ne (tgt := 75) (by omega) dX7_safest_47 (by decide) (fun c47 => ?_) (fun c47 => ?_)
            · refine z_iload_2 dX7_safest_75 ?_
              refine z_istore_2 rfl dX7_safest_76 ?_
              refine z_iinc_3 rfl dX7_safest_77 ?_
              refine z_goto (tgt := 19) dX7_safest_80 (by decide) ?_
              refine z_drop_4 ?_
              exact ih19 _ _ (by omega) (by omega) (by rw [show (i_ + 1 + 11).toNat = (i_ + 11).toNat + 1 by omega, safeM, ← hb_, show (-11 + ((i_ + 11).toNat : Int)) = i_ by omega]; first | exact (if_pos (by omega)).symm | exact (if_neg (by omega)).symm)
            · refine z_iload_3 dX7_safest_50 ?_
              refine z_aload_0 dX7_safest_51 ?_
              refine z_cVI yv_X7_height ml_X7_111 c_X7_height zk_75 rfl rfl (by decide) (Nat.le_of_ble_eq_true rfl) dX7_safest_52 ?_
              refine z_isub dX7_safest_55 ?_
              refine z_cSI ys_X7_size ml_X7_100 (c_X7_size (by omega)) rfl rfl (by decide) (Nat.le_of_ble_eq_true rfl) dX7_safest_56 ?_
              refine z_iload_2 dX7_safest_59 ?_
              refine z_aload_0 dX7_safest_60 ?_
              refine z_cVI yv_X7_height ml_X7_111 c_X7_height zk_75 rfl rfl (by decide) (Nat.le_of_ble_eq_true rfl) dX7_safest_61 ?_
              refine z_isub dX7_safest_64 ?_
              refine z_cSI ys_X7_size ml_X7_100 (c_X7_size (by omega)) rfl rfl (by decide) (Nat.le_of_ble_eq_true rfl) dX7_safest_65 ?_
              refine z_icmp_ge (tgt := 75) (by omega) (by omega) dX7_safest_68 (by decide) (fun c68 => ?_) (fun c68 => ?_)
              · refine z_iload_2 dX7_safest_75 ?_
                refine z_istore_2 rfl dX7_safest_76 ?_
                refine z_iinc_3 rfl dX7_safest_77 ?_
                refine z_goto (tgt := 19) dX7_safest_80 (by decide) ?_
                refine z_drop_4 ?_
                exact ih19 _ _ (by omega) (by omega) (by rw [show (i_ + 1 + 11).toNat = (i_ + 11).toNat + 1 by omega, safeM, ← hb_, show (-11 + ((i_ + 11).toNat : Int)) = i_ by omega]; first | exact (if_pos (by omega)).symm | exact (if_neg (by omega)).symm)
              · refine z_iload_3 dX7_safest_71 ?_
                refine z_goto (tgt := 76) dX7_safest_72 (by decide) ?_
                refine z_istore_2 rfl dX7_safest_76 ?_
                refine z_iinc_3 rfl dX7_safest_77 ?_
                refine z_goto (tgt := 19) dX7_safest_80 (by decide) ?_
                refine z_drop_4 ?_
                exact ih19 _ _ (by omega) (by omega) (by rw [show (i_ + 1 + 11).toNat = (i_ + 11).toNat + 1 by omega, safeM, ← hb_, show (-11 + ((i_ + 11).toNat : Int)) = i_ by omega]; first | exact (if_pos (by omega)).symm | exact (if_neg (by omega)).symm)
    have L19 : ∀ (b_ : Int) (i_ : Int), (-11 ≤ i_ ∧ i_ ≤ 13) → (b_ = safeM (danger (M 76 10).toNat (gS (M 76)) a_) (M 76 1) (i_ + 11).toNat) → Z RX7 cX7_safest 5 (some .int) 4 (zQ (PI (if 0 ≤ a_ ∧ a_ ≤ 999 then safeM (danger (M 76 10).toNat (gS (M 76)) a_) (M 76 1) 24 else -1000000001) (if 0 ≤ a_ ∧ a_ ≤ 999 then M else fnd7 M 0))) 19 [some (vR 75), some (vI a_), some (vI b_), some (vI i_), none] [] (M) := fun b_ i_ hi_ hb_ => K19 ((13 - i_).toNat + 1) b_ i_ (by omega) hi_ hb_
    exact L19 _ _ (by omega) (by rfl)
  · refine z_aload_0 dX7_safest_7 ?_
    refine z_iconst dX7_safest_8 ?_
    refine z_cVI yv_X7_finding ml_X7_93 (c_X7_finding (by omega)) zk_75 rfl rfl (by decide) (Nat.le_of_ble_eq_true rfl) dX7_safest_9 ?_
    exact z_iret dX7_safest_12 (zPI (by (repeat (first | rw [if_pos (by omega)] | rw [if_neg (by omega)])) <;> rfl) (by (repeat (first | rw [if_pos (by omega)] | rw [if_neg (by omega)])) <;> rfl))

theorem c_X7_open {M : zM} (hn : SN (M 76)) (ht : 0 ≤ M 76 0 ∧ M 76 0 ≤ 2000) : Call yX7_open cX7_open 3 (some .int) 3 [vR 75] (M) (PI (openB (gS (M 76)) (M 76 0) (M 76 10).toNat) M) := by
  refine Call.of2 (own := RX7) (lv0 := [some (vR 75), none, none]) rfl (by decide) rfl (Nat.le_of_ble_eq_true rfl) ?_
  have hn1_ := hn.1
  refine z_iconst dX7_open_0 ?_
  refine z_istore_1 rfl dX7_open_1 ?_
  refine z_iconst dX7_open_2 ?_
  refine z_istore_2 rfl dX7_open_3 ?_
  have K4 : ∀ (fuel_ : Nat) (t_ : Int) (i_ : Int), M 76 10 - i_ < (fuel_ : Int) → (0 ≤ i_ ∧ i_ ≤ M 76 10) → (t_ = openB (gS (M 76)) (M 76 0) i_.toNat) → Z RX7 cX7_open 3 (some .int) 3 (zQ (PI (openB (gS (M 76)) (M 76 0) (M 76 10).toNat) M)) 4 [some (vR 75), some (vI t_), some (vI i_)] [] (M) := by
    intro fuel_
    induction fuel_ with
    | zero => intro t_ i_ hfuel_ hi_ ha_; exfalso; omega
    | succ fuel_ ih4 =>
      intro t_ i_ hfuel_ hi_ ha_
      refine z_iload_2 dX7_open_4 ?_
      refine z_aload_0 dX7_open_5 ?_
      refine z_bipush dX7_open_6 (by decide) ?_
      refine z_cVI yv_X7_its ml_X7_71 (c_X7_its (by omega)) zk_75 rfl rfl (by decide) (Nat.le_of_ble_eq_true rfl) dX7_open_8 ?_
      refine z_icmp_ge (tgt := 42) (by omega) (by omega) dX7_open_11 (by decide) (fun c11 => ?_) (fun c11 => ?_)
      · refine z_iload_1 dX7_open_42 ?_
        exact z_iret dX7_open_43 (zPI (by rw [ha_, show i_ = M 76 10 from (by omega)]) rfl)
      · refine z_iload_1 dX7_open_14 ?_
        refine z_aload_0 dX7_open_15 ?_
        refine z_iload_2 dX7_open_16 ?_
        refine z_aload_0 dX7_open_17 ?_
        refine z_cVI yv_X7_today ml_X7_129 c_X7_today zk_75 rfl rfl (by decide) (Nat.le_of_ble_eq_true rfl) dX7_open_18 ?_
        refine z_cVI yv_X7_isOpen ml_X7_156 (c_X7_isOpen (by omega) (SN_i hn (by omega) (by omega)) (by omega)) zk_75 rfl rfl (by decide) (Nat.le_of_ble_eq_true rfl) dX7_open_21 ?_
        refine z_ifb_eq (tgt := 33) dX7_open_24 (by decide) (fun c24 => ?_) (fun c24 => ?_)
        · refine z_iconst dX7_open_33 ?_
          refine z_ior dX7_open_34 ?_
          refine z_istore_1 rfl dX7_open_35 ?_
          refine z_iinc_2 rfl dX7_open_36 ?_
          refine z_goto (tgt := 4) dX7_open_39 (by decide) ?_
          exact ih4 _ _ (by omega) (by omega) (by first | (rw [openB_t (g := gS (M 76)) (by omega) (by rw [gS_i (by omega)]; exact c24), ha_]; done) | (rw [openB_f (g := gS (M 76)) (by omega) (by rw [gS_i (by omega)]; exact c24), ha_, zor_0 (openB_r _)]; done))
        · refine z_iconst dX7_open_27 ?_
          refine z_iload_2 dX7_open_28 ?_
          refine z_ishl dX7_open_29 ?_
          refine z_goto (tgt := 34) dX7_open_30 (by decide) ?_
          refine z_ior dX7_open_34 ?_
          refine z_istore_1 rfl dX7_open_35 ?_
          refine z_iinc_2 rfl dX7_open_36 ?_
          refine z_goto (tgt := 4) dX7_open_39 (by decide) ?_
          exact ih4 _ _ (by omega) (by omega) (by first | (rw [openB_t (g := gS (M 76)) (by omega) (by rw [gS_i (by omega)]; exact c24), ha_]; done) | (rw [openB_f (g := gS (M 76)) (by omega) (by rw [gS_i (by omega)]; exact c24), ha_, zor_0 (openB_r _)]; done))
  have L4 : ∀ (t_ : Int) (i_ : Int), (0 ≤ i_ ∧ i_ ≤ M 76 10) → (t_ = openB (gS (M 76)) (M 76 0) i_.toNat) → Z RX7 cX7_open 3 (some .int) 3 (zQ (PI (openB (gS (M 76)) (M 76 0) (M 76 10).toNat) M)) 4 [some (vR 75), some (vI t_), some (vI i_)] [] (M) := fun t_ i_ hi_ ha_ => K4 ((M 76 10 - i_).toNat + 1) t_ i_ (by omega) hi_ ha_
  exact L4 _ _ (by omega) (by rfl)

theorem c_X7_openMany {M : zM} {d_ : Int} (hn : SN (M 76)) (hd : 0 ≤ d_ ∧ d_ ≤ 2000) : Call yX7_openMany cX7_openMany 4 (some .int) 3 [vR 75, vI d_] (M) (PI (openC (gS (M 76)) d_ (M 76 10).toNat) M) := by
  refine Call.of2 (own := RX7) (lv0 := [some (vR 75), some (vI d_), none, none]) rfl (by decide) rfl (Nat.le_of_ble_eq_true rfl) ?_
  have hn1_ := hn.1
  refine z_iconst dX7_openMany_0 ?_
  refine z_istore_2 rfl dX7_openMany_1 ?_
  refine z_iconst dX7_openMany_2 ?_
  refine z_istore_3 rfl dX7_openMany_3 ?_
  have K4 : ∀ (fuel_ : Nat) (t_ : Int) (i_ : Int), M 76 10 - i_ < (fuel_ : Int) → (0 ≤ i_ ∧ i_ ≤ M 76 10) → (t_ = openC (gS (M 76)) d_ i_.toNat) → Z RX7 cX7_openMany 4 (some .int) 3 (zQ (PI (openC (gS (M 76)) d_ (M 76 10).toNat) M)) 4 [some (vR 75), some (vI d_), some (vI t_), some (vI i_)] [] (M) := by
    intro fuel_
    induction fuel_ with
    | zero => intro t_ i_ hfuel_ hi_ ha_; exfalso; omega
    | succ fuel_ ih4 =>
      intro t_ i_ hfuel_ hi_ ha_
      refine z_iload_3 dX7_openMany_4 ?_
      refine z_aload_0 dX7_openMany_5 ?_
      refine z_bipush dX7_openMany_6 (by decide) ?_
      refine z_cVI yv_X7_its ml_X7_71 (c_X7_its (by omega)) zk_75 rfl rfl (by decide) (Nat.le_of_ble_eq_true rfl) dX7_openMany_8 ?_
      refine z_icmp_ge (tgt := 37) (by omega) (by omega) dX7_openMany_11 (by decide) (fun c11 => ?_) (fun c11 => ?_)
      · refine z_iload_2 dX7_openMany_37 ?_
        exact z_iret dX7_openMany_38 (zPI (by rw [ha_, show i_ = M 76 10 from (by omega)]) rfl)
      · refine z_iload_2 dX7_openMany_14 ?_
        refine z_aload_0 dX7_openMany_15 ?_
        refine z_iload_3 dX7_openMany_16 ?_
        refine z_iload_1 dX7_openMany_17 ?_
        refine z_cVI yv_X7_isOpen ml_X7_156 (c_X7_isOpen (by omega) (SN_i hn (by omega) (by omega)) (by omega)) zk_75 rfl rfl (by decide) (Nat.le_of_ble_eq_true rfl) dX7_openMany_18 ?_
        refine z_ifb_eq (tgt := 28) dX7_openMany_21 (by decide) (fun c21 => ?_) (fun c21 => ?_)
        · refine z_iconst dX7_openMany_28 ?_
          refine z_iadd dX7_openMany_29 ?_
          refine z_istore_2 rfl dX7_openMany_30 ?_
          refine z_iinc_3 rfl dX7_openMany_31 ?_
          refine z_goto (tgt := 4) dX7_openMany_34 (by decide) ?_
          exact ih4 _ _ (by omega) (by omega) (by first | (rw [openC_t (g := gS (M 76)) (by omega) (by rw [gS_i (by omega)]; exact c21), ha_]; done) | (rw [openC_f (g := gS (M 76)) (by omega) (by rw [gS_i (by omega)]; exact c21), ha_]; omega))
        · refine z_iconst dX7_openMany_24 ?_
          refine z_goto (tgt := 29) dX7_openMany_25 (by decide) ?_
          refine z_iadd dX7_openMany_29 ?_
          refine z_istore_2 rfl dX7_openMany_30 ?_
          refine z_iinc_3 rfl dX7_openMany_31 ?_
          refine z_goto (tgt := 4) dX7_openMany_34 (by decide) ?_
          exact ih4 _ _ (by omega) (by omega) (by first | (rw [openC_t (g := gS (M 76)) (by omega) (by rw [gS_i (by omega)]; exact c21), ha_]; done) | (rw [openC_f (g := gS (M 76)) (by omega) (by rw [gS_i (by omega)]; exact c21), ha_]; omega))
  have L4 : ∀ (t_ : Int) (i_ : Int), (0 ≤ i_ ∧ i_ ≤ M 76 10) → (t_ = openC (gS (M 76)) d_ i_.toNat) → Z RX7 cX7_openMany 4 (some .int) 3 (zQ (PI (openC (gS (M 76)) d_ (M 76 10).toNat) M)) 4 [some (vR 75), some (vI d_), some (vI t_), some (vI i_)] [] (M) := fun t_ i_ hi_ ha_ => K4 ((M 76 10 - i_).toNat + 1) t_ i_ (by omega) hi_ ha_
  exact L4 _ _ (by omega) (by rfl)

theorem c_X7_nextDay {M : zM} {d_ : Int} (hn : SN (M 76)) (hd : 0 ≤ d_ ∧ d_ ≤ 2000) : Call yX7_nextDay cX7_nextDay 5 (some .int) 2 [vR 75, vI d_] (M) (PI (nextC (gS (M 76)) d_ (M 76 10).toNat) M) := by
  refine Call.of2 (own := RX7) (lv0 := [some (vR 75), some (vI d_), none, none, none]) rfl (by decide) rfl (Nat.le_of_ble_eq_true rfl) ?_
  have hn1_ := hn.1
  refine z_iconst dX7_nextDay_0 ?_
  refine z_istore_2 rfl dX7_nextDay_1 ?_
  refine z_iconst dX7_nextDay_2 ?_
  refine z_istore_3 rfl dX7_nextDay_3 ?_
  have K4 : ∀ (fuel_ : Nat) (t_ : Int) (i_ : Int), M 76 10 - i_ < (fuel_ : Int) → (0 ≤ i_ ∧ i_ ≤ M 76 10) → (t_ = nextC (gS (M 76)) d_ i_.toNat) → Z RX7 cX7_nextDay 5 (some .int) 2 (zQ (PI (nextC (gS (M 76)) d_ (M 76 10).toNat) M)) 4 [some (vR 75), some (vI d_), some (vI t_), some (vI i_), none] [] (M) := by
    intro fuel_
    induction fuel_ with
    | zero => intro t_ i_ hfuel_ hi_ ha_; exfalso; omega
    | succ fuel_ ih4 =>
      intro t_ i_ hfuel_ hi_ ha_
      refine z_iload_3 dX7_nextDay_4 ?_
      refine z_aload_0 dX7_nextDay_5 ?_
      refine z_bipush dX7_nextDay_6 (by decide) ?_
      refine z_cVI yv_X7_its ml_X7_71 (c_X7_its (by omega)) zk_75 rfl rfl (by decide) (Nat.le_of_ble_eq_true rfl) dX7_nextDay_8 ?_
      refine z_icmp_ge (tgt := 51) (by omega) (by omega) dX7_nextDay_11 (by decide) (fun c11 => ?_) (fun c11 => ?_)
      · refine z_iload_2 dX7_nextDay_51 ?_
        exact z_iret dX7_nextDay_52 (zPI (by rw [ha_, show i_ = M 76 10 from (by omega)]) rfl)
      · have hgi_ := gOK_s (SN_i hn (i := i_) (by omega) (by omega))
        have hx_ := nextC_le (g := gS (M 76)) (today := d_) (by omega) i_.toNat (fun j hj => hn.2 j (by omega))
        have hgw_ : gI (M 76) i_ 1 = M 76 (12 + 6 * i_ + 1) := rfl
        refine z_aload_0 dX7_nextDay_14 ?_
        refine z_iload_3 dX7_nextDay_15 ?_
        refine z_iconst dX7_nextDay_16 ?_
        refine z_cVI yv_X7_of1 ml_X7_147 (c_X7_of1 (by omega) (by omega)) zk_75 rfl rfl (by decide) (Nat.le_of_ble_eq_true rfl) dX7_nextDay_17 ?_
        refine z_istore_4 rfl dX7_nextDay_20 ?_
        refine z_iload_4 dX7_nextDay_22 ?_
        refine z_iload_1 dX7_nextDay_24 ?_
        refine z_icmp_le (tgt := 43) (by omega) (by omega) dX7_nextDay_25 (by decide) (fun c25 => ?_) (fun c25 => ?_)
        · refine z_iload_2 dX7_nextDay_43 ?_
          refine z_istore_2 rfl dX7_nextDay_44 ?_
          refine z_iinc_3 rfl dX7_nextDay_45 ?_
          refine z_goto (tgt := 4) dX7_nextDay_48 (by decide) ?_
          refine z_drop_4 ?_
          exact ih4 _ _ (by omega) (by omega) (by first | (rw [nextC_t (g := gS (M 76)) (by omega) (by rw [gS_i (by omega)]; omega), gS_i (by omega)]; done) | (rw [nextC_f (g := gS (M 76)) (by omega) (by rw [gS_i (by omega)]; omega), ha_]; done))
        · refine z_iload_2 dX7_nextDay_28 ?_
          refine z_if_lt (tgt := 38) (by omega) dX7_nextDay_29 (by decide) (fun c29 => ?_) (fun c29 => ?_)
          · refine z_iload_4 dX7_nextDay_38 ?_
            refine z_goto (tgt := 44) dX7_nextDay_40 (by decide) ?_
            refine z_istore_2 rfl dX7_nextDay_44 ?_
            refine z_iinc_3 rfl dX7_nextDay_45 ?_
            refine z_goto (tgt := 4) dX7_nextDay_48 (by decide) ?_
            refine z_drop_4 ?_
            exact ih4 _ _ (by omega) (by omega) (by first | (rw [nextC_t (g := gS (M 76)) (by omega) (by rw [gS_i (by omega)]; omega), gS_i (by omega)]; done) | (rw [nextC_f (g := gS (M 76)) (by omega) (by rw [gS_i (by omega)]; omega), ha_]; done))
          · refine z_iload_4 dX7_nextDay_32 ?_
            refine z_iload_2 dX7_nextDay_34 ?_
            refine z_icmp_ge (tgt := 43) (by omega) (by omega) dX7_nextDay_35 (by decide) (fun c35 => ?_) (fun c35 => ?_)
            · refine z_iload_2 dX7_nextDay_43 ?_
              refine z_istore_2 rfl dX7_nextDay_44 ?_
              refine z_iinc_3 rfl dX7_nextDay_45 ?_
              refine z_goto (tgt := 4) dX7_nextDay_48 (by decide) ?_
              refine z_drop_4 ?_
              exact ih4 _ _ (by omega) (by omega) (by first | (rw [nextC_t (g := gS (M 76)) (by omega) (by rw [gS_i (by omega)]; omega), gS_i (by omega)]; done) | (rw [nextC_f (g := gS (M 76)) (by omega) (by rw [gS_i (by omega)]; omega), ha_]; done))
            · refine z_iload_4 dX7_nextDay_38 ?_
              refine z_goto (tgt := 44) dX7_nextDay_40 (by decide) ?_
              refine z_istore_2 rfl dX7_nextDay_44 ?_
              refine z_iinc_3 rfl dX7_nextDay_45 ?_
              refine z_goto (tgt := 4) dX7_nextDay_48 (by decide) ?_
              refine z_drop_4 ?_
              exact ih4 _ _ (by omega) (by omega) (by first | (rw [nextC_t (g := gS (M 76)) (by omega) (by rw [gS_i (by omega)]; omega), gS_i (by omega)]; done) | (rw [nextC_f (g := gS (M 76)) (by omega) (by rw [gS_i (by omega)]; omega), ha_]; done))
  have L4 : ∀ (t_ : Int) (i_ : Int), (0 ≤ i_ ∧ i_ ≤ M 76 10) → (t_ = nextC (gS (M 76)) d_ i_.toNat) → Z RX7 cX7_nextDay 5 (some .int) 2 (zQ (PI (nextC (gS (M 76)) d_ (M 76 10).toNat) M)) 4 [some (vR 75), some (vI d_), some (vI t_), some (vI i_), none] [] (M) := fun t_ i_ hi_ ha_ => K4 ((M 76 10 - i_).toNat + 1) t_ i_ (by omega) hi_ ha_
  exact L4 _ _ (by omega) (by rfl)

theorem c_X7_wipe {M : zM}  : Call yX7_wipe cX7_wipe 2 (some .int) 0 [vR 75] (M) (PI (M 75 5) (zput M 75 5 0)) := by
  refine Call.of2 (own := RX7) (lv0 := [some (vR 75), none]) rfl (by decide) rfl (Nat.le_of_ble_eq_true rfl) ?_
  refine z_aload_0 dX7_wipe_0 ?_
  refine z_getI fl_X7_188 zk_75 rfl dX7_wipe_1 ?_
  refine z_istore_1 rfl dX7_wipe_4 ?_
  refine z_aload_0 dX7_wipe_5 ?_
  refine z_iconst dX7_wipe_6 ?_
  refine z_putI fl_X7_188 zk_75 rfl dX7_wipe_7 ?_
  refine z_iload_1 dX7_wipe_10 ?_
  exact z_iret dX7_wipe_11 (zPI rfl rfl)

theorem c_X7_drift {M : zM} (hr : -9223372036854775808 ≤ M 76 11 ∧ M 76 11 < 9223372036854775808) : Call yX7_drift cX7_drift 2 (some .int) 0 [vR 75] (M) (PI (if 0 < M 76 11 then 1 else 0) (zput M 76 11 0)) := by
  refine Call.of2 (own := RX7) (lv0 := [some (vR 75), none]) rfl (by decide) rfl (Nat.le_of_ble_eq_true rfl) ?_
  refine z_aload_0 dX7_drift_0 ?_
  refine z_getR (r := 76) fl_X7_7 zk_75 rfl rfl dX7_drift_1 ?_
  refine z_bipush dX7_drift_4 (by decide) ?_
  refine z_lald (n := 214) zk_76 rfl (by omega) dX7_drift_6 ?_
  refine z_lconst0 dX7_drift_7 ?_
  refine z_lcmp_le (tgt := 16) (by omega) (by decide) dX7_drift_8 dX7_drift_9 (by decide) (fun c8 => ?_) (fun c8 => ?_)
  · refine z_iconst dX7_drift_16 ?_
    refine z_istore_1 rfl dX7_drift_17 ?_
    refine z_aload_0 dX7_drift_18 ?_
    refine z_getR (r := 76) fl_X7_7 zk_75 rfl rfl dX7_drift_19 ?_
    refine z_bipush dX7_drift_22 (by decide) ?_
    refine z_lconst0 dX7_drift_24 ?_
    refine z_last (n := 214) zk_76 rfl (by omega) dX7_drift_25 ?_
    refine z_iload_1 dX7_drift_26 ?_
    exact z_iret dX7_drift_27 (zPI (by first | exact (if_pos (by omega)).symm | exact (if_neg (by omega)).symm) rfl)
  · refine z_iconst dX7_drift_12 ?_
    refine z_goto (tgt := 17) dX7_drift_13 (by decide) ?_
    refine z_istore_1 rfl dX7_drift_17 ?_
    refine z_aload_0 dX7_drift_18 ?_
    refine z_getR (r := 76) fl_X7_7 zk_75 rfl rfl dX7_drift_19 ?_
    refine z_bipush dX7_drift_22 (by decide) ?_
    refine z_lconst0 dX7_drift_24 ?_
    refine z_last (n := 214) zk_76 rfl (by omega) dX7_drift_25 ?_
    refine z_iload_1 dX7_drift_26 ?_
    exact z_iret dX7_drift_27 (zPI (by first | exact (if_pos (by omega)).symm | exact (if_neg (by omega)).symm) rfl)
