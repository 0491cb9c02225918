theorem c_X7_numberOf {M : zM} {k_ j_ : Int} (hk : 0 ≤ k_ ∧ k_ ≤ 3) (hj : 0 ≤ j_ ∧ j_ < 40) : Call yX7_numberOf cX7_numberOf 3 (some .long) 0 [vR 75, vI k_, vI j_] (M) (PJ (M 89 (40 * k_ + j_)) M) := by
  refine Call.of2 (own := RX7) (lv0 := [some (vR 75), some (vI k_), some (vI j_)]) rfl (by decide) rfl (Nat.le_of_ble_eq_true rfl) ?_
  refine z_aload_0 dX7_numberOf_0 ?_
  refine z_getR (r := 89) fl_X7_50 zk_75 rfl rfl dX7_numberOf_1 ?_
  refine z_bipush dX7_numberOf_4 (by decide) ?_
  refine z_iload_1 dX7_numberOf_6 ?_
  refine z_imul dX7_numberOf_7 ?_
  refine z_iload_2 dX7_numberOf_8 ?_
  refine z_iadd dX7_numberOf_9 ?_
  refine z_lald (n := 160) zk_89 rfl (by omega) dX7_numberOf_10 ?_
  exact z_lret dX7_numberOf_11 (zPJ rfl rfl)

theorem c_X7_ends {M : zM} (hn : SN (M 76)) (hp : pOK (pS (M 76))) (hh : -12 ≤ M 76 1 ∧ M 76 1 ≤ 12) (ht : 0 ≤ M 76 0 ∧ M 76 0 ≤ 2000) : Call yX7_ends cX7_ends 1 none 4 [vR 75] (M) (PN (zrow M 76 (endS (M 76)))) := by
  refine Call.of2 (own := RX7) (lv0 := [some (vR 75)]) rfl (by decide) rfl (Nat.le_of_ble_eq_true rfl) ?_
  have hu_ := useS_le (h := M 76 1) hp
  have hg_ := danger_le (day := M 76 0 + 1) (h := M 76 1) (SN_all hn)
  refine z_aload_0 dX7_ends_0 ?_
  refine z_getR (r := 76) fl_X7_7 zk_75 rfl rfl dX7_ends_1 ?_
  refine z_iconst dX7_ends_4 ?_
  refine z_dup2_11 rfl rfl dX7_ends_5 ?_
  refine z_lald (n := 214) zk_76 rfl (by omega) dX7_ends_6 ?_
  refine z_lconst1 dX7_ends_7 ?_
  refine z_ladd dX7_ends_8 ?_
  refine z_last (n := 214) zk_76 rfl (by omega) dX7_ends_9 ?_
  refine z_aload_0 dX7_ends_10 ?_
  refine z_getR (r := 76) fl_X7_7 zk_75 rfl rfl dX7_ends_11 ?_
  refine z_bipush dX7_ends_14 (by decide) ?_
  refine z_dup2_11 rfl rfl dX7_ends_16 ?_
  refine z_laldv (n := 214) (v := (M 76 8)) zk_76 rfl (by omega) (by rw [zput_at, zup_ne (by decide)]) dX7_ends_17 ?_
  refine z_aload_0 dX7_ends_18 ?_
  refine z_aload_0 dX7_ends_19 ?_
  refine z_cVI yv_X7_height ml_X7_111 c_X7_height zk_75 rfl rfl (by decide) (Nat.le_of_ble_eq_true rfl) dX7_ends_20 ?_
  rw [show (zput M 76 0 (M 76 0 + 1)) 76 1 = M 76 1 by rw [zput_at, zup_ne (by decide)]]
  refine z_cVJ yv_X7_useAt ml_X7_126 (c_X7_useAt (by rw [zput_at]; exact pOK_zup (by decide) hp) hh) zk_75 rfl rfl (by decide) (Nat.le_of_ble_eq_true rfl) dX7_ends_23 ?_
  rw [zput_at, useS_zup (by decide)]
  refine z_ladd dX7_ends_26 ?_
  refine z_last (n := 214) zk_76 rfl (by omega) dX7_ends_27 ?_
  refine z_aload_0 dX7_ends_28 ?_
  refine z_getR (r := 76) fl_X7_7 zk_75 rfl rfl dX7_ends_29 ?_
  refine z_bipush dX7_ends_32 (by decide) ?_
  refine z_dup2_11 rfl rfl dX7_ends_34 ?_
  refine z_laldv (n := 214) (v := (M 76 9)) zk_76 rfl (by omega) (by rw [zput_at, zput_at, zup_ne (by decide), zup_ne (by decide)]) dX7_ends_35 ?_
  refine z_aload_0 dX7_ends_36 ?_
  refine z_aload_0 dX7_ends_37 ?_
  refine z_cVI yv_X7_today ml_X7_129 c_X7_today zk_75 rfl rfl (by decide) (Nat.le_of_ble_eq_true rfl) dX7_ends_38 ?_
  rw [show (zput (zput M 76 0 (M 76 0 + 1)) 76 8 (M 76 8 + useS (pS (M 76)) (M 76 1))) 76 0 = M 76 0 + 1 by rw [zput_at, zup_ne (by decide), zput_eq]]
  refine z_aload_0 dX7_ends_41 ?_
  refine z_cVI yv_X7_height ml_X7_111 c_X7_height zk_75 rfl rfl (by decide) (Nat.le_of_ble_eq_true rfl) dX7_ends_42 ?_
  rw [show (zput (zput M 76 0 (M 76 0 + 1)) 76 8 (M 76 8 + useS (pS (M 76)) (M 76 1))) 76 1 = M 76 1 by rw [zput_at, zup_ne (by decide), zput_at, zup_ne (by decide)]]
  refine z_cVI yv_X7_dangerAt ml_X7_132 (c_X7_dangerAt (by rw [zput_at, zput_at]; exact SN_zup (by decide) (SN_zup (by decide) hn)) hh (by omega)) zk_75 rfl rfl (by decide) (Nat.le_of_ble_eq_true rfl) dX7_ends_45 ?_
  rw [zput_at, zput_at, danger_zup (by decide), danger_zup (by decide), zup_ne (by decide), zup_ne (by decide)]
  refine z_i2l (by omega) dX7_ends_48 ?_
  refine z_ladd dX7_ends_49 ?_
  refine z_last (n := 214) zk_76 rfl (by omega) dX7_ends_50 ?_
  exact z_vret dX7_ends_51 (zPN (by rw [zput_row, zput_row, zput_row, zrow_eq, zrow_row, zrow_eq, zrow_row]; rfl))

theorem c_X7_dayWorth {M : zM} {a_ h_ : Int} (hn : SN (M 76)) (hp : pOK (pS (M 76))) (hh : -12 ≤ h_ ∧ h_ ≤ 12) (ha : -2147483648 ≤ a_ ∧ a_ < 2147483648) : Call yX7_dayWorth cX7_dayWorth 3 (some .long) 4 [vR 75, vI a_, vI h_] (M) (PJ (worthS (pS (M 76)) (M 76 10).toNat (gS (M 76)) a_ h_) M) := by
  refine Call.of2 (own := RX7) (lv0 := [some (vR 75), some (vI a_), some (vI h_)]) rfl (by decide) rfl (Nat.le_of_ble_eq_true rfl) ?_
  obtain ⟨⟨p00, p01⟩, ⟨p10, p11⟩, ⟨p20, p21⟩, ⟨p30, p31⟩, ⟨p40, p41⟩, ⟨p50, p51⟩⟩ := pOK_s hp
  have hu_ := useS_le (h := h_) hp
  have hg_ := danger_le (day := a_) (h := h_) (SN_all hn)
  have hm_ := mul_box (a := M 76 5) p30 p31 hg_.1 hg_.2
  refine z_aload_0 dX7_dayWorth_0 ?_
  refine z_iload_2 dX7_dayWorth_1 ?_
  refine z_cVJ yv_X7_useAt ml_X7_126 (c_X7_useAt hp hh) zk_75 rfl rfl (by decide) (Nat.le_of_ble_eq_true rfl) dX7_dayWorth_2 ?_
  refine z_aload_0 dX7_dayWorth_5 ?_
  refine z_getR (r := 76) fl_X7_7 zk_75 rfl rfl dX7_dayWorth_6 ?_
  refine z_iconst dX7_dayWorth_9 ?_
  refine z_lald (n := 214) zk_76 rfl (by omega) dX7_dayWorth_10 ?_
  refine z_aload_0 dX7_dayWorth_11 ?_
  refine z_iload_1 dX7_dayWorth_12 ?_
  refine z_iload_2 dX7_dayWorth_13 ?_
  refine z_cVI yv_X7_dangerAt ml_X7_132 (c_X7_dangerAt hn (by omega) (by omega)) zk_75 rfl rfl (by decide) (Nat.le_of_ble_eq_true rfl) dX7_dayWorth_14 ?_
  refine z_i2l (by omega) dX7_dayWorth_17 ?_
  refine z_lmul dX7_dayWorth_18 ?_
  refine z_ldc2 (n := 1000000) kl_X7_66 (by decide) dX7_dayWorth_19 ?_
  refine z_ldivp (by omega) (by decide) dX7_dayWorth_22 ?_
  refine z_lsub dX7_dayWorth_23 ?_
  exact z_lret dX7_dayWorth_24 (zPJ rfl rfl)

theorem c_X7_rest {M : zM} {n_ : Int} (hn : SN (M 76)) (hp : pOK (pS (M 76))) (hh : -12 ≤ M 76 1 ∧ M 76 1 ≤ 12) (ht : 0 ≤ M 76 0 ∧ M 76 0 ≤ 2000) (hn_ : -2147483648 ≤ n_ ∧ n_ < 2147483648) : Call yX7_rest cX7_rest 5 (some .long) 5 [vR 75, vI n_] (M) (PJ (if 1 ≤ n_ ∧ n_ ≤ 8 then sumR (pS (M 76)) (M 76 10).toNat (gS (M 76)) (M 76 0) (M 76 1) n_.toNat else -1000000001) (if 1 ≤ n_ ∧ n_ ≤ 8 then M else fnd7 M 0)) := by
  refine Call.of2 (own := RX7) (lv0 := [some (vR 75), some (vI n_), none, none, none]) rfl (by decide) rfl (Nat.le_of_ble_eq_true rfl) ?_
  refine z_iload_1 dX7_rest_0 ?_
  refine z_cSI ys_X7_isAhead ml_X7_270 (c_X7_isAhead (by omega)) rfl rfl (by decide) (Nat.le_of_ble_eq_true rfl) dX7_rest_1 ?_
  refine z_ifb_ne (tgt := 14) dX7_rest_4 (by decide) (fun c4 => ?_) (fun c4 => ?_)
  · refine z_lconst0 dX7_rest_14 ?_
    refine z_lstore_2 rfl dX7_rest_15 ?_
    refine z_iconst dX7_rest_16 ?_
    refine z_istore_4 rfl dX7_rest_17 ?_
    have K19 : ∀ (fuel_ : Nat) (t_ : Int) (i_ : Int), n_ + 1 - i_ < (fuel_ : Int) → (1 ≤ i_ ∧ i_ ≤ n_ + 1) → (t_ = sumR (pS (M 76)) (M 76 10).toNat (gS (M 76)) (M 76 0) (M 76 1) (i_ - 1).toNat) → Z RX7 cX7_rest 5 (some .long) 5 (zQ (PJ (if 1 ≤ n_ ∧ n_ ≤ 8 then sumR (pS (M 76)) (M 76 10).toNat (gS (M 76)) (M 76 0) (M 76 1) n_.toNat else -1000000001) (if 1 ≤ n_ ∧ n_ ≤ 8 then M else fnd7 M 0))) 19 [some (vR 75), some (vI n_), some (vJ t_), none, some (vI i_)] [] (M) := by
      intro fuel_
      induction fuel_ with
      | zero => intro t_ i_ hfuel_ hi_ ha_; exfalso; omega
      | succ fuel_ ih19 =>
        intro t_ i_ hfuel_ hi_ ha_
        refine z_iload_4 dX7_rest_19 ?_
        refine z_iload_1 dX7_rest_21 ?_
        refine z_icmp_gt (tgt := 49) (by omega) (by omega) dX7_rest_22 (by decide) (fun c22 => ?_) (fun c22 => ?_)
        · refine z_lload_2 dX7_rest_49 ?_
          exact z_lret dX7_rest_50 (zPJ (by rw [if_pos (by omega), ha_, show i_ - 1 = n_ by omega]) (by rw [if_pos (by omega)]))
        · refine z_lload_2 dX7_rest_25 ?_
          refine z_aload_0 dX7_rest_26 ?_
          refine z_aload_0 dX7_rest_27 ?_
          refine z_cVI yv_X7_today ml_X7_129 c_X7_today zk_75 rfl rfl (by decide) (Nat.le_of_ble_eq_true rfl) dX7_rest_28 ?_
          refine z_iload_4 dX7_rest_31 ?_
          refine z_iadd dX7_rest_33 ?_
          refine z_aload_0 dX7_rest_34 ?_
          refine z_cVI yv_X7_height ml_X7_111 c_X7_height zk_75 rfl rfl (by decide) (Nat.le_of_ble_eq_true rfl) dX7_rest_35 ?_
          refine z_cVJ yv_X7_dayWorth ml_X7_251 (c_X7_dayWorth hn hp hh (by omega)) zk_75 rfl rfl (by decide) (Nat.le_of_ble_eq_true rfl) dX7_rest_38 ?_
          refine z_ladd dX7_rest_41 ?_
          refine z_lstore_2 rfl dX7_rest_42 ?_
          refine z_iinc_4 rfl dX7_rest_43 ?_
          refine z_goto (tgt := 19) dX7_rest_46 (by decide) ?_
          exact ih19 _ _ (by omega) (by omega) (by rw [show (i_ + 1 - 1).toNat = (i_ - 1).toNat + 1 by omega, sumR, ha_, show (((i_ - 1).toNat : Int) + 1) = i_ by omega])
    have L19 : ∀ (t_ : Int) (i_ : Int), (1 ≤ i_ ∧ i_ ≤ n_ + 1) → (t_ = sumR (pS (M 76)) (M 76 10).toNat (gS (M 76)) (M 76 0) (M 76 1) (i_ - 1).toNat) → Z RX7 cX7_rest 5 (some .long) 5 (zQ (PJ (if 1 ≤ n_ ∧ n_ ≤ 8 then sumR (pS (M 76)) (M 76 10).toNat (gS (M 76)) (M 76 0) (M 76 1) n_.toNat else -1000000001) (if 1 ≤ n_ ∧ n_ ≤ 8 then M else fnd7 M 0))) 19 [some (vR 75), some (vI n_), some (vJ t_), none, some (vI i_)] [] (M) := fun t_ i_ hi_ ha_ => K19 ((n_ + 1 - i_).toNat + 1) t_ i_ (by omega) hi_ ha_
    exact L19 _ _ (by omega) (by rfl)
  · refine z_aload_0 dX7_rest_7 ?_
    refine z_iconst dX7_rest_8 ?_
    refine z_cVI yv_X7_finding ml_X7_93 (c_X7_finding (by omega)) zk_75 rfl rfl (by decide) (Nat.le_of_ble_eq_true rfl) dX7_rest_9 ?_
    refine z_i2l (by omega) dX7_rest_12 ?_
    exact z_lret dX7_rest_13 (zPJ (by rw [if_neg (by omega)] <;> rfl) (by rw [if_neg (by omega)]))

theorem c_X7_lacks {M : zM} {k_ : Int} (hS : SH7 M) (hk : -2147483648 ≤ k_ ∧ k_ < 2147483648) : Call yX7_lacks cX7_lacks 2 (some .int) 2 [vR 75, vI k_] (M) (PI (if ¬ (0 ≤ k_ ∧ k_ ≤ 3) then 0 else if M 87 k_ = 0 then 5 else -1) M) := by
  refine Call.of2 (own := RX7) (lv0 := [some (vR 75), some (vI k_)]) rfl (by decide) rfl (Nat.le_of_ble_eq_true rfl) ?_
  refine z_iload_1 dX7_lacks_0 ?_
  refine z_cSI ys_X7_isSheet ml_X7_295 (c_X7_isSheet (by omega)) rfl rfl (by decide) (Nat.le_of_ble_eq_true rfl) dX7_lacks_1 ?_
  refine z_ifb_ne (tgt := 11) dX7_lacks_4 (by decide) (fun c4 => ?_) (fun c4 => ?_)
  · have hs_ := hS k_ (by omega) (by omega)
    refine z_aload_0 dX7_lacks_11 ?_
    refine z_getR (r := 87) fl_X7_44 zk_75 rfl rfl dX7_lacks_12 ?_
    refine z_iload_1 dX7_lacks_15 ?_
    refine z_iald (n := 4) zk_87 rfl (by omega) dX7_lacks_16 ?_
    refine z_if_ne (tgt := 24) (by omega) dX7_lacks_17 (by decide) (fun c17 => ?_) (fun c17 => ?_)
    · refine z_iconst dX7_lacks_24 ?_
      exact z_iret dX7_lacks_25 (zPI (by (repeat (first | rw [if_pos (by omega)] | rw [if_neg (by omega)])) <;> rfl) rfl)
    · refine z_iconst dX7_lacks_20 ?_
      refine z_goto (tgt := 25) dX7_lacks_21 (by decide) ?_
      exact z_iret dX7_lacks_25 (zPI (by (repeat (first | rw [if_pos (by omega)] | rw [if_neg (by omega)])) <;> rfl) rfl)
  · refine z_iconst dX7_lacks_7 ?_
    refine z_goto (tgt := 25) dX7_lacks_8 (by decide) ?_
    exact z_iret dX7_lacks_25 (zPI (by (repeat (first | rw [if_pos (by omega)] | rw [if_neg (by omega)])) <;> rfl) rfl)

theorem c_X7_hinders {M : zM} {k_ a_ b_ c_ : Int} (hS : SH7 M) (hk : -2147483648 ≤ k_ ∧ k_ < 2147483648) (ha : -2147483648 ≤ a_ ∧ a_ < 2147483648) (hb : -2147483648 ≤ b_ ∧ b_ < 2147483648) (hc : 0 ≤ c_ ∧ c_ ≤ 1000000000) : Call yX7_hinders cX7_hinders 8 (some .int) 2 [vR 75, vI k_, vI a_, vI b_, vJ c_] (M) (PI (hindS M k_ a_ b_ c_) M) := by
  refine Call.of2 (own := RX7) (lv0 := [some (vR 75), some (vI k_), some (vI a_), some (vI b_), some (vJ c_), none, none, none]) rfl (by decide) rfl (Nat.le_of_ble_eq_true rfl) ?_
  refine z_iload_1 dX7_hinders_0 ?_
  refine z_cSI ys_X7_isSheet ml_X7_295 (c_X7_isSheet (by omega)) rfl rfl (by decide) (Nat.le_of_ble_eq_true rfl) dX7_hinders_1 ?_
  refine z_ifb_ne (tgt := 9) dX7_hinders_4 (by decide) (fun c4 => ?_) (fun c4 => ?_)
  · have hs_ := hS k_ (by omega) (by omega)
    refine z_aload_0 dX7_hinders_9 ?_
    refine z_getR (r := 87) fl_X7_44 zk_75 rfl rfl dX7_hinders_10 ?_
    refine z_iload_1 dX7_hinders_13 ?_
    refine z_iald (n := 4) zk_87 rfl (by omega) dX7_hinders_14 ?_
    refine z_if_ne (tgt := 20) (by omega) dX7_hinders_15 (by decide) (fun c15 => ?_) (fun c15 => ?_)
    · refine z_aload_0 dX7_hinders_20 ?_
      refine z_getR (r := 88) fl_X7_47 zk_75 rfl rfl dX7_hinders_21 ?_
      refine z_iload_1 dX7_hinders_24 ?_
      refine z_iald (n := 4) zk_88 rfl (by omega) dX7_hinders_25 ?_
      refine z_i2l (by omega) dX7_hinders_26 ?_
      refine z_iload_2 dX7_hinders_27 ?_
      refine z_i2l (by omega) dX7_hinders_28 ?_
      refine z_iload_3 dX7_hinders_29 ?_
      refine z_i2l (by omega) dX7_hinders_30 ?_
      refine z_cSI ys_X7_in ml_X7_85 (c_X7_in (by omega) (by omega) (by omega)) rfl rfl (by decide) (Nat.le_of_ble_eq_true rfl) dX7_hinders_31 ?_
      refine z_ifb_ne (tgt := 40) dX7_hinders_34 (by decide) (fun c34 => ?_) (fun c34 => ?_)
      · refine z_iconst dX7_hinders_40 ?_
        refine z_istore_6 rfl dX7_hinders_41 ?_
        refine z_iconst dX7_hinders_43 ?_
        refine z_istore_7 rfl dX7_hinders_44 ?_
        have K46 : ∀ (fuel_ : Nat) (t_ : Int) (i_ : Int), M 88 k_ - i_ < (fuel_ : Int) → (0 ≤ i_ ∧ i_ ≤ M 88 k_) → (t_ = if inAll (fun j_ => M 89 (40 * k_ + j_)) c_ i_.toNat = true then -1 else 2) → Z RX7 cX7_hinders 8 (some .int) 2 (zQ (PI (hindS M k_ a_ b_ c_) M)) 46 [some (vR 75), some (vI k_), some (vI a_), some (vI b_), some (vJ c_), none, some (vI t_), some (vI i_)] [] (M) := by
          intro fuel_
          induction fuel_ with
          | zero => intro t_ i_ hfuel_ hi_ ha_; exfalso; omega
          | succ fuel_ ih46 =>
            intro t_ i_ hfuel_ hi_ ha_
            refine z_iload_7 dX7_hinders_46 ?_
            refine z_aload_0 dX7_hinders_48 ?_
            refine z_getR (r := 88) fl_X7_47 zk_75 rfl rfl dX7_hinders_49 ?_
            refine z_iload_1 dX7_hinders_52 ?_
            refine z_iald (n := 4) zk_88 rfl (by omega) dX7_hinders_53 ?_
            refine z_icmp_ge (tgt := 89) (by omega) (by omega) dX7_hinders_54 (by decide) (fun c54 => ?_) (fun c54 => ?_)
            · refine z_iload_6 dX7_hinders_89 ?_
              exact z_iret dX7_hinders_91 (zPI (by unfold hindS; rw [if_neg (by omega), if_neg (by omega), if_neg (by omega), ha_, show i_ = M 88 k_ by omega]) rfl)
            · have hv_ := hs_.2.2 i_ (by omega) (by omega)
              refine z_aload_0 dX7_hinders_57 ?_
              refine z_iload_1 dX7_hinders_58 ?_
              refine z_iload_7 dX7_hinders_59 ?_
              refine z_cVJ yv_X7_numberOf ml_X7_298 (c_X7_numberOf (by omega) (by omega)) zk_75 rfl rfl (by decide) (Nat.le_of_ble_eq_true rfl) dX7_hinders_61 ?_
              refine z_lload_4 dX7_hinders_64 ?_
              refine z_lneg dX7_hinders_66 ?_
              refine z_lload_4 dX7_hinders_67 ?_
              refine z_cSI ys_X7_in ml_X7_85 (c_X7_in (by omega) (by omega) (by omega)) rfl rfl (by decide) (Nat.le_of_ble_eq_true rfl) dX7_hinders_69 ?_
              refine z_ifb_eq (tgt := 80) dX7_hinders_72 (by decide) (fun c72 => ?_) (fun c72 => ?_)
              · refine z_iconst dX7_hinders_80 ?_
                refine z_istore_6 rfl dX7_hinders_81 ?_
                refine z_iinc_7 rfl dX7_hinders_83 ?_
                refine z_goto (tgt := 46) dX7_hinders_86 (by decide) ?_
                exact ih46 _ _ (by omega) (by omega) (by first | (rw [inAll_t (f := (fun j_ => M 89 (40 * k_ + j_))) (by omega) c72, ha_]; done) | (rw [inAll_f (f := (fun j_ => M 89 (40 * k_ + j_))) (by omega) c72] <;> rfl))
              · refine z_iload_6 dX7_hinders_75 ?_
                refine z_goto (tgt := 81) dX7_hinders_77 (by decide) ?_
                refine z_istore_6 rfl dX7_hinders_81 ?_
                refine z_iinc_7 rfl dX7_hinders_83 ?_
                refine z_goto (tgt := 46) dX7_hinders_86 (by decide) ?_
                exact ih46 _ _ (by omega) (by omega) (by first | (rw [inAll_t (f := (fun j_ => M 89 (40 * k_ + j_))) (by omega) c72, ha_]; done) | (rw [inAll_f (f := (fun j_ => M 89 (40 * k_ + j_))) (by omega) c72] <;> rfl))
        have L46 : ∀ (t_ : Int) (i_ : Int), (0 ≤ i_ ∧ i_ ≤ M 88 k_) → (t_ = if inAll (fun j_ => M 89 (40 * k_ + j_)) c_ i_.toNat = true then -1 else 2) → Z RX7 cX7_hinders 8 (some .int) 2 (zQ (PI (hindS M k_ a_ b_ c_) M)) 46 [some (vR 75), some (vI k_), some (vI a_), some (vI b_), some (vJ c_), none, some (vI t_), some (vI i_)] [] (M) := fun t_ i_ hi_ ha_ => K46 ((M 88 k_ - i_).toNat + 1) t_ i_ (by omega) hi_ ha_
        exact L46 _ _ (by omega) (by rfl)
      · refine z_bipush dX7_hinders_37 (by decide) ?_
        exact z_iret dX7_hinders_39 (zPI (by unfold hindS; rw [if_neg (by omega), if_neg (by omega), if_pos (by omega)]) rfl)
    · refine z_iconst dX7_hinders_18 ?_
      exact z_iret dX7_hinders_19 (zPI (by unfold hindS; rw [if_neg (by omega), if_pos (by omega)]) rfl)
  · refine z_iconst dX7_hinders_7 ?_
    exact z_iret dX7_hinders_8 (zPI (by unfold hindS; rw [if_pos (by omega)]) rfl)

theorem c_X7_isRest {M : zM} {k_ p_ : Int} (hS : SH7 M) (hk : 0 ≤ k_ ∧ k_ ≤ 3) (hp : 0 ≤ p_ ∧ p_ < 4) : Call yX7_isRest cX7_isRest 3 (some .boolean) 1 [vR 75, vI k_, vI p_] (M) (PI (zb (restB (fun j_ => M 89 (40 * k_ + j_)) p_)) M) := by
  refine Call.of2 (own := RX7) (lv0 := [some (vR 75), some (vI k_), some (vI p_)]) rfl (by decide) rfl (Nat.le_of_ble_eq_true rfl) ?_
  have hx_ : (0 ≤ zxor p_ 1 ∧ zxor p_ 1 < 4) ∧ (0 ≤ zxor p_ 2 ∧ zxor p_ 2 < 4) := by rcases (show p_ = 0 ∨ p_ = 1 ∨ p_ = 2 ∨ p_ = 3 by omega) with h_ | h_ | h_ | h_ <;> rw [h_] <;> decide
  have hs_ := (hS k_ (by omega) (by omega)).2.2
  have h1_ := hs_ p_ (by omega) (by omega)
  have h2_ := hs_ (zxor p_ 1) (by omega) (by omega)
  have h3_ := hs_ (4 + p_) (by omega) (by omega)
  have h4_ := hs_ (4 + zxor p_ 2) (by omega) (by omega)
  refine z_aload_0 dX7_isRest_0 ?_
  refine z_iload_1 dX7_isRest_1 ?_
  refine z_iload_2 dX7_isRest_2 ?_
  refine z_cVJ yv_X7_numberOf ml_X7_298 (c_X7_numberOf (by omega) (by omega)) zk_75 rfl rfl (by decide) (Nat.le_of_ble_eq_true rfl) dX7_isRest_3 ?_
  refine z_aload_0 dX7_isRest_6 ?_
  refine z_iload_1 dX7_isRest_7 ?_
  refine z_iload_2 dX7_isRest_8 ?_
  refine z_iconst dX7_isRest_9 ?_
  refine z_ixor dX7_isRest_10 ?_
  refine z_cVJ yv_X7_numberOf ml_X7_298 (c_X7_numberOf (by omega) (by omega)) zk_75 rfl rfl (by decide) (Nat.le_of_ble_eq_true rfl) dX7_isRest_11 ?_
  refine z_lcmp_lt (tgt := 44) (by omega) (by omega) dX7_isRest_14 dX7_isRest_15 (by decide) (fun c14 => ?_) (fun c14 => ?_)
  · refine z_iconst dX7_isRest_44 ?_
    exact z_zret (by first | exact Or.inl rfl | exact Or.inr rfl | exact zb_01 | omega) dX7_isRest_45 (zPI (by first | exact (zb_t (show M 89 (40 * k_ + zxor p_ 1) ≤ M 89 (40 * k_ + p_) ∧ M 89 (40 * k_ + (4 + zxor p_ 2)) ≤ M 89 (40 * k_ + (4 + p_)) from ⟨by omega, by omega⟩)).symm | exact (zb_f (fun h_ => by have h5_ : M 89 (40 * k_ + zxor p_ 1) ≤ M 89 (40 * k_ + p_) ∧ M 89 (40 * k_ + (4 + zxor p_ 2)) ≤ M 89 (40 * k_ + (4 + p_)) := h_; omega)).symm) rfl)
  · refine z_aload_0 dX7_isRest_18 ?_
    refine z_iload_1 dX7_isRest_19 ?_
    refine z_iconst dX7_isRest_20 ?_
    refine z_iload_2 dX7_isRest_21 ?_
    refine z_iadd dX7_isRest_22 ?_
    refine z_cVJ yv_X7_numberOf ml_X7_298 (c_X7_numberOf (by omega) (by omega)) zk_75 rfl rfl (by decide) (Nat.le_of_ble_eq_true rfl) dX7_isRest_23 ?_
    refine z_aload_0 dX7_isRest_26 ?_
    refine z_iload_1 dX7_isRest_27 ?_
    refine z_iconst dX7_isRest_28 ?_
    refine z_iload_2 dX7_isRest_29 ?_
    refine z_iconst dX7_isRest_30 ?_
    refine z_ixor dX7_isRest_31 ?_
    refine z_iadd dX7_isRest_32 ?_
    refine z_cVJ yv_X7_numberOf ml_X7_298 (c_X7_numberOf (by omega) (by omega)) zk_75 rfl rfl (by decide) (Nat.le_of_ble_eq_true rfl) dX7_isRest_33 ?_
    refine z_lcmp_lt (tgt := 44) (by omega) (by omega) dX7_isRest_36 dX7_isRest_37 (by decide) (fun c36 => ?_) (fun c36 => ?_)
    · refine z_iconst dX7_isRest_44 ?_
      exact z_zret (by first | exact Or.inl rfl | exact Or.inr rfl | exact zb_01 | omega) dX7_isRest_45 (zPI (by first | exact (zb_t (show M 89 (40 * k_ + zxor p_ 1) ≤ M 89 (40 * k_ + p_) ∧ M 89 (40 * k_ + (4 + zxor p_ 2)) ≤ M 89 (40 * k_ + (4 + p_)) from ⟨by omega, by omega⟩)).symm | exact (zb_f (fun h_ => by have h5_ : M 89 (40 * k_ + zxor p_ 1) ≤ M 89 (40 * k_ + p_) ∧ M 89 (40 * k_ + (4 + zxor p_ 2)) ≤ M 89 (40 * k_ + (4 + p_)) := h_; omega)).symm) rfl)
    · refine z_iconst dX7_isRest_40 ?_
      refine z_goto (tgt := 45) dX7_isRest_41 (by decide) ?_
      exact z_zret (by first | exact Or.inl rfl | exact Or.inr rfl | exact zb_01 | omega) dX7_isRest_45 (zPI (by first | exact (zb_t (show M 89 (40 * k_ + zxor p_ 1) ≤ M 89 (40 * k_ + p_) ∧ M 89 (40 * k_ + (4 + zxor p_ 2)) ≤ M 89 (40 * k_ + (4 + p_)) from ⟨by omega, by omega⟩)).symm | exact (zb_f (fun h_ => by have h5_ : M 89 (40 * k_ + zxor p_ 1) ≤ M 89 (40 * k_ + p_) ∧ M 89 (40 * k_ + (4 + zxor p_ 2)) ≤ M 89 (40 * k_ + (4 + p_)) := h_; omega)).symm) rfl)

theorem c_X7_rests {M : zM} {k_ : Int} (hS : SH7 M) (hk : -2147483648 ≤ k_ ∧ k_ < 2147483648) : Call yX7_rests cX7_rests 5 (some .int) 3 [vR 75, vI k_] (M) (PI (if 0 ≤ hindS M k_ 8 8 1000000 then -1000000001 - hindS M k_ 8 8 1000000 else restsS (fun j_ => M 89 (40 * k_ + j_)) 4) (if 0 ≤ hindS M k_ 8 8 1000000 then fnd7 M (hindS M k_ 8 8 1000000) else M)) := by
  refine Call.of2 (own := RX7) (lv0 := [some (vR 75), some (vI k_), none, none, none]) rfl (by decide) rfl (Nat.le_of_ble_eq_true rfl) ?_
  refine z_aload_0 dX7_rests_0 ?_
  refine z_iload_1 dX7_rests_1 ?_
  refine z_bipush dX7_rests_2 (by decide) ?_
  refine z_bipush dX7_rests_4 (by decide) ?_
  refine z_ldc2 (n := 1000000) kl_X7_66 (by decide) dX7_rests_6 ?_
  refine z_cVI yv_X7_hinders ml_X7_301 (c_X7_hinders hS hk (by decide) (by decide) (by decide)) zk_75 rfl rfl (by decide) (Nat.le_of_ble_eq_true rfl) dX7_rests_9 ?_
  have hh_ : hindS M k_ 8 8 1000000 = 0 ∨ hindS M k_ 8 8 1000000 = 5 ∨ hindS M k_ 8 8 1000000 = 6 ∨ hindS M k_ 8 8 1000000 = -1 ∨ hindS M k_ 8 8 1000000 = 2 := by unfold hindS; split <;> (try split) <;> (try split) <;> (try split) <;> simp
  refine z_istore_2 rfl dX7_rests_12 ?_
  refine z_iload_2 dX7_rests_13 ?_
  refine z_if_lt (tgt := 23) (by omega) dX7_rests_14 (by decide) (fun c14 => ?_) (fun c14 => ?_)
  · have hk0_ := (hind_k (show hindS M k_ 8 8 1000000 < 0 by omega)).1
    refine z_iconst dX7_rests_23 ?_
    refine z_istore_3 rfl dX7_rests_24 ?_
    refine z_iconst dX7_rests_25 ?_
    refine z_istore_4 rfl dX7_rests_26 ?_
    have K28 : ∀ (fuel_ : Nat) (t_ : Int) (i_ : Int), 4 - i_ < (fuel_ : Int) → (0 ≤ i_ ∧ i_ ≤ 4) → (t_ = restsS (fun j_ => M 89 (40 * k_ + j_)) i_.toNat) → Z RX7 cX7_rests 5 (some .int) 3 (zQ (PI (if 0 ≤ hindS M k_ 8 8 1000000 then -1000000001 - hindS M k_ 8 8 1000000 else restsS (fun j_ => M 89 (40 * k_ + j_)) 4) (if 0 ≤ hindS M k_ 8 8 1000000 then fnd7 M (hindS M k_ 8 8 1000000) else M))) 28 [some (vR 75), some (vI k_), some (vI (hindS M k_ 8 8 1000000)), some (vI t_), some (vI i_)] [] (M) := by
      intro fuel_
      induction fuel_ with
      | zero => intro t_ i_ hfuel_ hi_ ha_; exfalso; omega
      | succ fuel_ ih28 =>
        intro t_ i_ hfuel_ hi_ ha_
        refine z_iload_4 dX7_rests_28 ?_
        refine z_iconst dX7_rests_30 ?_
        refine z_icmp_ge (tgt := 61) (by omega) (by decide) dX7_rests_31 (by decide) (fun c31 => ?_) (fun c31 => ?_)
        · refine z_iload_3 dX7_rests_61 ?_
          exact z_iret dX7_rests_62 (zPI (by rw [if_neg (by omega), ha_, show i_ = 4 by omega]; rfl) (by rw [if_neg (by omega)]))
        · refine z_iload_3 dX7_rests_34 ?_
          refine z_aload_0 dX7_rests_35 ?_
          refine z_iload_1 dX7_rests_36 ?_
          refine z_iload_4 dX7_rests_37 ?_
          refine z_cVI yv_X7_isRest ml_X7_305 (c_X7_isRest hS (by omega) (by omega)) zk_75 rfl rfl (by decide) (Nat.le_of_ble_eq_true rfl) dX7_rests_39 ?_
          refine z_ifb_eq (tgt := 52) dX7_rests_42 (by decide) (fun c42 => ?_) (fun c42 => ?_)
          · refine z_iconst dX7_rests_52 ?_
            refine z_ior dX7_rests_53 ?_
            refine z_istore_3 rfl dX7_rests_54 ?_
            refine z_iinc_4 rfl dX7_rests_55 ?_
            refine z_goto (tgt := 28) dX7_rests_58 (by decide) ?_
            exact ih28 _ _ (by omega) (by omega) (by rw [nat_1 hi_.1, restsS, Int.toNat_of_nonneg hi_.1]; first | (rw [if_pos c42, ha_]; done) | (rw [if_neg c42, ha_, zor_0 (restsS_r _)]; done))
          · refine z_iconst dX7_rests_45 ?_
            refine z_iload_4 dX7_rests_46 ?_
            refine z_ishl dX7_rests_48 ?_
            refine z_goto (tgt := 53) dX7_rests_49 (by decide) ?_
            refine z_ior dX7_rests_53 ?_
            refine z_istore_3 rfl dX7_rests_54 ?_
            refine z_iinc_4 rfl dX7_rests_55 ?_
            refine z_goto (tgt := 28) dX7_rests_58 (by decide) ?_
            exact ih28 _ _ (by omega) (by omega) (by rw [nat_1 hi_.1, restsS, Int.toNat_of_nonneg hi_.1]; first | (rw [if_pos c42, ha_]; done) | (rw [if_neg c42, ha_, zor_0 (restsS_r _)]; done))
    have L28 : ∀ (t_ : Int) (i_ : Int), (0 ≤ i_ ∧ i_ ≤ 4) → (t_ = restsS (fun j_ => M 89 (40 * k_ + j_)) i_.toNat) → Z RX7 cX7_rests 5 (some .int) 3 (zQ (PI (if 0 ≤ hindS M k_ 8 8 1000000 then -1000000001 - hindS M k_ 8 8 1000000 else restsS (fun j_ => M 89 (40 * k_ + j_)) 4) (if 0 ≤ hindS M k_ 8 8 1000000 then fnd7 M (hindS M k_ 8 8 1000000) else M))) 28 [some (vR 75), some (vI k_), some (vI (hindS M k_ 8 8 1000000)), some (vI t_), some (vI i_)] [] (M) := fun t_ i_ hi_ ha_ => K28 ((4 - i_).toNat + 1) t_ i_ (by omega) hi_ ha_
    exact L28 _ _ (by omega) (by rfl)
  · refine z_aload_0 dX7_rests_17 ?_
    refine z_iload_2 dX7_rests_18 ?_
    refine z_cVI yv_X7_finding ml_X7_93 (c_X7_finding (by omega)) zk_75 rfl rfl (by decide) (Nat.le_of_ble_eq_true rfl) dX7_rests_19 ?_
    exact z_iret dX7_rests_22 (zPI (by rw [if_pos (by omega)]) (by rw [if_pos (by omega)]))

theorem c_X7_tear {M : zM} (hi : M 75 2 = 0 ∨ M 75 2 = 1) : Call yX7_tear cX7_tear 2 (some .int) 0 [vR 75] (M) (PI (M 75 2) (zput M 75 2 0)) := by
  refine Call.of2 (own := RX7) (lv0 := [some (vR 75), none]) rfl (by decide) rfl (Nat.le_of_ble_eq_true rfl) ?_
  refine z_aload_0 dX7_tear_0 ?_
  refine z_getI fl_X7_319 zk_75 rfl dX7_tear_1 ?_
  refine z_if_eq (tgt := 11) (by omega) dX7_tear_4 (by decide) (fun c4 => ?_) (fun c4 => ?_)
  · refine z_iconst dX7_tear_11 ?_
    refine z_istore_1 rfl dX7_tear_12 ?_
    refine z_aload_0 dX7_tear_13 ?_
    refine z_iconst dX7_tear_14 ?_
    refine z_putZ (by first | omega | exact zb_01) fl_X7_319 zk_75 rfl dX7_tear_15 ?_
    refine z_iload_1 dX7_tear_18 ?_
    exact z_iret dX7_tear_19 (zPI (by omega) rfl)
  · refine z_iconst dX7_tear_7 ?_
    refine z_goto (tgt := 12) dX7_tear_8 (by decide) ?_
    refine z_istore_1 rfl dX7_tear_12 ?_
    refine z_aload_0 dX7_tear_13 ?_
    refine z_iconst dX7_tear_14 ?_
    refine z_putZ (by first | omega | exact zb_01) fl_X7_319 zk_75 rfl dX7_tear_15 ?_
    refine z_iload_1 dX7_tear_18 ?_
    exact z_iret dX7_tear_19 (zPI (by omega) rfl)

theorem c_X7_image {M : zM}  : Call yX7_image cX7_image 2 (some .int) 0 [vR 75] (M) (PI 1 (zput (zrow M 77 (zfillA (M 76) (M 77) 0 214)) 75 2 1)) := by
  refine Call.of2 (own := RX7) (lv0 := [some (vR 75), none]) rfl (by decide) rfl (Nat.le_of_ble_eq_true rfl) ?_
  refine z_iconst dX7_image_0 ?_
  refine z_istore_1 rfl dX7_image_1 ?_
  have K2 : ∀ (fuel_ : Nat) (i_ : Int) (N_ : zM), 214 - i_ < (fuel_ : Int) → (0 ≤ i_ ∧ i_ ≤ 214) → (N_ = zrow M 77 (zfillA (M 76) (M 77) 0 i_)) → Z RX7 cX7_image 2 (some .int) 0 (zQ (PI 1 (zput (zrow M 77 (zfillA (M 76) (M 77) 0 214)) 75 2 1))) 2 [some (vR 75), some (vI i_)] [] (N_) := by
    intro fuel_
    induction fuel_ with
    | zero => intro i_ N_ hfuel_ hi_ hN_; exfalso; omega
    | succ fuel_ ih2 =>
      intro i_ N_ hfuel_ hi_ hN_
      refine z_iload_1 dX7_image_2 ?_
      refine z_sipush dX7_image_3 (by decide) ?_
      refine z_icmp_ge (tgt := 27) (by omega) (by decide) dX7_image_6 (by decide) (fun c6 => ?_) (fun c6 => ?_)
      · refine z_aload_0 dX7_image_27 ?_
        refine z_iconst dX7_image_28 ?_
        refine z_putZ (by first | omega | exact zb_01) fl_X7_319 zk_75 rfl dX7_image_29 ?_
        refine z_iconst dX7_image_32 ?_
        exact z_iret dX7_image_33 (zPI rfl (by rw [hN_, show i_ = 214 by omega]))
      · refine z_aload_0 dX7_image_9 ?_
        refine z_getR (r := 77) fl_X7_13 zk_75 rfl rfl dX7_image_10 ?_
        refine z_iload_1 dX7_image_13 ?_
        refine z_aload_0 dX7_image_14 ?_
        refine z_getR (r := 76) fl_X7_7 zk_75 rfl rfl dX7_image_15 ?_
        refine z_iload_1 dX7_image_18 ?_
        refine z_laldv (n := 214) (v := (M 76 i_)) zk_76 rfl (by omega) (by rw [hN_, zrow_ne (by decide)]) dX7_image_19 ?_
        refine z_last (n := 214) zk_77 rfl (by omega) dX7_image_20 ?_
        refine z_iinc_1 rfl dX7_image_21 ?_
        refine z_goto (tgt := 2) dX7_image_24 (by decide) ?_
        exact ih2 _ _ (by omega) (by omega) (by rw [hN_]; exact zfillA_10 hi_.1)
  have L2 : ∀ (i_ : Int) (N_ : zM), (0 ≤ i_ ∧ i_ ≤ 214) → (N_ = zrow M 77 (zfillA (M 76) (M 77) 0 i_)) → Z RX7 cX7_image 2 (some .int) 0 (zQ (PI 1 (zput (zrow M 77 (zfillA (M 76) (M 77) 0 214)) 75 2 1))) 2 [some (vR 75), some (vI i_)] [] (N_) := fun i_ N_ hi_ hN_ => K2 ((214 - i_).toNat + 1) i_ N_ (by omega) hi_ hN_
  exact L2 _ _ (by omega) (by exact zfillA_0M)

theorem c_X7_undo {M : zM} (hi : M 75 2 = 0 ∨ M 75 2 = 1) : Call yX7_undo cX7_undo 2 (some .int) 2 [vR 75] (M) (PI (if M 75 2 = 0 then -1000000004 else M 77 0) (if M 75 2 = 0 then fnd7 M 3 else zrow M 76 (zfillA (M 77) (M 76) 0 214))) := by
  refine Call.of2 (own := RX7) (lv0 := [some (vR 75), none]) rfl (by decide) rfl (Nat.le_of_ble_eq_true rfl) ?_
  refine z_aload_0 dX7_undo_0 ?_
  refine z_getI fl_X7_319 zk_75 rfl dX7_undo_1 ?_
  refine z_if_ne (tgt := 13) (by omega) dX7_undo_4 (by decide) (fun c4 => ?_) (fun c4 => ?_)
  · refine z_iconst dX7_undo_13 ?_
    refine z_istore_1 rfl dX7_undo_14 ?_
    have K15 : ∀ (fuel_ : Nat) (i_ : Int) (N_ : zM), 214 - i_ < (fuel_ : Int) → (0 ≤ i_ ∧ i_ ≤ 214) → (N_ = zrow M 76 (zfillA (M 77) (M 76) 0 i_)) → Z RX7 cX7_undo 2 (some .int) 2 (zQ (PI (if M 75 2 = 0 then -1000000004 else M 77 0) (if M 75 2 = 0 then fnd7 M 3 else zrow M 76 (zfillA (M 77) (M 76) 0 214)))) 15 [some (vR 75), some (vI i_)] [] (N_) := by
      intro fuel_
      induction fuel_ with
      | zero => intro i_ N_ hfuel_ hi_ hN_; exfalso; omega
      | succ fuel_ ih15 =>
        intro i_ N_ hfuel_ hi_ hN_
        refine z_iload_1 dX7_undo_15 ?_
        refine z_sipush dX7_undo_16 (by decide) ?_
        refine z_icmp_ge (tgt := 40) (by omega) (by decide) dX7_undo_19 (by decide) (fun c19 => ?_) (fun c19 => ?_)
        · refine z_aload_0 dX7_undo_40 ?_
          refine z_cVI yv_X7_today ml_X7_129 c_X7_today zk_75 rfl rfl (by decide) (Nat.le_of_ble_eq_true rfl) dX7_undo_41 ?_
          exact z_iret dX7_undo_44 (zPI (by rw [if_neg c4, hN_, zrow_eq]; unfold zfillA; rw [if_pos (by omega)]) (by rw [if_neg c4, hN_, show i_ = 214 by omega]))
        · refine z_aload_0 dX7_undo_22 ?_
          refine z_getR (r := 76) fl_X7_7 zk_75 rfl rfl dX7_undo_23 ?_
          refine z_iload_1 dX7_undo_26 ?_
          refine z_aload_0 dX7_undo_27 ?_
          refine z_getR (r := 77) fl_X7_13 zk_75 rfl rfl dX7_undo_28 ?_
          refine z_iload_1 dX7_undo_31 ?_
          refine z_laldv (n := 214) (v := (M 77 i_)) zk_77 rfl (by omega) (by rw [hN_, zrow_ne (by decide)]) dX7_undo_32 ?_
          refine z_last (n := 214) zk_76 rfl (by omega) dX7_undo_33 ?_
          refine z_iinc_1 rfl dX7_undo_34 ?_
          refine z_goto (tgt := 15) dX7_undo_37 (by decide) ?_
          exact ih15 _ _ (by omega) (by omega) (by rw [hN_]; exact zfillA_10 hi_.1)
    have L15 : ∀ (i_ : Int) (N_ : zM), (0 ≤ i_ ∧ i_ ≤ 214) → (N_ = zrow M 76 (zfillA (M 77) (M 76) 0 i_)) → Z RX7 cX7_undo 2 (some .int) 2 (zQ (PI (if M 75 2 = 0 then -1000000004 else M 77 0) (if M 75 2 = 0 then fnd7 M 3 else zrow M 76 (zfillA (M 77) (M 76) 0 214)))) 15 [some (vR 75), some (vI i_)] [] (N_) := fun i_ N_ hi_ hN_ => K15 ((214 - i_).toNat + 1) i_ N_ (by omega) hi_ hN_
    exact L15 _ _ (by omega) (by exact zfillA_0M)
  · refine z_aload_0 dX7_undo_7 ?_
    refine z_iconst dX7_undo_8 ?_
    refine z_cVI yv_X7_finding ml_X7_93 (c_X7_finding (by omega)) zk_75 rfl rfl (by decide) (Nat.le_of_ble_eq_true rfl) dX7_undo_9 ?_
    exact z_iret dX7_undo_12 (zPI (by rw [if_pos c4] <;> rfl) (by rw [if_pos c4]))

theorem c_X7_status {M : zM} {a_ : Int} (ha : -2147483648 ≤ a_ ∧ a_ < 2147483648) : Call yX7_status cX7_status 4 (some .int) 1 [vR 75, vI a_] (M) (PI (if -1 ≤ a_ ∧ a_ ≤ 6 then stS (M 78) a_ 7 else -1000000001) (if -1 ≤ a_ ∧ a_ ≤ 6 then M else fnd7 M 0)) := by
  refine Call.of2 (own := RX7) (lv0 := [some (vR 75), some (vI a_), none, none]) rfl (by decide) rfl (Nat.le_of_ble_eq_true rfl) ?_
  refine z_iload_1 dX7_status_0 ?_
  refine z_i2l (by omega) dX7_status_1 ?_
  refine z_ldc2 (n := -1) kl_X7_322 (by decide) dX7_status_2 ?_
  refine z_ldc2 (n := 6) kl_X7_154 (by decide) dX7_status_5 ?_
  refine z_cSI ys_X7_in ml_X7_85 (c_X7_in (by omega) (by decide) (by decide)) rfl rfl (by decide) (Nat.le_of_ble_eq_true rfl) dX7_status_8 ?_
  refine z_ifb_ne (tgt := 20) dX7_status_11 (by decide) (fun c11 => ?_) (fun c11 => ?_)
  · refine z_iconst dX7_status_20 ?_
    refine z_istore_2 rfl dX7_status_21 ?_
    refine z_iconst dX7_status_22 ?_
    refine z_istore_3 rfl dX7_status_23 ?_
    have K24 : ∀ (fuel_ : Nat) (t_ : Int) (i_ : Int), 7 - i_ < (fuel_ : Int) → (0 ≤ i_ ∧ i_ ≤ 7) → (t_ = stS (M 78) a_ i_.toNat) → Z RX7 cX7_status 4 (some .int) 1 (zQ (PI (if -1 ≤ a_ ∧ a_ ≤ 6 then stS (M 78) a_ 7 else -1000000001) (if -1 ≤ a_ ∧ a_ ≤ 6 then M else fnd7 M 0))) 24 [some (vR 75), some (vI a_), some (vI t_), some (vI i_)] [] (M) := by
      intro fuel_
      induction fuel_ with
      | zero => intro t_ i_ hfuel_ hi_ ha_; exfalso; omega
      | succ fuel_ ih24 =>
        intro t_ i_ hfuel_ hi_ ha_
        refine z_iload_3 dX7_status_24 ?_
        refine z_bipush dX7_status_25 (by decide) ?_
        refine z_icmp_ge (tgt := 59) (by omega) (by decide) dX7_status_27 (by decide) (fun c27 => ?_) (fun c27 => ?_)
        · refine z_iload_2 dX7_status_59 ?_
          exact z_iret dX7_status_60 (zPI (by rw [if_pos (by omega), ha_, show i_ = 7 by omega]; rfl) (by rw [if_pos (by omega)]))
        · refine z_iload_2 dX7_status_30 ?_
          refine z_iload_1 dX7_status_31 ?_
          refine z_iconst dX7_status_32 ?_
          refine z_icmp_eq (tgt := 41) (by omega) (by decide) dX7_status_33 (by decide) (fun c33 => ?_) (fun c33 => ?_)
          · refine z_aload_0 dX7_status_41 ?_
            refine z_getR (r := 78) fl_X7_16 zk_75 rfl rfl dX7_status_42 ?_
            refine z_iload_3 dX7_status_45 ?_
            refine z_iald (n := 7) zk_78 rfl (by omega) dX7_status_46 ?_
            refine z_goto (tgt := 51) dX7_status_47 (by decide) ?_
            refine z_iadd dX7_status_51 ?_
            refine z_istore_2 rfl dX7_status_52 ?_
            refine z_iinc_3 rfl dX7_status_53 ?_
            refine z_goto (tgt := 24) dX7_status_56 (by decide) ?_
            exact ih24 _ _ (by omega) (by omega) (by rw [nat_1 hi_.1, stS, Int.toNat_of_nonneg hi_.1, ha_]; first | (rw [if_pos (by omega)]; done) | (rw [if_neg (by omega)]; done))
          · refine z_iload_1 dX7_status_36 ?_
            refine z_iload_3 dX7_status_37 ?_
            refine z_icmp_ne (tgt := 50) (by omega) (by omega) dX7_status_38 (by decide) (fun c38 => ?_) (fun c38 => ?_)
            · refine z_iconst dX7_status_50 ?_
              refine z_iadd dX7_status_51 ?_
              refine z_istore_2 rfl dX7_status_52 ?_
              refine z_iinc_3 rfl dX7_status_53 ?_
              refine z_goto (tgt := 24) dX7_status_56 (by decide) ?_
              exact ih24 _ _ (by omega) (by omega) (by rw [nat_1 hi_.1, stS, Int.toNat_of_nonneg hi_.1, ha_]; first | (rw [if_pos (by omega)]; done) | (rw [if_neg (by omega)]; done))
            · refine z_aload_0 dX7_status_41 ?_
              refine z_getR (r := 78) fl_X7_16 zk_75 rfl rfl dX7_status_42 ?_
              refine z_iload_3 dX7_status_45 ?_
              refine z_iald (n := 7) zk_78 rfl (by omega) dX7_status_46 ?_
              refine z_goto (tgt := 51) dX7_status_47 (by decide) ?_
              refine z_iadd dX7_status_51 ?_
              refine z_istore_2 rfl dX7_status_52 ?_
              refine z_iinc_3 rfl dX7_status_53 ?_
              refine z_goto (tgt := 24) dX7_status_56 (by decide) ?_
              exact ih24 _ _ (by omega) (by omega) (by rw [nat_1 hi_.1, stS, Int.toNat_of_nonneg hi_.1, ha_]; first | (rw [if_pos (by omega)]; done) | (rw [if_neg (by omega)]; done))
    have L24 : ∀ (t_ : Int) (i_ : Int), (0 ≤ i_ ∧ i_ ≤ 7) → (t_ = stS (M 78) a_ i_.toNat) → Z RX7 cX7_status 4 (some .int) 1 (zQ (PI (if -1 ≤ a_ ∧ a_ ≤ 6 then stS (M 78) a_ 7 else -1000000001) (if -1 ≤ a_ ∧ a_ ≤ 6 then M else fnd7 M 0))) 24 [some (vR 75), some (vI a_), some (vI t_), some (vI i_)] [] (M) := fun t_ i_ hi_ ha_ => K24 ((7 - i_).toNat + 1) t_ i_ (by omega) hi_ ha_
    exact L24 _ _ (by omega) (by rfl)
  · refine z_aload_0 dX7_status_14 ?_
    refine z_iconst dX7_status_15 ?_
    refine z_cVI yv_X7_finding ml_X7_93 (c_X7_finding (by omega)) zk_75 rfl rfl (by decide) (Nat.le_of_ble_eq_true rfl) dX7_status_16 ?_
    exact z_iret dX7_status_19 (zPI (by (repeat (first | rw [if_pos (by omega)] | rw [if_neg (by omega)])) <;> rfl) (by (repeat (first | rw [if_pos (by omega)] | rw [if_neg (by omega)])) <;> rfl))

theorem c_X7_count {M : zM} {a_ : Int} (hn : SN (M 76)) (ht : 0 ≤ M 76 0 ∧ M 76 0 ≤ 2000) (ha : -2147483648 ≤ a_ ∧ a_ < 2147483648) (hr : -9223372036854775808 ≤ M 76 11 ∧ M 76 11 < 9223372036854775808) : Call yX7_count cX7_count 4 (some .int) 4 [vR 75, vI a_] (M) (PI (if a_ = 0 then M 76 10 else if a_ = 1 then openC (gS (M 76)) (M 76 0) (M 76 10).toNat else if a_ = 2 then looksC (gS (M 76)) (M 76 10).toNat else if a_ = 3 then (if 0 < M 76 11 then 1 else 0) else if a_ = 4 then M 75 5 else if a_ = 5 then nextC (gS (M 76)) (M 76 0) (M 76 10).toNat else -1000000001) (if 0 ≤ a_ ∧ a_ ≤ 5 then M else fnd7 M 0)) := by
  refine Call.of2 (own := RX7) (lv0 := [some (vR 75), some (vI a_), none, none]) rfl (by decide) rfl (Nat.le_of_ble_eq_true rfl) ?_
  have hn1_ := hn.1
  refine z_iload_1 dX7_count_0 ?_
  rcases (show (a_ < 0 ∨ 5 < a_) ∨ a_ = 0 ∨ a_ = 1 ∨ a_ = 2 ∨ a_ = 3 ∨ a_ = 4 ∨ a_ = 5 from by omega) with c1 | c1 | c1 | c1 | c1 | c1 | c1
  · refine z_tsOut (tgt := 119) (by omega) dX7_count_1 c1 (by decide) ?_
    refine z_aload_0 dX7_count_119 ?_
    refine z_iconst dX7_count_120 ?_
    refine z_cVI yv_X7_finding ml_X7_93 (c_X7_finding (by omega)) zk_75 rfl rfl (by decide) (Nat.le_of_ble_eq_true rfl) dX7_count_121 ?_
    exact z_iret dX7_count_124 (zPI (by (repeat (first | rw [if_pos (by omega)] | rw [if_neg (by omega)])) <;> rfl) (by (repeat (first | rw [if_pos (by omega)] | rw [if_neg (by omega)])) <;> rfl))
  · refine z_tsIn (off := 39) (tgt := 40) (by omega) dX7_count_1 (by omega) (by omega) (by rw [c1]; rfl) (by decide) ?_
    refine z_aload_0 dX7_count_40 ?_
    refine z_bipush dX7_count_41 (by decide) ?_
    refine z_cVI yv_X7_its ml_X7_71 (c_X7_its (by omega)) zk_75 rfl rfl (by decide) (Nat.le_of_ble_eq_true rfl) dX7_count_43 ?_
    exact z_iret dX7_count_46 (zPI (by (repeat (first | rw [if_pos (by omega)] | rw [if_neg (by omega)])) <;> rfl) (by (repeat (first | rw [if_pos (by omega)] | rw [if_neg (by omega)])) <;> rfl))
  · refine z_tsIn (off := 46) (tgt := 47) (by omega) dX7_count_1 (by omega) (by omega) (by rw [c1]; rfl) (by decide) ?_
    refine z_aload_0 dX7_count_47 ?_
    refine z_aload_0 dX7_count_48 ?_
    refine z_cVI yv_X7_today ml_X7_129 c_X7_today zk_75 rfl rfl (by decide) (Nat.le_of_ble_eq_true rfl) dX7_count_49 ?_
    refine z_cVI yv_X7_openMany ml_X7_242 (c_X7_openMany hn (by omega)) zk_75 rfl rfl (by decide) (Nat.le_of_ble_eq_true rfl) dX7_count_52 ?_
    exact z_iret dX7_count_55 (zPI (by (repeat (first | rw [if_pos (by omega)] | rw [if_neg (by omega)])) <;> rfl) (by (repeat (first | rw [if_pos (by omega)] | rw [if_neg (by omega)])) <;> rfl))
  · refine z_tsIn (off := 55) (tgt := 56) (by omega) dX7_count_1 (by omega) (by omega) (by rw [c1]; rfl) (by decide) ?_
    refine z_iconst dX7_count_56 ?_
    refine z_istore_2 rfl dX7_count_57 ?_
    refine z_iconst dX7_count_58 ?_
    refine z_istore_3 rfl dX7_count_59 ?_
    have K60 : ∀ (fuel_ : Nat) (t_ : Int) (i_ : Int), M 76 10 - i_ < (fuel_ : Int) → (0 ≤ i_ ∧ i_ ≤ M 76 10) → (t_ = looksC (gS (M 76)) i_.toNat) → Z RX7 cX7_count 4 (some .int) 4 (zQ (PI (if a_ = 0 then M 76 10 else if a_ = 1 then openC (gS (M 76)) (M 76 0) (M 76 10).toNat else if a_ = 2 then looksC (gS (M 76)) (M 76 10).toNat else if a_ = 3 then (if 0 < M 76 11 then 1 else 0) else if a_ = 4 then M 75 5 else if a_ = 5 then nextC (gS (M 76)) (M 76 0) (M 76 10).toNat else -1000000001) (if 0 ≤ a_ ∧ a_ ≤ 5 then M else fnd7 M 0))) 60 [some (vR 75), some (vI a_), some (vI t_), some (vI i_)] [] (M) := by
      intro fuel_
      induction fuel_ with
      | zero => intro t_ i_ hfuel_ hi_ ha_; exfalso; omega
      | succ fuel_ ih60 =>
        intro t_ i_ hfuel_ hi_ ha_
        refine z_iload_3 dX7_count_60 ?_
        refine z_aload_0 dX7_count_61 ?_
        refine z_bipush dX7_count_62 (by decide) ?_
        refine z_cVI yv_X7_its ml_X7_71 (c_X7_its (by omega)) zk_75 rfl rfl (by decide) (Nat.le_of_ble_eq_true rfl) dX7_count_64 ?_
        refine z_icmp_ge (tgt := 85) (by omega) (by omega) dX7_count_67 (by decide) (fun c67 => ?_) (fun c67 => ?_)
        · refine z_iload_2 dX7_count_85 ?_
          exact z_iret dX7_count_86 (zPI (by (repeat (first | rw [if_pos (by omega)] | rw [if_neg (by omega)])); rw [ha_, show i_ = M 76 10 by omega]) (by rw [if_pos (by omega)]))
        · refine z_iload_2 dX7_count_70 ?_
          refine z_aload_0 dX7_count_71 ?_
          refine z_iload_3 dX7_count_72 ?_
          refine z_iconst dX7_count_73 ?_
          refine z_cVI yv_X7_of1 ml_X7_147 (c_X7_of1 (by omega) (by omega)) zk_75 rfl rfl (by decide) (Nat.le_of_ble_eq_true rfl) dX7_count_74 ?_
          refine z_iadd dX7_count_77 ?_
          refine z_istore_2 rfl dX7_count_78 ?_
          refine z_iinc_3 rfl dX7_count_79 ?_
          refine z_goto (tgt := 60) dX7_count_82 (by decide) ?_
          exact ih60 _ _ (by omega) (by omega) (by rw [looksC_1 (by omega), ha_, gS_i (by omega)])
    have L60 : ∀ (t_ : Int) (i_ : Int), (0 ≤ i_ ∧ i_ ≤ M 76 10) → (t_ = looksC (gS (M 76)) i_.toNat) → Z RX7 cX7_count 4 (some .int) 4 (zQ (PI (if a_ = 0 then M 76 10 else if a_ = 1 then openC (gS (M 76)) (M 76 0) (M 76 10).toNat else if a_ = 2 then looksC (gS (M 76)) (M 76 10).toNat else if a_ = 3 then (if 0 < M 76 11 then 1 else 0) else if a_ = 4 then M 75 5 else if a_ = 5 then nextC (gS (M 76)) (M 76 0) (M 76 10).toNat else -1000000001) (if 0 ≤ a_ ∧ a_ ≤ 5 then M else fnd7 M 0))) 60 [some (vR 75), some (vI a_), some (vI t_), some (vI i_)] [] (M) := fun t_ i_ hi_ ha_ => K60 ((M 76 10 - i_).toNat + 1) t_ i_ (by omega) hi_ ha_
    exact L60 _ _ (by omega) (by rfl)
  · refine z_tsIn (off := 86) (tgt := 87) (by omega) dX7_count_1 (by omega) (by omega) (by rw [c1]; rfl) (by decide) ?_
    refine z_aload_0 dX7_count_87 ?_
    refine z_getR (r := 76) fl_X7_7 zk_75 rfl rfl dX7_count_88 ?_
    refine z_bipush dX7_count_91 (by decide) ?_
    refine z_lald (n := 214) zk_76 rfl (by omega) dX7_count_93 ?_
    refine z_lconst0 dX7_count_94 ?_
    refine z_lcmp_le (tgt := 103) (by omega) (by decide) dX7_count_95 dX7_count_96 (by decide) (fun c95 => ?_) (fun c95 => ?_)
    · refine z_iconst dX7_count_103 ?_
      exact z_iret dX7_count_104 (zPI (by (repeat (first | rw [if_pos (by omega)] | rw [if_neg (by omega)])) <;> rfl) (by (repeat (first | rw [if_pos (by omega)] | rw [if_neg (by omega)])) <;> rfl))
    · refine z_iconst dX7_count_99 ?_
      refine z_goto (tgt := 104) dX7_count_100 (by decide) ?_
      exact z_iret dX7_count_104 (zPI (by (repeat (first | rw [if_pos (by omega)] | rw [if_neg (by omega)])) <;> rfl) (by (repeat (first | rw [if_pos (by omega)] | rw [if_neg (by omega)])) <;> rfl))
  · refine z_tsIn (off := 104) (tgt := 105) (by omega) dX7_count_1 (by omega) (by omega) (by rw [c1]; rfl) (by decide) ?_
    refine z_aload_0 dX7_count_105 ?_
    refine z_getI fl_X7_188 zk_75 rfl dX7_count_106 ?_
    exact z_iret dX7_count_109 (zPI (by (repeat (first | rw [if_pos (by omega)] | rw [if_neg (by omega)])) <;> rfl) (by (repeat (first | rw [if_pos (by omega)] | rw [if_neg (by omega)])) <;> rfl))
  · refine z_tsIn (off := 109) (tgt := 110) (by omega) dX7_count_1 (by omega) (by omega) (by rw [c1]; rfl) (by decide) ?_
    refine z_aload_0 dX7_count_110 ?_
    refine z_aload_0 dX7_count_111 ?_
    refine z_cVI yv_X7_today ml_X7_129 c_X7_today zk_75 rfl rfl (by decide) (Nat.le_of_ble_eq_true rfl) dX7_count_112 ?_
    refine z_cVI yv_X7_nextDay ml_X7_239 (c_X7_nextDay hn (by omega)) zk_75 rfl rfl (by decide) (Nat.le_of_ble_eq_true rfl) dX7_count_115 ?_
    exact z_iret dX7_count_118 (zPI (by (repeat (first | rw [if_pos (by omega)] | rw [if_neg (by omega)])) <;> rfl) (by (repeat (first | rw [if_pos (by omega)] | rw [if_neg (by omega)])) <;> rfl))

theorem c_X7_moveAt {M : zM} {k_ : Int} (hk : 0 ≤ k_ ∧ k_ ≤ 1000) : Call yX7_moveAt cX7_moveAt 1 (some .int) 0 [vI k_] (M) (PI (if k_ % 2 = 1 then -((k_ + 1) / 2) else k_ / 2) M) := by
  refine Call.of2 (own := RX7) (lv0 := [some (vI k_)]) rfl (by decide) rfl (Nat.le_of_ble_eq_true rfl) ?_
  refine z_iload_0 dX7_moveAt_0 ?_
  refine z_iconst dX7_moveAt_1 ?_
  refine z_iremp (by omega) (by decide) dX7_moveAt_2 ?_
  refine z_iconst dX7_moveAt_3 ?_
  refine z_icmp_ne (tgt := 16) (by omega) (by decide) dX7_moveAt_4 (by decide) (fun c4 => ?_) (fun c4 => ?_)
  · refine z_iload_0 dX7_moveAt_16 ?_
    refine z_iconst dX7_moveAt_17 ?_
    refine z_idivp (by omega) (by decide) dX7_moveAt_18 ?_
    exact z_iret dX7_moveAt_19 (zPI (by first | (rw [if_pos (by omega), Int.neg_tdiv, Int.tdiv_eq_ediv_of_nonneg (by omega)]; done) | (rw [if_neg (by omega)]; done)) rfl)
  · refine z_iload_0 dX7_moveAt_7 ?_
    refine z_iconst dX7_moveAt_8 ?_
    refine z_iadd dX7_moveAt_9 ?_
    refine z_ineg dX7_moveAt_10 ?_
    refine z_iconst dX7_moveAt_11 ?_
    refine z_idiv (by omega) (by omega) (by omega) dX7_moveAt_12 ?_
    refine z_goto (tgt := 19) dX7_moveAt_13 (by decide) ?_
    exact z_iret dX7_moveAt_19 (zPI (by first | (rw [if_pos (by omega), Int.neg_tdiv, Int.tdiv_eq_ediv_of_nonneg (by omega)]; done) | (rw [if_neg (by omega)]; done)) rfl)
