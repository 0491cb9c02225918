theorem tellS_le {c s : Int} (hc : 0 ≤ c ∧ c ≤ 1000000) (hs : 0 ≤ s ∧ s ≤ 100) : 0 ≤ tellS c s ∧ tellS c s ≤ 1000000 := by
  have h1 := Int.mul_nonneg hc.1 hs.1
  have h2 := Int.mul_nonneg (show 0 ≤ 1000000 - c by omega) (show 0 ≤ 100 - s by omega)
  have h3 : c * s ≤ c * 100 := Int.mul_le_mul_of_nonneg_left hs.2 hc.1
  have h4 : (1000000 - c) * (100 - s) ≤ (1000000 - c) * 100 := Int.mul_le_mul_of_nonneg_left (by omega) (by omega)
  unfold tellS
  omega
theorem c_X7_best {M : zM} {n_ a_ : Int} (hn : SN (M 76)) (hp : pOK (pS (M 76))) (hh : -12 ≤ M 76 1 ∧ M 76 1 ≤ 12) (ht : 0 ≤ M 76 0 ∧ M 76 0 ≤ 2000) (hnr : -2147483648 ≤ n_ ∧ n_ < 2147483648) (ha : -2147483648 ≤ a_ ∧ a_ < 2147483648) : Call yX7_best cX7_best 7 (some .long) 7 [vR 75, vI n_, vI a_] (M) (RJ (if ((1 ≤ n_ ∧ n_ ≤ 8) ∧ (0 ≤ a_ ∧ a_ ≤ 3)) then bestA (GW (pS (M 76)) (M 76 10).toNat (gS (M 76)) (M 76 0 + n_)) n_.toNat (M 76 1 + 12) (lefF (pS (M 76)) (M 76 7)) (M 76 2) a_ else -1000000001) (fun N => out86 N (if ((1 ≤ n_ ∧ n_ ≤ 8) ∧ (0 ≤ a_ ∧ a_ ≤ 3)) then M else fnd7 M 0))) := by
  refine Call.of2 (own := RX7) (lv0 := [some (vR 75), some (vI n_), some (vI a_), none, none, none, none]) rfl (by decide) rfl (Nat.le_of_ble_eq_true rfl) ?_
  obtain ⟨⟨p00, p01⟩, ⟨p10, p11⟩, ⟨p20, p21⟩, ⟨p30, p31⟩, ⟨p40, p41⟩, ⟨p50, p51⟩⟩ := pOK_s hp
  refine z_iload_1 dX7_best_0 ?_
  refine z_cSI ys_X7_isAhead ml_X7_270 (c_X7_isAhead (by omega)) rfl rfl (by decide) (Nat.le_of_ble_eq_true rfl) dX7_best_1 ?_
  refine z_ifb_eq (tgt := 19) dX7_best_4 (by decide) (fun c4 => ?_) (fun c4 => ?_)
  · refine z_aload_0 dX7_best_19 ?_
    refine z_iconst dX7_best_20 ?_
    refine z_cVI yv_X7_finding ml_X7_93 (c_X7_finding (by omega)) zk_75 rfl rfl (by decide) (Nat.le_of_ble_eq_true rfl) dX7_best_21 ?_
    refine z_i2l (by omega) dX7_best_24 ?_
    exact z_lret dX7_best_25 (zRJ (by rw [if_neg (by omega)] <;> rfl) (by rw [if_neg (by omega)]; exact out86_rf))
  · refine z_iload_2 dX7_best_7 ?_
    refine z_i2l (by omega) dX7_best_8 ?_
    refine z_lconst0 dX7_best_9 ?_
    refine z_ldc2 (n := 3) kl_X7_273 (by decide) dX7_best_10 ?_
    refine z_cSI ys_X7_in ml_X7_85 (c_X7_in (by omega) (by decide) (by decide)) rfl rfl (by decide) (Nat.le_of_ble_eq_true rfl) dX7_best_13 ?_
    refine z_ifb_ne (tgt := 26) dX7_best_16 (by decide) (fun c16 => ?_) (fun c16 => ?_)
    · refine z_aload_0 dX7_best_26 ?_
      refine z_iload_1 dX7_best_27 ?_
      refine z_rVJ yv_X7_bestWorth ml_X7_275 (c_X7_bestWorth hn hp hh ht (by omega)) zk_75 rfl rfl (by decide) (Nat.le_of_ble_eq_true rfl) dX7_best_28 (fun N_ hN_ => ?_)
      have t76_ : N_ 76 = M 76 := out86_76 hN_.1
      have hx_ := hN_.2 n_ (M 76 1) (M 76 7) (by omega) (Or.inl (by omega)) (by omega) (by omega)
      have hR2_ : RfL N_ (GW (pS (M 76)) (M 76 10).toNat (gS (M 76)) (M 76 0 + n_)) (pS (N_ 76)) (n_ + 1) 0 := by rw [t76_]; exact hN_.2
      have hB_ := lefF_le (f := M 76 7) hp (by omega)
      have hbs_ := bst_s (G := (GW (pS (M 76)) (M 76 10).toNat (gS (M 76)) (M 76 0 + n_))) n_.toNat (M 76 1 + 12) (lefF (pS (M 76)) (M 76 7)) (by omega) hB_.1
      have hbx_ : 0 ≤ M 76 2 * (bst (GW (pS (M 76)) (M 76 10).toNat (gS (M 76)) (M 76 0 + n_)) n_.toNat (M 76 1 + 12) (lefF (pS (M 76)) (M 76 7))).2 ∧ M 76 2 * (bst (GW (pS (M 76)) (M 76 10).toNat (gS (M 76)) (M 76 0 + n_)) n_.toNat (M 76 1 + 12) (lefF (pS (M 76)) (M 76 7))).2 ≤ 9 * 60 := mul_box (by omega) p01 hbs_.1 (by omega)
      have hmv_ : ∀ i_ : Nat, -24 ≤ (pmv (GW (pS (M 76)) (M 76 10).toNat (gS (M 76)) (M 76 0 + n_)) n_.toNat (M 76 1 + 12) (lefF (pS (M 76)) (M 76 7)) i_) ∧ (pmv (GW (pS (M 76)) (M 76 10).toNat (gS (M 76)) (M 76 0 + n_)) n_.toNat (M 76 1 + 12) (lefF (pS (M 76)) (M 76 7)) i_) ≤ 24 := fun i_ => pmv_le (by omega) hB_.1
      have hmc_ := pmc_le (G := (GW (pS (M 76)) (M 76 10).toNat (gS (M 76)) (M 76 0 + n_))) (n := n_.toNat) (p := (M 76 1 + 12)) (l := (lefF (pS (M 76)) (M 76 7))) n_.toNat
      refine z_lstore_3 rfl dX7_best_31 ?_
      refine z_iconst dX7_best_32 ?_
      refine z_istore_5 rfl dX7_best_33 ?_
      refine z_iconst dX7_best_35 ?_
      refine z_istore_6 rfl dX7_best_36 ?_
      have K38 : ∀ (fuel_ : Nat) (c_ : Int) (i_ : Int), n_ - i_ < (fuel_ : Int) → (0 ≤ i_ ∧ i_ ≤ n_) → (c_ = (pmc (GW (pS (M 76)) (M 76 10).toNat (gS (M 76)) (M 76 0 + n_)) n_.toNat (M 76 1 + 12) (lefF (pS (M 76)) (M 76 7)) i_.toNat)) → Z RX7 cX7_best 7 (some .long) 7 (zQ (RJ (if ((1 ≤ n_ ∧ n_ ≤ 8) ∧ (0 ≤ a_ ∧ a_ ≤ 3)) then bestA (GW (pS (M 76)) (M 76 10).toNat (gS (M 76)) (M 76 0 + n_)) n_.toNat (M 76 1 + 12) (lefF (pS (M 76)) (M 76 7)) (M 76 2) a_ else -1000000001) (fun N => out86 N (if ((1 ≤ n_ ∧ n_ ≤ 8) ∧ (0 ≤ a_ ∧ a_ ≤ 3)) then M else fnd7 M 0)))) 38 [some (vR 75), some (vI n_), some (vI a_), some (vJ ((bst (GW (pS (M 76)) (M 76 10).toNat (gS (M 76)) (M 76 0 + n_)) n_.toNat (M 76 1 + 12) (lefF (pS (M 76)) (M 76 7))).1)), none, some (vI c_), some (vI i_)] [] (N_) := by
        intro fuel_
        induction fuel_ with
        | zero => intro c_ i_ hfuel_ hi_ hc_; exfalso; omega
        | succ fuel_ ih38 =>
          intro c_ i_ hfuel_ hi_ hc_
          refine z_iload_6 dX7_best_38 ?_
          refine z_iload_1 dX7_best_40 ?_
          refine z_icmp_ge (tgt := 70) (by omega) (by omega) dX7_best_41 (by decide) (fun c41 => ?_) (fun c41 => ?_)
          · have hc2_ : c_ = (pmc (GW (pS (M 76)) (M 76 10).toNat (gS (M 76)) (M 76 0 + n_)) n_.toNat (M 76 1 + 12) (lefF (pS (M 76)) (M 76 7)) n_.toNat) := by rw [hc_, show i_ = n_ by omega]
            refine z_iload_2 dX7_best_70 ?_
            refine z_if_ne (tgt := 78) (by omega) dX7_best_71 (by decide) (fun c71 => ?_) (fun c71 => ?_)
            · refine z_iload_2 dX7_best_78 ?_
              refine z_iconst dX7_best_79 ?_
              refine z_icmp_ne (tgt := 104) (by omega) (by decide) dX7_best_80 (by decide) (fun c80 => ?_) (fun c80 => ?_)
              · refine z_iload_2 dX7_best_104 ?_
                refine z_iconst dX7_best_105 ?_
                refine z_icmp_ne (tgt := 115) (by omega) (by decide) dX7_best_106 (by decide) (fun c106 => ?_) (fun c106 => ?_)
                · refine z_aload_0 dX7_best_115 ?_
                  refine z_iload_1 dX7_best_116 ?_
                  refine z_iconst dX7_best_117 ?_
                  refine z_cVI yv_X7_moveOf ml_X7_278 (c_X7_moveOf (M := N_) (G := (GW (pS (M 76)) (M 76 10).toNat (gS (M 76)) (M 76 0 + n_))) (by rw [t76_]; exact hp) (by rw [t76_]; exact hh) (by omega) (by omega) hR2_) zk_75 rfl rfl (by decide) (Nat.le_of_ble_eq_true rfl) dX7_best_118 ?_
                  rw [t76_]
                  refine z_topI (show _ = (pmv (GW (pS (M 76)) (M 76 10).toNat (gS (M 76)) (M 76 0 + n_)) n_.toNat (M 76 1 + 12) (lefF (pS (M 76)) (M 76 7)) 0) from rfl) ?_
                  have hm0_ := hmv_ 0
                  refine z_i2l (by omega) dX7_best_121 ?_
                  exact z_lret dX7_best_122 (zRJ (by rw [if_pos (by omega)]; unfold bestA; first | (rw [if_pos (by omega)]; done) | (rw [if_neg (by omega), if_pos (by omega)]; done) | (rw [if_neg (by omega), if_neg (by omega), if_pos (by omega)]; exact hc2_) | (rw [if_neg (by omega), if_neg (by omega), if_neg (by omega)]; done)) (by rw [if_pos (by omega)]; exact hN_.1))
                · refine z_iload_5 dX7_best_109 ?_
                  refine z_i2l (by omega) dX7_best_111 ?_
                  refine z_goto (tgt := 122) dX7_best_112 (by decide) ?_
                  exact z_lret dX7_best_122 (zRJ (by rw [if_pos (by omega)]; unfold bestA; first | (rw [if_pos (by omega)]; done) | (rw [if_neg (by omega), if_pos (by omega)]; done) | (rw [if_neg (by omega), if_neg (by omega), if_pos (by omega)]; exact hc2_) | (rw [if_neg (by omega), if_neg (by omega), if_neg (by omega)]; done)) (by rw [if_pos (by omega)]; exact hN_.1))
              · refine z_aload_0 dX7_best_83 ?_
                refine z_getR (r := 84) fl_X7_35 zk_75 rfl rfl dX7_best_84 ?_
                refine z_iload_1 dX7_best_87 ?_
                refine z_aload_0 dX7_best_88 ?_
                refine z_cVI yv_X7_height ml_X7_111 c_X7_height zk_75 rfl rfl (by decide) (Nat.le_of_ble_eq_true rfl) dX7_best_89 ?_
                rw [t76_]
                refine z_aload_0 dX7_best_92 ?_
                refine z_cVI yv_X7_fuel ml_X7_115 c_X7_fuel zk_75 rfl rfl (by decide) (Nat.le_of_ble_eq_true rfl) dX7_best_93 ?_
                rw [t76_]
                refine z_cSI ys_X7_place ml_X7_259 c_X7_place rfl rfl (by decide) (Nat.le_of_ble_eq_true rfl) dX7_best_96 ?_
                refine z_ialdv (n := 13725) (v := (M 76 2 * (bst (GW (pS (M 76)) (M 76 10).toNat (gS (M 76)) (M 76 0 + n_)) n_.toNat (M 76 1 + 12) (lefF (pS (M 76)) (M 76 7))).2)) zk_84 rfl (by omega) (hx_.2.1) dX7_best_99 ?_
                refine z_i2l (by omega) dX7_best_100 ?_
                refine z_goto (tgt := 122) dX7_best_101 (by decide) ?_
                exact z_lret dX7_best_122 (zRJ (by rw [if_pos (by omega)]; unfold bestA; first | (rw [if_pos (by omega)]; done) | (rw [if_neg (by omega), if_pos (by omega)]; done) | (rw [if_neg (by omega), if_neg (by omega), if_pos (by omega)]; exact hc2_) | (rw [if_neg (by omega), if_neg (by omega), if_neg (by omega)]; done)) (by rw [if_pos (by omega)]; exact hN_.1))
            · refine z_lload_3 dX7_best_74 ?_
              refine z_goto (tgt := 122) dX7_best_75 (by decide) ?_
              exact z_lret dX7_best_122 (zRJ (by rw [if_pos (by omega)]; unfold bestA; first | (rw [if_pos (by omega)]; done) | (rw [if_neg (by omega), if_pos (by omega)]; done) | (rw [if_neg (by omega), if_neg (by omega), if_pos (by omega)]; exact hc2_) | (rw [if_neg (by omega), if_neg (by omega), if_neg (by omega)]; done)) (by rw [if_pos (by omega)]; exact hN_.1))
          · refine z_iload_5 dX7_best_44 ?_
            refine z_aload_0 dX7_best_46 ?_
            refine z_iload_1 dX7_best_47 ?_
            refine z_iload_6 dX7_best_48 ?_
            refine z_cVI yv_X7_moveOf ml_X7_278 (c_X7_moveOf (M := N_) (G := (GW (pS (M 76)) (M 76 10).toNat (gS (M 76)) (M 76 0 + n_))) (by rw [t76_]; exact hp) (by rw [t76_]; exact hh) (by omega) (by omega) hR2_) zk_75 rfl rfl (by decide) (Nat.le_of_ble_eq_true rfl) dX7_best_50 ?_
            rw [t76_]
            have hm0_ := hmv_ i_.toNat
            refine z_if_ne (tgt := 60) (by omega) dX7_best_53 (by decide) (fun c53 => ?_) (fun c53 => ?_)
            · refine z_iconst dX7_best_60 ?_
              refine z_iadd dX7_best_61 ?_
              refine z_istore_5 rfl dX7_best_62 ?_
              refine z_iinc_6 rfl dX7_best_64 ?_
              refine z_goto (tgt := 38) dX7_best_67 (by decide) ?_
              exact ih38 _ _ (by omega) (by omega) (by rw [nat_1 hi_.1, pmc, hc_]; first | (rw [if_pos (by omega)]; done) | (rw [if_neg (by omega)]; done))
            · refine z_iconst dX7_best_56 ?_
              refine z_goto (tgt := 61) dX7_best_57 (by decide) ?_
              refine z_iadd dX7_best_61 ?_
              refine z_istore_5 rfl dX7_best_62 ?_
              refine z_iinc_6 rfl dX7_best_64 ?_
              refine z_goto (tgt := 38) dX7_best_67 (by decide) ?_
              exact ih38 _ _ (by omega) (by omega) (by rw [nat_1 hi_.1, pmc, hc_]; first | (rw [if_pos (by omega)]; done) | (rw [if_neg (by omega)]; done))
      have L38 : ∀ (c_ : Int) (i_ : Int), (0 ≤ i_ ∧ i_ ≤ n_) → (c_ = (pmc (GW (pS (M 76)) (M 76 10).toNat (gS (M 76)) (M 76 0 + n_)) n_.toNat (M 76 1 + 12) (lefF (pS (M 76)) (M 76 7)) i_.toNat)) → Z RX7 cX7_best 7 (some .long) 7 (zQ (RJ (if ((1 ≤ n_ ∧ n_ ≤ 8) ∧ (0 ≤ a_ ∧ a_ ≤ 3)) then bestA (GW (pS (M 76)) (M 76 10).toNat (gS (M 76)) (M 76 0 + n_)) n_.toNat (M 76 1 + 12) (lefF (pS (M 76)) (M 76 7)) (M 76 2) a_ else -1000000001) (fun N => out86 N (if ((1 ≤ n_ ∧ n_ ≤ 8) ∧ (0 ≤ a_ ∧ a_ ≤ 3)) then M else fnd7 M 0)))) 38 [some (vR 75), some (vI n_), some (vI a_), some (vJ ((bst (GW (pS (M 76)) (M 76 10).toNat (gS (M 76)) (M 76 0 + n_)) n_.toNat (M 76 1 + 12) (lefF (pS (M 76)) (M 76 7))).1)), none, some (vI c_), some (vI i_)] [] (N_) := fun c_ i_ hi_ hc_ => K38 ((n_ - i_).toNat + 1) c_ i_ (by omega) hi_ hc_
      exact L38 _ _ (by omega) (by rfl)
    · refine z_aload_0 dX7_best_19 ?_
      refine z_iconst dX7_best_20 ?_
      refine z_cVI yv_X7_finding ml_X7_93 (c_X7_finding (by omega)) zk_75 rfl rfl (by decide) (Nat.le_of_ble_eq_true rfl) dX7_best_21 ?_
      refine z_i2l (by omega) dX7_best_24 ?_
      exact z_lret dX7_best_25 (zRJ (by rw [if_neg (by omega)] <;> rfl) (by rw [if_neg (by omega)]; exact out86_rf))

theorem c_X7_turn {M : zM} {n_ i_ : Int} (hn : SN (M 76)) (hp : pOK (pS (M 76))) (hh : -12 ≤ M 76 1 ∧ M 76 1 ≤ 12) (ht : 0 ≤ M 76 0 ∧ M 76 0 ≤ 2000) (hnr : -2147483648 ≤ n_ ∧ n_ < 2147483648) (hi : -2147483648 ≤ i_ ∧ i_ < 2147483648) : Call yX7_turn cX7_turn 3 (some .int) 7 [vR 75, vI n_, vI i_] (M) (RI (if ((1 ≤ n_ ∧ n_ ≤ 8) ∧ (0 ≤ i_ ∧ i_ ≤ n_ - 1)) then (pmv (GW (pS (M 76)) (M 76 10).toNat (gS (M 76)) (M 76 0 + n_)) n_.toNat (M 76 1 + 12) (lefF (pS (M 76)) (M 76 7)) i_.toNat) else -1000000001) (fun N => out86 N (if ((1 ≤ n_ ∧ n_ ≤ 8) ∧ (0 ≤ i_ ∧ i_ ≤ n_ - 1)) then M else fnd7 M 0))) := by
  refine Call.of2 (own := RX7) (lv0 := [some (vR 75), some (vI n_), some (vI i_)]) rfl (by decide) rfl (Nat.le_of_ble_eq_true rfl) ?_
  obtain ⟨⟨p00, p01⟩, ⟨p10, p11⟩, ⟨p20, p21⟩, ⟨p30, p31⟩, ⟨p40, p41⟩, ⟨p50, p51⟩⟩ := pOK_s hp
  refine z_iload_1 dX7_turn_0 ?_
  refine z_cSI ys_X7_isAhead ml_X7_270 (c_X7_isAhead (by omega)) rfl rfl (by decide) (Nat.le_of_ble_eq_true rfl) dX7_turn_1 ?_
  refine z_ifb_eq (tgt := 20) dX7_turn_4 (by decide) (fun c4 => ?_) (fun c4 => ?_)
  · refine z_aload_0 dX7_turn_20 ?_
    refine z_iconst dX7_turn_21 ?_
    refine z_cVI yv_X7_finding ml_X7_93 (c_X7_finding (by omega)) zk_75 rfl rfl (by decide) (Nat.le_of_ble_eq_true rfl) dX7_turn_22 ?_
    exact z_iret dX7_turn_25 (zRI (by rw [if_neg (by omega)] <;> rfl) (by rw [if_neg (by omega)]; exact out86_rf))
  · refine z_iload_2 dX7_turn_7 ?_
    refine z_i2l (by omega) dX7_turn_8 ?_
    refine z_lconst0 dX7_turn_9 ?_
    refine z_iload_1 dX7_turn_10 ?_
    refine z_iconst dX7_turn_11 ?_
    refine z_isub dX7_turn_12 ?_
    refine z_i2l (by omega) dX7_turn_13 ?_
    refine z_cSI ys_X7_in ml_X7_85 (c_X7_in (by omega) (by decide) (by omega)) rfl rfl (by decide) (Nat.le_of_ble_eq_true rfl) dX7_turn_14 ?_
    refine z_ifb_ne (tgt := 26) dX7_turn_17 (by decide) (fun c17 => ?_) (fun c17 => ?_)
    · refine z_aload_0 dX7_turn_26 ?_
      refine z_iload_1 dX7_turn_27 ?_
      refine z_rVN yv_X7_findBest ml_X7_265 (c_X7_findBest hn hp ht (by omega)) zk_75 rfl rfl (by decide) (Nat.le_of_ble_eq_true rfl) dX7_turn_28 (fun N_ hN_ => ?_)
      have t76_ : N_ 76 = M 76 := out86_76 hN_.1
      have hR2_ : RfL N_ (GW (pS (M 76)) (M 76 10).toNat (gS (M 76)) (M 76 0 + n_)) (pS (N_ 76)) (n_ + 1) 0 := by rw [t76_]; exact hN_.2
      refine z_aload_0 dX7_turn_31 ?_
      refine z_iload_1 dX7_turn_32 ?_
      refine z_iload_2 dX7_turn_33 ?_
      refine z_cVI yv_X7_moveOf ml_X7_278 (c_X7_moveOf (M := N_) (G := (GW (pS (M 76)) (M 76 10).toNat (gS (M 76)) (M 76 0 + n_))) (by rw [t76_]; exact hp) (by rw [t76_]; exact hh) (by omega) (by omega) hR2_) zk_75 rfl rfl (by decide) (Nat.le_of_ble_eq_true rfl) dX7_turn_34 ?_
      rw [t76_]
      exact z_iret dX7_turn_37 (zRI (by rw [if_pos (by omega)]) (by rw [if_pos (by omega)]; exact hN_.1))
    · refine z_aload_0 dX7_turn_20 ?_
      refine z_iconst dX7_turn_21 ?_
      refine z_cVI yv_X7_finding ml_X7_93 (c_X7_finding (by omega)) zk_75 rfl rfl (by decide) (Nat.le_of_ble_eq_true rfl) dX7_turn_22 ?_
      exact z_iret dX7_turn_25 (zRI (by rw [if_neg (by omega)] <;> rfl) (by rw [if_neg (by omega)]; exact out86_rf))

theorem c_X7_worthBehind {M : zM} {w_ c_ n_ : Int} (hn : SN (M 76)) (hp : pOK (pS (M 76))) (hh : -12 ≤ M 76 1 ∧ M 76 1 ≤ 12) (ht : 0 ≤ M 76 0 ∧ M 76 0 ≤ 2000) (hw : 0 ≤ w_ ∧ w_ < M 76 10) (hc : -1 ≤ c_ ∧ c_ ≤ 1000000) (hn_ : 1 ≤ n_ ∧ n_ ≤ 8) : Call yX7_worthBehind cX7_worthBehind 9 (some .long) 7 [vR 75, vI w_, vI c_, vI n_] (M) (RJ (bst (GW (pS (M 76)) (M 76 10).toNat (chgG (gS (M 76)) w_.toNat (if c_ < 0 then M 76 (12 + 6 * w_ + 4) else c_)) (M 76 0 + n_)) n_.toNat (M 76 1 + 12) (lefF (pS (M 76)) (M 76 7))).1 (fun N => out86 N M)) := by
  refine Call.of2 (own := RX7) (lv0 := [some (vR 75), some (vI w_), some (vI c_), some (vI n_), none, none, none, none, none]) rfl (by decide) rfl (Nat.le_of_ble_eq_true rfl) ?_
  obtain ⟨⟨p00, p01⟩, ⟨p10, p11⟩, ⟨p20, p21⟩, ⟨p30, p31⟩, ⟨p40, p41⟩, ⟨p50, p51⟩⟩ := pOK_s hp
  obtain ⟨⟨hn0_, hn1_⟩, hn2_⟩ := id hn
  have hgw_ := gOK_s (SN_i hn hw.1 hw.2)
  refine z_bipush dX7_worthBehind_0 (by decide) ?_
  refine z_bipush dX7_worthBehind_2 (by decide) ?_
  refine z_iload_1 dX7_worthBehind_4 ?_
  refine z_imul dX7_worthBehind_5 ?_
  refine z_iadd dX7_worthBehind_6 ?_
  refine z_iconst dX7_worthBehind_7 ?_
  refine z_iadd dX7_worthBehind_8 ?_
  refine z_istore_4 rfl dX7_worthBehind_9 ?_
  refine z_aload_0 dX7_worthBehind_11 ?_
  refine z_getR (r := 76) fl_X7_7 zk_75 rfl rfl dX7_worthBehind_12 ?_
  refine z_iload_4 dX7_worthBehind_15 ?_
  refine z_lald (n := 214) zk_76 rfl (by omega) dX7_worthBehind_17 ?_
  refine z_lstore_5 rfl dX7_worthBehind_18 ?_
  refine z_aload_0 dX7_worthBehind_20 ?_
  refine z_getR (r := 76) fl_X7_7 zk_75 rfl rfl dX7_worthBehind_21 ?_
  refine z_iload_4 dX7_worthBehind_24 ?_
  have J37 : ∀ (v_ : Int), (v_ = (if c_ < 0 then M 76 (12 + 6 * w_ + 4) else c_)) → Z RX7 cX7_worthBehind 9 (some .long) 7 (zQ (RJ (bst (GW (pS (M 76)) (M 76 10).toNat (chgG (gS (M 76)) w_.toNat (if c_ < 0 then M 76 (12 + 6 * w_ + 4) else c_)) (M 76 0 + n_)) n_.toNat (M 76 1 + 12) (lefF (pS (M 76)) (M 76 7))).1 (fun N => out86 N M))) 37 [some (vR 75), some (vI w_), some (vI c_), some (vI n_), some (vI ((12 + (6 * w_)) + 4)), some (vJ (M 76 ((12 + (6 * w_)) + 4))), none, none, none] [vJ v_, vI (12 + 6 * w_ + 4), vR 76] (M) := by
    intro v_ hv_
    have hv2_ : 0 ≤ v_ ∧ v_ ≤ 1000000 := by rw [hv_]; split <;> omega
    have m76_ : (zput M 76 (12 + 6 * w_ + 4) v_) 76 = zup (M 76) (12 + 6 * w_ + 4) v_ := zput_at
    have hsn_ : SN ((zput M 76 (12 + 6 * w_ + 4) v_) 76) := by rw [m76_]; exact SN_chg hn (by omega) hv2_
    have hpo_ : pOK (pS ((zput M 76 (12 + 6 * w_ + 4) v_) 76)) := by rw [m76_]; exact pOK_far (by omega) hp
    have h0_ : (zput M 76 (12 + 6 * w_ + 4) v_) 76 0 = M 76 0 := by rw [m76_, zup_ne (by omega)]
    have h1_ : (zput M 76 (12 + 6 * w_ + 4) v_) 76 1 = M 76 1 := by rw [m76_, zup_ne (by omega)]
    have h7_ : (zput M 76 (12 + 6 * w_ + 4) v_) 76 7 = M 76 7 := by rw [m76_, zup_ne (by omega)]
    have h10_ : (zput M 76 (12 + 6 * w_ + 4) v_) 76 10 = M 76 10 := by rw [m76_, zup_ne (by omega)]
    have hlf_ : lefF (pS ((zput M 76 (12 + 6 * w_ + 4) v_) 76)) (M 76 7) = (lefF (pS (M 76)) (M 76 7)) := by unfold lefF; rw [show pS ((zput M 76 (12 + 6 * w_ + 4) v_) 76) 4 = pS (M 76) 4 by show (zput M 76 (12 + 6 * w_ + 4) v_) 76 6 = M 76 6; rw [m76_, zup_ne (by omega)], show pS ((zput M 76 (12 + 6 * w_ + 4) v_) 76) 0 = pS (M 76) 0 by show (zput M 76 (12 + 6 * w_ + 4) v_) 76 2 = M 76 2; rw [m76_, zup_ne (by omega)]]
    have hgc_ : GW (pS ((zput M 76 (12 + 6 * w_ + 4) v_) 76)) (M 76 10).toNat (gS ((zput M 76 (12 + 6 * w_ + 4) v_) 76)) (M 76 0 + n_) = (GW (pS (M 76)) (M 76 10).toNat (chgG (gS (M 76)) w_.toNat (if c_ < 0 then M 76 (12 + 6 * w_ + 4) else c_)) (M 76 0 + n_)) := by
      rw [m76_, ← hv_]
      exact GW_congr (fun j_ a_ b_ => by show zup (M 76) _ _ (2 + j_) = M 76 (2 + j_); rw [zup_ne (by omega)]) (fun i_ _ f_ a_ b_ => gS_chg hw.1 i_ f_ a_ b_)
    refine z_last (n := 214) zk_76 rfl (by omega) dX7_worthBehind_37 ?_
    refine z_aload_0 dX7_worthBehind_38 ?_
    refine z_iload_3 dX7_worthBehind_39 ?_
    refine z_rVJ yv_X7_bestWorth ml_X7_275 (c_X7_bestWorth (M := (zput M 76 (12 + 6 * w_ + 4) v_)) hsn_ hpo_ (by rw [h1_]; exact hh) (by rw [h0_]; exact ht) hn_) zk_75 rfl rfl (by decide) (Nat.le_of_ble_eq_true rfl) dX7_worthBehind_40 (fun N_ hN_ => ?_)
    rw [h0_, h1_, h7_, h10_, hlf_, hgc_]
    refine z_lstore_7 rfl dX7_worthBehind_43 ?_
    refine z_aload_0 dX7_worthBehind_45 ?_
    refine z_getR (r := 76) fl_X7_7 zk_75 rfl rfl dX7_worthBehind_46 ?_
    refine z_iload_4 dX7_worthBehind_49 ?_
    refine z_lload_5 dX7_worthBehind_51 ?_
    refine z_last (n := 214) zk_76 rfl (by omega) dX7_worthBehind_53 ?_
    refine z_lload_7 dX7_worthBehind_54 ?_
    exact z_lret dX7_worthBehind_56 (zRJ rfl (by
        intro k_ a_ b_ c2_ d_
        have hk_ := hN_.1 k_ a_ b_ c2_ d_
        by_cases e_ : k_ = 76
        · subst e_
          rw [zput_at, hk_, m76_]
          funext j_
          unfold zup
          by_cases q_ : j_ = (12 + 6 * w_ + 4)
          · rw [if_pos q_, q_]
          · rw [if_neg q_, if_neg q_]
        · rw [zput_ne e_, hk_, zput_ne e_]))
  refine z_iload_2 dX7_worthBehind_26 ?_
  refine z_if_ge (tgt := 35) (by omega) dX7_worthBehind_27 (by decide) (fun c27 => ?_) (fun c27 => ?_)
  · refine z_iload_2 dX7_worthBehind_35 ?_
    refine z_i2l (by omega) dX7_worthBehind_36 ?_
    exact J37 _ (by first | exact (if_pos (by omega)).symm | exact (if_neg (by omega)).symm)
  · refine z_lload_5 dX7_worthBehind_30 ?_
    refine z_goto (tgt := 37) dX7_worthBehind_32 (by decide) ?_
    exact J37 _ (by first | exact (if_pos (by omega)).symm | exact (if_neg (by omega)).symm)

theorem c_X7_know {M : zM} {w_ s_ n_ : Int} (hn : SN (M 76)) (hp : pOK (pS (M 76))) (hh : -12 ≤ M 76 1 ∧ M 76 1 ≤ 12) (ht : 0 ≤ M 76 0 ∧ M 76 0 ≤ 2000) (hw : -2147483648 ≤ w_ ∧ w_ < 2147483648) (hs : -2147483648 ≤ s_ ∧ s_ < 2147483648) (hnr : -2147483648 ≤ n_ ∧ n_ < 2147483648) : Call yX7_know cX7_know 12 (some .long) 8 [vR 75, vI w_, vI s_, vI n_] (M) (RJ (if ¬ (((0 ≤ w_ ∧ w_ ≤ M 76 10 - 1) ∧ (50 ≤ s_ ∧ s_ ≤ 100)) ∧ (1 ≤ n_ ∧ n_ ≤ 8)) then -1000000001 else if ¬ (M 76 0 < M 76 (12 + 6 * w_ + 1)) then -1000000005 else knowA (pS (M 76)) (M 76 10).toNat (gS (M 76)) (M 76 0 + n_) n_.toNat (M 76 1 + 12) (lefF (pS (M 76)) (M 76 7)) w_.toNat s_) (fun N => out86 N (if ¬ (((0 ≤ w_ ∧ w_ ≤ M 76 10 - 1) ∧ (50 ≤ s_ ∧ s_ ≤ 100)) ∧ (1 ≤ n_ ∧ n_ ≤ 8)) then fnd7 M 0 else if ¬ (M 76 0 < M 76 (12 + 6 * w_ + 1)) then fnd7 M 4 else M))) := by
  refine Call.of2 (own := RX7) (lv0 := [some (vR 75), some (vI w_), some (vI s_), some (vI n_), none, none, none, none, none, none, none, none]) rfl (by decide) rfl (Nat.le_of_ble_eq_true rfl) ?_
  obtain ⟨⟨p00, p01⟩, ⟨p10, p11⟩, ⟨p20, p21⟩, ⟨p30, p31⟩, ⟨p40, p41⟩, ⟨p50, p51⟩⟩ := pOK_s hp
  obtain ⟨⟨hn0_, hn1_⟩, hn2_⟩ := id hn
  refine z_aload_0 dX7_know_0 ?_
  refine z_iload_1 dX7_know_1 ?_
  refine z_cVI yv_X7_isWarning ml_X7_150 (c_X7_isWarning (by omega) hn.1) zk_75 rfl rfl (by decide) (Nat.le_of_ble_eq_true rfl) dX7_know_2 ?_
  refine z_ifb_eq (tgt := 29) dX7_know_5 (by decide) (fun c5 => ?_) (fun c5 => ?_)
  · refine z_aload_0 dX7_know_29 ?_
    refine z_iconst dX7_know_30 ?_
    refine z_cVI yv_X7_finding ml_X7_93 (c_X7_finding (by omega)) zk_75 rfl rfl (by decide) (Nat.le_of_ble_eq_true rfl) dX7_know_31 ?_
    refine z_i2l (by omega) dX7_know_34 ?_
    exact z_lret dX7_know_35 (zRJ (by rw [if_pos (by omega)] <;> rfl) (by rw [if_pos (by omega)]; exact out86_rf))
  · refine z_iload_2 dX7_know_8 ?_
    refine z_i2l (by omega) dX7_know_9 ?_
    refine z_ldc2 (n := 50) kl_X7_173 (by decide) dX7_know_10 ?_
    refine z_ldc2 (n := 100) kl_X7_62 (by decide) dX7_know_13 ?_
    refine z_cSI ys_X7_in ml_X7_85 (c_X7_in (by omega) (by decide) (by decide)) rfl rfl (by decide) (Nat.le_of_ble_eq_true rfl) dX7_know_16 ?_
    refine z_ifb_eq (tgt := 29) dX7_know_19 (by decide) (fun c19 => ?_) (fun c19 => ?_)
    · refine z_aload_0 dX7_know_29 ?_
      refine z_iconst dX7_know_30 ?_
      refine z_cVI yv_X7_finding ml_X7_93 (c_X7_finding (by omega)) zk_75 rfl rfl (by decide) (Nat.le_of_ble_eq_true rfl) dX7_know_31 ?_
      refine z_i2l (by omega) dX7_know_34 ?_
      exact z_lret dX7_know_35 (zRJ (by rw [if_pos (by omega)] <;> rfl) (by rw [if_pos (by omega)]; exact out86_rf))
    · refine z_iload_3 dX7_know_22 ?_
      refine z_cSI ys_X7_isAhead ml_X7_270 (c_X7_isAhead (by omega)) rfl rfl (by decide) (Nat.le_of_ble_eq_true rfl) dX7_know_23 ?_
      refine z_ifb_ne (tgt := 36) dX7_know_26 (by decide) (fun c26 => ?_) (fun c26 => ?_)
      · have hw0_ : 0 ≤ w_ ∧ w_ ≤ M 76 10 - 1 := by omega
        have hg_ := SN_i hn (i := w_) (by omega) (by omega)
        obtain ⟨⟨g00_, g01_⟩, ⟨g10_, g11_⟩, ⟨g20_, g21_⟩, ⟨g30_, g31_⟩, ⟨g40_, g41_⟩, ⟨g50_, g51_⟩⟩ := gOK_s hg_
        have hm1_ := mul_box (a := (M 76 (12 + 6 * w_ + 4))) (b := s_) g40_ g41_ (by omega) (show s_ ≤ 100 by omega)
        have hm2_ := mul_box (a := 1000000 - (M 76 (12 + 6 * w_ + 4))) (b := 100 - s_) (by omega) (show _ ≤ 1000000 by omega) (by omega) (show _ ≤ 100 by omega)
        have hB_ := lefF_le (f := M 76 7) hp (by omega)
        refine z_aload_0 dX7_know_36 ?_
        refine z_iload_1 dX7_know_37 ?_
        refine z_aload_0 dX7_know_38 ?_
        refine z_cVI yv_X7_today ml_X7_129 c_X7_today zk_75 rfl rfl (by decide) (Nat.le_of_ble_eq_true rfl) dX7_know_39 ?_
        refine z_cVI yv_X7_isOpen ml_X7_156 (c_X7_isOpen (by omega) (SN_i hn (by omega) (by omega)) (by omega)) zk_75 rfl rfl (by decide) (Nat.le_of_ble_eq_true rfl) dX7_know_42 ?_
        refine z_ifb_ne (tgt := 55) dX7_know_45 (by decide) (fun c45 => ?_) (fun c45 => ?_)
        · refine z_aload_0 dX7_know_55 ?_
          refine z_iload_1 dX7_know_56 ?_
          refine z_iconst dX7_know_57 ?_
          refine z_cVI yv_X7_of1 ml_X7_147 (c_X7_of1 (by omega) (by omega)) zk_75 rfl rfl (by decide) (Nat.le_of_ble_eq_true rfl) dX7_know_58 ?_
          refine z_i2l (by omega) dX7_know_61 ?_
          refine z_lstore_4 rfl dX7_know_62 ?_
          refine z_lload_4 dX7_know_64 ?_
          refine z_iload_2 dX7_know_66 ?_
          refine z_i2l (by omega) dX7_know_67 ?_
          refine z_lmul dX7_know_68 ?_
          refine z_ldc2 (n := 1000000) kl_X7_66 (by decide) dX7_know_69 ?_
          refine z_lload_4 dX7_know_72 ?_
          refine z_lsub dX7_know_74 ?_
          refine z_ldc2 (n := 100) kl_X7_62 (by decide) dX7_know_75 ?_
          refine z_iload_2 dX7_know_78 ?_
          refine z_i2l (by omega) dX7_know_79 ?_
          refine z_lsub dX7_know_80 ?_
          refine z_lmul dX7_know_81 ?_
          refine z_ladd dX7_know_82 ?_
          refine z_ldc2 (n := 100) kl_X7_62 (by decide) dX7_know_83 ?_
          refine z_ldivp (by omega) (by decide) dX7_know_86 ?_
          refine z_lstore_6 rfl dX7_know_87 ?_
          refine z_aload_0 dX7_know_89 ?_
          refine z_iload_1 dX7_know_90 ?_
          refine z_aload_0 dX7_know_91 ?_
          refine z_iload_1 dX7_know_92 ?_
          refine z_iload_2 dX7_know_93 ?_
          refine z_iconst dX7_know_94 ?_
          refine z_cVI yv_X7_behind ml_X7_175 (c_X7_behind (M := M) (by omega) (by exact hg_) (by omega) (by decide)) zk_75 rfl rfl (by decide) (Nat.le_of_ble_eq_true rfl) dX7_know_95 ?_
          skip
          refine z_iload_3 dX7_know_98 ?_
          refine z_rVJ yv_X7_worthBehind ml_X7_283 (c_X7_worthBehind (M := M) (by exact hn) (by exact hp) (by exact hh) (by exact ht) (by exact ⟨hw0_.1, by omega⟩) (behindS_le ⟨g40_, g41_⟩ (by omega)) (by omega)) zk_75 rfl rfl (by decide) (Nat.le_of_ble_eq_true rfl) dX7_know_99 (fun A_ hA_ => ?_)
          refine z_topJ (show _ = (bst (GW (pS (M 76)) (M 76 10).toNat (chgG (gS (M 76)) w_.toNat (chI (M 76 (12 + 6 * w_ + 4)) s_ 1)) (M 76 0 + n_)) n_.toNat (M 76 1 + 12) (lefF (pS (M 76)) (M 76 7))).1 from rfl) ?_
          refine z_lstore_8 rfl dX7_know_102 ?_
          refine z_aload_0 dX7_know_104 ?_
          refine z_iload_1 dX7_know_105 ?_
          refine z_aload_0 dX7_know_106 ?_
          refine z_iload_1 dX7_know_107 ?_
          refine z_iload_2 dX7_know_108 ?_
          refine z_iconst dX7_know_109 ?_
          refine z_cVI yv_X7_behind ml_X7_175 (c_X7_behind (M := A_) (by omega) (by rw [out86_76 hA_]; exact hg_) (by omega) (by decide)) zk_75 rfl rfl (by decide) (Nat.le_of_ble_eq_true rfl) dX7_know_110 ?_
          rw [out86_76 hA_]
          refine z_iload_3 dX7_know_113 ?_
          refine z_rVJ yv_X7_worthBehind ml_X7_283 (c_X7_worthBehind (M := A_) (by rw [out86_76 hA_]; exact hn) (by rw [out86_76 hA_]; exact hp) (by rw [out86_76 hA_]; exact hh) (by rw [out86_76 hA_]; exact ht) (by rw [out86_76 hA_]; exact ⟨hw0_.1, by omega⟩) (behindS_le ⟨g40_, g41_⟩ (by omega)) (by omega)) zk_75 rfl rfl (by decide) (Nat.le_of_ble_eq_true rfl) dX7_know_114 (fun B_ hB2_ => ?_)
          rw [out86_76 hA_]
          refine z_topJ (show _ = (bst (GW (pS (M 76)) (M 76 10).toNat (chgG (gS (M 76)) w_.toNat (chI (M 76 (12 + 6 * w_ + 4)) s_ 0)) (M 76 0 + n_)) n_.toNat (M 76 1 + 12) (lefF (pS (M 76)) (M 76 7))).1 from rfl) ?_
          refine z_lstore_10 rfl dX7_know_117 ?_
          have a76_ : A_ 76 = M 76 := out86_76 hA_
          have b76_ : B_ 76 = M 76 := (out86_76 hB2_).trans a76_
          have hch_ : ∀ r_ : Int, 0 ≤ chI (M 76 (12 + 6 * w_ + 4)) s_ r_ ∧ chI (M 76 (12 + 6 * w_ + 4)) s_ r_ ≤ 1000000 := fun r_ => chI_le ⟨g40_, g41_⟩ (by omega)
          have hwc_ : ∀ r_ : Int, ∀ i_, i_ < (M 76 10).toNat → wOK (chgG (gS (M 76)) w_.toNat (chI (M 76 (12 + 6 * w_ + 4)) s_ r_) i_) := fun r_ i_ hi_ => by
            have h2_ := SN_all (SN_chg (w := w_) hn (by omega) (hch_ r_)) i_ (by rw [zup_ne (by omega)]; exact hi_)
            have e_ := gS_chg (s := M 76) (v := chI (M 76 (12 + 6 * w_ + 4)) s_ r_) hw0_.1 i_
            unfold wOK at h2_ ⊢
            rw [← e_ 0 (by decide) (by decide), ← e_ 1 (by decide) (by decide), ← e_ 2 (by decide) (by decide), ← e_ 3 (by decide) (by decide), ← e_ 4 (by decide) (by decide), ← e_ 5 (by decide) (by decide)]
            exact h2_
          have v1_ := bst_v (b := 100000000) (GW_le (t := M 76 0 + n_) hp (hwc_ 1)) n_.toNat (M 76 1 + 12) (lefF (pS (M 76)) (M 76 7)) (by omega) hB_.1
          have v0_ := bst_v (b := 100000000) (GW_le (t := M 76 0 + n_) hp (hwc_ 0)) n_.toNat (M 76 1 + 12) (lefF (pS (M 76)) (M 76 7)) (by omega) hB_.1
          have ht1_ : 0 ≤ ((M 76 (12 + 6 * w_ + 4)) * s_ + (1000000 - (M 76 (12 + 6 * w_ + 4))) * (100 - s_)) / 100 ∧ ((M 76 (12 + 6 * w_ + 4)) * s_ + (1000000 - (M 76 (12 + 6 * w_ + 4))) * (100 - s_)) / 100 ≤ 1000000 := tellS_le ⟨g40_, g41_⟩ (by omega)
          have x1_ := mul_abs (a := (bst (GW (pS (M 76)) (M 76 10).toNat (chgG (gS (M 76)) w_.toNat (chI (M 76 (12 + 6 * w_ + 4)) s_ 1)) (M 76 0 + n_)) n_.toNat (M 76 1 + 12) (lefF (pS (M 76)) (M 76 7))).1) (A := 800000000) (B := 1000000) (by omega) (by omega) ht1_.1 ht1_.2 (by decide)
          have x0_ := mul_abs (a := (bst (GW (pS (M 76)) (M 76 10).toNat (chgG (gS (M 76)) w_.toNat (chI (M 76 (12 + 6 * w_ + 4)) s_ 0)) (M 76 0 + n_)) n_.toNat (M 76 1 + 12) (lefF (pS (M 76)) (M 76 7))).1) (b := 1000000 - ((M 76 (12 + 6 * w_ + 4)) * s_ + (1000000 - (M 76 (12 + 6 * w_ + 4))) * (100 - s_)) / 100) (A := 800000000) (B := 1000000) (by omega) (by omega) (by omega) (by omega) (by decide)
          refine z_lload_8 dX7_know_119 ?_
          refine z_lload_6 dX7_know_121 ?_
          refine z_lmul dX7_know_123 ?_
          refine z_lload_10 dX7_know_124 ?_
          refine z_ldc2 (n := 1000000) kl_X7_66 (by decide) dX7_know_126 ?_
          refine z_lload_6 dX7_know_129 ?_
          refine z_lsub dX7_know_131 ?_
          refine z_lmul dX7_know_132 ?_
          refine z_ladd dX7_know_133 ?_
          refine z_ldc2 (n := 1000000) kl_X7_66 (by decide) dX7_know_134 ?_
          refine z_ldiv (by omega) (by omega) (by omega) dX7_know_137 ?_
          refine z_aload_0 dX7_know_138 ?_
          refine z_iload_3 dX7_know_139 ?_
          refine z_rVJ yv_X7_bestWorth ml_X7_275 (c_X7_bestWorth (M := B_) (by rw [b76_]; exact hn) (by rw [b76_]; exact hp) (by rw [b76_]; exact hh) (by rw [b76_]; exact ht) (by omega)) zk_75 rfl rfl (by decide) (Nat.le_of_ble_eq_true rfl) dX7_know_140 (fun C_ hC_ => ?_)
          rw [b76_]
          refine z_lsub dX7_know_143 ?_
          exact z_lret dX7_know_144 (zRJ (by rw [if_neg (by omega), if_neg (by omega)]; unfold knowA tellS; rw [gS_i hw0_.1]) (by rw [if_neg (by omega), if_neg (by omega)]; intro k_ h1_ h2_ h3_ h4_; rw [hC_.1 k_ h1_ h2_ h3_ h4_, hB2_ k_ h1_ h2_ h3_ h4_, hA_ k_ h1_ h2_ h3_ h4_]))
        · refine z_aload_0 dX7_know_48 ?_
          refine z_iconst dX7_know_49 ?_
          refine z_cVI yv_X7_finding ml_X7_93 (c_X7_finding (by omega)) zk_75 rfl rfl (by decide) (Nat.le_of_ble_eq_true rfl) dX7_know_50 ?_
          refine z_i2l (by omega) dX7_know_53 ?_
          exact z_lret dX7_know_54 (zRJ (by rw [if_neg (by omega), if_pos (by omega)] <;> rfl) (by rw [if_neg (by omega), if_pos (by omega)]; exact out86_rf))
      · refine z_aload_0 dX7_know_29 ?_
        refine z_iconst dX7_know_30 ?_
        refine z_cVI yv_X7_finding ml_X7_93 (c_X7_finding (by omega)) zk_75 rfl rfl (by decide) (Nat.le_of_ble_eq_true rfl) dX7_know_31 ?_
        refine z_i2l (by omega) dX7_know_34 ?_
        exact z_lret dX7_know_35 (zRJ (by rw [if_pos (by omega)] <;> rfl) (by rw [if_pos (by omega)]; exact out86_rf))
