theorem c_X3_load {M : zM} {i_ : Nat} {g_ q_ : Int} (hi : i_ < 4) (hz : 2 ≤ (M (56 + i_) 1) ∧ (M (56 + i_) 1) ≤ 12) (hg : 0 ≤ g_ ∧ g_ ≤ 50) (hq : 0 ≤ q_ ∧ q_ ≤ 20) (hv : ∀ j : Int, 0 ≤ j → j < (M (56 + i_) 1) → -1000000 ≤ M (60 + i_) j ∧ M (60 + i_) j ≤ 1000000) (hH : ∀ j : Int, 0 ≤ j → j < 12 → -1000000 ≤ M 70 j ∧ M 70 j ≤ 1000000) (hok : swOK M) (hV : ∀ j : Int, 0 ≤ j → j < 12 → -20 ≤ M 74 j ∧ M 74 j ≤ 20) : Call yX3_load cX3_load 5 none 4 [vR 9, vR (56 + i_), vI g_, vI q_] (M) (PN (loaM M i_ g_ q_)) := by
  refine Call.of2 (own := RX3) (lv0 := [some (vR 9), some (vR (56 + i_)), some (vI g_), some (vI q_), none]) rfl (by decide) rfl (Nat.le_of_ble_eq_true rfl) ?_
  have ok2_ : swOK (loa2 M i_ g_ q_ (M (56 + i_) 1)) := by unfold swOK; rw [loa2_out (by decide) (by decide), loa2_out (by decide) (by decide), loa2_out (by decide) (by decide)]; exact hok
  have ok3_ : swOK (swe (loa2 M i_ g_ q_ (M (56 + i_) 1)) (M (56 + i_) 1).toNat) := swe_ok (by rw [loa2_5 hz.2]; omega) (by rw [loa2_7 hq.2]; exact hq) ok2_ _ (by rw [loa2_5 hz.2]; omega)
  have e3_ : ∀ k_ : Nat, k_ ≠ 9 → loa3 M i_ g_ q_ k_ = swe (loa2 M i_ g_ q_ (M (56 + i_) 1)) (M (56 + i_) 1).toNat k_ := fun k_ h_ => by unfold loa3; rw [zput_ne h_]
  have e9_ : ∀ j_ : Int, j_ ≠ 8 → loa3 M i_ g_ q_ 9 j_ = loa2 M i_ g_ q_ (M (56 + i_) 1) 9 j_ := fun j_ h_ => by unfold loa3; rw [zput_ne2 h_, swe_out (by decide) (by decide) (by decide)]
  have l8_ : 0 ≤ loa3 M i_ g_ q_ 9 8 ∧ loa3 M i_ g_ q_ 9 8 ≤ 1000000 := by unfold loa3; rw [zput_eq]; exact ok3_.2.2 0 (by decide) (by decide)
  have l5_ : loa3 M i_ g_ q_ 9 5 = (M (56 + i_) 1) := by rw [e9_ _ (by decide)]; exact loa2_5 hz.2
  have l6_ : loa3 M i_ g_ q_ 9 6 = g_ := by rw [e9_ _ (by decide)]; exact loa2_6
  have l7_ : loa3 M i_ g_ q_ 9 7 = q_ := by rw [e9_ _ (by decide)]; exact loa2_7 hq.2
  have l70_ : loa3 M i_ g_ q_ 70 = loa2 M i_ g_ q_ (M (56 + i_) 1) 70 := by rw [e3_ _ (by decide), swe_out (by decide) (by decide) (by decide)]
  have l71_ : loa3 M i_ g_ q_ 71 = swe (loa2 M i_ g_ q_ (M (56 + i_) 1)) (M (56 + i_) 1).toNat 71 := e3_ _ (by decide)
  have l74_ : loa3 M i_ g_ q_ 74 = M 74 := by rw [e3_ _ (by decide), swe_out (by decide) (by decide) (by decide), loa2_out (by decide) (by decide)]
  refine z_aload_0 dX3_load_0 ?_
  refine z_aload_1 dX3_load_1 ?_
  refine z_getI fl_X3_46 (zsh_k hi) rfl dX3_load_2 ?_
  refine z_bipush dX3_load_5 (by decide) ?_
  refine z_mmin ml_X3_49 (by decide) (Nat.le_of_ble_eq_true rfl) (by omega) (by decide) dX3_load_7 ?_
  refine z_putI fl_X3_27 zk_9 rfl dX3_load_10 ?_
  refine z_aload_0 dX3_load_13 ?_
  refine z_iload_2 dX3_load_14 ?_
  refine z_putI fl_X3_31 zk_9 rfl dX3_load_15 ?_
  refine z_aload_0 dX3_load_18 ?_
  refine z_iload_3 dX3_load_19 ?_
  refine z_bipush dX3_load_20 (by decide) ?_
  refine z_mmin ml_X3_49 (by decide) (Nat.le_of_ble_eq_true rfl) (by omega) (by decide) dX3_load_22 ?_
  refine z_putI fl_X3_34 zk_9 rfl dX3_load_25 ?_
  refine z_iconst dX3_load_28 ?_
  refine z_istore_4 rfl dX3_load_29 ?_
  have K31 : ∀ (fuel_ : Nat) (j_ : Int) (N_ : zM), (M (56 + i_) 1) - j_ < (fuel_ : Int) → (0 ≤ j_ ∧ j_ ≤ (M (56 + i_) 1)) → (N_ = (loa2 M i_ g_ q_ j_)) → Z RX3 cX3_load 5 none 4 (zQ (PN (loaM M i_ g_ q_))) 31 [some (vR 9), some (vR (56 + i_)), some (vI g_), some (vI q_), some (vI j_)] [] (N_) := by
    intro fuel_
    induction fuel_ with
    | zero => intro j_ N_ hfuel_ hj_ hN_; exfalso; omega
    | succ fuel_ ih31 =>
      intro j_ N_ hfuel_ hj_ hN_
      refine z_iload_4 dX3_load_31 ?_
      refine z_aload_0 dX3_load_33 ?_
      refine z_getIv (v := (M (56 + i_) 1)) fl_X3_27 zk_9 rfl (by rw [hN_]; exact loa2_5 hz.2) dX3_load_34 ?_
      refine z_icmp_ge (tgt := 61) (by omega) (by omega) dX3_load_37 (by decide) (fun c37 => ?_) (fun c37 => ?_)
      · refine z_aload_0 dX3_load_61 ?_
        refine z_getIv (v := (M (56 + i_) 1)) fl_X3_27 zk_9 rfl (by rw [hN_]; exact loa2_5 hz.2) dX3_load_62 ?_
        refine z_iconst dX3_load_65 ?_
        refine z_isub dX3_load_66 ?_
        refine z_istore_4 rfl dX3_load_67 ?_
        have K69 : ∀ (fuel_ : Nat) (j_ : Int) (P_ : zM), j_ + 1 < (fuel_ : Int) → (-1 ≤ j_ ∧ j_ ≤ (M (56 + i_) 1) - 1) → (P_ = swe (loa2 M i_ g_ q_ (M (56 + i_) 1)) ((M (56 + i_) 1) - 1 - j_).toNat) → Z RX3 cX3_load 5 none 4 (zQ (PN (loaM M i_ g_ q_))) 69 [some (vR 9), some (vR (56 + i_)), some (vI g_), some (vI q_), some (vI j_)] [] (P_) := by
          intro fuel_
          induction fuel_ with
          | zero => intro j_ P_ hfuel_ hj_ hP_; exfalso; omega
          | succ fuel_ ih69 =>
            intro j_ P_ hfuel_ hj_ hP_
            have e9_ : P_ 9 = loa2 M i_ g_ q_ (M (56 + i_) 1) 9 := by rw [hP_]; exact swe_out (by decide) (by decide) (by decide) _
            have p5_ : P_ 9 5 = (M (56 + i_) 1) := by rw [e9_]; exact loa2_5 hz.2
            have p6_ : P_ 9 6 = g_ := by rw [e9_]; exact loa2_6
            have p7_ : P_ 9 7 = q_ := by rw [e9_]; exact loa2_7 hq.2
            have ok_ : swOK P_ := by rw [hP_]; exact swe_ok (by rw [loa2_5 hz.2]; omega) (by rw [loa2_7 hq.2]; exact hq) ok2_ _ (by rw [loa2_5 hz.2]; omega)
            have e70_ : P_ 70 = loa2 M i_ g_ q_ (M (56 + i_) 1) 70 := by rw [hP_]; exact swe_out (by decide) (by decide) (by decide) _
            have h70_ := loa2_70 (g_ := g_) (q_ := q_) hv hH
            have eW_ : weiM P_ j_ 9 = P_ 9 := weiM_out (by decide)
            refine z_iload_4 dX3_load_69 ?_
            refine z_if_lt (tgt := 92) (by omega) dX3_load_71 (by decide) (fun c71 => ?_) (fun c71 => ?_)
            · refine z_aload_0 dX3_load_92 ?_
              refine z_aload_0 dX3_load_93 ?_
              refine z_getR (r := 73) fl_X3_21 zk_9 rfl rfl dX3_load_94 ?_
              refine z_iconst dX3_load_97 ?_
              refine z_iald (n := 41) zk_73 rfl (by omega) dX3_load_98 ?_
              refine z_putI fl_X3_37 zk_9 rfl dX3_load_99 ?_
              refine z_mem (show _ = loa3 M i_ g_ q_ from by unfold loa3; rw [hP_, show j_ = -1 by omega, show (M (56 + i_) 1) - 1 - -1 = (M (56 + i_) 1) by omega]) ?_
              refine z_aload_0 dX3_load_102 ?_
              refine z_cVI yv_X3_canBe ml_X3_66 (c_X3_canBe (M := loa3 M i_ g_ q_) (by omega)) zk_9 rfl rfl (by decide) (Nat.le_of_ble_eq_true rfl) dX3_load_103 ?_
              refine z_ifb_eq (tgt := 113) dX3_load_106 (by decide) (fun c106 => ?_) (fun c106 => ?_)
              · exact z_vret dX3_load_113 (zPN (by unfold loaM; first | (rw [if_pos c106]; done) | (rw [if_neg c106]; done)))
              · refine z_aload_0 dX3_load_109 ?_
                refine z_cVN yv_X3_follow ml_X3_70 (c_X3_follow (M := loa3 M i_ g_ q_) (by rw [l5_]; omega) (by omega) (by rw [l6_]; exact hg) (by rw [l7_]; exact hq) (by rw [l70_]; exact loa2_70 hv hH) (by rw [l71_]; exact ok3_.1) (by rw [l74_]; exact hV)) zk_9 rfl rfl (by decide) (Nat.le_of_ble_eq_true rfl) dX3_load_110 ?_
                refine z_mem (show _ = (folM (loa3 M i_ g_ q_) (M (56 + i_) 1).toNat).1 by rw [l5_]) ?_
                exact z_vret dX3_load_113 (zPN (by unfold loaM; first | (rw [if_pos c106]; done) | (rw [if_neg c106]; done)))
            · refine z_aload_0 dX3_load_74 ?_
              refine z_iload_4 dX3_load_75 ?_
              refine z_cVN yv_X3_weigh ml_X3_59 (c_X3_weigh (M := P_) (by omega) (by omega) (by omega) (by omega) (by rw [e70_]; exact h70_) ok_.2.1 ok_.2.2) zk_9 rfl rfl (by decide) (Nat.le_of_ble_eq_true rfl) dX3_load_77 ?_
              refine z_mem (show _ = weiM P_ j_ from rfl) ?_
              have okw_ := weiM_ok (i := j_) (show 0 ≤ P_ 9 7 ∧ P_ 9 7 ≤ 20 by omega) ok_
              refine z_aload_0 dX3_load_80 ?_
              refine z_iload_4 dX3_load_81 ?_
              refine z_cVN yv_X3_gather ml_X3_63 (c_X3_gather (M := weiM P_ j_) (by omega) (by rw [eW_]; omega) okw_.1) zk_9 rfl rfl (by decide) (Nat.le_of_ble_eq_true rfl) dX3_load_83 ?_
              refine z_mem (show _ = gatM (weiM P_ j_) j_ from rfl) ?_
              refine z_iinc_4 rfl dX3_load_86 ?_
              refine z_goto (tgt := 69) dX3_load_89 (by decide) ?_
              exact ih69 _ _ (by omega) (by omega) (by rw [show ((M (56 + i_) 1) - 1 - (j_ + -1)).toNat = ((M (56 + i_) 1) - 1 - j_).toNat + 1 by omega, swe, ← hP_, loa2_5 hz.2, show (M (56 + i_) 1) - 1 - (((M (56 + i_) 1) - 1 - j_).toNat : Int) = j_ by omega])
        have L69 : ∀ (j_ : Int) (P_ : zM), (-1 ≤ j_ ∧ j_ ≤ (M (56 + i_) 1) - 1) → (P_ = swe (loa2 M i_ g_ q_ (M (56 + i_) 1)) ((M (56 + i_) 1) - 1 - j_).toNat) → Z RX3 cX3_load 5 none 4 (zQ (PN (loaM M i_ g_ q_))) 69 [some (vR 9), some (vR (56 + i_)), some (vI g_), some (vI q_), some (vI j_)] [] (P_) := fun j_ P_ hj_ hP_ => K69 ((j_ + 1).toNat + 1) j_ P_ (by omega) hj_ hP_
        exact L69 _ _ (by omega) (by rw [hN_, show j_ = (M (56 + i_) 1) by omega, show ((M (56 + i_) 1) - 1 - ((M (56 + i_) 1) - 1)).toNat = 0 by omega]; rfl)
      · refine z_aload_0 dX3_load_40 ?_
        refine z_getR (r := 70) fl_X3_9 zk_9 rfl rfl dX3_load_41 ?_
        refine z_iload_4 dX3_load_44 ?_
        refine z_aload_1 dX3_load_46 ?_
        refine z_getR (r := (60 + i_)) fl_X3_55 (zsh_k hi) rfl (zsh_R hi) dX3_load_47 ?_
        refine z_iload_4 dX3_load_50 ?_
        refine z_laldv (n := 40) (v := (M (60 + i_) j_)) (zsh_n hi) (zsh_N hi) (by omega) (by rw [hN_, loa2_out (by omega) (by omega)]) dX3_load_52 ?_
        refine z_l2i dX3_load_53 ?_
        refine z_iast (n := 12) zk_70 rfl (by omega) dX3_load_54 ?_
        refine z_iinc_4 rfl dX3_load_55 ?_
        refine z_goto (tgt := 31) dX3_load_58 (by decide) ?_
        exact ih31 _ _ (by omega) (by omega) (by rw [hN_]; exact zfillA_10 (f := M (60 + i_)) hj_.1)
  have L31 : ∀ (j_ : Int) (N_ : zM), (0 ≤ j_ ∧ j_ ≤ (M (56 + i_) 1)) → (N_ = (loa2 M i_ g_ q_ j_)) → Z RX3 cX3_load 5 none 4 (zQ (PN (loaM M i_ g_ q_))) 31 [some (vR 9), some (vR (56 + i_)), some (vI g_), some (vI q_), some (vI j_)] [] (N_) := fun j_ N_ hj_ hN_ => K31 (((M (56 + i_) 1) - j_).toNat + 1) j_ N_ (by omega) hj_ hN_
  exact L31 _ _ (by omega) (by exact zfillA_0M)
