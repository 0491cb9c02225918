theorem c_X0_cell {M : zM} {d_ p_ l_ : Int} : Call yX0_cell cX0_cell 3 (some .int) 0 [vI d_, vI p_, vI l_] (M) (PI ((d_ * 25 + p_) * 61 + l_) M) := by
  refine Call.of2 (own := RX0) (lv0 := [some (vI d_), some (vI p_), some (vI l_)]) rfl (by decide) rfl (Nat.le_of_ble_eq_true rfl) ?_
  refine z_iload_0 dX0_cell_0 ?_
  refine z_bipush dX0_cell_1 (by decide) ?_
  refine z_imul dX0_cell_3 ?_
  refine z_iload_1 dX0_cell_4 ?_
  refine z_iadd dX0_cell_5 ?_
  refine z_bipush dX0_cell_6 (by decide) ?_
  refine z_imul dX0_cell_8 ?_
  refine z_iload_2 dX0_cell_9 ?_
  refine z_iadd dX0_cell_10 ?_
  exact z_iret dX0_cell_11 (⟨rfl, rfl⟩)

theorem c_X0_valueFrom {M : zM} {d_ p_ l_ : Int} (h2 : 1 ≤ M 8 2 ∧ M 8 2 ≤ 8) (hd : 0 ≤ d_ ∧ d_ ≤ 8) (hp : 0 ≤ p_ ∧ p_ ≤ 24) (hl : 0 ≤ l_ ∧ l_ ≤ 60) : Call yX0_valueFrom cX0_valueFrom 4 (some .long) 1 [vR 8, vI d_, vI p_, vI l_] (M) (PJ (vF M d_ p_ l_) M) := by
  refine Call.of2 (own := RX0) (lv0 := [some (vR 8), some (vI d_), some (vI p_), some (vI l_)]) rfl (by decide) rfl (Nat.le_of_ble_eq_true rfl) ?_
  refine z_iload_1 dX0_valueFrom_0 ?_
  refine z_aload_0 dX0_valueFrom_1 ?_
  refine z_getI fl_X0_18 zk_8 rfl dX0_valueFrom_2 ?_
  refine z_icmp_ge (tgt := 22) (by omega) (by omega) dX0_valueFrom_5 (by decide) (fun c5 => ?_) (fun c5 => ?_)
  · refine z_lconst0 dX0_valueFrom_22 ?_
    exact z_lret dX0_valueFrom_23 (zPJ (by first | exact (if_pos (by omega)).symm | exact (if_neg (by omega)).symm) rfl)
  · refine z_aload_0 dX0_valueFrom_8 ?_
    refine z_getR (r := 68) fl_X0_15 zk_8 rfl rfl dX0_valueFrom_9 ?_
    refine z_iload_1 dX0_valueFrom_12 ?_
    refine z_iload_2 dX0_valueFrom_13 ?_
    refine z_iload_3 dX0_valueFrom_14 ?_
    refine z_cSI ys_X0_cell ml_X0_72 c_X0_cell rfl rfl (by decide) (Nat.le_of_ble_eq_true rfl) dX0_valueFrom_15 ?_
    refine z_lald (n := 12200) zk_68 rfl (by omega) dX0_valueFrom_18 ?_
    refine z_goto (tgt := 23) dX0_valueFrom_19 (by decide) ?_
    exact z_lret dX0_valueFrom_23 (zPJ (by first | exact (if_pos (by omega)).symm | exact (if_neg (by omega)).symm) rfl)

theorem c_X0_step {M : zM} {d_ a_ b_ : Int} (hd : 0 ≤ d_ ∧ d_ < 8) (ha : 0 ≤ a_ ∧ a_ ≤ 24) (hb : 0 ≤ b_ ∧ b_ ≤ 24) (hab : a_ ≠ b_) (hB : 0 ≤ M 8 3 ∧ M 8 3 ≤ 60) (hr : rngV (M 68) d_ (M 8 3)) : Call yX0_step cX0_step 9 none 1 [vR 8, vI d_, vI a_, vI b_] (M) (PN (zrow M 68 (stR (M 68) (M 8 3) d_ a_ b_))) := by
  refine Call.of2 (own := RX0) (lv0 := [some (vR 8), some (vI d_), some (vI a_), some (vI b_), none, none, none, none, none]) rfl (by decide) rfl (Nat.le_of_ble_eq_true rfl) ?_
  refine z_iload_1 dX0_step_0 ?_
  refine z_iload_2 dX0_step_1 ?_
  refine z_iconst dX0_step_2 ?_
  refine z_cSI ys_X0_cell ml_X0_72 c_X0_cell rfl rfl (by decide) (Nat.le_of_ble_eq_true rfl) dX0_step_3 ?_
  refine z_istore_4 rfl dX0_step_6 ?_
  refine z_iload_1 dX0_step_8 ?_
  refine z_iload_3 dX0_step_9 ?_
  refine z_iconst dX0_step_10 ?_
  refine z_cSI ys_X0_cell ml_X0_72 c_X0_cell rfl rfl (by decide) (Nat.le_of_ble_eq_true rfl) dX0_step_11 ?_
  refine z_istore_5 rfl dX0_step_14 ?_
  refine z_iconst dX0_step_16 ?_
  refine z_istore_6 rfl dX0_step_17 ?_
  have K19 : ∀ (fuel_ : Nat) (l_ : Int) (N_ : zM), M 8 3 + 1 - l_ < (fuel_ : Int) → (1 ≤ l_ ∧ l_ ≤ M 8 3 + 1) → (N_ = zrow M 68 (zfillA (stF (M 68) a_ b_) (M 68) ((d_ * 25 + a_) * 61 + 1) (l_ - 1))) → Z RX0 cX0_step 9 none 1 (zQ (PN (zrow M 68 (stR (M 68) (M 8 3) d_ a_ b_)))) 19 [some (vR 8), some (vI d_), some (vI a_), some (vI b_), some (vI ((d_ * 25 + a_) * 61 + 0)), some (vI ((d_ * 25 + b_) * 61 + 0)), some (vI l_), none, none] [] (N_) := by
    intro fuel_
    induction fuel_ with
    | zero => intro l_ N_ hfuel_ hl_ hN_; exfalso; omega
    | succ fuel_ ih19 =>
      intro l_ N_ hfuel_ hl_ hN_
      have n8_ : N_ 8 = M 8 := by rw [hN_, zrow_ne (by decide)]
      refine z_iload_6 dX0_step_19 ?_
      refine z_aload_0 dX0_step_21 ?_
      refine z_getIv (v := (M 8 3)) fl_X0_22 zk_8 rfl (by rw [n8_]) dX0_step_22 ?_
      refine z_icmp_gt (tgt := 78) (by omega) (by omega) dX0_step_25 (by decide) (fun c25 => ?_) (fun c25 => ?_)
      · exact z_vret dX0_step_78 (zPN (by rw [hN_, show l_ - 1 = M 8 3 by omega]; rfl))
      · have r1_ : -1000000000000 ≤ M 68 ((d_ * 25 + a_) * 61 + l_) ∧ M 68 ((d_ * 25 + a_) * 61 + l_) ≤ 1000000000000 := hr a_ l_ ha (by omega) (by omega)
        have r2_ : -1000000000000 ≤ M 68 ((d_ * 25 + b_) * 61 + (l_ - 1)) ∧ M 68 ((d_ * 25 + b_) * 61 + (l_ - 1)) ≤ 1000000000000 := hr b_ (l_ - 1) hb (by omega) (by omega)
        have e1_ : N_ 68 ((d_ * 25 + a_) * 61 + l_) = M 68 ((d_ * 25 + a_) * 61 + l_) := by rw [hN_, zrow_eq]; unfold zfillA; rw [if_neg (by omega)]
        have e2_ : N_ 68 (((d_ * 25 + b_) * 61 + 0) + l_ - 1) = M 68 ((d_ * 25 + b_) * 61 + (l_ - 1)) := by rw [show ((d_ * 25 + b_) * 61 + 0) + l_ - 1 = ((d_ * 25 + b_) * 61 + (l_ - 1)) by omega, hN_, zrow_eq]; unfold zfillA; rw [if_neg (by omega)]
        refine z_aload_0 dX0_step_28 ?_
        refine z_getR (r := 68) fl_X0_15 zk_8 rfl rfl dX0_step_29 ?_
        refine z_iload_5 dX0_step_32 ?_
        refine z_iload_6 dX0_step_34 ?_
        refine z_iadd dX0_step_36 ?_
        refine z_iconst dX0_step_37 ?_
        refine z_isub dX0_step_38 ?_
        refine z_laldv (n := 12200) (v := (M 68 ((d_ * 25 + b_) * 61 + (l_ - 1)))) zk_68 rfl (by omega) (e2_) dX0_step_39 ?_
        refine z_lconst1 dX0_step_40 ?_
        refine z_lsub dX0_step_41 ?_
        refine z_lstore_7 rfl dX0_step_42 ?_
        refine z_lload_7 dX0_step_44 ?_
        refine z_aload_0 dX0_step_46 ?_
        refine z_getR (r := 68) fl_X0_15 zk_8 rfl rfl dX0_step_47 ?_
        refine z_iload_4 dX0_step_50 ?_
        refine z_iload_6 dX0_step_52 ?_
        refine z_iadd dX0_step_54 ?_
        refine z_laldv (n := 12200) (v := (M 68 ((d_ * 25 + a_) * 61 + l_))) zk_68 rfl (by omega) (by rw [show ((d_ * 25 + a_) * 61 + 0) + l_ = ((d_ * 25 + a_) * 61 + l_) by omega]; exact e1_) dX0_step_55 ?_
        refine z_lcmp_le (tgt := 72) (by omega) (by omega) dX0_step_56 dX0_step_57 (by decide) (fun c56 => ?_) (fun c56 => ?_)
        · refine z_iinc_6 rfl dX0_step_72 ?_
          refine z_goto (tgt := 19) dX0_step_75 (by decide) ?_
          refine z_drop_7 ?_
          exact ih19 _ _ (by omega) (by omega) (by rw [show l_ + 1 - 1 = l_ - 1 + 1 by omega]; refine Eq.trans ?_ (zfillA_1 (f := (stF (M 68) a_ b_)) (by omega)); rw [← hN_, show ((d_ * 25 + a_) * 61 + 1) + (l_ - 1) = ((d_ * 25 + a_) * 61 + l_) by omega]; unfold stF; rw [show ((d_ * 25 + a_) * 61 + l_) + (b_ - a_) * 61 - 1 = ((d_ * 25 + b_) * 61 + (l_ - 1)) by omega]; rw [show (if M 68 ((d_ * 25 + b_) * 61 + (l_ - 1)) - 1 < M 68 ((d_ * 25 + a_) * 61 + l_) then M 68 ((d_ * 25 + a_) * 61 + l_) else M 68 ((d_ * 25 + b_) * 61 + (l_ - 1)) - 1) = N_ 68 ((d_ * 25 + a_) * 61 + l_) by rw [e1_]; split <;> omega, zput_self])
        · refine z_aload_0 dX0_step_60 ?_
          refine z_getR (r := 68) fl_X0_15 zk_8 rfl rfl dX0_step_61 ?_
          refine z_iload_4 dX0_step_64 ?_
          refine z_iload_6 dX0_step_66 ?_
          refine z_iadd dX0_step_68 ?_
          refine z_lload_7 dX0_step_69 ?_
          refine z_last (n := 12200) zk_68 rfl (by omega) dX0_step_71 ?_
          refine z_iinc_6 rfl dX0_step_72 ?_
          refine z_goto (tgt := 19) dX0_step_75 (by decide) ?_
          refine z_drop_7 ?_
          exact ih19 _ _ (by omega) (by omega) (by rw [show l_ + 1 - 1 = l_ - 1 + 1 by omega]; refine Eq.trans ?_ (zfillA_1 (f := (stF (M 68) a_ b_)) (by omega)); rw [← hN_, show ((d_ * 25 + a_) * 61 + 1) + (l_ - 1) = ((d_ * 25 + a_) * 61 + l_) by omega]; unfold stF; rw [show ((d_ * 25 + a_) * 61 + l_) + (b_ - a_) * 61 - 1 = ((d_ * 25 + b_) * 61 + (l_ - 1)) by omega]; rw [if_neg (by omega), show ((d_ * 25 + a_) * 61 + 0) + l_ = ((d_ * 25 + a_) * 61 + l_) by omega])
  have L19 : ∀ (l_ : Int) (N_ : zM), (1 ≤ l_ ∧ l_ ≤ M 8 3 + 1) → (N_ = zrow M 68 (zfillA (stF (M 68) a_ b_) (M 68) ((d_ * 25 + a_) * 61 + 1) (l_ - 1))) → Z RX0 cX0_step 9 none 1 (zQ (PN (zrow M 68 (stR (M 68) (M 8 3) d_ a_ b_)))) 19 [some (vR 8), some (vI d_), some (vI a_), some (vI b_), some (vI ((d_ * 25 + a_) * 61 + 0)), some (vI ((d_ * 25 + b_) * 61 + 0)), some (vI l_), none, none] [] (N_) := fun l_ N_ hl_ hN_ => K19 ((M 8 3 + 1 - l_).toNat + 1) l_ N_ (by omega) hl_ hN_
  exact L19 _ _ (by omega) (by show M = zrow M 68 (zfillA (stF (M 68) a_ b_) (M 68) ((d_ * 25 + a_) * 61 + 1) 0); exact zfillA_0M)

theorem c_X0_spread {M : zM} {d_ : Int} (hd : 0 ≤ d_ ∧ d_ < 8) (hB : 0 ≤ M 8 3 ∧ M 8 3 ≤ 60) (hr : rngV (M 68) d_ (M 8 3)) : Call yX0_spread cX0_spread 3 none 2 [vR 8, vI d_] (M) (PN (zrow M 68 (sprR (M 68) (M 8 3) d_))) := by
  refine Call.of2 (own := RX0) (lv0 := [some (vR 8), some (vI d_), none]) rfl (by decide) rfl (Nat.le_of_ble_eq_true rfl) ?_
  refine z_bipush dX0_spread_0 (by decide) ?_
  refine z_istore_2 rfl dX0_spread_2 ?_
  have K3 : ∀ (fuel_ : Nat) (p_ : Int) (N_ : zM), p_ + 1 < (fuel_ : Int) → (-1 ≤ p_ ∧ p_ ≤ 23) → (N_ = (zrow M 68 (spU (M 68) (M 8 3) d_ (23 - p_).toNat))) → Z RX0 cX0_spread 3 none 2 (zQ (PN (zrow M 68 (sprR (M 68) (M 8 3) d_)))) 3 [some (vR 8), some (vI d_), some (vI p_)] [] (N_) := by
    intro fuel_
    induction fuel_ with
    | zero => intro p_ N_ hfuel_ hp_ hN_; exfalso; omega
    | succ fuel_ ih3 =>
      intro p_ N_ hfuel_ hp_ hN_
      have n8_ : N_ 8 = M 8 := by rw [hN_, zrow_ne (by decide)]
      have nr_ : rngV (N_ 68) d_ (M 8 3) := by rw [hN_, zrow_eq]; exact spU_rng hB.2 hr _ (by omega)
      refine z_iload_2 dX0_spread_3 ?_
      refine z_if_lt (tgt := 22) (by omega) dX0_spread_4 (by decide) (fun c4 => ?_) (fun c4 => ?_)
      · refine z_iconst dX0_spread_22 ?_
        refine z_istore_2 rfl dX0_spread_23 ?_
        have K24 : ∀ (fuel_ : Nat) (p_ : Int) (N_ : zM), 25 - p_ < (fuel_ : Int) → (1 ≤ p_ ∧ p_ ≤ 25) → (N_ = (zrow M 68 (spD (spU (M 68) (M 8 3) d_ 24) (M 8 3) d_ (p_ - 1).toNat))) → Z RX0 cX0_spread 3 none 2 (zQ (PN (zrow M 68 (sprR (M 68) (M 8 3) d_)))) 24 [some (vR 8), some (vI d_), some (vI p_)] [] (N_) := by
          intro fuel_
          induction fuel_ with
          | zero => intro p_ N_ hfuel_ hp_ hN_; exfalso; omega
          | succ fuel_ ih24 =>
            intro p_ N_ hfuel_ hp_ hN_
            have n8_ : N_ 8 = M 8 := by rw [hN_, zrow_ne (by decide)]
            have nr_ : rngV (N_ 68) d_ (M 8 3) := by rw [hN_, zrow_eq]; exact spD_rng hB.2 (spU_rng hB.2 hr 24 (by decide)) _ (by omega)
            refine z_iload_2 dX0_spread_24 ?_
            refine z_bipush dX0_spread_25 (by decide) ?_
            refine z_icmp_ge (tgt := 45) (by omega) (by decide) dX0_spread_27 (by decide) (fun c27 => ?_) (fun c27 => ?_)
            · exact z_vret dX0_spread_45 (zPN (by rw [hN_, show (p_ - 1).toNat = 24 by omega]; rfl))
            · refine z_aload_0 dX0_spread_30 ?_
              refine z_iload_1 dX0_spread_31 ?_
              refine z_iload_2 dX0_spread_32 ?_
              refine z_iload_2 dX0_spread_33 ?_
              refine z_iconst dX0_spread_34 ?_
              refine z_isub dX0_spread_35 ?_
              refine z_cVN yv_X0_step ml_X0_78 (c_X0_step (M := N_) hd (by omega) (by omega) (by omega) (by rw [n8_]; exact hB) (by rw [n8_]; exact nr_)) zk_8 rfl rfl (by decide) (Nat.le_of_ble_eq_true rfl) dX0_spread_36 ?_
              refine z_mem (show _ = (zrow M 68 (spD (spU (M 68) (M 8 3) d_ 24) (M 8 3) d_ (p_ + 1 - 1).toNat)) by rw [n8_, hN_, zrow_eq, zrow_row, show (p_ + 1 - 1).toNat = (p_ - 1).toNat + 1 by omega, spD, show (1 : Int) + ((p_ - 1).toNat : Int) = p_ by omega]) ?_
              refine z_iinc_2 rfl dX0_spread_39 ?_
              refine z_goto (tgt := 24) dX0_spread_42 (by decide) ?_
              exact ih24 _ _ (by omega) (by omega) (by rfl)
        have L24 : ∀ (p_ : Int) (N_ : zM), (1 ≤ p_ ∧ p_ ≤ 25) → (N_ = (zrow M 68 (spD (spU (M 68) (M 8 3) d_ 24) (M 8 3) d_ (p_ - 1).toNat))) → Z RX0 cX0_spread 3 none 2 (zQ (PN (zrow M 68 (sprR (M 68) (M 8 3) d_)))) 24 [some (vR 8), some (vI d_), some (vI p_)] [] (N_) := fun p_ N_ hp_ hN_ => K24 ((25 - p_).toNat + 1) p_ N_ (by omega) hp_ hN_
        exact L24 _ _ (by omega) (by show N_ = zrow M 68 (spU (M 68) (M 8 3) d_ 24); rw [hN_, show (23 - p_).toNat = 24 by omega])
      · refine z_aload_0 dX0_spread_7 ?_
        refine z_iload_1 dX0_spread_8 ?_
        refine z_iload_2 dX0_spread_9 ?_
        refine z_iload_2 dX0_spread_10 ?_
        refine z_iconst dX0_spread_11 ?_
        refine z_iadd dX0_spread_12 ?_
        refine z_cVN yv_X0_step ml_X0_78 (c_X0_step (M := N_) hd (by omega) (by omega) (by omega) (by rw [n8_]; exact hB) (by rw [n8_]; exact nr_)) zk_8 rfl rfl (by decide) (Nat.le_of_ble_eq_true rfl) dX0_spread_13 ?_
        refine z_mem (show _ = (zrow M 68 (spU (M 68) (M 8 3) d_ (23 - (p_ + -1)).toNat)) by rw [n8_, hN_, zrow_eq, zrow_row, show (23 - (p_ + -1)).toNat = (23 - p_).toNat + 1 by omega, spU, show (23 : Int) - ((23 - p_).toNat : Int) = p_ by omega]) ?_
        refine z_iinc_2 rfl dX0_spread_16 ?_
        refine z_goto (tgt := 3) dX0_spread_19 (by decide) ?_
        exact ih3 _ _ (by omega) (by omega) (by rfl)
  have L3 : ∀ (p_ : Int) (N_ : zM), (-1 ≤ p_ ∧ p_ ≤ 23) → (N_ = (zrow M 68 (spU (M 68) (M 8 3) d_ (23 - p_).toNat))) → Z RX0 cX0_spread 3 none 2 (zQ (PN (zrow M 68 (sprR (M 68) (M 8 3) d_)))) 3 [some (vR 8), some (vI d_), some (vI p_)] [] (N_) := fun p_ N_ hp_ hN_ => K3 ((p_ + 1).toNat + 1) p_ N_ (by omega) hp_ hN_
  exact L3 _ _ (by omega) (by show M = zrow M 68 (M 68); exact zrow_self.symm)

theorem c_X0_stay {M : zM} {d_ : Int} {w : Nat} (hw : isW w) (hn : WN M w) (hp : pOK (M (10 + w))) (ht : 0 ≤ M w 0 ∧ M w 0 ≤ 2000) (hd : 0 ≤ d_ ∧ d_ < M 8 2) (h2 : 1 ≤ M 8 2 ∧ M 8 2 ≤ 8) (hB : 0 ≤ M 8 3 ∧ M 8 3 ≤ 60) : Call yX0_stay cX0_stay 11 none 3 [vR 8, vR w, vI d_] (M) (RN (fun N => (∀ k_ : Nat, k_ ≠ 67 → k_ ≠ 68 → N k_ = M k_) ∧ N 67 = zfillA (fun j_ => (worthS (M (10 + w)) (M w 6).toNat (gW M w) (M w 0 + 1 + d_) ((j_ - d_ * 25) - 12))) (M 67) (d_ * 25)  25 ∧ (∀ q_ l_ : Int, 0 ≤ q_ ∧ q_ < 25 → 0 ≤ l_ → l_ ≤ M 8 3 → N 68 ((d_ * 25 + q_) * 61 + l_) = (worthS (M (10 + w)) (M w 6).toNat (gW M w) (M w 0 + 1 + d_) (q_ - 12)) * 64 + vF M (d_ + 1) q_ l_) ∧ (∀ j_ : Int, j_ < d_ * 1525 ∨ d_ * 1525 + 1525 ≤ j_ → N 68 j_ = M 68 j_))) := by
  refine Call.of2 (own := RX0) (lv0 := [some (vR 8), some (vR w), some (vI d_), none, none, none, none, none, none, none, none]) rfl (by decide) rfl (Nat.le_of_ble_eq_true rfl) ?_
  have hw3_ : 1 ≤ w ∧ w ≤ 3 := by rcases hw with rfl | rfl | rfl <;> decide
  
  refine z_iconst dX0_stay_0 ?_
  refine z_istore_3 rfl dX0_stay_1 ?_
  have K2 : ∀ (fuel_ : Nat) (p_ : Int) (N_ : zM), 25 - p_ < (fuel_ : Int) → (0 ≤ p_ ∧ p_ ≤ 25) → (∀ k_ : Nat, k_ ≠ 67 → k_ ≠ 68 → N_ k_ = M k_) → (N_ 67 = zfillA (fun j_ => (worthS (M (10 + w)) (M w 6).toNat (gW M w) (M w 0 + 1 + d_) ((j_ - d_ * 25) - 12))) (M 67) (d_ * 25)  p_) → (∀ q_ l_ : Int, 0 ≤ q_ ∧ q_ < p_ → 0 ≤ l_ → l_ ≤ M 8 3 → N_ 68 ((d_ * 25 + q_) * 61 + l_) = (worthS (M (10 + w)) (M w 6).toNat (gW M w) (M w 0 + 1 + d_) (q_ - 12)) * 64 + vF M (d_ + 1) q_ l_) → (∀ j_ : Int, j_ < d_ * 1525 ∨ d_ * 1525 + 1525 ≤ j_ → N_ 68 j_ = M 68 j_) → Z RX0 cX0_stay 11 none 3 (zQ (RN (fun N => (∀ k_ : Nat, k_ ≠ 67 → k_ ≠ 68 → N k_ = M k_) ∧ N 67 = zfillA (fun j_ => (worthS (M (10 + w)) (M w 6).toNat (gW M w) (M w 0 + 1 + d_) ((j_ - d_ * 25) - 12))) (M 67) (d_ * 25)  25 ∧ (∀ q_ l_ : Int, 0 ≤ q_ ∧ q_ < 25 → 0 ≤ l_ → l_ ≤ M 8 3 → N 68 ((d_ * 25 + q_) * 61 + l_) = (worthS (M (10 + w)) (M w 6).toNat (gW M w) (M w 0 + 1 + d_) (q_ - 12)) * 64 + vF M (d_ + 1) q_ l_) ∧ (∀ j_ : Int, j_ < d_ * 1525 ∨ d_ * 1525 + 1525 ≤ j_ → N 68 j_ = M 68 j_)))) 2 [some (vR 8), some (vR w), some (vI d_), some (vI p_), none, none, none, none, none, none, none] [] (N_) := by
    intro fuel_
    induction fuel_ with
    | zero => intro p_ N_ hfuel_ hp_ hN1_ hN2_ hN3_ hN4_; exfalso; omega
    | succ fuel_ ih2 =>
      intro p_ N_ hfuel_ hp_ hN1_ hN2_ hN3_ hN4_
      have nk_ : ∀ k_ : Nat, k_ ≤ 55 → N_ k_ = M k_ := fun k_ h_ => hN1_ k_ (by omega) (by omega)
      refine z_iload_3 dX0_stay_2 ?_
      refine z_bipush dX0_stay_3 (by decide) ?_
      refine z_icmp_ge (tgt := 126) (by omega) (by decide) dX0_stay_5 (by decide) (fun c5 => ?_) (fun c5 => ?_)
      · exact z_vret dX0_stay_126 (zRN ⟨hN1_, by rw [hN2_, show p_ = 25 by omega], fun q_ l_ h_ => hN3_ q_ l_ (by omega), hN4_⟩)
      · refine z_aload_1 dX0_stay_8 ?_
        refine z_aload_1 dX0_stay_9 ?_
        refine z_getIv (v := (M w 0)) fl_X0_65 (zw_k hw) rfl (by rw [nk_ _ (by omega)]) dX0_stay_10 ?_
        refine z_iconst dX0_stay_13 ?_
        refine z_iadd dX0_stay_14 ?_
        refine z_iload_2 dX0_stay_15 ?_
        refine z_iadd dX0_stay_16 ?_
        refine z_iload_3 dX0_stay_17 ?_
        refine z_bipush dX0_stay_18 (by decide) ?_
        refine z_isub dX0_stay_20 ?_
        refine z_cVJ yv_X5_worthOf ml_X0_68 (c_X5_worthOf (M := N_) hw (WN_N hw hn nk_) (by rw [nk_ _ (by omega)]; exact hp) (by omega) (by omega)) (zw_k hw) rfl rfl (by decide) (Nat.le_of_ble_eq_true rfl) dX0_stay_21 ?_
        rw [worthN hw hn nk_]
        have hg_ := worthS_le (day := M w 0 + 1 + d_) (h := p_ - 12) hp (WN_all hn)
        refine z_lstore_4 rfl dX0_stay_24 ?_
        refine z_aload_0 dX0_stay_26 ?_
        refine z_getR (r := 67) fl_X0_9 zk_8 rfl rfl dX0_stay_27 ?_
        refine z_iload_2 dX0_stay_30 ?_
        refine z_bipush dX0_stay_31 (by decide) ?_
        refine z_imul dX0_stay_33 ?_
        refine z_iload_3 dX0_stay_34 ?_
        refine z_iadd dX0_stay_35 ?_
        refine z_lload_4 dX0_stay_36 ?_
        refine z_last (n := 200) zk_67 rfl (by omega) dX0_stay_38 ?_
        refine z_iload_2 dX0_stay_39 ?_
        refine z_iload_3 dX0_stay_40 ?_
        refine z_iconst dX0_stay_41 ?_
        refine z_cSI ys_X0_cell ml_X0_72 c_X0_cell rfl rfl (by decide) (Nat.le_of_ble_eq_true rfl) dX0_stay_42 ?_
        refine z_istore_6 rfl dX0_stay_45 ?_
        refine z_iload_2 dX0_stay_47 ?_
        refine z_iconst dX0_stay_48 ?_
        refine z_iadd dX0_stay_49 ?_
        refine z_iload_3 dX0_stay_50 ?_
        refine z_iconst dX0_stay_51 ?_
        refine z_cSI ys_X0_cell ml_X0_72 c_X0_cell rfl rfl (by decide) (Nat.le_of_ble_eq_true rfl) dX0_stay_52 ?_
        refine z_istore_7 rfl dX0_stay_55 ?_
        refine z_iconst dX0_stay_57 ?_
        refine z_istore_8 rfl dX0_stay_58 ?_
        have K60 : ∀ (fuel_ : Nat) (l_ : Int) (P_ : zM), M 8 3 + 1 - l_ < (fuel_ : Int) → (0 ≤ l_ ∧ l_ ≤ M 8 3 + 1) → (P_ = zrow (zput N_ 67 (d_ * 25 + p_) (worthS (M (10 + w)) (M w 6).toNat (gW M w) (M w 0 + 1 + d_) (p_ - 12))) 68 (zfillA (fun j_ => (worthS (M (10 + w)) (M w 6).toNat (gW M w) (M w 0 + 1 + d_) (p_ - 12)) * 64 + vF M (d_ + 1) p_ (j_ - (d_ * 25 + p_) * 61)) (N_ 68) ((d_ * 25 + p_) * 61) l_)) → Z RX0 cX0_stay 11 none 3 (zQ (RN (fun N => (∀ k_ : Nat, k_ ≠ 67 → k_ ≠ 68 → N k_ = M k_) ∧ N 67 = zfillA (fun j_ => (worthS (M (10 + w)) (M w 6).toNat (gW M w) (M w 0 + 1 + d_) ((j_ - d_ * 25) - 12))) (M 67) (d_ * 25)  25 ∧ (∀ q_ l_ : Int, 0 ≤ q_ ∧ q_ < 25 → 0 ≤ l_ → l_ ≤ M 8 3 → N 68 ((d_ * 25 + q_) * 61 + l_) = (worthS (M (10 + w)) (M w 6).toNat (gW M w) (M w 0 + 1 + d_) (q_ - 12)) * 64 + vF M (d_ + 1) q_ l_) ∧ (∀ j_ : Int, j_ < d_ * 1525 ∨ d_ * 1525 + 1525 ≤ j_ → N 68 j_ = M 68 j_)))) 60 [some (vR 8), some (vR w), some (vI d_), some (vI p_), some (vJ (worthS (M (10 + w)) (M w 6).toNat (gW M w) (M w 0 + 1 + d_) (p_ - 12))), none, some (vI ((d_ * 25 + p_) * 61 + 0)), some (vI (((d_ + 1) * 25 + p_) * 61 + 0)), some (vI l_), none, none] [] (P_) := by
          intro fuel_
          induction fuel_ with
          | zero => intro l_ P_ hfuel_ hl_ hP_; exfalso; omega
          | succ fuel_ ih60 =>
            intro l_ P_ hfuel_ hl_ hP_
            have p8_ : P_ 8 = M 8 := by rw [hP_, zrow_ne (by decide), zput_ne (by decide)]; exact hN1_ 8 (by decide) (by decide)
            refine z_iload_8 dX0_stay_60 ?_
            refine z_aload_0 dX0_stay_62 ?_
            refine z_getIv (v := (M 8 3)) fl_X0_22 zk_8 rfl (by rw [p8_]) dX0_stay_63 ?_
            refine z_icmp_gt (tgt := 120) (by omega) (by omega) dX0_stay_66 (by decide) (fun c66 => ?_) (fun c66 => ?_)
            · refine z_iinc_3 rfl dX0_stay_120 ?_
              refine z_goto (tgt := 2) dX0_stay_123 (by decide) ?_
              refine z_drop_4 ?_
              refine z_drop_6 ?_
              refine z_drop_7 ?_
              refine z_drop_8 ?_
              exact ih2 _ _ (by omega) (by omega) (by intro k_ h1_ h2_; rw [hP_, zrow_ne h2_, zput_ne h1_]; exact hN1_ k_ h1_ h2_) (by have e_ := congrFun (zfillA_1 (M := N_) (k := 67) (f := (fun j_ => (worthS (M (10 + w)) (M w 6).toNat (gW M w) (M w 0 + 1 + d_) ((j_ - d_ * 25) - 12)))) (g := M 67) (a := d_ * 25) (i := p_) hp_.1) 67; rw [zrow_eq] at e_; rw [hP_, zrow_ne (by decide), ← e_, ← hN2_, zrow_self, show d_ * 25 + p_ - d_ * 25 = p_ by omega]) (by intro q_ l2_ h0_ h1_ h2_; rw [hP_, zrow_eq]; unfold zfillA; by_cases hq_ : q_ = p_; (subst hq_; rw [if_pos (by omega)]; dsimp only; rw [show (d_ * 25 + q_) * 61 + l2_ - (d_ * 25 + q_) * 61 = l2_ by omega]); (rw [if_neg (by omega)]; exact hN3_ q_ l2_ (by omega) h1_ h2_)) (by intro j_ h_; rw [hP_, zrow_eq]; unfold zfillA; rw [if_neg (by omega)]; exact hN4_ j_ h_)
            · refine z_iload_2 dX0_stay_69 ?_
              refine z_aload_0 dX0_stay_70 ?_
              refine z_getIv (v := (M 8 2)) fl_X0_18 zk_8 rfl (by rw [p8_]) dX0_stay_71 ?_
              refine z_iconst dX0_stay_74 ?_
              refine z_isub dX0_stay_75 ?_
              refine z_icmp_ge (tgt := 92) (by omega) (by omega) dX0_stay_76 (by decide) (fun c76 => ?_) (fun c76 => ?_)
              · refine z_lconst0 dX0_stay_92 ?_
                refine z_lstore_9 rfl dX0_stay_93 ?_
                refine z_aload_0 dX0_stay_95 ?_
                refine z_getR (r := 68) fl_X0_15 zk_8 rfl rfl dX0_stay_96 ?_
                refine z_iload_6 dX0_stay_99 ?_
                refine z_iload_8 dX0_stay_101 ?_
                refine z_iadd dX0_stay_103 ?_
                refine z_lload_4 dX0_stay_104 ?_
                refine z_ldc2 (n := 64) kl_X0_76 (by decide) dX0_stay_106 ?_
                refine z_lmul dX0_stay_109 ?_
                refine z_lload_9 dX0_stay_110 ?_
                refine z_ladd dX0_stay_112 ?_
                refine z_last (n := 12200) zk_68 rfl (by omega) dX0_stay_113 ?_
                refine z_iinc_8 rfl dX0_stay_114 ?_
                refine z_goto (tgt := 60) dX0_stay_117 (by decide) ?_
                refine z_drop_9 ?_
                exact ih60 _ _ (by omega) (by omega) (by refine Eq.trans ?_ (zfillA_1 (f := (fun j_ => (worthS (M (10 + w)) (M w 6).toNat (gW M w) (M w 0 + 1 + d_) (p_ - 12)) * 64 + vF M (d_ + 1) p_ (j_ - (d_ * 25 + p_) * 61))) hl_.1); rw [← hP_, show (d_ * 25 + p_) * 61 + 0 + l_ = (d_ * 25 + p_) * 61 + l_ by omega]; rw [show (d_ * 25 + p_) * 61 + l_ - (d_ * 25 + p_) * 61 = l_ by omega]; first | rw [show vF M (d_ + 1) p_ l_ = 0 from if_neg (by omega)] | rw [show vF M (d_ + 1) p_ l_ = M 68 (((d_ + 1) * 25 + p_) * 61 + l_) from if_pos (by omega)])
              · refine z_aload_0 dX0_stay_79 ?_
                refine z_getR (r := 68) fl_X0_15 zk_8 rfl rfl dX0_stay_80 ?_
                refine z_iload_7 dX0_stay_83 ?_
                refine z_iload_8 dX0_stay_85 ?_
                refine z_iadd dX0_stay_87 ?_
                refine z_laldv (n := 12200) (v := (M 68 (((d_ + 1) * 25 + p_) * 61 + l_))) zk_68 rfl (by omega) (by rw [show ((d_ + 1) * 25 + p_) * 61 + 0 + l_ = ((d_ + 1) * 25 + p_) * 61 + l_ by omega, hP_, zrow_eq]; unfold zfillA; rw [if_neg (by omega), hN4_ _ (by omega)]) dX0_stay_88 ?_
                refine z_goto (tgt := 93) dX0_stay_89 (by decide) ?_
                refine z_lstore_9 rfl dX0_stay_93 ?_
                refine z_aload_0 dX0_stay_95 ?_
                refine z_getR (r := 68) fl_X0_15 zk_8 rfl rfl dX0_stay_96 ?_
                refine z_iload_6 dX0_stay_99 ?_
                refine z_iload_8 dX0_stay_101 ?_
                refine z_iadd dX0_stay_103 ?_
                refine z_lload_4 dX0_stay_104 ?_
                refine z_ldc2 (n := 64) kl_X0_76 (by decide) dX0_stay_106 ?_
                refine z_lmul dX0_stay_109 ?_
                refine z_lload_9 dX0_stay_110 ?_
                refine z_ladd dX0_stay_112 ?_
                refine z_last (n := 12200) zk_68 rfl (by omega) dX0_stay_113 ?_
                refine z_iinc_8 rfl dX0_stay_114 ?_
                refine z_goto (tgt := 60) dX0_stay_117 (by decide) ?_
                refine z_drop_9 ?_
                exact ih60 _ _ (by omega) (by omega) (by refine Eq.trans ?_ (zfillA_1 (f := (fun j_ => (worthS (M (10 + w)) (M w 6).toNat (gW M w) (M w 0 + 1 + d_) (p_ - 12)) * 64 + vF M (d_ + 1) p_ (j_ - (d_ * 25 + p_) * 61))) hl_.1); rw [← hP_, show (d_ * 25 + p_) * 61 + 0 + l_ = (d_ * 25 + p_) * 61 + l_ by omega]; rw [show (d_ * 25 + p_) * 61 + l_ - (d_ * 25 + p_) * 61 = l_ by omega]; first | rw [show vF M (d_ + 1) p_ l_ = 0 from if_neg (by omega)] | rw [show vF M (d_ + 1) p_ l_ = M 68 (((d_ + 1) * 25 + p_) * 61 + l_) from if_pos (by omega)])
        have L60 : ∀ (l_ : Int) (P_ : zM), (0 ≤ l_ ∧ l_ ≤ M 8 3 + 1) → (P_ = zrow (zput N_ 67 (d_ * 25 + p_) (worthS (M (10 + w)) (M w 6).toNat (gW M w) (M w 0 + 1 + d_) (p_ - 12))) 68 (zfillA (fun j_ => (worthS (M (10 + w)) (M w 6).toNat (gW M w) (M w 0 + 1 + d_) (p_ - 12)) * 64 + vF M (d_ + 1) p_ (j_ - (d_ * 25 + p_) * 61)) (N_ 68) ((d_ * 25 + p_) * 61) l_)) → Z RX0 cX0_stay 11 none 3 (zQ (RN (fun N => (∀ k_ : Nat, k_ ≠ 67 → k_ ≠ 68 → N k_ = M k_) ∧ N 67 = zfillA (fun j_ => (worthS (M (10 + w)) (M w 6).toNat (gW M w) (M w 0 + 1 + d_) ((j_ - d_ * 25) - 12))) (M 67) (d_ * 25)  25 ∧ (∀ q_ l_ : Int, 0 ≤ q_ ∧ q_ < 25 → 0 ≤ l_ → l_ ≤ M 8 3 → N 68 ((d_ * 25 + q_) * 61 + l_) = (worthS (M (10 + w)) (M w 6).toNat (gW M w) (M w 0 + 1 + d_) (q_ - 12)) * 64 + vF M (d_ + 1) q_ l_) ∧ (∀ j_ : Int, j_ < d_ * 1525 ∨ d_ * 1525 + 1525 ≤ j_ → N 68 j_ = M 68 j_)))) 60 [some (vR 8), some (vR w), some (vI d_), some (vI p_), some (vJ (worthS (M (10 + w)) (M w 6).toNat (gW M w) (M w 0 + 1 + d_) (p_ - 12))), none, some (vI ((d_ * 25 + p_) * 61 + 0)), some (vI (((d_ + 1) * 25 + p_) * 61 + 0)), some (vI l_), none, none] [] (P_) := fun l_ P_ hl_ hP_ => K60 ((M 8 3 + 1 - l_).toNat + 1) l_ P_ (by omega) hl_ hP_
        exact L60 _ _ (by omega) (by rw [zfillA_0, show N_ 68 = (zput N_ 67 (d_ * 25 + p_) (worthS (M (10 + w)) (M w 6).toNat (gW M w) (M w 0 + 1 + d_) (p_ - 12))) 68 by rw [zput_ne (by decide)], zrow_self])
  have L2 : ∀ (p_ : Int) (N_ : zM), (0 ≤ p_ ∧ p_ ≤ 25) → (∀ k_ : Nat, k_ ≠ 67 → k_ ≠ 68 → N_ k_ = M k_) → (N_ 67 = zfillA (fun j_ => (worthS (M (10 + w)) (M w 6).toNat (gW M w) (M w 0 + 1 + d_) ((j_ - d_ * 25) - 12))) (M 67) (d_ * 25)  p_) → (∀ q_ l_ : Int, 0 ≤ q_ ∧ q_ < p_ → 0 ≤ l_ → l_ ≤ M 8 3 → N_ 68 ((d_ * 25 + q_) * 61 + l_) = (worthS (M (10 + w)) (M w 6).toNat (gW M w) (M w 0 + 1 + d_) (q_ - 12)) * 64 + vF M (d_ + 1) q_ l_) → (∀ j_ : Int, j_ < d_ * 1525 ∨ d_ * 1525 + 1525 ≤ j_ → N_ 68 j_ = M 68 j_) → Z RX0 cX0_stay 11 none 3 (zQ (RN (fun N => (∀ k_ : Nat, k_ ≠ 67 → k_ ≠ 68 → N k_ = M k_) ∧ N 67 = zfillA (fun j_ => (worthS (M (10 + w)) (M w 6).toNat (gW M w) (M w 0 + 1 + d_) ((j_ - d_ * 25) - 12))) (M 67) (d_ * 25)  25 ∧ (∀ q_ l_ : Int, 0 ≤ q_ ∧ q_ < 25 → 0 ≤ l_ → l_ ≤ M 8 3 → N 68 ((d_ * 25 + q_) * 61 + l_) = (worthS (M (10 + w)) (M w 6).toNat (gW M w) (M w 0 + 1 + d_) (q_ - 12)) * 64 + vF M (d_ + 1) q_ l_) ∧ (∀ j_ : Int, j_ < d_ * 1525 ∨ d_ * 1525 + 1525 ≤ j_ → N 68 j_ = M 68 j_)))) 2 [some (vR 8), some (vR w), some (vI d_), some (vI p_), none, none, none, none, none, none, none] [] (N_) := fun p_ N_ hp_ hN1_ hN2_ hN3_ hN4_ => K2 ((25 - p_).toNat + 1) p_ N_ (by omega) hp_ hN1_ hN2_ hN3_ hN4_
  exact L2 _ _ (by omega) (by intro k_ _ _; rfl) (by exact zfillA_0.symm) (by intro q_ l_ h_; exfalso; omega) (by intro j_ _; rfl)
