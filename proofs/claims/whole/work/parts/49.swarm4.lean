theorem behC_le {D U : Int → Int} {g q x : Int} (hq : 0 ≤ q ∧ q ≤ 20) (hD : ∀ j : Int, 0 ≤ j → j < 41 → 0 ≤ D j ∧ D j ≤ 1000000) (hU : ∀ j : Int, 0 ≤ j → j < 41 → 0 ≤ U j ∧ U j ≤ 1000000) : 0 ≤ behC D U g q x ∧ behC D U g q x ≤ 1000000 := by
  have h1 : ∀ a b : Int, (0 ≤ a ∧ a ≤ 1000000) → (0 ≤ b ∧ b ≤ 1000000) → 0 ≤ zmin a b ∧ zmin a b ≤ 1000000 := fun a b ha hb => by
    have := zmin_c a b
    omega
  have lo := zmin_c (x - g) (2 * q)
  have hi := zmax_c (x + g) 0
  unfold behC
  refine h1 _ _ ?_ ?_
  · by_cases h : zmin (x - g) (2 * q) < 0
    · rw [if_pos h]; decide
    · rw [if_neg h]; exact hD _ (by omega) (by omega)
  · by_cases h : 2 * q < zmax (x + g) 0
    · rw [if_pos h]; decide
    · rw [if_neg h]; exact hU _ (by omega) (by omega)
def weiV (M : zM) (i m : Int) : Int := zmin ((if i = M 9 5 - 1 then 0 else behC (M 72) (M 73) (M 9 6) (M 9 7) (M 70 i + m - M 70 (i + 1) + M 9 7)) + costO m) 1000000
theorem c_X3_weigh {M : zM} {i_ : Int} (hi : 0 ≤ i_ ∧ i_ < M 9 5) (hz : 1 ≤ M 9 5 ∧ M 9 5 ≤ 12) (hg : 0 ≤ M 9 6 ∧ M 9 6 ≤ 50) (hq : 0 ≤ M 9 7 ∧ M 9 7 ≤ 20) (hH : ∀ j : Int, 0 ≤ j → j < 12 → -1000000 ≤ M 70 j ∧ M 70 j ≤ 1000000) (hD : ∀ j : Int, 0 ≤ j → j < 41 → 0 ≤ M 72 j ∧ M 72 j ≤ 1000000) (hU : ∀ j : Int, 0 ≤ j → j < 41 → 0 ≤ M 73 j ∧ M 73 j ≤ 1000000) : Call yX3_weigh cX3_weigh 5 none 2 [vR 9, vI i_] (M) (PN (zrow M 71 (zfillA (fun t_ => weiV M i_ (t_ - i_ * 41 - M 9 7)) (M 71) (i_ * 41) (2 * M 9 7 + 1)))) := by
  refine Call.of2 (own := RX3) (lv0 := [some (vR 9), some (vI i_), none, none, none]) rfl (by decide) rfl (Nat.le_of_ble_eq_true rfl) ?_
  refine z_aload_0 dX3_weigh_0 ?_
  refine z_getI fl_X3_34 zk_9 rfl dX3_weigh_1 ?_
  refine z_ineg dX3_weigh_4 ?_
  refine z_istore_2 rfl dX3_weigh_5 ?_
  have K6 : ∀ (fuel_ : Nat) (m_ : Int) (N_ : zM), M 9 7 + 1 - m_ < (fuel_ : Int) → (-M 9 7 ≤ m_ ∧ m_ ≤ M 9 7 + 1) → (N_ = (zrow M 71 (zfillA (fun t_ => weiV M i_ (t_ - i_ * 41 - M 9 7)) (M 71) (i_ * 41) (m_ + M 9 7)))) → Z RX3 cX3_weigh 5 none 2 (zQ (PN (zrow M 71 (zfillA (fun t_ => weiV M i_ (t_ - i_ * 41 - M 9 7)) (M 71) (i_ * 41) (2 * M 9 7 + 1))))) 6 [some (vR 9), some (vI i_), some (vI m_), none, none] [] (N_) := by
    intro fuel_
    induction fuel_ with
    | zero => intro m_ N_ hfuel_ hm_ hN_; exfalso; omega
    | succ fuel_ ih6 =>
      intro m_ N_ hfuel_ hm_ hN_
      have n9_ : N_ 9 = M 9 := by rw [hN_, zrow_ne (by decide)]
      have n70_ : N_ 70 = M 70 := by rw [hN_, zrow_ne (by decide)]
      have n72_ : N_ 72 = M 72 := by rw [hN_, zrow_ne (by decide)]
      have n73_ : N_ 73 = M 73 := by rw [hN_, zrow_ne (by decide)]
      refine z_iload_2 dX3_weigh_6 ?_
      refine z_aload_0 dX3_weigh_7 ?_
      refine z_getIv (v := (M 9 7)) fl_X3_34 zk_9 rfl (by rw [n9_]) dX3_weigh_8 ?_
      refine z_icmp_gt (tgt := 72) (by omega) (by omega) dX3_weigh_11 (by decide) (fun c11 => ?_) (fun c11 => ?_)
      · exact z_vret dX3_weigh_72 (zPN (by rw [hN_, show m_ + M 9 7 = 2 * M 9 7 + 1 by omega]))
      · have J34 : ∀ (v_ : Int), (v_ = if i_ = M 9 5 - 1 then 0 else (behC (M 72) (M 73) (M 9 6) (M 9 7) (M 70 i_ + m_ - M 70 (i_ + 1) + M 9 7))) → (0 ≤ v_ ∧ v_ ≤ 1000000) → Z RX3 cX3_weigh 5 none 2 (zQ (PN (zrow M 71 (zfillA (fun t_ => weiV M i_ (t_ - i_ * 41 - M 9 7)) (M 71) (i_ * 41) (2 * M 9 7 + 1))))) 34 [some (vR 9), some (vI i_), some (vI m_), none, none] [vI v_] (N_) := by
          intro v_ hv_ hv2_
          refine z_istore_3 rfl dX3_weigh_34 ?_
          have hco_ : 0 ≤ costO m_ ∧ costO m_ ≤ 1100 := by have := zabs_cases m_; unfold costO; split <;> omega
          refine z_iload_3 dX3_weigh_35 ?_
          refine z_iload_2 dX3_weigh_36 ?_
          refine z_cSI ys_X3_costOf ml_X3_77 (c_X3_costOf (by omega)) rfl rfl (by decide) (Nat.le_of_ble_eq_true rfl) dX3_weigh_37 ?_
          refine z_iadd dX3_weigh_40 ?_
          refine z_istore_4 rfl dX3_weigh_41 ?_
          refine z_aload_0 dX3_weigh_43 ?_
          refine z_getR (r := 71) fl_X3_15 zk_9 rfl rfl dX3_weigh_44 ?_
          refine z_iload_1 dX3_weigh_47 ?_
          refine z_bipush dX3_weigh_48 (by decide) ?_
          refine z_imul dX3_weigh_50 ?_
          refine z_aload_0 dX3_weigh_51 ?_
          refine z_getIv (v := (M 9 7)) fl_X3_34 zk_9 rfl (by rw [n9_]) dX3_weigh_52 ?_
          refine z_iadd dX3_weigh_55 ?_
          refine z_iload_2 dX3_weigh_56 ?_
          refine z_iadd dX3_weigh_57 ?_
          refine z_iload_4 dX3_weigh_58 ?_
          refine z_ldc (n := 1000000) kc_X3_73 (by decide) dX3_weigh_60 ?_
          refine z_mmin ml_X3_49 (by decide) (Nat.le_of_ble_eq_true rfl) (by omega) (by decide) dX3_weigh_62 ?_
          refine z_iast (n := 492) zk_71 rfl (by omega) dX3_weigh_65 ?_
          refine z_iinc_2 rfl dX3_weigh_66 ?_
          refine z_goto (tgt := 6) dX3_weigh_69 (by decide) ?_
          refine z_drop_3 ?_
          refine z_drop_4 ?_
          exact ih6 _ _ (by omega) (by omega) (by rw [hN_, show m_ + 1 + M 9 7 = m_ + M 9 7 + 1 by omega]; refine Eq.trans ?_ (zfillA_1 (f := (fun t_ => weiV M i_ (t_ - i_ * 41 - M 9 7))) (by omega)); show _ = zput _ _ _ (weiV M i_ (i_ * 41 + (m_ + M 9 7) - i_ * 41 - M 9 7)); rw [show i_ * 41 + (m_ + M 9 7) - i_ * 41 - M 9 7 = m_ by omega, show i_ * 41 + (m_ + M 9 7) = i_ * 41 + M 9 7 + m_ by omega, weiV, ← hv_]; rfl)
        refine z_iload_1 dX3_weigh_14 ?_
        refine z_aload_0 dX3_weigh_15 ?_
        refine z_getIv (v := (M 9 5)) fl_X3_27 zk_9 rfl (by rw [n9_]) dX3_weigh_16 ?_
        refine z_iconst dX3_weigh_19 ?_
        refine z_isub dX3_weigh_20 ?_
        refine z_icmp_ne (tgt := 28) (by omega) (by omega) dX3_weigh_21 (by decide) (fun c21 => ?_) (fun c21 => ?_)
        · refine z_aload_0 dX3_weigh_28 ?_
          refine z_iload_1 dX3_weigh_29 ?_
          refine z_iload_2 dX3_weigh_30 ?_
          refine z_cVI yv_X3_costBehind ml_X3_74 (c_X3_costBehind (M := N_) (by omega) (by omega) (by rw [n9_]; exact hg) (by rw [n9_]; exact hq) (by rw [n70_]; exact hH) (by rw [n72_]; exact hD) (by rw [n73_]; exact hU)) zk_9 rfl rfl (by decide) (Nat.le_of_ble_eq_true rfl) dX3_weigh_31 ?_
          rw [n9_, n70_, n72_, n73_]
          exact J34 _ (by first | exact (if_pos (by omega)).symm | exact (if_neg (by omega)).symm | decide | exact behC_le hq hD hU) (by first | exact (if_pos (by omega)).symm | exact (if_neg (by omega)).symm | decide | exact behC_le hq hD hU)
        · refine z_iconst dX3_weigh_24 ?_
          refine z_goto (tgt := 34) dX3_weigh_25 (by decide) ?_
          exact J34 _ (by first | exact (if_pos (by omega)).symm | exact (if_neg (by omega)).symm | decide | exact behC_le hq hD hU) (by first | exact (if_pos (by omega)).symm | exact (if_neg (by omega)).symm | decide | exact behC_le hq hD hU)
  have L6 : ∀ (m_ : Int) (N_ : zM), (-M 9 7 ≤ m_ ∧ m_ ≤ M 9 7 + 1) → (N_ = (zrow M 71 (zfillA (fun t_ => weiV M i_ (t_ - i_ * 41 - M 9 7)) (M 71) (i_ * 41) (m_ + M 9 7)))) → Z RX3 cX3_weigh 5 none 2 (zQ (PN (zrow M 71 (zfillA (fun t_ => weiV M i_ (t_ - i_ * 41 - M 9 7)) (M 71) (i_ * 41) (2 * M 9 7 + 1))))) 6 [some (vR 9), some (vI i_), some (vI m_), none, none] [] (N_) := fun m_ N_ hm_ hN_ => K6 ((M 9 7 + 1 - m_).toNat + 1) m_ N_ (by omega) hm_ hN_
  exact L6 _ _ (by omega) (by rw [show -M 9 7 + M 9 7 = 0 by omega]; exact zfillA_0M)
