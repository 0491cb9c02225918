theorem zfillA_d {M : zM} {k : Nat} {f g : Int → Int} {a n : Int} (hn : 0 ≤ n) : zput (zrow M k (zfillA f g (a + 1) n)) k a (f a) = zrow M k (zfillA f g a (n + 1)) := by
  rw [zput_row, zrow_eq, zrow_row]
  congr 1
  funext j
  unfold zup zfillA
  by_cases h : j = a
  · subst h
    rw [if_pos rfl, if_pos (by omega)]
  · rw [if_neg h]
    by_cases h2 : a + 1 ≤ j ∧ j < a + 1 + n
    · rw [if_pos h2, if_pos (by omega)]
    · rw [if_neg h2, if_neg (by omega)]
def dnR (f : Int → Int) : Nat → Int
  | 0 => 1000000
  | n + 1 => zmin (dnR f n) (f n)
def upR (f : Int → Int) (t : Int) : Nat → Int
  | 0 => 1000000
  | n + 1 => zmin (upR f t n) (f (t - n))
theorem dnR_le {f : Int → Int} (h : ∀ j : Int, 0 ≤ j → j < 41 → 0 ≤ f j ∧ f j ≤ 1000000) : ∀ n : Nat, n ≤ 41 → 0 ≤ dnR f n ∧ dnR f n ≤ 1000000
  | 0, _ => by simp [dnR]
  | n + 1, hn => by
    have i := dnR_le h n (by omega)
    have h1 := h n (by omega) (by omega)
    have h2 := zmin_c (dnR f n) (f n)
    unfold dnR
    omega
theorem upR_le {f : Int → Int} {t : Int} (ht : t ≤ 40) (h : ∀ j : Int, 0 ≤ j → j < 41 → 0 ≤ f j ∧ f j ≤ 1000000) : ∀ n : Nat, n ≤ t + 1 → 0 ≤ upR f t n ∧ upR f t n ≤ 1000000
  | 0, _ => by simp [upR]
  | n + 1, hn => by
    have i := upR_le ht h n (by omega)
    have h1 := h (t - n) (by omega) (by omega)
    have h2 := zmin_c (upR f t n) (f (t - n))
    unfold upR
    omega
theorem c_X3_gather {M : zM} {i_ : Int} (hi : 0 ≤ i_ ∧ i_ < 12) (hq : 0 ≤ M 9 7 ∧ M 9 7 ≤ 20) (hC : ∀ j : Int, 0 ≤ j → j < 492 → 0 ≤ M 71 j ∧ M 71 j ≤ 1000000) : Call yX3_gather cX3_gather 4 none 1 [vR 9, vI i_] (M) (PN (zrow (zrow M 72 (zfillA (fun j_ => dnR (fun j_ => M 71 (i_ * 41 + j_)) (j_.toNat + 1)) (M 72) 0 ((2 * M 9 7) + 1))) 73 (zfillA (fun j_ => upR (fun j_ => M 71 (i_ * 41 + j_)) (2 * M 9 7) ((2 * M 9 7) - j_ + 1).toNat) (M 73) 0 ((2 * M 9 7) - 0 + 1)))) := by
  refine Call.of2 (own := RX3) (lv0 := [some (vR 9), some (vI i_), none, none]) rfl (by decide) rfl (Nat.le_of_ble_eq_true rfl) ?_
  have hf_ : ∀ j : Int, 0 ≤ j → j < 41 → 0 ≤ (fun j_ => M 71 (i_ * 41 + j_)) j ∧ (fun j_ => M 71 (i_ * 41 + j_)) j ≤ 1000000 := fun j_ h1_ h2_ => hC (i_ * 41 + j_) (by omega) (by omega)
  refine z_ldc (n := 1000000) kc_X3_73 (by decide) dX3_gather_0 ?_
  refine z_istore_2 rfl dX3_gather_2 ?_
  refine z_iconst dX3_gather_3 ?_
  refine z_istore_3 rfl dX3_gather_4 ?_
  have K5 : ∀ (fuel_ : Nat) (r_ : Int) (j_ : Int) (N_ : zM), (2 * M 9 7) + 1 - j_ < (fuel_ : Int) → (0 ≤ j_ ∧ j_ ≤ (2 * M 9 7) + 1) → (r_ = dnR (fun j_ => M 71 (i_ * 41 + j_)) j_.toNat) → (N_ = (zrow M 72 (zfillA (fun j_ => dnR (fun j_ => M 71 (i_ * 41 + j_)) (j_.toNat + 1)) (M 72) 0 j_))) → Z RX3 cX3_gather 4 none 1 (zQ (PN (zrow (zrow M 72 (zfillA (fun j_ => dnR (fun j_ => M 71 (i_ * 41 + j_)) (j_.toNat + 1)) (M 72) 0 ((2 * M 9 7) + 1))) 73 (zfillA (fun j_ => upR (fun j_ => M 71 (i_ * 41 + j_)) (2 * M 9 7) ((2 * M 9 7) - j_ + 1).toNat) (M 73) 0 ((2 * M 9 7) - 0 + 1))))) 5 [some (vR 9), some (vI i_), some (vI r_), some (vI j_)] [] (N_) := by
    intro fuel_
    induction fuel_ with
    | zero => intro r_ j_ N_ hfuel_ hj_ hr_ hN_; exfalso; omega
    | succ fuel_ ih5 =>
      intro r_ j_ N_ hfuel_ hj_ hr_ hN_
      have n9_ : N_ 9 = M 9 := by rw [hN_, zrow_ne (by decide)]
      refine z_iload_3 dX3_gather_5 ?_
      refine z_iconst dX3_gather_6 ?_
      refine z_aload_0 dX3_gather_7 ?_
      refine z_getIv (v := (M 9 7)) fl_X3_34 zk_9 rfl (by rw [n9_]) dX3_gather_8 ?_
      refine z_imul dX3_gather_11 ?_
      refine z_icmp_gt (tgt := 44) (by omega) (by omega) dX3_gather_12 (by decide) (fun c12 => ?_) (fun c12 => ?_)
      · refine z_ldc (n := 1000000) kc_X3_73 (by decide) dX3_gather_44 ?_
        refine z_istore_2 rfl dX3_gather_46 ?_
        refine z_iconst dX3_gather_47 ?_
        refine z_aload_0 dX3_gather_48 ?_
        refine z_getIv (v := (M 9 7)) fl_X3_34 zk_9 rfl (by rw [n9_]) dX3_gather_49 ?_
        refine z_imul dX3_gather_52 ?_
        refine z_istore_3 rfl dX3_gather_53 ?_
        have K54 : ∀ (fuel_ : Nat) (r_ : Int) (j_ : Int) (P_ : zM), j_ + 1 < (fuel_ : Int) → (-1 ≤ j_ ∧ j_ ≤ (2 * M 9 7)) → (r_ = upR (fun j_ => M 71 (i_ * 41 + j_)) (2 * M 9 7) ((2 * M 9 7) - j_).toNat) → (P_ = (zrow (zrow M 72 (zfillA (fun j_ => dnR (fun j_ => M 71 (i_ * 41 + j_)) (j_.toNat + 1)) (M 72) 0 ((2 * M 9 7) + 1))) 73 (zfillA (fun j_ => upR (fun j_ => M 71 (i_ * 41 + j_)) (2 * M 9 7) ((2 * M 9 7) - j_ + 1).toNat) (M 73) (j_ + 1) ((2 * M 9 7) - (j_ + 1) + 1)))) → Z RX3 cX3_gather 4 none 1 (zQ (PN (zrow (zrow M 72 (zfillA (fun j_ => dnR (fun j_ => M 71 (i_ * 41 + j_)) (j_.toNat + 1)) (M 72) 0 ((2 * M 9 7) + 1))) 73 (zfillA (fun j_ => upR (fun j_ => M 71 (i_ * 41 + j_)) (2 * M 9 7) ((2 * M 9 7) - j_ + 1).toNat) (M 73) 0 ((2 * M 9 7) - 0 + 1))))) 54 [some (vR 9), some (vI i_), some (vI r_), some (vI j_)] [] (P_) := by
          intro fuel_
          induction fuel_ with
          | zero => intro r_ j_ P_ hfuel_ hj_ hr_ hP_; exfalso; omega
          | succ fuel_ ih54 =>
            intro r_ j_ P_ hfuel_ hj_ hr_ hP_
            have n9_ : P_ 9 = M 9 := by rw [hP_, zrow_ne (by decide), zrow_ne (by decide)]
            refine z_iload_3 dX3_gather_54 ?_
            refine z_if_lt (tgt := 87) (by omega) dX3_gather_55 (by decide) (fun c55 => ?_) (fun c55 => ?_)
            · exact z_vret dX3_gather_87 (zPN (by rw [hP_, show j_ + 1 = 0 by omega]))
            · have hl_ := upR_le (t := (2 * M 9 7)) (by omega) hf_ ((2 * M 9 7) - j_).toNat (by omega)
              have hl2_ := hC (i_ * 41 + j_) (by omega) (by omega)
              refine z_iload_2 dX3_gather_58 ?_
              refine z_aload_0 dX3_gather_59 ?_
              refine z_getR (r := 71) fl_X3_15 zk_9 rfl rfl dX3_gather_60 ?_
              refine z_iload_1 dX3_gather_63 ?_
              refine z_bipush dX3_gather_64 (by decide) ?_
              refine z_imul dX3_gather_66 ?_
              refine z_iload_3 dX3_gather_67 ?_
              refine z_iadd dX3_gather_68 ?_
              refine z_ialdv (n := 492) (v := (M 71 (i_ * 41 + j_))) zk_71 rfl (by omega) (by rw [hP_, zrow_ne (by decide), zrow_ne (by decide)]) dX3_gather_69 ?_
              refine z_mmin ml_X3_49 (by decide) (Nat.le_of_ble_eq_true rfl) (by omega) (by omega) dX3_gather_70 ?_
              refine z_istore_2 rfl dX3_gather_73 ?_
              refine z_aload_0 dX3_gather_74 ?_
              refine z_getR (r := 73) fl_X3_21 zk_9 rfl rfl dX3_gather_75 ?_
              refine z_iload_3 dX3_gather_78 ?_
              refine z_iload_2 dX3_gather_79 ?_
              refine z_iast (n := 41) zk_73 rfl (by omega) dX3_gather_80 ?_
              refine z_iinc_3 rfl dX3_gather_81 ?_
              refine z_goto (tgt := 54) dX3_gather_84 (by decide) ?_
              exact ih54 _ _ _ (by omega) (by omega) (by rw [show ((2 * M 9 7) - (j_ + -1)).toNat = ((2 * M 9 7) - j_).toNat + 1 by omega, upR, ← hr_, show (2 * M 9 7) - (((2 * M 9 7) - j_).toNat : Int) = j_ by omega]; rfl) (by rw [hP_, show j_ + -1 + 1 = j_ by omega, show (2 * M 9 7) - j_ + 1 = (2 * M 9 7) - (j_ + 1) + 1 + 1 by omega]; refine Eq.trans ?_ (zfillA_d (f := (fun j_ => upR (fun j_ => M 71 (i_ * 41 + j_)) (2 * M 9 7) ((2 * M 9 7) - j_ + 1).toNat)) (by omega)); show _ = zput _ _ _ (upR (fun j_ => M 71 (i_ * 41 + j_)) (2 * M 9 7) ((2 * M 9 7) - j_ + 1).toNat); rw [show ((2 * M 9 7) - j_ + 1).toNat = ((2 * M 9 7) - j_).toNat + 1 by omega, upR, ← hr_, show (2 * M 9 7) - (((2 * M 9 7) - j_).toNat : Int) = j_ by omega]; rfl)
        have L54 : ∀ (r_ : Int) (j_ : Int) (P_ : zM), (-1 ≤ j_ ∧ j_ ≤ (2 * M 9 7)) → (r_ = upR (fun j_ => M 71 (i_ * 41 + j_)) (2 * M 9 7) ((2 * M 9 7) - j_).toNat) → (P_ = (zrow (zrow M 72 (zfillA (fun j_ => dnR (fun j_ => M 71 (i_ * 41 + j_)) (j_.toNat + 1)) (M 72) 0 ((2 * M 9 7) + 1))) 73 (zfillA (fun j_ => upR (fun j_ => M 71 (i_ * 41 + j_)) (2 * M 9 7) ((2 * M 9 7) - j_ + 1).toNat) (M 73) (j_ + 1) ((2 * M 9 7) - (j_ + 1) + 1)))) → Z RX3 cX3_gather 4 none 1 (zQ (PN (zrow (zrow M 72 (zfillA (fun j_ => dnR (fun j_ => M 71 (i_ * 41 + j_)) (j_.toNat + 1)) (M 72) 0 ((2 * M 9 7) + 1))) 73 (zfillA (fun j_ => upR (fun j_ => M 71 (i_ * 41 + j_)) (2 * M 9 7) ((2 * M 9 7) - j_ + 1).toNat) (M 73) 0 ((2 * M 9 7) - 0 + 1))))) 54 [some (vR 9), some (vI i_), some (vI r_), some (vI j_)] [] (P_) := fun r_ j_ P_ hj_ hr_ hP_ => K54 ((j_ + 1).toNat + 1) r_ j_ P_ (by omega) hj_ hr_ hP_
        exact L54 _ _ _ (by omega) (by rw [show (2 * M 9 7) - (2 * M 9 7) = 0 by omega]; rfl) (by rw [hN_, show j_ = (2 * M 9 7) + 1 by omega, show (2 * M 9 7) - ((2 * M 9 7) + 1) + 1 = 0 by omega]; exact zfillA_0M)
      · have hl_ := dnR_le hf_ j_.toNat (by omega)
        have hl2_ := hC (i_ * 41 + j_) (by omega) (by omega)
        refine z_iload_2 dX3_gather_15 ?_
        refine z_aload_0 dX3_gather_16 ?_
        refine z_getR (r := 71) fl_X3_15 zk_9 rfl rfl dX3_gather_17 ?_
        refine z_iload_1 dX3_gather_20 ?_
        refine z_bipush dX3_gather_21 (by decide) ?_
        refine z_imul dX3_gather_23 ?_
        refine z_iload_3 dX3_gather_24 ?_
        refine z_iadd dX3_gather_25 ?_
        refine z_ialdv (n := 492) (v := (M 71 (i_ * 41 + j_))) zk_71 rfl (by omega) (by rw [hN_, zrow_ne (by decide)]) dX3_gather_26 ?_
        refine z_mmin ml_X3_49 (by decide) (Nat.le_of_ble_eq_true rfl) (by omega) (by omega) dX3_gather_27 ?_
        refine z_istore_2 rfl dX3_gather_30 ?_
        refine z_aload_0 dX3_gather_31 ?_
        refine z_getR (r := 72) fl_X3_18 zk_9 rfl rfl dX3_gather_32 ?_
        refine z_iload_3 dX3_gather_35 ?_
        refine z_iload_2 dX3_gather_36 ?_
        refine z_iast (n := 41) zk_72 rfl (by omega) dX3_gather_37 ?_
        refine z_iinc_3 rfl dX3_gather_38 ?_
        refine z_goto (tgt := 5) dX3_gather_41 (by decide) ?_
        exact ih5 _ _ _ (by omega) (by omega) (by rw [nat_1 hj_.1, dnR, Int.toNat_of_nonneg hj_.1, ← hr_]; rfl) (by rw [hN_]; refine Eq.trans ?_ (zfillA_10 (f := (fun j_ => dnR (fun j_ => M 71 (i_ * 41 + j_)) (j_.toNat + 1))) hj_.1); show _ = zput _ _ _ (zmin (dnR _ j_.toNat) (M 71 (i_ * 41 + (j_.toNat : Int)))); rw [Int.toNat_of_nonneg hj_.1, ← hr_]; rfl)
  have L5 : ∀ (r_ : Int) (j_ : Int) (N_ : zM), (0 ≤ j_ ∧ j_ ≤ (2 * M 9 7) + 1) → (r_ = dnR (fun j_ => M 71 (i_ * 41 + j_)) j_.toNat) → (N_ = (zrow M 72 (zfillA (fun j_ => dnR (fun j_ => M 71 (i_ * 41 + j_)) (j_.toNat + 1)) (M 72) 0 j_))) → Z RX3 cX3_gather 4 none 1 (zQ (PN (zrow (zrow M 72 (zfillA (fun j_ => dnR (fun j_ => M 71 (i_ * 41 + j_)) (j_.toNat + 1)) (M 72) 0 ((2 * M 9 7) + 1))) 73 (zfillA (fun j_ => upR (fun j_ => M 71 (i_ * 41 + j_)) (2 * M 9 7) ((2 * M 9 7) - j_ + 1).toNat) (M 73) 0 ((2 * M 9 7) - 0 + 1))))) 5 [some (vR 9), some (vI i_), some (vI r_), some (vI j_)] [] (N_) := fun r_ j_ N_ hj_ hr_ hN_ => K5 (((2 * M 9 7) + 1 - j_).toNat + 1) r_ j_ N_ (by omega) hj_ hr_ hN_
  exact L5 _ _ _ (by omega) (by rfl) (by exact zfillA_0M)
