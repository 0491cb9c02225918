def daysW (M : zM) (w : Nat) : Nat → zM
  | 0 => M
  | n + 1 => endW (daysW M w n) w
theorem endW_0 {M : zM} {w : Nat} : endW M w w 0 = M w 0 + 1 := by unfold endW; rw [zput_ne2 (by decide), zput_ne2 (by decide), zput_eq]
theorem daysW_0 {M : zM} {w : Nat} : ∀ n : Nat, daysW M w n w 0 = M w 0 + n
  | 0 => by simp [daysW]
  | n + 1 => by
    rw [daysW, endW_0, daysW_0 n]
    omega
theorem daysW_ok {M : zM} {w : Nat} (h : WOK M w) : ∀ n : Nat, M w 0 + n ≤ 2000 → WOK (daysW M w n) w
  | 0, _ => h
  | n + 1, hn => endW_ok (daysW_ok h n (by omega)) (by rw [daysW_0]; omega)
def turnW (f : Int → Int) (M : zM) (w : Nat) : Nat → zM × Int
  | 0 => (M, 0)
  | n + 1 => if (turnW f M w n).1 w 0 < 999 ∧ (-24 ≤ f n ∧ f n ≤ 24) ∧ canS ((turnW f M w n).1 (10 + w)) ((turnW f M w n).1 w 1) (f n) then (endW (shiftW (turnW f M w n).1 w (f n)) w, (turnW f M w n).2 + 1) else turnW f M w n
theorem shiftW_0 {M : zM} {w : Nat} {m : Int} : shiftW M w m w 0 = M w 0 := by unfold shiftW; rw [zput_ne (by omega), zput_ne2 (by decide)]
theorem turnW_ok {f : Int → Int} {M : zM} {w : Nat} (hw : isW w) (h : WOK M w) : ∀ n : Nat, WOK (turnW f M w n).1 w
  | 0 => h
  | n + 1 => by
    have := turnW_ok (f := f) hw h n
    unfold turnW
    split
    · rename_i h2
      exact endW_ok (shiftW_ok hw this h2.2.2) (by rw [shiftW_0]; omega)
    · exact this
theorem turnW_stop {f : Int → Int} {M : zM} {w i : Nat} (h : ¬ (turnW f M w i).1 w 0 < 999) : ∀ n : Nat, turnW f M w (i + n) = turnW f M w i
  | 0 => rfl
  | n + 1 => by
    have := turnW_stop h n
    rw [← Nat.add_assoc, turnW, this, if_neg (fun q => h q.1)]
theorem endW_out {M : zM} {w k : Nat} (h : k ≠ w) : endW M w k = M k := by unfold endW; rw [zput_ne h, zput_ne h, zput_ne h]
theorem shiftW_out {M : zM} {w k : Nat} {m : Int} (h : k ≠ w) (h2 : k ≠ 10 + w) : shiftW M w m k = M k := by unfold shiftW; rw [zput_ne h2, zput_ne h]
theorem turnW_out {f : Int → Int} {M : zM} {w k : Nat} (h : k ≠ w) (h2 : k ≠ 10 + w) : ∀ n : Nat, (turnW f M w n).1 k = M k
  | 0 => rfl
  | n + 1 => by
    unfold turnW
    split
    · show endW (shiftW (turnW f M w n).1 w (f n)) w k = M k
      rw [endW_out h, shiftW_out h h2, turnW_out h h2 n]
    · exact turnW_out h h2 n
def fsum (f : Int → Int) : Nat → Int
  | 0 => 0
  | n + 1 => fsum f n + f n
theorem c_X6_days {M : zM} {n_ : Int} (hO : WOK M 1) (ht9 : M 1 0 ≤ 999) (hn : -2147483648 ≤ n_ ∧ n_ < 2147483648) : Call yX6_days cX6_days 3 (some .int) 3 [vR 0, vI n_] (M) (PI (if ¬ (1 ≤ n_ ∧ n_ ≤ 100) then -1000000001 else if 999 < M 1 0 + n_ then -1000000005 else M 1 0 + n_) (if ¬ (1 ≤ n_ ∧ n_ ≤ 100) then fnd6 M 0 else if 999 < M 1 0 + n_ then fnd6 M 4 else daysW M 1 n_.toNat)) := by
  refine Call.of2 (own := RX6) (lv0 := [some (vR 0), some (vI n_), none]) rfl (by decide) rfl (Nat.le_of_ble_eq_true rfl) ?_
  obtain ⟨⟨t0_, t1_⟩, ⟨h0_, h1_⟩, hn, hp⟩ := id hO
  obtain ⟨n0_, n1_⟩ := hn.1
  refine z_iload_1 dX6_days_0 ?_
  refine z_iconst dX6_days_1 ?_
  refine z_bipush dX6_days_2 (by decide) ?_
  refine z_cSI ys_X6_isOutside ml_X6_69 (c_X6_isOutside (by omega) (by omega) (by omega)) rfl rfl (by decide) (Nat.le_of_ble_eq_true rfl) dX6_days_4 ?_
  refine z_ifb_eq (tgt := 17) dX6_days_7 (by decide) (fun c7 => ?_) (fun c7 => ?_)
  · refine z_aload_0 dX6_days_17 ?_
    refine z_getR (r := 1) fl_X6_10 zk_0 rfl rfl dX6_days_18 ?_
    refine z_getI fl_X6_102 (zw_k isW1) rfl dX6_days_21 ?_
    refine z_iload_1 dX6_days_24 ?_
    refine z_iadd dX6_days_25 ?_
    refine z_sipush dX6_days_26 (by decide) ?_
    refine z_icmp_le (tgt := 39) (by omega) (by decide) dX6_days_29 (by decide) (fun c29 => ?_) (fun c29 => ?_)
    · refine z_iconst dX6_days_39 ?_
      refine z_istore_2 rfl dX6_days_40 ?_
      have K41 : ∀ (fuel_ : Nat) (i_ : Int), n_ - i_ < (fuel_ : Int) → (0 ≤ i_ ∧ i_ ≤ n_) → Z RX6 cX6_days 3 (some .int) 3 (zQ (PI (if ¬ (1 ≤ n_ ∧ n_ ≤ 100) then -1000000001 else if 999 < M 1 0 + n_ then -1000000005 else M 1 0 + n_) (if ¬ (1 ≤ n_ ∧ n_ ≤ 100) then fnd6 M 0 else if 999 < M 1 0 + n_ then fnd6 M 4 else daysW M 1 n_.toNat))) 41 [some (vR 0), some (vI n_), some (vI i_)] [] ((daysW M 1 i_.toNat)) := by
        intro fuel_
        induction fuel_ with
        | zero => intro i_ hfuel_ hi_; exfalso; omega
        | succ fuel_ ih41 =>
          intro i_ hfuel_ hi_
          refine z_iload_2 dX6_days_41 ?_
          refine z_iload_1 dX6_days_42 ?_
          refine z_icmp_ge (tgt := 59) (by omega) (by omega) dX6_days_43 (by decide) (fun c43 => ?_) (fun c43 => ?_)
          · refine z_aload_0 dX6_days_59 ?_
            refine z_getR (r := 1) fl_X6_10 zk_0 rfl rfl dX6_days_60 ?_
            refine z_getIv (v := (M 1 0 + n_)) fl_X6_102 (zw_k isW1) rfl (by rw [daysW_0]; omega) dX6_days_63 ?_
            exact z_iret dX6_days_66 (zPI (by rw [if_neg (by omega), if_neg (by omega)]) (by rw [if_neg (by omega), if_neg (by omega), show i_ = n_ by omega]))
          · have hk_ := daysW_ok hO i_.toNat (by omega)
            refine z_aload_0 dX6_days_46 ?_
            refine z_getR (r := 1) fl_X6_10 zk_0 rfl rfl dX6_days_47 ?_
            refine z_cVN yv_X5_endDay ml_X6_105 (c_X5_endDay isW1 hk_.2.2.1 hk_.2.2.2 hk_.1 hk_.2.1) (zw_k isW1) rfl rfl (by decide) (Nat.le_of_ble_eq_true rfl) dX6_days_50 ?_
            refine z_mem (show _ = daysW M 1 (i_ + 1).toNat by rw [nat_1 hi_.1]; rfl) ?_
            refine z_iinc_2 rfl dX6_days_53 ?_
            refine z_goto (tgt := 41) dX6_days_56 (by decide) ?_
            exact ih41 _ (by omega) (by omega)
      have L41 : ∀ (i_ : Int), (0 ≤ i_ ∧ i_ ≤ n_) → Z RX6 cX6_days 3 (some .int) 3 (zQ (PI (if ¬ (1 ≤ n_ ∧ n_ ≤ 100) then -1000000001 else if 999 < M 1 0 + n_ then -1000000005 else M 1 0 + n_) (if ¬ (1 ≤ n_ ∧ n_ ≤ 100) then fnd6 M 0 else if 999 < M 1 0 + n_ then fnd6 M 4 else daysW M 1 n_.toNat))) 41 [some (vR 0), some (vI n_), some (vI i_)] [] ((daysW M 1 i_.toNat)) := fun i_ hi_ => K41 ((n_ - i_).toNat + 1) i_ (by omega) hi_
      refine z_mem (show M = daysW M 1 (0 : Int).toNat from rfl) ?_
      exact L41 _ (by omega)
    · refine z_aload_0 dX6_days_32 ?_
      refine z_ldc (n := -1000000005) kc_X6_94 (by decide) dX6_days_33 ?_
      refine z_cVI yv_X6_finding ml_X6_80 (c_X6_finding (by omega)) zk_0 rfl rfl (by decide) (Nat.le_of_ble_eq_true rfl) dX6_days_35 ?_
      exact z_iret dX6_days_38 (zPI (by (repeat (first | rw [if_pos (by omega)] | rw [if_neg (by omega)])) <;> rfl) (by (repeat (first | rw [if_pos (by omega)] | rw [if_neg (by omega)])) <;> rfl))
  · refine z_aload_0 dX6_days_10 ?_
    refine z_ldc (n := -1000000001) kc_X6_79 (by decide) dX6_days_11 ?_
    refine z_cVI yv_X6_finding ml_X6_80 (c_X6_finding (by omega)) zk_0 rfl rfl (by decide) (Nat.le_of_ble_eq_true rfl) dX6_days_13 ?_
    exact z_iret dX6_days_16 (zPI (by (repeat (first | rw [if_pos (by omega)] | rw [if_neg (by omega)])) <;> rfl) (by (repeat (first | rw [if_pos (by omega)] | rw [if_neg (by omega)])) <;> rfl))

theorem c_X6_open {M : zM} (hO : WOK M 1) : Call yX6_open cX6_open 3 (some .int) 2 [vR 0] (M) (PI (openB (gW M 1) (M 1 0) (M 1 6).toNat) M) := by
  refine Call.of2 (own := RX6) (lv0 := [some (vR 0), none, none]) rfl (by decide) rfl (Nat.le_of_ble_eq_true rfl) ?_
  obtain ⟨⟨t0_, t1_⟩, ⟨h0_, h1_⟩, hn, hp⟩ := id hO
  obtain ⟨n0_, n1_⟩ := hn.1
  refine z_iconst dX6_open_0 ?_
  refine z_istore_1 rfl dX6_open_1 ?_
  refine z_iconst dX6_open_2 ?_
  refine z_istore_2 rfl dX6_open_3 ?_
  have K4 : ∀ (fuel_ : Nat) (t_ : Int) (i_ : Int), M 1 6 - i_ < (fuel_ : Int) → (0 ≤ i_ ∧ i_ ≤ M 1 6) → (t_ = openB (gW M 1) (M 1 0) i_.toNat) → Z RX6 cX6_open 3 (some .int) 2 (zQ (PI (openB (gW M 1) (M 1 0) (M 1 6).toNat) M)) 4 [some (vR 0), some (vI t_), some (vI i_)] [] (M) := by
    intro fuel_
    induction fuel_ with
    | zero => intro t_ i_ hfuel_ hi_ ha_; exfalso; omega
    | succ fuel_ ih4 =>
      intro t_ i_ hfuel_ hi_ ha_
      refine z_iload_2 dX6_open_4 ?_
      refine z_aload_0 dX6_open_5 ?_
      refine z_getR (r := 1) fl_X6_10 zk_0 rfl rfl dX6_open_6 ?_
      refine z_getI fl_X6_125 (zw_k isW1) rfl dX6_open_9 ?_
      refine z_icmp_ge (tgt := 46) (by omega) (by omega) dX6_open_12 (by decide) (fun c12 => ?_) (fun c12 => ?_)
      · refine z_iload_1 dX6_open_46 ?_
        exact z_iret dX6_open_47 (zPI (by rw [ha_, show i_ = M 1 6 from (by omega)]) rfl)
      · have hgi_ := hn.2 i_.toNat (by omega)
        have hgi2_ := hgi_.2.1
        refine z_aload_0 dX6_open_15 ?_
        refine z_getR (r := 1) fl_X6_10 zk_0 rfl rfl dX6_open_16 ?_
        refine z_aload_0 dX6_open_19 ?_
        refine z_getR (r := 1) fl_X6_10 zk_0 rfl rfl dX6_open_20 ?_
        refine z_getR (r := (13 + 1)) fl_X6_129 (zw_k isW1) rfl (zw_aR isW1) dX6_open_23 ?_
        refine z_iload_2 dX6_open_26 ?_
        refine z_aald12 (n := 12) (r := (12 * 1 + 8 + i_.toNat)) (zw_a isW1) (zw_aN isW1) (by omega) (zw_wR isW1 (by omega)) dX6_open_27 ?_
        refine z_cVI yv_X5_isOpen ml_X6_158 (c_X5_isOpen isW1 (zw_w isW1 (by omega)) (by omega) (by omega)) (zw_k isW1) rfl rfl (by decide) (Nat.le_of_ble_eq_true rfl) dX6_open_28 ?_
        refine z_ifb_eq (tgt := 40) dX6_open_31 (by decide) (fun c31 => ?_) (fun c31 => ?_)
        · refine z_iinc_2 rfl dX6_open_40 ?_
          refine z_goto (tgt := 4) dX6_open_43 (by decide) ?_
          exact ih4 _ _ (by omega) (by omega) (by first | (rw [openB_t (g := gW M 1) (by omega) c31, ha_]; done) | (rw [openB_f (g := gW M 1) (by omega) c31, ha_]; done))
        · refine z_iload_1 dX6_open_34 ?_
          refine z_iconst dX6_open_35 ?_
          refine z_iload_2 dX6_open_36 ?_
          refine z_ishl dX6_open_37 ?_
          refine z_ior dX6_open_38 ?_
          refine z_istore_1 rfl dX6_open_39 ?_
          refine z_iinc_2 rfl dX6_open_40 ?_
          refine z_goto (tgt := 4) dX6_open_43 (by decide) ?_
          exact ih4 _ _ (by omega) (by omega) (by first | (rw [openB_t (g := gW M 1) (by omega) c31, ha_]; done) | (rw [openB_f (g := gW M 1) (by omega) c31, ha_]; done))
  have L4 : ∀ (t_ : Int) (i_ : Int), (0 ≤ i_ ∧ i_ ≤ M 1 6) → (t_ = openB (gW M 1) (M 1 0) i_.toNat) → Z RX6 cX6_open 3 (some .int) 2 (zQ (PI (openB (gW M 1) (M 1 0) (M 1 6).toNat) M)) 4 [some (vR 0), some (vI t_), some (vI i_)] [] (M) := fun t_ i_ hi_ ha_ => K4 ((M 1 6 - i_).toNat + 1) t_ i_ (by omega) hi_ ha_
  exact L4 _ _ (by omega) (by rfl)

theorem c_X6_feed {M : zM} {b_ n_ : Int} (ht : 0 ≤ M 0 5 ∧ M 0 5 ≤ 60) (hb : -2147483648 ≤ b_ ∧ b_ < 2147483648) (hn : -2147483648 ≤ n_ ∧ n_ < 2147483648) : Call yX6_feed cX6_feed 4 (some .int) 1 [vR 0, vI b_, vI n_] (M) (PI (if ¬ (1 ≤ n_ ∧ n_ ≤ 4) then -1000000001 else if 60 < M 0 5 + n_ then -1000000002 else M 0 5 + n_) (if ¬ (1 ≤ n_ ∧ n_ ≤ 4) then fnd6 M 0 else if 60 < M 0 5 + n_ then fnd6 M 1 else (zput (zrow M 4 (zfillA (fun j_ => Int.bmod (zshr b_ (8 * (n_ - 1 - (j_ - M 0 5)))) 256) (M 4) (M 0 5) n_)) 0 5 (M 0 5 + n_)))) := by
  refine Call.of2 (own := RX6) (lv0 := [some (vR 0), some (vI b_), some (vI n_), none]) rfl (by decide) rfl (Nat.le_of_ble_eq_true rfl) ?_
  refine z_iload_2 dX6_feed_0 ?_
  refine z_iconst dX6_feed_1 ?_
  refine z_iconst dX6_feed_2 ?_
  refine z_cSI ys_X6_isOutside ml_X6_69 (c_X6_isOutside (by omega) (by omega) (by omega)) rfl rfl (by decide) (Nat.le_of_ble_eq_true rfl) dX6_feed_3 ?_
  refine z_ifb_eq (tgt := 16) dX6_feed_6 (by decide) (fun c6 => ?_) (fun c6 => ?_)
  · refine z_aload_0 dX6_feed_16 ?_
    refine z_getI fl_X6_30 zk_0 rfl dX6_feed_17 ?_
    refine z_iload_2 dX6_feed_20 ?_
    refine z_iadd dX6_feed_21 ?_
    refine z_bipush dX6_feed_22 (by decide) ?_
    refine z_icmp_le (tgt := 34) (by omega) (by decide) dX6_feed_24 (by decide) (fun c24 => ?_) (fun c24 => ?_)
    · refine z_iload_2 dX6_feed_34 ?_
      refine z_iconst dX6_feed_35 ?_
      refine z_isub dX6_feed_36 ?_
      refine z_istore_3 rfl dX6_feed_37 ?_
      have K38 : ∀ (fuel_ : Nat) (i_ : Int), i_ + 1 < (fuel_ : Int) → (-1 ≤ i_ ∧ i_ ≤ n_ - 1) → Z RX6 cX6_feed 4 (some .int) 1 (zQ (PI (if ¬ (1 ≤ n_ ∧ n_ ≤ 4) then -1000000001 else if 60 < M 0 5 + n_ then -1000000002 else M 0 5 + n_) (if ¬ (1 ≤ n_ ∧ n_ ≤ 4) then fnd6 M 0 else if 60 < M 0 5 + n_ then fnd6 M 1 else (zput (zrow M 4 (zfillA (fun j_ => Int.bmod (zshr b_ (8 * (n_ - 1 - (j_ - M 0 5)))) 256) (M 4) (M 0 5) n_)) 0 5 (M 0 5 + n_))))) 38 [some (vR 0), some (vI b_), some (vI n_), some (vI i_)] [] ((zput (zrow M 4 (zfillA (fun j_ => Int.bmod (zshr b_ (8 * (n_ - 1 - (j_ - M 0 5)))) 256) (M 4) (M 0 5) (n_ - 1 - i_))) 0 5 (M 0 5 + (n_ - 1 - i_)))) := by
        intro fuel_
        induction fuel_ with
        | zero => intro i_ hfuel_ hi_; exfalso; omega
        | succ fuel_ ih38 =>
          intro i_ hfuel_ hi_
          refine z_iload_3 dX6_feed_38 ?_
          refine z_if_lt (tgt := 74) (by omega) dX6_feed_39 (by decide) (fun c39 => ?_) (fun c39 => ?_)
          · refine z_aload_0 dX6_feed_74 ?_
            refine z_getIv (v := (M 0 5 + (n_ - 1 - i_))) fl_X6_30 zk_0 rfl (by rw [zput_eq]) dX6_feed_75 ?_
            exact z_iret dX6_feed_78 (zPI (by rw [if_neg (by omega), if_neg (by omega)]; omega) (by rw [if_neg (by omega), if_neg (by omega), show n_ - 1 - i_ = n_ by omega]))
          · refine z_aload_0 dX6_feed_42 ?_
            refine z_getR (r := 4) fl_X6_26 zk_0 rfl rfl dX6_feed_43 ?_
            refine z_aload_0 dX6_feed_46 ?_
            refine z_getIv (v := (M 0 5 + (n_ - 1 - i_))) fl_X6_30 zk_0 rfl (by rw [zput_eq]) dX6_feed_47 ?_
            refine z_iload_1 dX6_feed_50 ?_
            refine z_bipush dX6_feed_51 (by decide) ?_
            refine z_iload_3 dX6_feed_53 ?_
            refine z_imul dX6_feed_54 ?_
            refine z_ishr dX6_feed_55 ?_
            refine z_i2b dX6_feed_56 ?_
            have hb1_ := Int.le_bmod (x := zshr b_ (8 * i_)) (m := 256) (by decide)
            have hb2_ := Int.bmod_lt (x := zshr b_ (8 * i_)) (m := 256) (by decide)
            refine z_bast (n := 60) zk_4 rfl (by omega) (by omega) dX6_feed_57 ?_
            refine z_aload_0 dX6_feed_58 ?_
            refine z_dup rfl dX6_feed_59 ?_
            refine z_getIv (v := (M 0 5 + (n_ - 1 - i_))) fl_X6_30 zk_0 rfl (by rw [zput_ne (by decide), zput_eq]) dX6_feed_60 ?_
            refine z_iconst dX6_feed_63 ?_
            refine z_iadd dX6_feed_64 ?_
            refine z_putI fl_X6_30 zk_0 rfl dX6_feed_65 ?_
            refine z_mem (show _ = (zput (zrow M 4 (zfillA (fun j_ => Int.bmod (zshr b_ (8 * (n_ - 1 - (j_ - M 0 5)))) 256) (M 4) (M 0 5) (n_ - 1 - (i_ + -1)))) 0 5 (M 0 5 + (n_ - 1 - (i_ + -1)))) from by
              rw [zput_over (by decide), show Int.bmod (zshr b_ (8 * i_)) 256 = (fun j_ => Int.bmod (zshr b_ (8 * (n_ - 1 - (j_ - M 0 5)))) 256) (M 0 5 + (n_ - 1 - i_)) from by show _ = Int.bmod (zshr b_ (8 * (n_ - 1 - (M 0 5 + (n_ - 1 - i_) - M 0 5)))) 256; rw [show n_ - 1 - (M 0 5 + (n_ - 1 - i_) - M 0 5) = i_ by omega], zfillA_1 (by omega), show n_ - 1 - (i_ + -1) = n_ - 1 - i_ + 1 by omega, Int.add_assoc]) ?_
            refine z_iinc_3 rfl dX6_feed_68 ?_
            refine z_goto (tgt := 38) dX6_feed_71 (by decide) ?_
            exact ih38 _ (by omega) (by omega)
      have L38 : ∀ (i_ : Int), (-1 ≤ i_ ∧ i_ ≤ n_ - 1) → Z RX6 cX6_feed 4 (some .int) 1 (zQ (PI (if ¬ (1 ≤ n_ ∧ n_ ≤ 4) then -1000000001 else if 60 < M 0 5 + n_ then -1000000002 else M 0 5 + n_) (if ¬ (1 ≤ n_ ∧ n_ ≤ 4) then fnd6 M 0 else if 60 < M 0 5 + n_ then fnd6 M 1 else (zput (zrow M 4 (zfillA (fun j_ => Int.bmod (zshr b_ (8 * (n_ - 1 - (j_ - M 0 5)))) 256) (M 4) (M 0 5) n_)) 0 5 (M 0 5 + n_))))) 38 [some (vR 0), some (vI b_), some (vI n_), some (vI i_)] [] ((zput (zrow M 4 (zfillA (fun j_ => Int.bmod (zshr b_ (8 * (n_ - 1 - (j_ - M 0 5)))) 256) (M 4) (M 0 5) (n_ - 1 - i_))) 0 5 (M 0 5 + (n_ - 1 - i_)))) := fun i_ hi_ => K38 ((i_ + 1).toNat + 1) i_ (by omega) hi_
      refine z_mem (show M = (zput (zrow M 4 (zfillA (fun j_ => Int.bmod (zshr b_ (8 * (n_ - 1 - (j_ - M 0 5)))) 256) (M 4) (M 0 5) (n_ - 1 - (n_ - 1)))) 0 5 (M 0 5 + (n_ - 1 - (n_ - 1)))) from by rw [show n_ - 1 - (n_ - 1) = 0 by omega, zfillA_0, zrow_self, Int.add_zero, zput_self]) ?_
      exact L38 _ (by omega)
    · refine z_aload_0 dX6_feed_27 ?_
      refine z_ldc (n := -1000000002) kc_X6_128 (by decide) dX6_feed_28 ?_
      refine z_cVI yv_X6_finding ml_X6_80 (c_X6_finding (by omega)) zk_0 rfl rfl (by decide) (Nat.le_of_ble_eq_true rfl) dX6_feed_30 ?_
      exact z_iret dX6_feed_33 (zPI (by (repeat (first | rw [if_pos (by omega)] | rw [if_neg (by omega)])) <;> rfl) (by (repeat (first | rw [if_pos (by omega)] | rw [if_neg (by omega)])) <;> rfl))
  · refine z_aload_0 dX6_feed_9 ?_
    refine z_ldc (n := -1000000001) kc_X6_79 (by decide) dX6_feed_10 ?_
    refine z_cVI yv_X6_finding ml_X6_80 (c_X6_finding (by omega)) zk_0 rfl rfl (by decide) (Nat.le_of_ble_eq_true rfl) dX6_feed_12 ?_
    exact z_iret dX6_feed_15 (zPI (by (repeat (first | rw [if_pos (by omega)] | rw [if_neg (by omega)])) <;> rfl) (by (repeat (first | rw [if_pos (by omega)] | rw [if_neg (by omega)])) <;> rfl))

theorem c_X6_rest {M : zM} {n_ : Int} (hO : WOK M 1) (hn_ : -2147483648 ≤ n_ ∧ n_ < 2147483648) : Call yX6_rest cX6_rest 5 (some .long) 3 [vR 0, vI n_] (M) (PJ (if 1 ≤ n_ ∧ n_ ≤ 8 then sumR (M (10 + 1)) (M 1 6).toNat (gW M 1) (M 1 0) (M 1 1) n_.toNat else -1000000001) (if 1 ≤ n_ ∧ n_ ≤ 8 then M else fnd6 M 0)) := by
  refine Call.of2 (own := RX6) (lv0 := [some (vR 0), some (vI n_), none, none, none]) rfl (by decide) rfl (Nat.le_of_ble_eq_true rfl) ?_
  obtain ⟨⟨t0_, t1_⟩, ⟨h0_, h1_⟩, hn, hp⟩ := id hO
  obtain ⟨n0_, n1_⟩ := hn.1
  refine z_iload_1 dX6_rest_0 ?_
  refine z_iconst dX6_rest_1 ?_
  refine z_bipush dX6_rest_2 (by decide) ?_
  refine z_cSI ys_X6_isOutside ml_X6_69 (c_X6_isOutside (by omega) (by omega) (by omega)) rfl rfl (by decide) (Nat.le_of_ble_eq_true rfl) dX6_rest_4 ?_
  refine z_ifb_eq (tgt := 18) dX6_rest_7 (by decide) (fun c7 => ?_) (fun c7 => ?_)
  · refine z_lconst0 dX6_rest_18 ?_
    refine z_lstore_2 rfl dX6_rest_19 ?_
    refine z_iconst dX6_rest_20 ?_
    refine z_istore_4 rfl dX6_rest_21 ?_
    have K23 : ∀ (fuel_ : Nat) (t_ : Int) (i_ : Int), n_ + 1 - i_ < (fuel_ : Int) → (1 ≤ i_ ∧ i_ ≤ n_ + 1) → (t_ = sumR (M (10 + 1)) (M 1 6).toNat (gW M 1) (M 1 0) (M 1 1) (i_ - 1).toNat) → Z RX6 cX6_rest 5 (some .long) 3 (zQ (PJ (if 1 ≤ n_ ∧ n_ ≤ 8 then sumR (M (10 + 1)) (M 1 6).toNat (gW M 1) (M 1 0) (M 1 1) n_.toNat else -1000000001) (if 1 ≤ n_ ∧ n_ ≤ 8 then M else fnd6 M 0))) 23 [some (vR 0), some (vI n_), some (vJ t_), none, some (vI i_)] [] (M) := by
      intro fuel_
      induction fuel_ with
      | zero => intro t_ i_ hfuel_ hi_ ha_; exfalso; omega
      | succ fuel_ ih23 =>
        intro t_ i_ hfuel_ hi_ ha_
        refine z_iload_4 dX6_rest_23 ?_
        refine z_iload_1 dX6_rest_25 ?_
        refine z_icmp_gt (tgt := 62) (by omega) (by omega) dX6_rest_26 (by decide) (fun c26 => ?_) (fun c26 => ?_)
        · refine z_lload_2 dX6_rest_62 ?_
          exact z_lret dX6_rest_63 (zPJ (by rw [if_pos (by omega), ha_, show i_ - 1 = n_ by omega]) (by rw [if_pos (by omega)]))
        · refine z_lload_2 dX6_rest_29 ?_
          refine z_aload_0 dX6_rest_30 ?_
          refine z_getR (r := 1) fl_X6_10 zk_0 rfl rfl dX6_rest_31 ?_
          refine z_aload_0 dX6_rest_34 ?_
          refine z_getR (r := 1) fl_X6_10 zk_0 rfl rfl dX6_rest_35 ?_
          refine z_getI fl_X6_102 (zw_k isW1) rfl dX6_rest_38 ?_
          refine z_iload_4 dX6_rest_41 ?_
          refine z_iadd dX6_rest_43 ?_
          refine z_aload_0 dX6_rest_44 ?_
          refine z_getR (r := 1) fl_X6_10 zk_0 rfl rfl dX6_rest_45 ?_
          refine z_getI fl_X6_99 (zw_k isW1) rfl dX6_rest_48 ?_
          refine z_cVJ yv_X5_worthOf ml_X6_220 (c_X5_worthOf isW1 hn hp ⟨h0_, h1_⟩ (by omega)) (zw_k isW1) rfl rfl (by decide) (Nat.le_of_ble_eq_true rfl) dX6_rest_51 ?_
          refine z_ladd dX6_rest_54 ?_
          refine z_lstore_2 rfl dX6_rest_55 ?_
          refine z_iinc_4 rfl dX6_rest_56 ?_
          refine z_goto (tgt := 23) dX6_rest_59 (by decide) ?_
          exact ih23 _ _ (by omega) (by omega) (by rw [show (i_ + 1 - 1).toNat = (i_ - 1).toNat + 1 by omega, sumR, ha_, show (((i_ - 1).toNat : Int) + 1) = i_ by omega])
    have L23 : ∀ (t_ : Int) (i_ : Int), (1 ≤ i_ ∧ i_ ≤ n_ + 1) → (t_ = sumR (M (10 + 1)) (M 1 6).toNat (gW M 1) (M 1 0) (M 1 1) (i_ - 1).toNat) → Z RX6 cX6_rest 5 (some .long) 3 (zQ (PJ (if 1 ≤ n_ ∧ n_ ≤ 8 then sumR (M (10 + 1)) (M 1 6).toNat (gW M 1) (M 1 0) (M 1 1) n_.toNat else -1000000001) (if 1 ≤ n_ ∧ n_ ≤ 8 then M else fnd6 M 0))) 23 [some (vR 0), some (vI n_), some (vJ t_), none, some (vI i_)] [] (M) := fun t_ i_ hi_ ha_ => K23 ((n_ + 1 - i_).toNat + 1) t_ i_ (by omega) hi_ ha_
    exact L23 _ _ (by omega) (by rfl)
  · refine z_aload_0 dX6_rest_10 ?_
    refine z_ldc (n := -1000000001) kc_X6_79 (by decide) dX6_rest_11 ?_
    refine z_cVI yv_X6_finding ml_X6_80 (c_X6_finding (by omega)) zk_0 rfl rfl (by decide) (Nat.le_of_ble_eq_true rfl) dX6_rest_13 ?_
    refine z_i2l (by decide) dX6_rest_16 ?_
    exact z_lret dX6_rest_17 (zPJ (by (repeat (first | rw [if_pos (by omega)] | rw [if_neg (by omega)])) <;> rfl) (by (repeat (first | rw [if_pos (by omega)] | rw [if_neg (by omega)])) <;> rfl))

theorem c_X6_status {M : zM} {a_ : Int} (ha : -2147483648 ≤ a_ ∧ a_ < 2147483648) : Call yX6_status cX6_status 4 (some .int) 1 [vR 0, vI a_] (M) (PI (if ¬ (-1 ≤ a_ ∧ a_ ≤ 6) then -1000000001 else if 0 ≤ a_ then M 6 a_ else fsum (M 6) 7) (if -1 ≤ a_ ∧ a_ ≤ 6 then M else fnd6 M 0)) := by
  refine Call.of2 (own := RX6) (lv0 := [some (vR 0), some (vI a_), none, none]) rfl (by decide) rfl (Nat.le_of_ble_eq_true rfl) ?_
  refine z_iload_1 dX6_status_0 ?_
  refine z_iconst dX6_status_1 ?_
  refine z_bipush dX6_status_2 (by decide) ?_
  refine z_cSI ys_X6_isOutside ml_X6_69 (c_X6_isOutside (by omega) (by omega) (by omega)) rfl rfl (by decide) (Nat.le_of_ble_eq_true rfl) dX6_status_4 ?_
  refine z_ifb_eq (tgt := 17) dX6_status_7 (by decide) (fun c7 => ?_) (fun c7 => ?_)
  · refine z_iload_1 dX6_status_17 ?_
    refine z_if_lt (tgt := 28) (by omega) dX6_status_18 (by decide) (fun c18 => ?_) (fun c18 => ?_)
    · refine z_iconst dX6_status_28 ?_
      refine z_istore_2 rfl dX6_status_29 ?_
      refine z_iconst dX6_status_30 ?_
      refine z_istore_3 rfl dX6_status_31 ?_
      have K32 : ∀ (fuel_ : Nat) (t_ : Int) (i_ : Int), 7 - i_ < (fuel_ : Int) → (0 ≤ i_ ∧ i_ ≤ 7) → (t_ = fsum (M 6) i_.toNat) → Z RX6 cX6_status 4 (some .int) 1 (zQ (PI (if ¬ (-1 ≤ a_ ∧ a_ ≤ 6) then -1000000001 else if 0 ≤ a_ then M 6 a_ else fsum (M 6) 7) (if -1 ≤ a_ ∧ a_ ≤ 6 then M else fnd6 M 0))) 32 [some (vR 0), some (vI a_), some (vI t_), some (vI i_)] [] (M) := by
        intro fuel_
        induction fuel_ with
        | zero => intro t_ i_ hfuel_ hi_ ha_; exfalso; omega
        | succ fuel_ ih32 =>
          intro t_ i_ hfuel_ hi_ ha_
          refine z_iload_3 dX6_status_32 ?_
          refine z_bipush dX6_status_33 (by decide) ?_
          refine z_icmp_ge (tgt := 53) (by omega) (by decide) dX6_status_35 (by decide) (fun c35 => ?_) (fun c35 => ?_)
          · refine z_iload_2 dX6_status_53 ?_
            exact z_iret dX6_status_54 (zPI (by rw [if_neg (by omega), if_neg (by omega), ha_, show i_ = 7 by omega]; rfl) (by rw [if_pos (by omega)]))
          · refine z_iload_2 dX6_status_38 ?_
            refine z_aload_0 dX6_status_39 ?_
            refine z_getR (r := 6) fl_X6_40 zk_0 rfl rfl dX6_status_40 ?_
            refine z_iload_3 dX6_status_43 ?_
            refine z_iald (n := 7) zk_6 rfl (by omega) dX6_status_44 ?_
            refine z_iadd dX6_status_45 ?_
            refine z_istore_2 rfl dX6_status_46 ?_
            refine z_iinc_3 rfl dX6_status_47 ?_
            refine z_goto (tgt := 32) dX6_status_50 (by decide) ?_
            exact ih32 _ _ (by omega) (by omega) (by rw [nat_1 hi_.1, fsum, Int.toNat_of_nonneg hi_.1, ha_])
      have L32 : ∀ (t_ : Int) (i_ : Int), (0 ≤ i_ ∧ i_ ≤ 7) → (t_ = fsum (M 6) i_.toNat) → Z RX6 cX6_status 4 (some .int) 1 (zQ (PI (if ¬ (-1 ≤ a_ ∧ a_ ≤ 6) then -1000000001 else if 0 ≤ a_ then M 6 a_ else fsum (M 6) 7) (if -1 ≤ a_ ∧ a_ ≤ 6 then M else fnd6 M 0))) 32 [some (vR 0), some (vI a_), some (vI t_), some (vI i_)] [] (M) := fun t_ i_ hi_ ha_ => K32 ((7 - i_).toNat + 1) t_ i_ (by omega) hi_ ha_
      exact L32 _ _ (by omega) (by rfl)
    · refine z_aload_0 dX6_status_21 ?_
      refine z_getR (r := 6) fl_X6_40 zk_0 rfl rfl dX6_status_22 ?_
      refine z_iload_1 dX6_status_25 ?_
      refine z_iald (n := 7) zk_6 rfl (by omega) dX6_status_26 ?_
      exact z_iret dX6_status_27 (zPI (by (repeat (first | rw [if_pos (by omega)] | rw [if_neg (by omega)])) <;> rfl) (by (repeat (first | rw [if_pos (by omega)] | rw [if_neg (by omega)])) <;> rfl))
  · refine z_aload_0 dX6_status_10 ?_
    refine z_ldc (n := -1000000001) kc_X6_79 (by decide) dX6_status_11 ?_
    refine z_cVI yv_X6_finding ml_X6_80 (c_X6_finding (by omega)) zk_0 rfl rfl (by decide) (Nat.le_of_ble_eq_true rfl) dX6_status_13 ?_
    exact z_iret dX6_status_16 (zPI (by (repeat (first | rw [if_pos (by omega)] | rw [if_neg (by omega)])) <;> rfl) (by (repeat (first | rw [if_pos (by omega)] | rw [if_neg (by omega)])) <;> rfl))

theorem c_X6_read {M : zM} {k_ : Int} (hS : SH6 M) (hO : WOK M 1) (hk : -2147483648 ≤ k_ ∧ k_ < 2147483648) : Call yX6_read cX6_read 4 (some .int) 3 [vR 0, vI k_] (M) (PI (if ¬ (0 ≤ k_ ∧ k_ ≤ 3) then -1000000001 else if M (56 + k_.toNat) 0 = 0 then -1000000006 else if rightN (M (60 + k_.toNat)) (fun j_ => danger (M 1 6).toNat (gW M 1) (M 1 0 + 1 + j_) (M 1 1)) (M (56 + k_.toNat) 1).toNat 0 = M (56 + k_.toNat) 1 then 0 else 1 + rightN (M (60 + k_.toNat)) (fun j_ => danger (M 1 6).toNat (gW M 1) (M 1 0 + 1 + j_) (M 1 1)) (M (56 + k_.toNat) 1).toNat 0) (if ¬ (0 ≤ k_ ∧ k_ ≤ 3) then fnd6 M 0 else if M (56 + k_.toNat) 0 = 0 then fnd6 M 5 else M)) := by
  refine Call.of2 (own := RX6) (lv0 := [some (vR 0), some (vI k_), none, none]) rfl (by decide) rfl (Nat.le_of_ble_eq_true rfl) ?_
  obtain ⟨⟨t0_, t1_⟩, ⟨h0_, h1_⟩, hn, hp⟩ := id hO
  obtain ⟨n0_, n1_⟩ := hn.1
  refine z_aload_0 dX6_read_0 ?_
  refine z_iload_1 dX6_read_1 ?_
  refine z_cVI yv_X6_findingOfSheet ml_X6_285 (c_X6_findingOfSheet hS hk) zk_0 rfl rfl (by decide) (Nat.le_of_ble_eq_true rfl) dX6_read_2 ?_
  generalize hq_ : (if ¬ (0 ≤ k_ ∧ k_ ≤ 3) then (-1000000001 : Int) else if M (56 + k_.toNat) 0 = 0 then -1000000006 else 0) = q_
  have hq2_ : (¬ (0 ≤ k_ ∧ k_ ≤ 3) ∧ q_ = -1000000001) ∨ ((0 ≤ k_ ∧ k_ ≤ 3) ∧ M (56 + k_.toNat) 0 = 0 ∧ q_ = -1000000006) ∨ ((0 ≤ k_ ∧ k_ ≤ 3) ∧ ¬ M (56 + k_.toNat) 0 = 0 ∧ q_ = 0) := by rw [← hq_]; split <;> (try split) <;> omega
  refine z_istore_2 rfl dX6_read_5 ?_
  refine z_iload_2 dX6_read_6 ?_
  refine z_if_eq (tgt := 16) (by omega) dX6_read_7 (by decide) (fun c7 => ?_) (fun c7 => ?_)
  · have hs_ := hS k_.toNat (by omega)
    refine z_iconst dX6_read_16 ?_
    refine z_istore_3 rfl dX6_read_17 ?_
    have K18 : ∀ (fuel_ : Nat) (i_ : Int), M (56 + k_.toNat) 1 - i_ < (fuel_ : Int) → (0 ≤ i_ ∧ i_ ≤ M (56 + k_.toNat) 1) → (rightN (M (60 + k_.toNat)) (fun j_ => danger (M 1 6).toNat (gW M 1) (M 1 0 + 1 + j_) (M 1 1)) (M (56 + k_.toNat) 1).toNat 0 = rightN (M (60 + k_.toNat)) (fun j_ => danger (M 1 6).toNat (gW M 1) (M 1 0 + 1 + j_) (M 1 1)) (M (56 + k_.toNat) 1 - i_).toNat i_.toNat) → Z RX6 cX6_read 4 (some .int) 3 (zQ (PI (if ¬ (0 ≤ k_ ∧ k_ ≤ 3) then -1000000001 else if M (56 + k_.toNat) 0 = 0 then -1000000006 else if rightN (M (60 + k_.toNat)) (fun j_ => danger (M 1 6).toNat (gW M 1) (M 1 0 + 1 + j_) (M 1 1)) (M (56 + k_.toNat) 1).toNat 0 = M (56 + k_.toNat) 1 then 0 else 1 + rightN (M (60 + k_.toNat)) (fun j_ => danger (M 1 6).toNat (gW M 1) (M 1 0 + 1 + j_) (M 1 1)) (M (56 + k_.toNat) 1).toNat 0) (if ¬ (0 ≤ k_ ∧ k_ ≤ 3) then fnd6 M 0 else if M (56 + k_.toNat) 0 = 0 then fnd6 M 5 else M))) 18 [some (vR 0), some (vI k_), some (vI q_), some (vI i_)] [] (M) := by
      intro fuel_
      induction fuel_ with
      | zero => intro i_ hfuel_ hi_ ha_; exfalso; omega
      | succ fuel_ ih18 =>
        intro i_ hfuel_ hi_ ha_
        refine z_iload_3 dX6_read_18 ?_
        refine z_aload_0 dX6_read_19 ?_
        refine z_getR (r := 5) fl_X6_36 zk_0 rfl rfl dX6_read_20 ?_
        refine z_iload_1 dX6_read_23 ?_
        refine z_aald11 (n := 4) (r := (56 + k_.toNat)) zk_5 rfl (by omega) (zsh_A (by omega)) dX6_read_24 ?_
        refine z_getI fl_X6_275 (zsh_k (by omega)) rfl dX6_read_25 ?_
        refine z_icmp_ge (tgt := 82) (by omega) (by omega) dX6_read_28 (by decide) (fun c28 => ?_) (fun c28 => ?_)
        · refine z_iconst dX6_read_82 ?_
          exact z_iret dX6_read_83 (zPI (by have hr_ : rightN (M (60 + k_.toNat)) (fun j_ => danger (M 1 6).toNat (gW M 1) (M 1 0 + 1 + j_) (M 1 1)) (M (56 + k_.toNat) 1).toNat 0 = i_ := (by rw [ha_, show M (56 + k_.toNat) 1 - i_ = 0 by omega]; show ((i_.toNat : Nat) : Int) = i_; omega); rw [hr_]; symm; (repeat (first | rw [if_pos (by omega)] | rw [if_neg (by omega)])) <;> rfl) (by symm; (repeat (first | rw [if_pos (by omega)] | rw [if_neg (by omega)])) <;> rfl))
        · have hv_ := hs_.2.2 i_ (by omega) (by omega)
          have hd_ := danger_le (day := M 1 0 + 1 + i_) (h := M 1 1) (WN_all hn)
          refine z_aload_0 dX6_read_31 ?_
          refine z_getR (r := 5) fl_X6_36 zk_0 rfl rfl dX6_read_32 ?_
          refine z_iload_1 dX6_read_35 ?_
          refine z_aald11 (n := 4) (r := (56 + k_.toNat)) zk_5 rfl (by omega) (zsh_A (by omega)) dX6_read_36 ?_
          refine z_getR (r := (60 + k_.toNat)) fl_X6_249 (zsh_k (by omega)) rfl (zsh_R (by omega)) dX6_read_37 ?_
          refine z_iload_3 dX6_read_40 ?_
          refine z_lald (n := 40) (zsh_n (by omega)) (zsh_N (by omega)) (by omega) dX6_read_41 ?_
          refine z_aload_0 dX6_read_42 ?_
          refine z_getR (r := 1) fl_X6_10 zk_0 rfl rfl dX6_read_43 ?_
          refine z_aload_0 dX6_read_46 ?_
          refine z_getR (r := 1) fl_X6_10 zk_0 rfl rfl dX6_read_47 ?_
          refine z_getI fl_X6_102 (zw_k isW1) rfl dX6_read_50 ?_
          refine z_iconst dX6_read_53 ?_
          refine z_iadd dX6_read_54 ?_
          refine z_iload_3 dX6_read_55 ?_
          refine z_iadd dX6_read_56 ?_
          refine z_aload_0 dX6_read_57 ?_
          refine z_getR (r := 1) fl_X6_10 zk_0 rfl rfl dX6_read_58 ?_
          refine z_getI fl_X6_99 (zw_k isW1) rfl dX6_read_61 ?_
          refine z_cVI yv_X5_dangerOn ml_X6_176 (c_X5_dangerOn isW1 hn ⟨h0_, h1_⟩ (by omega)) (zw_k isW1) rfl rfl (by decide) (Nat.le_of_ble_eq_true rfl) dX6_read_64 ?_
          refine z_i2l (by omega) dX6_read_67 ?_
          refine z_lcmp_eq (tgt := 76) (by omega) (by omega) dX6_read_68 dX6_read_69 (by decide) (fun c68 => ?_) (fun c68 => ?_)
          · refine z_iinc_3 rfl dX6_read_76 ?_
            refine z_goto (tgt := 18) dX6_read_79 (by decide) ?_
            exact ih18 _ (by omega) (by omega) (by rw [ha_, show (M (56 + k_.toNat) 1 - i_).toNat = (M (56 + k_.toNat) 1 - (i_ + 1)).toNat + 1 by omega, rightN, Int.toNat_of_nonneg hi_.1, if_pos c68, nat_1 hi_.1])
          · refine z_iconst dX6_read_72 ?_
            refine z_iload_3 dX6_read_73 ?_
            refine z_iadd dX6_read_74 ?_
            exact z_iret dX6_read_75 (zPI (by have hr_ : rightN (M (60 + k_.toNat)) (fun j_ => danger (M 1 6).toNat (gW M 1) (M 1 0 + 1 + j_) (M 1 1)) (M (56 + k_.toNat) 1).toNat 0 = i_ := (by rw [ha_, show (M (56 + k_.toNat) 1 - i_).toNat = (M (56 + k_.toNat) 1 - i_ - 1).toNat + 1 by omega, rightN, Int.toNat_of_nonneg hi_.1, if_neg c68]); rw [hr_]; symm; (repeat (first | rw [if_pos (by omega)] | rw [if_neg (by omega)])) <;> rfl) (by symm; (repeat (first | rw [if_pos (by omega)] | rw [if_neg (by omega)])) <;> rfl))
    have L18 : ∀ (i_ : Int), (0 ≤ i_ ∧ i_ ≤ M (56 + k_.toNat) 1) → (rightN (M (60 + k_.toNat)) (fun j_ => danger (M 1 6).toNat (gW M 1) (M 1 0 + 1 + j_) (M 1 1)) (M (56 + k_.toNat) 1).toNat 0 = rightN (M (60 + k_.toNat)) (fun j_ => danger (M 1 6).toNat (gW M 1) (M 1 0 + 1 + j_) (M 1 1)) (M (56 + k_.toNat) 1 - i_).toNat i_.toNat) → Z RX6 cX6_read 4 (some .int) 3 (zQ (PI (if ¬ (0 ≤ k_ ∧ k_ ≤ 3) then -1000000001 else if M (56 + k_.toNat) 0 = 0 then -1000000006 else if rightN (M (60 + k_.toNat)) (fun j_ => danger (M 1 6).toNat (gW M 1) (M 1 0 + 1 + j_) (M 1 1)) (M (56 + k_.toNat) 1).toNat 0 = M (56 + k_.toNat) 1 then 0 else 1 + rightN (M (60 + k_.toNat)) (fun j_ => danger (M 1 6).toNat (gW M 1) (M 1 0 + 1 + j_) (M 1 1)) (M (56 + k_.toNat) 1).toNat 0) (if ¬ (0 ≤ k_ ∧ k_ ≤ 3) then fnd6 M 0 else if M (56 + k_.toNat) 0 = 0 then fnd6 M 5 else M))) 18 [some (vR 0), some (vI k_), some (vI q_), some (vI i_)] [] (M) := fun i_ hi_ ha_ => K18 ((M (56 + k_.toNat) 1 - i_).toNat + 1) i_ (by omega) hi_ ha_
    exact L18 _ (by omega) (by rw [Int.sub_zero]; rfl)
  · refine z_aload_0 dX6_read_10 ?_
    refine z_iload_2 dX6_read_11 ?_
    refine z_cVI yv_X6_finding ml_X6_80 (c_X6_finding (by omega)) zk_0 rfl rfl (by decide) (Nat.le_of_ble_eq_true rfl) dX6_read_12 ?_
    exact z_iret dX6_read_15 (zPI (by rcases hq2_ with h_ | h_ | h_ <;> ((repeat (first | rw [if_pos (by omega)] | rw [if_neg (by omega)])) <;> omega)) (by rcases hq2_ with h_ | h_ | h_ <;> first | (exfalso; omega) | (rw [if_pos h_.1, h_.2] <;> rfl) | (rw [if_neg (by omega), if_pos h_.2.1, h_.2.2] <;> rfl)))
