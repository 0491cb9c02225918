theorem c_X4_begin {M : zM} {k : Nat} {a1 a2 a3 a4 a5 : Int} (hk : zKT k 4) : Call yX4_begin cX4_begin 6 none 0 [vR k, vI a1, vI a2, vI a3, vI a4, vI a5] (M) (PN (zput (zput (zput (zput (zput (zput M k 0 a1) k 1 a2) k 2 a3) k 3 a4) k 4 a5) k 5 0)) := by
  refine Call.of2 (own := RX4) (lv0 := [some (vR k), some (vI a1), some (vI a2), some (vI a3), some (vI a4), some (vI a5)]) rfl (by decide) rfl (Nat.le_of_ble_eq_true rfl) ?_
  refine z_aload_0 dX4_begin_0 ?_
  refine z_iload_1 dX4_begin_1 ?_
  refine z_putI fl_X4_11 hk rfl dX4_begin_2 ?_
  refine z_aload_0 dX4_begin_5 ?_
  refine z_iload_2 dX4_begin_6 ?_
  refine z_putI fl_X4_15 hk rfl dX4_begin_7 ?_
  refine z_aload_0 dX4_begin_10 ?_
  refine z_iload_3 dX4_begin_11 ?_
  refine z_putI fl_X4_18 hk rfl dX4_begin_12 ?_
  refine z_aload_0 dX4_begin_15 ?_
  refine z_iload_4 dX4_begin_16 ?_
  refine z_putI fl_X4_21 hk rfl dX4_begin_18 ?_
  refine z_aload_0 dX4_begin_21 ?_
  refine z_iload_5 dX4_begin_22 ?_
  refine z_putI fl_X4_24 hk rfl dX4_begin_24 ?_
  refine z_aload_0 dX4_begin_27 ?_
  refine z_iconst dX4_begin_28 ?_
  refine z_putI fl_X4_27 hk rfl dX4_begin_29 ?_
  exact z_vret dX4_begin_32 (zPN rfl)

theorem c_X4_isOneOf {M : zM} {k : Nat} {a : Int} (hk : zKT k 4) (hw : wOK (M k)) (ha : 0 ≤ a ∧ a ≤ 5) : Call yX4_isOneOf cX4_isOneOf 2 (some .boolean) 0 [vR k, vI a] (M) (PI (zb (a = 0 ∨ a = M k 0 ∨ (a = 2 ∧ M k 0 = 4) ∨ (a = 1 ∧ M k 0 = 5))) M) := by
  refine Call.of2 (own := RX4) (lv0 := [some (vR k), some (vI a)]) rfl (by decide) rfl (Nat.le_of_ble_eq_true rfl) ?_
  obtain ⟨⟨hk0, hk1⟩, ⟨hd0, hd1⟩, ⟨ha0, ha1⟩, ⟨hw0, hw1⟩, ⟨hc0, hc1⟩, ⟨hl0, hl1⟩⟩ := id hw
  refine z_iload_1 dX4_isOneOf_0 ?_
  refine z_if_eq (tgt := 24) (by omega) dX4_isOneOf_1 (by decide) (fun c1 => ?_) (fun c1 => ?_)
  · refine z_iconst dX4_isOneOf_24 ?_
    refine z_goto (tgt := 29) dX4_isOneOf_25 (by decide) ?_
    exact z_zret (by first | exact Or.inl rfl | exact Or.inr rfl | exact zb_01 | omega) dX4_isOneOf_29 (zPI (by first | exact (zb_t (by omega)).symm | (refine (zb_f ?_).symm; rw [hz_] at c21; split at c21 <;> (try split at c21) <;> omega) | (refine (zb_t ?_).symm; rw [hz_] at c21; split at c21 <;> (try split at c21) <;> omega)) rfl)
  · refine z_iload_1 dX4_isOneOf_4 ?_
    refine z_aload_0 dX4_isOneOf_5 ?_
    refine z_getI fl_X4_11 hk rfl dX4_isOneOf_6 ?_
    refine z_icmp_eq (tgt := 24) (by omega) (by omega) dX4_isOneOf_9 (by decide) (fun c9 => ?_) (fun c9 => ?_)
    · refine z_iconst dX4_isOneOf_24 ?_
      refine z_goto (tgt := 29) dX4_isOneOf_25 (by decide) ?_
      exact z_zret (by first | exact Or.inl rfl | exact Or.inr rfl | exact zb_01 | omega) dX4_isOneOf_29 (zPI (by first | exact (zb_t (by omega)).symm | (refine (zb_f ?_).symm; rw [hz_] at c21; split at c21 <;> (try split at c21) <;> omega) | (refine (zb_t ?_).symm; rw [hz_] at c21; split at c21 <;> (try split at c21) <;> omega)) rfl)
    · refine z_iload_1 dX4_isOneOf_12 ?_
      refine z_gets2 fs_X4_34 dX4_isOneOf_13 ?_
      refine z_aload_0 dX4_isOneOf_16 ?_
      refine z_getI fl_X4_11 hk rfl dX4_isOneOf_17 ?_
      have hz_ : zsf 2 (M k 0) = if M k 0 = 4 then 2 else if M k 0 = 5 then 1 else 0 := by
        rcases (show M k 0 = 0 ∨ M k 0 = 1 ∨ M k 0 = 2 ∨ M k 0 = 3 ∨ M k 0 = 4 ∨ M k 0 = 5 by omega) with h | h | h | h | h | h <;> rw [h] <;> decide
      have hz2_ : 0 ≤ zsf 2 (M k 0) ∧ zsf 2 (M k 0) ≤ 2 := by rw [hz_]; split <;> (try split) <;> omega
      refine z_sald2 (by omega) dX4_isOneOf_20 ?_
      refine z_icmp_ne (tgt := 28) (by omega) (by omega) dX4_isOneOf_21 (by decide) (fun c21 => ?_) (fun c21 => ?_)
      · refine z_iconst dX4_isOneOf_28 ?_
        exact z_zret (by first | exact Or.inl rfl | exact Or.inr rfl | exact zb_01 | omega) dX4_isOneOf_29 (zPI (by first | exact (zb_t (by omega)).symm | (refine (zb_f ?_).symm; rw [hz_] at c21; split at c21 <;> (try split at c21) <;> omega) | (refine (zb_t ?_).symm; rw [hz_] at c21; split at c21 <;> (try split at c21) <;> omega)) rfl)
      · refine z_iconst dX4_isOneOf_24 ?_
        refine z_goto (tgt := 29) dX4_isOneOf_25 (by decide) ?_
        exact z_zret (by first | exact Or.inl rfl | exact Or.inr rfl | exact zb_01 | omega) dX4_isOneOf_29 (zPI (by first | exact (zb_t (by omega)).symm | (refine (zb_f ?_).symm; rw [hz_] at c21; split at c21 <;> (try split at c21) <;> omega) | (refine (zb_t ?_).symm; rw [hz_] at c21; split at c21 <;> (try split at c21) <;> omega)) rfl)

theorem c_X4_chanceBehind {M : zM} {k : Nat} {s_ r_ : Int} (hk : zKT k 4) (hw : wOK (M k)) (hs : 0 ≤ s_ ∧ s_ ≤ 100) (hr : r_ = 0 ∨ r_ = 1) : Call yX4_chanceBehind cX4_chanceBehind 10 (some .int) 0 [vR k, vI s_, vI r_] (M) (PI (behindS (M k 4) s_ r_) M) := by
  refine Call.of2 (own := RX4) (lv0 := [some (vR k), some (vI s_), some (vI r_), none, none, none, none, none, none, none]) rfl (by decide) rfl (Nat.le_of_ble_eq_true rfl) ?_
  obtain ⟨⟨hk0, hk1⟩, ⟨hd0, hd1⟩, ⟨ha0, ha1⟩, ⟨hw0, hw1⟩, ⟨hc0, hc1⟩, ⟨hl0, hl1⟩⟩ := id hw
  have J12 : ∀ (t_ : Int), (t_ = if r_ = 0 then 100 - s_ else s_) → Z RX4 cX4_chanceBehind 10 (some .int) 0 (zQ (PI (behindS (M k 4) s_ r_) M)) 12 [some (vR k), some (vI s_), some (vI r_), none, none, none, none, none, none, none] [vI t_] (M) := by
    intro t_ ht_
    have ht2_ : 0 ≤ t_ ∧ t_ ≤ 100 := by rw [ht_]; split <;> omega
    have hm_ := mul_box (a := M k 4) (b := t_) hc0 hc1 ht2_.1 ht2_.2
    have hn_ := mul_box (a := 1000000 - M k 4) (b := 100 - t_) (by omega) (show _ ≤ 1000000 by omega) (by omega) (show _ ≤ 100 by omega)
    refine z_istore_3 rfl dX4_chanceBehind_12 ?_
    refine z_aload_0 dX4_chanceBehind_13 ?_
    refine z_getI fl_X4_24 hk rfl dX4_chanceBehind_14 ?_
    refine z_i2l (by omega) dX4_chanceBehind_17 ?_
    refine z_iload_3 dX4_chanceBehind_18 ?_
    refine z_i2l (by omega) dX4_chanceBehind_19 ?_
    refine z_lmul dX4_chanceBehind_20 ?_
    refine z_lstore_4 rfl dX4_chanceBehind_21 ?_
    refine z_ldc (n := 1000000) kc_X4_38 (by decide) dX4_chanceBehind_23 ?_
    refine z_aload_0 dX4_chanceBehind_25 ?_
    refine z_getI fl_X4_24 hk rfl dX4_chanceBehind_26 ?_
    refine z_isub dX4_chanceBehind_29 ?_
    refine z_i2l (by omega) dX4_chanceBehind_30 ?_
    refine z_bipush dX4_chanceBehind_31 (by decide) ?_
    refine z_iload_3 dX4_chanceBehind_33 ?_
    refine z_isub dX4_chanceBehind_34 ?_
    refine z_i2l (by omega) dX4_chanceBehind_35 ?_
    refine z_lmul dX4_chanceBehind_36 ?_
    refine z_lstore_6 rfl dX4_chanceBehind_37 ?_
    refine z_lload_4 dX4_chanceBehind_39 ?_
    refine z_lload_6 dX4_chanceBehind_41 ?_
    refine z_ladd dX4_chanceBehind_43 ?_
    refine z_lstore_8 rfl dX4_chanceBehind_44 ?_
    refine z_lload_8 dX4_chanceBehind_46 ?_
    refine z_lconst0 dX4_chanceBehind_48 ?_
    refine z_lcmp_ne (tgt := 57) (by omega) (by decide) dX4_chanceBehind_49 dX4_chanceBehind_50 (by decide) (fun c49 => ?_) (fun c49 => ?_)
    · refine z_lload_4 dX4_chanceBehind_57 ?_
      refine z_ldc2 (n := 1000000) kl_X4_39 (by decide) dX4_chanceBehind_59 ?_
      refine z_lmul dX4_chanceBehind_62 ?_
      refine z_lload_8 dX4_chanceBehind_63 ?_
      refine z_ldivp (by omega) (by omega) dX4_chanceBehind_65 ?_
      refine z_l2i dX4_chanceBehind_66 ?_
      exact z_iret dX4_chanceBehind_67 (zPI (by unfold behindS; rw [← ht_]; first | (rw [if_pos (by omega)]; done) | (rw [if_neg (by omega)]; done)) rfl)
    · refine z_iconst dX4_chanceBehind_53 ?_
      refine z_goto (tgt := 67) dX4_chanceBehind_54 (by decide) ?_
      exact z_iret dX4_chanceBehind_67 (zPI (by unfold behindS; rw [← ht_]; first | (rw [if_pos (by omega)]; done) | (rw [if_neg (by omega)]; done)) rfl)
  refine z_iload_2 dX4_chanceBehind_0 ?_
  refine z_if_eq (tgt := 8) (by omega) dX4_chanceBehind_1 (by decide) (fun c1 => ?_) (fun c1 => ?_)
  · refine z_bipush dX4_chanceBehind_8 (by decide) ?_
    refine z_iload_1 dX4_chanceBehind_10 ?_
    refine z_isub dX4_chanceBehind_11 ?_
    exact J12 _ (by first | (rw [if_pos (by omega)]; done) | (rw [if_neg (by omega)]; done))
  · refine z_iload_1 dX4_chanceBehind_4 ?_
    refine z_goto (tgt := 12) dX4_chanceBehind_5 (by decide) ?_
    exact J12 _ (by first | (rw [if_pos (by omega)]; done) | (rw [if_neg (by omega)]; done))

theorem c_X4_chanceIfItCanBe {M : zM} {k : Nat} {s_ r_ : Int} (hk : zKT k 4) (hw : wOK (M k)) (hs : 0 ≤ s_ ∧ s_ ≤ 100) (hr : r_ = 0 ∨ r_ = 1) : Call yX4_chanceIfItCanBe cX4_chanceIfItCanBe 4 (some .int) 1 [vR k, vI s_, vI r_] (M) (PI (if behindS (M k 4) s_ r_ = -1 then M k 4 else behindS (M k 4) s_ r_) M) := by
  refine Call.of2 (own := RX4) (lv0 := [some (vR k), some (vI s_), some (vI r_), none]) rfl (by decide) rfl (Nat.le_of_ble_eq_true rfl) ?_
  obtain ⟨⟨hk0, hk1⟩, ⟨hd0, hd1⟩, ⟨ha0, ha1⟩, ⟨hw0, hw1⟩, ⟨hc0, hc1⟩, ⟨hl0, hl1⟩⟩ := id hw
  have hb_ := behindS_le (c := M k 4) (s := s_) (r := r_) ⟨hc0, hc1⟩ hs
  refine z_aload_0 dX4_chanceIfItCanBe_0 ?_
  refine z_iload_1 dX4_chanceIfItCanBe_1 ?_
  refine z_iload_2 dX4_chanceIfItCanBe_2 ?_
  refine z_cVI yv_X4_chanceBehind ml_X4_41 (c_X4_chanceBehind hk hw hs hr) hk rfl rfl (by decide) (Nat.le_of_ble_eq_true rfl) dX4_chanceIfItCanBe_3 ?_
  refine z_istore_3 rfl dX4_chanceIfItCanBe_6 ?_
  refine z_iload_3 dX4_chanceIfItCanBe_7 ?_
  refine z_iconst dX4_chanceIfItCanBe_8 ?_
  refine z_icmp_ne (tgt := 19) (by omega) (by decide) dX4_chanceIfItCanBe_9 (by decide) (fun c9 => ?_) (fun c9 => ?_)
  · refine z_iload_3 dX4_chanceIfItCanBe_19 ?_
    exact z_iret dX4_chanceIfItCanBe_20 (zPI (by first | (rw [if_pos (by omega)]; done) | (rw [if_neg (by omega)]; done)) rfl)
  · refine z_aload_0 dX4_chanceIfItCanBe_12 ?_
    refine z_getI fl_X4_24 hk rfl dX4_chanceIfItCanBe_13 ?_
    refine z_goto (tgt := 20) dX4_chanceIfItCanBe_16 (by decide) ?_
    exact z_iret dX4_chanceIfItCanBe_20 (zPI (by first | (rw [if_pos (by omega)]; done) | (rw [if_neg (by omega)]; done)) rfl)

theorem c_X4_chanceToTell {M : zM} {k : Nat} {s_ : Int} (hk : zKT k 4) (hw : wOK (M k)) (hs : 0 ≤ s_ ∧ s_ ≤ 100) : Call yX4_chanceToTell cX4_chanceToTell 6 (some .int) 0 [vR k, vI s_] (M) (PI (tellS (M k 4) s_) M) := by
  refine Call.of2 (own := RX4) (lv0 := [some (vR k), some (vI s_), none, none, none, none]) rfl (by decide) rfl (Nat.le_of_ble_eq_true rfl) ?_
  obtain ⟨⟨hk0, hk1⟩, ⟨hd0, hd1⟩, ⟨ha0, ha1⟩, ⟨hw0, hw1⟩, ⟨hc0, hc1⟩, ⟨hl0, hl1⟩⟩ := id hw
  have hm_ := mul_box (a := M k 4) (b := s_) hc0 hc1 hs.1 hs.2
  have hn_ := mul_box (a := 1000000 - M k 4) (b := 100 - s_) (by omega) (show _ ≤ 1000000 by omega) (by omega) (show _ ≤ 100 by omega)
  refine z_aload_0 dX4_chanceToTell_0 ?_
  refine z_getI fl_X4_24 hk rfl dX4_chanceToTell_1 ?_
  refine z_i2l (by omega) dX4_chanceToTell_4 ?_
  refine z_iload_1 dX4_chanceToTell_5 ?_
  refine z_i2l (by omega) dX4_chanceToTell_6 ?_
  refine z_lmul dX4_chanceToTell_7 ?_
  refine z_lstore_2 rfl dX4_chanceToTell_8 ?_
  refine z_ldc (n := 1000000) kc_X4_38 (by decide) dX4_chanceToTell_9 ?_
  refine z_aload_0 dX4_chanceToTell_11 ?_
  refine z_getI fl_X4_24 hk rfl dX4_chanceToTell_12 ?_
  refine z_isub dX4_chanceToTell_15 ?_
  refine z_i2l (by omega) dX4_chanceToTell_16 ?_
  refine z_bipush dX4_chanceToTell_17 (by decide) ?_
  refine z_iload_1 dX4_chanceToTell_19 ?_
  refine z_isub dX4_chanceToTell_20 ?_
  refine z_i2l (by omega) dX4_chanceToTell_21 ?_
  refine z_lmul dX4_chanceToTell_22 ?_
  refine z_lstore_4 rfl dX4_chanceToTell_23 ?_
  refine z_lload_2 dX4_chanceToTell_25 ?_
  refine z_lload_4 dX4_chanceToTell_26 ?_
  refine z_ladd dX4_chanceToTell_28 ?_
  refine z_ldc2 (n := 100) kl_X4_45 (by decide) dX4_chanceToTell_29 ?_
  refine z_ldivp (by omega) (by decide) dX4_chanceToTell_32 ?_
  refine z_l2i dX4_chanceToTell_33 ?_
  exact z_iret dX4_chanceToTell_34 (zPI rfl rfl)

theorem c_X5_hasRule {M : zM} {w : Nat} (hw : isW w) (ht : -2147483648 ≤ M w 8 ∧ M w 8 < 2147483648) : Call yX5_hasRule cX5_hasRule 1 (some .boolean) 0 [vR w] (M) (PI (zb (0 < M w 8)) M) := by
  refine Call.of2 (own := RX5) (lv0 := [some (vR w)]) rfl (by decide) rfl (Nat.le_of_ble_eq_true rfl) ?_
  refine z_aload_0 dX5_hasRule_0 ?_
  refine z_getI fl_X5_43 (zw_k hw) rfl dX5_hasRule_1 ?_
  refine z_if_le (tgt := 11) (by omega) dX5_hasRule_4 (by decide) (fun c4 => ?_) (fun c4 => ?_)
  · refine z_iconst dX5_hasRule_11 ?_
    exact z_zret (by first | exact Or.inl rfl | exact Or.inr rfl | exact zb_01 | omega) dX5_hasRule_12 (zPI (by first | exact (zb_t (by omega)).symm | exact (zb_f (by omega)).symm) rfl)
  · refine z_iconst dX5_hasRule_7 ?_
    refine z_goto (tgt := 12) dX5_hasRule_8 (by decide) ?_
    exact z_zret (by first | exact Or.inl rfl | exact Or.inr rfl | exact zb_01 | omega) dX5_hasRule_12 (zPI (by first | exact (zb_t (by omega)).symm | exact (zb_f (by omega)).symm) rfl)

theorem c_X5_isOpen {M : zM} {w : Nat} (hw : isW w) {k : Nat} (hk : zKT k 4) (ht : -2147483648 ≤ M w 0 ∧ M w 0 < 2147483648) (hd : -2147483648 ≤ M k 1 ∧ M k 1 < 2147483648) : Call yX5_isOpen cX5_isOpen 2 (some .boolean) 0 [vR w, vR k] (M) (PI (zb (M w 0 < M k 1)) M) := by
  refine Call.of2 (own := RX5) (lv0 := [some (vR w), some (vR k)]) rfl (by decide) rfl (Nat.le_of_ble_eq_true rfl) ?_
  refine z_aload_1 dX5_isOpen_0 ?_
  refine z_getI fl_X5_57 hk rfl dX5_isOpen_1 ?_
  refine z_aload_0 dX5_isOpen_4 ?_
  refine z_getI fl_X5_9 (zw_k hw) rfl dX5_isOpen_5 ?_
  refine z_icmp_le (tgt := 15) (by omega) (by omega) dX5_isOpen_8 (by decide) (fun c8 => ?_) (fun c8 => ?_)
  · refine z_iconst dX5_isOpen_15 ?_
    exact z_zret (by first | exact Or.inl rfl | exact Or.inr rfl | exact zb_01 | omega) dX5_isOpen_16 (zPI (by first | exact (zb_t (by omega)).symm | exact (zb_f (by omega)).symm) rfl)
  · refine z_iconst dX5_isOpen_11 ?_
    refine z_goto (tgt := 16) dX5_isOpen_12 (by decide) ?_
    exact z_zret (by first | exact Or.inl rfl | exact Or.inr rfl | exact zb_01 | omega) dX5_isOpen_16 (zPI (by first | exact (zb_t (by omega)).symm | exact (zb_f (by omega)).symm) rfl)

theorem c_X5_openOnes {M : zM} {w : Nat} (hw : isW w) (hn : WN M w) (ht : 0 ≤ M w 0 ∧ M w 0 ≤ 2000) : Call yX5_openOnes cX5_openOnes 3 (some .int) 1 [vR w] (M) (PI (openC (gW M w) (M w 0) (M w 6).toNat) M) := by
  refine Call.of2 (own := RX5) (lv0 := [some (vR w), none, none]) rfl (by decide) rfl (Nat.le_of_ble_eq_true rfl) ?_
  obtain ⟨⟨hn0, hn1⟩, hg⟩ := id hn
  refine z_iconst dX5_openOnes_0 ?_
  refine z_istore_1 rfl dX5_openOnes_1 ?_
  refine z_iconst dX5_openOnes_2 ?_
  refine z_istore_2 rfl dX5_openOnes_3 ?_
  have K4 : ∀ (fuel_ : Nat) (t_ : Int) (i_ : Int), M w 6 - i_ < (fuel_ : Int) → (0 ≤ i_ ∧ i_ ≤ M w 6) → (t_ = openC (gW M w) (M w 0) i_.toNat) → Z RX5 cX5_openOnes 3 (some .int) 1 (zQ (PI (openC (gW M w) (M w 0) (M w 6).toNat) M)) 4 [some (vR w), some (vI t_), some (vI i_)] [] (M) := by
    intro fuel_
    induction fuel_ with
    | zero => intro t_ i_ hfuel_ hi_ ha_; exfalso; omega
    | succ fuel_ ih4 =>
      intro t_ i_ hfuel_ hi_ ha_
      refine z_iload_2 dX5_openOnes_4 ?_
      refine z_aload_0 dX5_openOnes_5 ?_
      refine z_getI fl_X5_36 (zw_k hw) rfl dX5_openOnes_6 ?_
      refine z_icmp_ge (tgt := 34) (by omega) (by omega) dX5_openOnes_9 (by decide) (fun c9 => ?_) (fun c9 => ?_)
      · refine z_iload_1 dX5_openOnes_34 ?_
        exact z_iret dX5_openOnes_35 (zPI (by rw [ha_, show i_ = M w 6 by omega]) rfl)
      · have hgi_ := hg i_.toNat (by omega)
        have hgi2_ := hgi_.2.1
        have hgw_ : gW M w i_.toNat 1 = M (12 * w + 8 + i_.toNat) 1 := rfl
        refine z_aload_0 dX5_openOnes_12 ?_
        refine z_aload_0 dX5_openOnes_13 ?_
        refine z_getR (r := (13 + w)) fl_X5_32 (zw_k hw) rfl (zw_aR hw) dX5_openOnes_14 ?_
        refine z_iload_2 dX5_openOnes_17 ?_
        refine z_aald12 (n := 12) (r := (12 * w + 8 + i_.toNat)) (zw_a hw) (zw_aN hw) (by omega) (zw_wR hw (by omega)) dX5_openOnes_18 ?_
        refine z_cVI yv_X5_isOpen ml_X5_60 (c_X5_isOpen hw (zw_w hw (by omega)) (by omega) (by omega)) (zw_k hw) rfl rfl (by decide) (Nat.le_of_ble_eq_true rfl) dX5_openOnes_19 ?_
        refine z_ifb_eq (tgt := 28) dX5_openOnes_22 (by decide) (fun c22 => ?_) (fun c22 => ?_)
        · refine z_iinc_2 rfl dX5_openOnes_28 ?_
          refine z_goto (tgt := 4) dX5_openOnes_31 (by decide) ?_
          exact ih4 _ _ (by omega) (by omega) (by first | (rw [openC_t (g := gW M w) (by omega) c22, ha_]; done) | (rw [openC_f (g := gW M w) (by omega) c22, ha_]; done))
        · refine z_iinc_1 rfl dX5_openOnes_25 ?_
          refine z_iinc_2 rfl dX5_openOnes_28 ?_
          refine z_goto (tgt := 4) dX5_openOnes_31 (by decide) ?_
          exact ih4 _ _ (by omega) (by omega) (by first | (rw [openC_t (g := gW M w) (by omega) c22, ha_]; done) | (rw [openC_f (g := gW M w) (by omega) c22, ha_]; done))
  have L4 : ∀ (t_ : Int) (i_ : Int), (0 ≤ i_ ∧ i_ ≤ M w 6) → (t_ = openC (gW M w) (M w 0) i_.toNat) → Z RX5 cX5_openOnes 3 (some .int) 1 (zQ (PI (openC (gW M w) (M w 0) (M w 6).toNat) M)) 4 [some (vR w), some (vI t_), some (vI i_)] [] (M) := fun t_ i_ hi_ ha_ => K4 ((M w 6 - i_).toNat + 1) t_ i_ (by omega) hi_ ha_
  exact L4 _ _ (by omega) (by rfl)

theorem c_X5_allLooks {M : zM} {w : Nat} (hw : isW w) (hn : WN M w) : Call yX5_allLooks cX5_allLooks 3 (some .int) 0 [vR w] (M) (PI (looksC (gW M w) (M w 6).toNat) M) := by
  refine Call.of2 (own := RX5) (lv0 := [some (vR w), none, none]) rfl (by decide) rfl (Nat.le_of_ble_eq_true rfl) ?_
  obtain ⟨⟨hn0, hn1⟩, hg⟩ := id hn
  refine z_iconst dX5_allLooks_0 ?_
  refine z_istore_1 rfl dX5_allLooks_1 ?_
  refine z_iconst dX5_allLooks_2 ?_
  refine z_istore_2 rfl dX5_allLooks_3 ?_
  have K4 : ∀ (fuel_ : Nat) (t_ : Int) (i_ : Int), M w 6 - i_ < (fuel_ : Int) → (0 ≤ i_ ∧ i_ ≤ M w 6) → (t_ = looksC (gW M w) i_.toNat) → Z RX5 cX5_allLooks 3 (some .int) 0 (zQ (PI (looksC (gW M w) (M w 6).toNat) M)) 4 [some (vR w), some (vI t_), some (vI i_)] [] (M) := by
    intro fuel_
    induction fuel_ with
    | zero => intro t_ i_ hfuel_ hi_ ha_; exfalso; omega
    | succ fuel_ ih4 =>
      intro t_ i_ hfuel_ hi_ ha_
      refine z_iload_2 dX5_allLooks_4 ?_
      refine z_aload_0 dX5_allLooks_5 ?_
      refine z_getI fl_X5_36 (zw_k hw) rfl dX5_allLooks_6 ?_
      refine z_icmp_ge (tgt := 30) (by omega) (by omega) dX5_allLooks_9 (by decide) (fun c9 => ?_) (fun c9 => ?_)
      · refine z_iload_1 dX5_allLooks_30 ?_
        exact z_iret dX5_allLooks_31 (zPI (by rw [ha_, show i_ = M w 6 by omega]) rfl)
      · refine z_iload_1 dX5_allLooks_12 ?_
        refine z_aload_0 dX5_allLooks_13 ?_
        refine z_getR (r := (13 + w)) fl_X5_32 (zw_k hw) rfl (zw_aR hw) dX5_allLooks_14 ?_
        refine z_iload_2 dX5_allLooks_17 ?_
        refine z_aald12 (n := 12) (r := (12 * w + 8 + i_.toNat)) (zw_a hw) (zw_aN hw) (by omega) (zw_wR hw (by omega)) dX5_allLooks_18 ?_
        refine z_getI fl_X5_64 (zw_w hw (by omega)) rfl dX5_allLooks_19 ?_
        refine z_iadd dX5_allLooks_22 ?_
        refine z_istore_1 rfl dX5_allLooks_23 ?_
        refine z_iinc_2 rfl dX5_allLooks_24 ?_
        refine z_goto (tgt := 4) dX5_allLooks_27 (by decide) ?_
        exact ih4 _ _ (by omega) (by omega) (by rw [looksC_1 (by omega), ha_])
  have L4 : ∀ (t_ : Int) (i_ : Int), (0 ≤ i_ ∧ i_ ≤ M w 6) → (t_ = looksC (gW M w) i_.toNat) → Z RX5 cX5_allLooks 3 (some .int) 0 (zQ (PI (looksC (gW M w) (M w 6).toNat) M)) 4 [some (vR w), some (vI t_), some (vI i_)] [] (M) := fun t_ i_ hi_ ha_ => K4 ((M w 6 - i_).toNat + 1) t_ i_ (by omega) hi_ ha_
  exact L4 _ _ (by omega) (by rfl)

theorem c_X5_nextWarned {M : zM} {w : Nat} (hw : isW w) (hn : WN M w) (ht : 0 ≤ M w 0 ∧ M w 0 ≤ 2000) : Call yX5_nextWarned cX5_nextWarned 4 (some .int) 0 [vR w] (M) (PI (nextC (gW M w) (M w 0) (M w 6).toNat) M) := by
  refine Call.of2 (own := RX5) (lv0 := [some (vR w), none, none, none]) rfl (by decide) rfl (Nat.le_of_ble_eq_true rfl) ?_
  obtain ⟨⟨hn0, hn1⟩, hg⟩ := id hn
  refine z_iconst dX5_nextWarned_0 ?_
  refine z_istore_1 rfl dX5_nextWarned_1 ?_
  refine z_iconst dX5_nextWarned_2 ?_
  refine z_istore_2 rfl dX5_nextWarned_3 ?_
  have K4 : ∀ (fuel_ : Nat) (t_ : Int) (i_ : Int), M w 6 - i_ < (fuel_ : Int) → (0 ≤ i_ ∧ i_ ≤ M w 6) → (t_ = nextC (gW M w) (M w 0) i_.toNat) → Z RX5 cX5_nextWarned 4 (some .int) 0 (zQ (PI (nextC (gW M w) (M w 0) (M w 6).toNat) M)) 4 [some (vR w), some (vI t_), some (vI i_), none] [] (M) := by
    intro fuel_
    induction fuel_ with
    | zero => intro t_ i_ hfuel_ hi_ ha_; exfalso; omega
    | succ fuel_ ih4 =>
      intro t_ i_ hfuel_ hi_ ha_
      refine z_iload_2 dX5_nextWarned_4 ?_
      refine z_aload_0 dX5_nextWarned_5 ?_
      refine z_getI fl_X5_36 (zw_k hw) rfl dX5_nextWarned_6 ?_
      refine z_icmp_ge (tgt := 47) (by omega) (by omega) dX5_nextWarned_9 (by decide) (fun c9 => ?_) (fun c9 => ?_)
      · refine z_iload_1 dX5_nextWarned_47 ?_
        exact z_iret dX5_nextWarned_48 (zPI (by rw [ha_, show i_ = M w 6 by omega]) rfl)
      · have hgi_ := hg i_.toNat (by omega)
        have hgi2_ := hgi_.2.1
        have hgw_ : gW M w i_.toNat 1 = M (12 * w + 8 + i_.toNat) 1 := rfl
        have hx_ := nextC_le (g := gW M w) (today := M w 0) (by omega) i_.toNat (fun j hj => hg j (by omega))
        refine z_aload_0 dX5_nextWarned_12 ?_
        refine z_getR (r := (13 + w)) fl_X5_32 (zw_k hw) rfl (zw_aR hw) dX5_nextWarned_13 ?_
        refine z_iload_2 dX5_nextWarned_16 ?_
        refine z_aald12 (n := 12) (r := (12 * w + 8 + i_.toNat)) (zw_a hw) (zw_aN hw) (by omega) (zw_wR hw (by omega)) dX5_nextWarned_17 ?_
        refine z_getI fl_X5_57 (zw_w hw (by omega)) rfl dX5_nextWarned_18 ?_
        refine z_istore_3 rfl dX5_nextWarned_21 ?_
        refine z_iload_3 dX5_nextWarned_22 ?_
        refine z_aload_0 dX5_nextWarned_23 ?_
        refine z_getI fl_X5_9 (zw_k hw) rfl dX5_nextWarned_24 ?_
        refine z_icmp_le (tgt := 41) (by omega) (by omega) dX5_nextWarned_27 (by decide) (fun c27 => ?_) (fun c27 => ?_)
        · refine z_iinc_2 rfl dX5_nextWarned_41 ?_
          refine z_goto (tgt := 4) dX5_nextWarned_44 (by decide) ?_
          refine z_drop_3 ?_
          exact ih4 _ _ (by omega) (by omega) (by first | exact (nextC_t (g := gW M w) (by omega) (by omega)).symm | (rw [nextC_f (g := gW M w) (by omega) (by omega), ha_]; done))
        · refine z_iload_1 dX5_nextWarned_30 ?_
          refine z_if_lt (tgt := 39) (by omega) dX5_nextWarned_31 (by decide) (fun c31 => ?_) (fun c31 => ?_)
          · refine z_iload_3 dX5_nextWarned_39 ?_
            refine z_istore_1 rfl dX5_nextWarned_40 ?_
            refine z_iinc_2 rfl dX5_nextWarned_41 ?_
            refine z_goto (tgt := 4) dX5_nextWarned_44 (by decide) ?_
            refine z_drop_3 ?_
            exact ih4 _ _ (by omega) (by omega) (by first | exact (nextC_t (g := gW M w) (by omega) (by omega)).symm | (rw [nextC_f (g := gW M w) (by omega) (by omega), ha_]; done))
          · refine z_iload_3 dX5_nextWarned_34 ?_
            refine z_iload_1 dX5_nextWarned_35 ?_
            refine z_icmp_ge (tgt := 41) (by omega) (by omega) dX5_nextWarned_36 (by decide) (fun c36 => ?_) (fun c36 => ?_)
            · refine z_iinc_2 rfl dX5_nextWarned_41 ?_
              refine z_goto (tgt := 4) dX5_nextWarned_44 (by decide) ?_
              refine z_drop_3 ?_
              exact ih4 _ _ (by omega) (by omega) (by first | exact (nextC_t (g := gW M w) (by omega) (by omega)).symm | (rw [nextC_f (g := gW M w) (by omega) (by omega), ha_]; done))
            · refine z_iload_3 dX5_nextWarned_39 ?_
              refine z_istore_1 rfl dX5_nextWarned_40 ?_
              refine z_iinc_2 rfl dX5_nextWarned_41 ?_
              refine z_goto (tgt := 4) dX5_nextWarned_44 (by decide) ?_
              refine z_drop_3 ?_
              exact ih4 _ _ (by omega) (by omega) (by first | exact (nextC_t (g := gW M w) (by omega) (by omega)).symm | (rw [nextC_f (g := gW M w) (by omega) (by omega), ha_]; done))
  have L4 : ∀ (t_ : Int) (i_ : Int), (0 ≤ i_ ∧ i_ ≤ M w 6) → (t_ = nextC (gW M w) (M w 0) i_.toNat) → Z RX5 cX5_nextWarned 4 (some .int) 0 (zQ (PI (nextC (gW M w) (M w 0) (M w 6).toNat) M)) 4 [some (vR w), some (vI t_), some (vI i_), none] [] (M) := fun t_ i_ hi_ ha_ => K4 ((M w 6 - i_).toNat + 1) t_ i_ (by omega) hi_ ha_
  exact L4 _ _ (by omega) (by rfl)

theorem c_X5_dangerOn {M : zM} {w : Nat} (hw : isW w) {day h : Int} (hn : WN M w) (hh : -12 ≤ h ∧ h ≤ 12) (hday : -2147483648 ≤ day ∧ day < 2147483648) : Call yX5_dangerOn cX5_dangerOn 5 (some .int) 1 [vR w, vI day, vI h] (M) (PI (danger (M w 6).toNat (gW M w) day h) M) := by
  refine Call.of2 (own := RX5) (lv0 := [some (vR w), some (vI day), some (vI h), none, none]) rfl (by decide) rfl (Nat.le_of_ble_eq_true rfl) ?_
  obtain ⟨⟨hn0, hn1⟩, hg⟩ := id hn
  refine z_iconst dX5_dangerOn_0 ?_
  refine z_istore_3 rfl dX5_dangerOn_1 ?_
  refine z_iconst dX5_dangerOn_2 ?_
  refine z_istore_4 rfl dX5_dangerOn_3 ?_
  have K5 : ∀ (fuel_ : Nat) (t_ : Int) (i_ : Int), M w 6 - i_ < (fuel_ : Int) → (0 ≤ i_ ∧ i_ ≤ M w 6) → (t_ = dsum (gW M w) day h i_.toNat) → Z RX5 cX5_dangerOn 5 (some .int) 1 (zQ (PI (danger (M w 6).toNat (gW M w) day h) M)) 5 [some (vR w), some (vI day), some (vI h), some (vI t_), some (vI i_)] [] (M) := by
    intro fuel_
    induction fuel_ with
    | zero => intro t_ i_ hfuel_ hi_ ha_; exfalso; omega
    | succ fuel_ ih5 =>
      intro t_ i_ hfuel_ hi_ ha_
      refine z_iload_4 dX5_dangerOn_5 ?_
      refine z_aload_0 dX5_dangerOn_7 ?_
      refine z_getI fl_X5_36 (zw_k hw) rfl dX5_dangerOn_8 ?_
      refine z_icmp_ge (tgt := 48) (by omega) (by omega) dX5_dangerOn_11 (by decide) (fun c11 => ?_) (fun c11 => ?_)
      · have hs_ := dsum_le (g := gW M w) (day := day) (h := h) i_.toNat (fun j hj => hg j (by omega))
        refine z_iload_3 dX5_dangerOn_48 ?_
        refine z_ldc (n := 1000000) kc_X5_25 (by decide) dX5_dangerOn_49 ?_
        refine z_mmin ml_X5_71 (by decide) (Nat.le_of_ble_eq_true rfl) (by omega) (by decide) dX5_dangerOn_51 ?_
        exact z_iret dX5_dangerOn_54 (zPI (by rw [ha_, show i_ = M w 6 by omega]; rfl) rfl)
      · have hgi_ := hg i_.toNat (by omega)
        have hgi2_ := hgi_.2.1
        have hgw_ : gW M w i_.toNat 1 = M (12 * w + 8 + i_.toNat) 1 := rfl
        refine z_aload_0 dX5_dangerOn_14 ?_
        refine z_getR (r := (13 + w)) fl_X5_32 (zw_k hw) rfl (zw_aR hw) dX5_dangerOn_15 ?_
        refine z_iload_4 dX5_dangerOn_18 ?_
        refine z_aald12 (n := 12) (r := (12 * w + 8 + i_.toNat)) (zw_a hw) (zw_aN hw) (by omega) (zw_wR hw (by omega)) dX5_dangerOn_20 ?_
        refine z_getI fl_X5_57 (zw_w hw (by omega)) rfl dX5_dangerOn_21 ?_
        refine z_iload_1 dX5_dangerOn_24 ?_
        refine z_icmp_ne (tgt := 42) (by omega) (by omega) dX5_dangerOn_25 (by decide) (fun c25 => ?_) (fun c25 => ?_)
        · refine z_iinc_4 rfl dX5_dangerOn_42 ?_
          refine z_goto (tgt := 5) dX5_dangerOn_45 (by decide) ?_
          exact ih5 _ _ (by omega) (by omega) (by first | (rw [dsum_t (g := gW M w) (by omega) c25, ha_] <;> rfl) | (rw [dsum_f (g := gW M w) (by omega) c25, ha_]; done))
        · refine z_iload_3 dX5_dangerOn_28 ?_
          refine z_aload_0 dX5_dangerOn_29 ?_
          refine z_getR (r := (13 + w)) fl_X5_32 (zw_k hw) rfl (zw_aR hw) dX5_dangerOn_30 ?_
          refine z_iload_4 dX5_dangerOn_33 ?_
          refine z_aald12 (n := 12) (r := (12 * w + 8 + i_.toNat)) (zw_a hw) (zw_aN hw) (by omega) (zw_wR hw (by omega)) dX5_dangerOn_35 ?_
          refine z_iload_2 dX5_dangerOn_36 ?_
          refine z_cVI yv_X4_strikeAt ml_X5_67 (c_X4_strikeAt (zw_w hw (by omega)) hgi_ hh) (zw_w hw (by omega)) rfl rfl (by decide) (Nat.le_of_ble_eq_true rfl) dX5_dangerOn_37 ?_
          refine z_iadd dX5_dangerOn_40 ?_
          refine z_istore_3 rfl dX5_dangerOn_41 ?_
          refine z_iinc_4 rfl dX5_dangerOn_42 ?_
          refine z_goto (tgt := 5) dX5_dangerOn_45 (by decide) ?_
          exact ih5 _ _ (by omega) (by omega) (by first | (rw [dsum_t (g := gW M w) (by omega) c25, ha_] <;> rfl) | (rw [dsum_f (g := gW M w) (by omega) c25, ha_]; done))
  have L5 : ∀ (t_ : Int) (i_ : Int), (0 ≤ i_ ∧ i_ ≤ M w 6) → (t_ = dsum (gW M w) day h i_.toNat) → Z RX5 cX5_dangerOn 5 (some .int) 1 (zQ (PI (danger (M w 6).toNat (gW M w) day h) M)) 5 [some (vR w), some (vI day), some (vI h), some (vI t_), some (vI i_)] [] (M) := fun t_ i_ hi_ ha_ => K5 ((M w 6 - i_).toNat + 1) t_ i_ (by omega) hi_ ha_
  exact L5 _ _ (by omega) (by rfl)

theorem c_X5_useAt {M : zM} {w : Nat} (hw : isW w) {h : Int} (hp : pOK (M (10 + w))) (hh : -12 ≤ h ∧ h ≤ 12) : Call yX5_useAt cX5_useAt 2 (some .int) 1 [vR w, vI h] (M) (PI (useS (M (10 + w)) h) M) := by
  refine Call.of2 (own := RX5) (lv0 := [some (vR w), some (vI h)]) rfl (by decide) rfl (Nat.le_of_ble_eq_true rfl) ?_
  obtain ⟨⟨p00, p01⟩, ⟨p10, p11⟩, ⟨p20, p21⟩, ⟨p30, p31⟩, ⟨p40, p41⟩, ⟨p50, p51⟩⟩ := id hp
  have hz_ := zabs_cases h
  have hm_ := mul_box (a := M (10 + w) 2) (b := zabs h) p20 p21 zabs_le (show _ ≤ 12 by omega)
  refine z_aload_0 dX5_useAt_0 ?_
  refine z_getR (r := (10 + w)) fl_X5_26 (zw_k hw) rfl (zw_pR hw) dX5_useAt_1 ?_
  refine z_iconst dX5_useAt_4 ?_
  refine z_iald (n := 6) (zw_p hw) (zw_pN hw) (by omega) dX5_useAt_5 ?_
  refine z_aload_0 dX5_useAt_6 ?_
  refine z_getR (r := (10 + w)) fl_X5_26 (zw_k hw) rfl (zw_pR hw) dX5_useAt_7 ?_
  refine z_iconst dX5_useAt_10 ?_
  refine z_iald (n := 6) (zw_p hw) (zw_pN hw) (by omega) dX5_useAt_11 ?_
  refine z_iload_1 dX5_useAt_12 ?_
  refine z_mabs ml_X5_77 (by decide) (Nat.le_of_ble_eq_true rfl) (by omega) dX5_useAt_13 ?_
  refine z_imul dX5_useAt_16 ?_
  refine z_isub dX5_useAt_17 ?_
  refine z_iconst dX5_useAt_18 ?_
  refine z_mmax ml_X5_80 (by decide) (Nat.le_of_ble_eq_true rfl) (by omega) (by decide) dX5_useAt_19 ?_
  exact z_iret dX5_useAt_22 (zPI rfl rfl)

theorem c_X5_worthOf {M : zM} {w : Nat} (hw : isW w) {day h : Int} (hn : WN M w) (hp : pOK (M (10 + w))) (hh : -12 ≤ h ∧ h ≤ 12) (hday : -2147483648 ≤ day ∧ day < 2147483648) : Call yX5_worthOf cX5_worthOf 3 (some .long) 2 [vR w, vI day, vI h] (M) (PJ (worthS (M (10 + w)) (M w 6).toNat (gW M w) day h) M) := by
  refine Call.of2 (own := RX5) (lv0 := [some (vR w), some (vI day), some (vI h)]) rfl (by decide) rfl (Nat.le_of_ble_eq_true rfl) ?_
  obtain ⟨⟨p00, p01⟩, ⟨p10, p11⟩, ⟨p20, p21⟩, ⟨p30, p31⟩, ⟨p40, p41⟩, ⟨p50, p51⟩⟩ := id hp
  have hu_ := useS_le (h := h) hp
  have hg_ := danger_le (day := day) (h := h) (WN_all hn)
  have hm_ := mul_box (a := M (10 + w) 3) p30 p31 hg_.1 hg_.2
  refine z_aload_0 dX5_worthOf_0 ?_
  refine z_iload_2 dX5_worthOf_1 ?_
  refine z_cVI yv_X5_useAt ml_X5_83 (c_X5_useAt hw hp hh) (zw_k hw) rfl rfl (by decide) (Nat.le_of_ble_eq_true rfl) dX5_worthOf_2 ?_
  refine z_i2l (by omega) dX5_worthOf_5 ?_
  refine z_aload_0 dX5_worthOf_6 ?_
  refine z_getR (r := (10 + w)) fl_X5_26 (zw_k hw) rfl (zw_pR hw) dX5_worthOf_7 ?_
  refine z_iconst dX5_worthOf_10 ?_
  refine z_iald (n := 6) (zw_p hw) (zw_pN hw) (by omega) dX5_worthOf_11 ?_
  refine z_i2l (by omega) dX5_worthOf_12 ?_
  refine z_aload_0 dX5_worthOf_13 ?_
  refine z_iload_1 dX5_worthOf_14 ?_
  refine z_iload_2 dX5_worthOf_15 ?_
  refine z_cVI yv_X5_dangerOn ml_X5_86 (c_X5_dangerOn hw hn hh hday) (zw_k hw) rfl rfl (by decide) (Nat.le_of_ble_eq_true rfl) dX5_worthOf_16 ?_
  refine z_i2l (by omega) dX5_worthOf_19 ?_
  refine z_lmul dX5_worthOf_20 ?_
  refine z_ldc2 (n := 1000000) kl_X5_89 (by decide) dX5_worthOf_21 ?_
  refine z_ldivp (by omega) (by decide) dX5_worthOf_24 ?_
  refine z_lsub dX5_worthOf_25 ?_
  exact z_lret dX5_worthOf_26 (zPJ rfl rfl)

theorem c_X5_canShift {M : zM} {w : Nat} (hw : isW w) {s_ : Int} (hp : pOK (M (10 + w))) (hht : -12 ≤ M w 1 ∧ M w 1 ≤ 12) (hs : -24 ≤ s_ ∧ s_ ≤ 24) : Call yX5_canShift cX5_canShift 3 (some .boolean) 1 [vR w, vI s_] (M) (PI (zb (canS (M (10 + w)) (M w 1) s_)) M) := by
  refine Call.of2 (own := RX5) (lv0 := [some (vR w), some (vI s_), none]) rfl (by decide) rfl (Nat.le_of_ble_eq_true rfl) ?_
  obtain ⟨⟨p00, p01⟩, ⟨p10, p11⟩, ⟨p20, p21⟩, ⟨p30, p31⟩, ⟨p40, p41⟩, ⟨p50, p51⟩⟩ := id hp
  have hz_ := zabs_cases s_
  have hm_ := mul_box (a := M (10 + w) 0) (b := zabs s_) (by omega) p01 zabs_le (show _ ≤ 24 by omega)
  refine z_iload_1 dX5_canShift_0 ?_
  refine z_if_ne (tgt := 6) (by omega) dX5_canShift_1 (by decide) (fun c1 => ?_) (fun c1 => ?_)
  · refine z_aload_0 dX5_canShift_6 ?_
    refine z_getR (r := (10 + w)) fl_X5_26 (zw_k hw) rfl (zw_pR hw) dX5_canShift_7 ?_
    refine z_iconst dX5_canShift_10 ?_
    refine z_iald (n := 6) (zw_p hw) (zw_pN hw) (by omega) dX5_canShift_11 ?_
    refine z_aload_0 dX5_canShift_12 ?_
    refine z_getR (r := (10 + w)) fl_X5_26 (zw_k hw) rfl (zw_pR hw) dX5_canShift_13 ?_
    refine z_iconst dX5_canShift_16 ?_
    refine z_iald (n := 6) (zw_p hw) (zw_pN hw) (by omega) dX5_canShift_17 ?_
    refine z_iload_1 dX5_canShift_18 ?_
    refine z_mabs ml_X5_77 (by decide) (Nat.le_of_ble_eq_true rfl) (by omega) dX5_canShift_19 ?_
    refine z_imul dX5_canShift_22 ?_
    refine z_isub dX5_canShift_23 ?_
    refine z_istore_2 rfl dX5_canShift_24 ?_
    have hy_ := zabs_cases (M w 1 + s_)
    refine z_aload_0 dX5_canShift_25 ?_
    refine z_getI fl_X5_15 (zw_k hw) rfl dX5_canShift_26 ?_
    refine z_iload_1 dX5_canShift_29 ?_
    refine z_iadd dX5_canShift_30 ?_
    refine z_mabs ml_X5_77 (by decide) (Nat.le_of_ble_eq_true rfl) (by omega) dX5_canShift_31 ?_
    refine z_bipush dX5_canShift_34 (by decide) ?_
    refine z_icmp_gt (tgt := 53) (by omega) (by decide) dX5_canShift_36 (by decide) (fun c36 => ?_) (fun c36 => ?_)
    · refine z_iconst dX5_canShift_53 ?_
      exact z_zret (by first | exact Or.inl rfl | exact Or.inr rfl | exact zb_01 | omega) dX5_canShift_54 (zPI (by unfold canS; first | exact (zb_t (by omega)).symm | exact (zb_f (by omega)).symm) rfl)
    · refine z_iload_2 dX5_canShift_39 ?_
      refine z_aload_0 dX5_canShift_40 ?_
      refine z_getR (r := (10 + w)) fl_X5_26 (zw_k hw) rfl (zw_pR hw) dX5_canShift_41 ?_
      refine z_iconst dX5_canShift_44 ?_
      refine z_iald (n := 6) (zw_p hw) (zw_pN hw) (by omega) dX5_canShift_45 ?_
      refine z_icmp_lt (tgt := 53) (by omega) (by omega) dX5_canShift_46 (by decide) (fun c46 => ?_) (fun c46 => ?_)
      · refine z_iconst dX5_canShift_53 ?_
        exact z_zret (by first | exact Or.inl rfl | exact Or.inr rfl | exact zb_01 | omega) dX5_canShift_54 (zPI (by unfold canS; first | exact (zb_t (by omega)).symm | exact (zb_f (by omega)).symm) rfl)
      · refine z_iconst dX5_canShift_49 ?_
        refine z_goto (tgt := 54) dX5_canShift_50 (by decide) ?_
        exact z_zret (by first | exact Or.inl rfl | exact Or.inr rfl | exact zb_01 | omega) dX5_canShift_54 (zPI (by unfold canS; first | exact (zb_t (by omega)).symm | exact (zb_f (by omega)).symm) rfl)
  · refine z_iconst dX5_canShift_4 ?_
    exact z_zret (by first | exact Or.inl rfl | exact Or.inr rfl | exact zb_01 | omega) dX5_canShift_5 (zPI (by unfold canS; first | exact (zb_t (by omega)).symm | exact (zb_f (by omega)).symm) rfl)

theorem c_X5_shift {M : zM} {w : Nat} (hw : isW w) {s_ : Int} (hs : -24 ≤ s_ ∧ s_ ≤ 24) : Call yX5_shift cX5_shift 2 none 1 [vR w, vI s_] (M) (PN (zput (zput M w 1 (M w 1 + s_)) (10 + w) 5 (M (10 + w) 5 - M (10 + w) 0 * zabs s_))) := by
  refine Call.of2 (own := RX5) (lv0 := [some (vR w), some (vI s_)]) rfl (by decide) rfl (Nat.le_of_ble_eq_true rfl) ?_
  refine z_aload_0 dX5_shift_0 ?_
  refine z_dup rfl dX5_shift_1 ?_
  refine z_getI fl_X5_15 (zw_k hw) rfl dX5_shift_2 ?_
  refine z_iload_1 dX5_shift_5 ?_
  refine z_iadd dX5_shift_6 ?_
  refine z_putI fl_X5_15 (zw_k hw) rfl dX5_shift_7 ?_
  refine z_aload_0 dX5_shift_10 ?_
  refine z_getR (r := (10 + w)) fl_X5_26 (zw_k hw) rfl (zw_pR hw) dX5_shift_11 ?_
  refine z_iconst dX5_shift_14 ?_
  refine z_dup2_11 rfl rfl dX5_shift_15 ?_
  refine z_ialdv (n := 6) (v := (M (10 + w) 5)) (zw_p hw) (zw_pN hw) (by omega) (by rw [zput_ne (by omega)]) dX5_shift_16 ?_
  refine z_aload_0 dX5_shift_17 ?_
  refine z_getR (r := (10 + w)) fl_X5_26 (zw_k hw) rfl (zw_pR hw) dX5_shift_18 ?_
  refine z_iconst dX5_shift_21 ?_
  refine z_ialdv (n := 6) (v := (M (10 + w) 0)) (zw_p hw) (zw_pN hw) (by omega) (by rw [zput_ne (by omega)]) dX5_shift_22 ?_
  refine z_iload_1 dX5_shift_23 ?_
  refine z_mabs ml_X5_77 (by decide) (Nat.le_of_ble_eq_true rfl) (by omega) dX5_shift_24 ?_
  refine z_imul dX5_shift_27 ?_
  refine z_isub dX5_shift_28 ?_
  refine z_iast (n := 6) (zw_p hw) (zw_pN hw) (by omega) dX5_shift_29 ?_
  exact z_vret dX5_shift_30 (zPN rfl)

theorem c_X5_stepsLeft {M : zM} {w : Nat} (hw : isW w) (hp : pOK (M (10 + w))) : Call yX5_stepsLeft cX5_stepsLeft 2 (some .int) 0 [vR w] (M) (PI (leftS (M (10 + w))) M) := by
  refine Call.of2 (own := RX5) (lv0 := [some (vR w), none]) rfl (by decide) rfl (Nat.le_of_ble_eq_true rfl) ?_
  obtain ⟨⟨p00, p01⟩, ⟨p10, p11⟩, ⟨p20, p21⟩, ⟨p30, p31⟩, ⟨p40, p41⟩, ⟨p50, p51⟩⟩ := id hp
  refine z_aload_0 dX5_stepsLeft_0 ?_
  refine z_getR (r := (10 + w)) fl_X5_26 (zw_k hw) rfl (zw_pR hw) dX5_stepsLeft_1 ?_
  refine z_iconst dX5_stepsLeft_4 ?_
  refine z_iald (n := 6) (zw_p hw) (zw_pN hw) (by omega) dX5_stepsLeft_5 ?_
  refine z_aload_0 dX5_stepsLeft_6 ?_
  refine z_getR (r := (10 + w)) fl_X5_26 (zw_k hw) rfl (zw_pR hw) dX5_stepsLeft_7 ?_
  refine z_iconst dX5_stepsLeft_10 ?_
  refine z_iald (n := 6) (zw_p hw) (zw_pN hw) (by omega) dX5_stepsLeft_11 ?_
  refine z_isub dX5_stepsLeft_12 ?_
  refine z_istore_1 rfl dX5_stepsLeft_13 ?_
  refine z_aload_0 dX5_stepsLeft_14 ?_
  refine z_getR (r := (10 + w)) fl_X5_26 (zw_k hw) rfl (zw_pR hw) dX5_stepsLeft_15 ?_
  refine z_iconst dX5_stepsLeft_18 ?_
  refine z_iald (n := 6) (zw_p hw) (zw_pN hw) (by omega) dX5_stepsLeft_19 ?_
  refine z_iconst dX5_stepsLeft_20 ?_
  refine z_icmp_lt (tgt := 28) (by omega) (by decide) dX5_stepsLeft_21 (by decide) (fun c21 => ?_) (fun c21 => ?_)
  · refine z_iconst dX5_stepsLeft_28 ?_
    refine z_goto (tgt := 40) dX5_stepsLeft_29 (by decide) ?_
    exact z_iret dX5_stepsLeft_40 (zPI (by unfold leftS; first | (rw [if_pos (by omega)]; done) | (rw [if_neg (by omega)]; done)) rfl)
  · refine z_iload_1 dX5_stepsLeft_24 ?_
    refine z_if_ge (tgt := 32) (by omega) dX5_stepsLeft_25 (by decide) (fun c25 => ?_) (fun c25 => ?_)
    · refine z_iload_1 dX5_stepsLeft_32 ?_
      refine z_aload_0 dX5_stepsLeft_33 ?_
      refine z_getR (r := (10 + w)) fl_X5_26 (zw_k hw) rfl (zw_pR hw) dX5_stepsLeft_34 ?_
      refine z_iconst dX5_stepsLeft_37 ?_
      refine z_iald (n := 6) (zw_p hw) (zw_pN hw) (by omega) dX5_stepsLeft_38 ?_
      refine z_idivp (by omega) (by omega) dX5_stepsLeft_39 ?_
      exact z_iret dX5_stepsLeft_40 (zPI (by unfold leftS; first | (rw [if_pos (by omega)]; done) | (rw [if_neg (by omega)]; done)) rfl)
    · refine z_iconst dX5_stepsLeft_28 ?_
      refine z_goto (tgt := 40) dX5_stepsLeft_29 (by decide) ?_
      exact z_iret dX5_stepsLeft_40 (zPI (by unfold leftS; first | (rw [if_pos (by omega)]; done) | (rw [if_neg (by omega)]; done)) rfl)

theorem c_X5_endDay {M : zM} {w : Nat} (hw : isW w) (hn : WN M w) (hp : pOK (M (10 + w))) (ht : 0 ≤ M w 0 ∧ M w 0 ≤ 2000) (hht : -12 ≤ M w 1 ∧ M w 1 ≤ 12) : Call yX5_endDay cX5_endDay 1 none 2 [vR w] (M) (PN (zput (zput (zput M w 0 (M w 0 + 1)) w 2 (M w 2 + useS (M (10 + w)) (M w 1))) w 3 (M w 3 + danger (M w 6).toNat (gW M w) (M w 0 + 1) (M w 1)))) := by
  refine Call.of2 (own := RX5) (lv0 := [some (vR w)]) rfl (by decide) rfl (Nat.le_of_ble_eq_true rfl) ?_
  have w10_ : 10 + w ≠ w := by omega
  have wi_ : ∀ i_ : Nat, 12 * w + 8 + i_ ≠ w := fun i_ => by omega
  have hu_ := useS_le (h := M w 1) hp
  have hg_ := danger_le (day := M w 0 + 1) (h := M w 1) (WN_all hn)
  have e10_ : ∀ (j v : Int), zput M w j v (10 + w) = M (10 + w) := fun j v => zput_ne w10_
  have g2_ : ∀ (j v j2 v2 : Int), gW (zput (zput M w j v) w j2 v2) w = gW M w := fun j v j2 v2 => by funext i_; show zput _ _ _ _ _ = _; rw [zput_ne (wi_ i_), zput_ne (wi_ i_)]
  have n2_ : WN (zput (zput M w 0 (M w 0 + 1)) w 2 (M w 2 + useS (M (10 + w)) (M w 1))) w := by
    refine ⟨?_, fun i_ hi => ?_⟩
    · rw [zput_ne2 (by omega), zput_ne2 (by omega)]; exact hn.1
    · rw [zput_ne2 (by omega), zput_ne2 (by omega)] at hi; rw [zput_ne (wi_ i_), zput_ne (wi_ i_)]; exact hn.2 i_ hi
  refine z_aload_0 dX5_endDay_0 ?_
  refine z_dup rfl dX5_endDay_1 ?_
  refine z_getI fl_X5_9 (zw_k hw) rfl dX5_endDay_2 ?_
  refine z_iconst dX5_endDay_5 ?_
  refine z_iadd dX5_endDay_6 ?_
  refine z_putI fl_X5_9 (zw_k hw) rfl dX5_endDay_7 ?_
  refine z_aload_0 dX5_endDay_10 ?_
  refine z_dup rfl dX5_endDay_11 ?_
  refine z_getJv (v := (M w 2)) fl_X5_18 (zw_k hw) rfl (by rw [zput_ne2 (by omega)]) dX5_endDay_12 ?_
  refine z_aload_0 dX5_endDay_15 ?_
  refine z_aload_0 dX5_endDay_16 ?_
  refine z_getIv (v := (M w 1)) fl_X5_15 (zw_k hw) rfl (by rw [zput_ne2 (by omega)]) dX5_endDay_17 ?_
  refine z_cVI yv_X5_useAt ml_X5_83 (c_X5_useAt (M := (zput M w 0 (M w 0 + 1))) hw (by rw [e10_]; exact hp) hht) (zw_k hw) rfl rfl (by decide) (Nat.le_of_ble_eq_true rfl) dX5_endDay_20 ?_
  rw [e10_]
  refine z_i2l (by omega) dX5_endDay_23 ?_
  refine z_ladd dX5_endDay_24 ?_
  refine z_putJ fl_X5_18 (zw_k hw) rfl dX5_endDay_25 ?_
  refine z_aload_0 dX5_endDay_28 ?_
  refine z_dup rfl dX5_endDay_29 ?_
  refine z_getJv (v := (M w 3)) fl_X5_22 (zw_k hw) rfl (by rw [zput_ne2 (by omega), zput_ne2 (by omega)]) dX5_endDay_30 ?_
  refine z_aload_0 dX5_endDay_33 ?_
  refine z_aload_0 dX5_endDay_34 ?_
  refine z_getIv (v := (M w 0 + 1)) fl_X5_9 (zw_k hw) rfl (by rw [zput_ne2 (by omega), zput_eq]) dX5_endDay_35 ?_
  refine z_aload_0 dX5_endDay_38 ?_
  refine z_getIv (v := (M w 1)) fl_X5_15 (zw_k hw) rfl (by rw [zput_ne2 (by omega), zput_ne2 (by omega)]) dX5_endDay_39 ?_
  refine z_cVI yv_X5_dangerOn ml_X5_86 (c_X5_dangerOn (M := (zput (zput M w 0 (M w 0 + 1)) w 2 (M w 2 + useS (M (10 + w)) (M w 1)))) hw n2_ hht (by omega)) (zw_k hw) rfl rfl (by decide) (Nat.le_of_ble_eq_true rfl) dX5_endDay_42 ?_
  rw [g2_, show (zput (zput M w 0 (M w 0 + 1)) w 2 (M w 2 + useS (M (10 + w)) (M w 1))) w 6 = M w 6 by rw [zput_ne2 (by omega), zput_ne2 (by omega)]]
  refine z_i2l (by omega) dX5_endDay_45 ?_
  refine z_ladd dX5_endDay_46 ?_
  refine z_putJ fl_X5_22 (zw_k hw) rfl dX5_endDay_47 ?_
  exact z_vret dX5_endDay_50 (zPN rfl)
