def cp6 (r q : Int → Int) : Int → Int := fun j => if 0 ≤ j ∧ j ≤ 5 then q j else r j
theorem zup6 {r q : Int → Int} : zup (zup (zup (zup (zup (zup (zup r 0 (q 0)) 1 (q 1)) 2 (q 2)) 3 (q 3)) 4 (q 4)) 5 0) 5 (q 5) = cp6 r q := by
  funext j
  unfold cp6
  by_cases h : 0 ≤ j ∧ j ≤ 5
  · rw [if_pos h]
    rcases (show j = 0 ∨ j = 1 ∨ j = 2 ∨ j = 3 ∨ j = 4 ∨ j = 5 by omega) with e | e | e | e | e | e <;> rw [e] <;> simp [zup]
  · rw [if_neg h, zup_ne (by omega), zup_ne (by omega), zup_ne (by omega), zup_ne (by omega), zup_ne (by omega), zup_ne (by omega), zup_ne (by omega)]
def wcopy (Mb M : zM) (w o : Nat) (i : Int) : zM := fun k => if 12 * w + 8 ≤ k ∧ (k : Int) - (12 * w + 8) < i then cp6 (M k) (M (k - 12 * w + 12 * o)) else Mb k
theorem wcopy_0 {Mb M : zM} {w o : Nat} : wcopy Mb M w o 0 = Mb := by
  funext k
  unfold wcopy
  rw [if_neg (by omega)]
theorem wcopy_out {Mb M : zM} {w o k : Nat} {i : Int} (h : ¬ (12 * w + 8 ≤ k ∧ (k : Int) - (12 * w + 8) < i)) : wcopy Mb M w o i k = Mb k := by
  unfold wcopy
  rw [if_neg h]
theorem wcopy_1 {Mb M : zM} {w o : Nat} {i : Int} (hi : 0 ≤ i ∧ i < 12) (hw : isW w) (ho : isW o) (hne : o ≠ w) (hMb : ∀ k : Nat, 20 ≤ k → Mb k = M k) : zrow (wcopy Mb M w o i) (12 * w + 8 + i.toNat) (cp6 (wcopy Mb M w o i (12 * w + 8 + i.toNat)) (wcopy Mb M w o i (12 * o + 8 + i.toNat))) = wcopy Mb M w o (i + 1) := by
  have h1 : 1 ≤ w ∧ w ≤ 3 := by rcases hw with rfl | rfl | rfl <;> decide
  have h2 : 1 ≤ o ∧ o ≤ 3 := by rcases ho with rfl | rfl | rfl <;> decide
  rw [wcopy_out (k := 12 * w + 8 + i.toNat) (by omega), wcopy_out (k := 12 * o + 8 + i.toNat) (by omega), hMb _ (by omega), hMb _ (by omega)]
  funext k
  unfold zrow wcopy
  by_cases hk : k = 12 * w + 8 + i.toNat
  · rw [if_pos hk, if_pos (by omega), hk, show 12 * w + 8 + i.toNat - 12 * w + 12 * o = 12 * o + 8 + i.toNat by omega]
  · rw [if_neg hk]
    by_cases h3 : 12 * w + 8 ≤ k ∧ (k : Int) - (12 * w + 8) < i
    · rw [if_pos h3, if_pos (by omega)]
    · rw [if_neg h3, if_neg (by omega)]
def becB (M : zM) (w o : Nat) : zM := zput (zrow (zput (zput (zput (zput M w 0 (M o 0)) w 1 (M o 1)) w 2 (M o 2)) w 3 (M o 3)) (10 + w) (zcopy (M (10 + o)) (M (10 + w)) 0 0 6)) w 6 (M o 6)
def becM (M : zM) (w o : Nat) : zM := zrow (zput (wcopy (becB M w o) M w o (M o 6)) w 8 (M o 8)) (16 + w) (zcopy (M (16 + o)) (M (16 + w)) 0 0 (M o 8))
theorem becB_out {M : zM} {w o k : Nat} (h1 : k ≠ w) (h2 : k ≠ 10 + w) : becB M w o k = M k := by
  unfold becB
  rw [zput_ne h1, zrow_ne h2, zput_ne h1, zput_ne h1, zput_ne h1, zput_ne h1]
theorem c_X4_become {M : zM} {k k2 : Nat} (hk : zKT k 4) (hk2 : zKT k2 4) (hne : k2 ≠ k) : Call yX4_become cX4_become 2 none 1 [vR k, vR k2] (M) (PN (zrow M k (cp6 (M k) (M k2)))) := by
  refine Call.of2 (own := RX4) (lv0 := [some (vR k), some (vR k2)]) rfl (by decide) rfl (Nat.le_of_ble_eq_true rfl) ?_
  refine z_aload_0 dX4_become_0 ?_
  refine z_aload_1 dX4_become_1 ?_
  refine z_getI fl_X4_11 hk2 rfl dX4_become_2 ?_
  refine z_aload_1 dX4_become_5 ?_
  refine z_getI fl_X4_15 hk2 rfl dX4_become_6 ?_
  refine z_aload_1 dX4_become_9 ?_
  refine z_getI fl_X4_18 hk2 rfl dX4_become_10 ?_
  refine z_aload_1 dX4_become_13 ?_
  refine z_getI fl_X4_21 hk2 rfl dX4_become_14 ?_
  refine z_aload_1 dX4_become_17 ?_
  refine z_getI fl_X4_24 hk2 rfl dX4_become_18 ?_
  refine z_cVN yv_X4_begin ml_X4_30 (c_X4_begin hk) hk rfl rfl (by decide) (Nat.le_of_ble_eq_true rfl) dX4_become_21 ?_
  refine z_aload_0 dX4_become_24 ?_
  refine z_aload_1 dX4_become_25 ?_
  refine z_getIv (v := (M k2 5)) fl_X4_27 hk2 rfl (by rw [zput_ne hne, zput_ne hne, zput_ne hne, zput_ne hne, zput_ne hne, zput_ne hne]) dX4_become_26 ?_
  refine z_putI fl_X4_27 hk rfl dX4_become_29 ?_
  exact z_vret dX4_become_32 (zPN (by simp only [zput_row, zrow_eq, zrow_row]; rw [zup6]))

theorem c_X5_become {M : zM} {w o : Nat} (hw : isW w) (ho : isW o) (hne : o ≠ w) (hn : 0 ≤ M o 6 ∧ M o 6 ≤ 12) (ht : 0 ≤ M o 8 ∧ M o 8 ≤ 60) (hby : ∀ j : Int, 0 ≤ j → j < 60 → -128 ≤ M (16 + o) j ∧ M (16 + o) j < 128) : Call yX5_become cX5_become 3 none 3 [vR w, vR o] (M) (PN (becM M w o)) := by
  refine Call.of2 (own := RX5) (lv0 := [some (vR w), some (vR o), none]) rfl (by decide) rfl (Nat.le_of_ble_eq_true rfl) ?_
  have w1_ : 1 ≤ w ∧ w ≤ 3 := by rcases hw with rfl | rfl | rfl <;> decide
  have o1_ : 1 ≤ o ∧ o ≤ 3 := by rcases ho with rfl | rfl | rfl <;> decide
  have bb_ : ∀ k_ : Nat, 20 ≤ k_ → becB M w o k_ = M k_ := fun k_ hk_ => becB_out (by omega) (by omega)
  have b6_ : becB M w o w 6 = M o 6 := by unfold becB; rw [zput_eq]
  have bo_ : becB M w o o = M o := becB_out (by omega) (by omega)
  refine z_aload_0 dX5_become_0 ?_
  refine z_aload_1 dX5_become_1 ?_
  refine z_getI fl_X5_9 (zw_k ho) rfl dX5_become_2 ?_
  refine z_putI fl_X5_9 (zw_k hw) rfl dX5_become_5 ?_
  refine z_aload_0 dX5_become_8 ?_
  refine z_aload_1 dX5_become_9 ?_
  refine z_getIv (v := (M o 1)) fl_X5_15 (zw_k ho) rfl (by rw [zput_ne hne]) dX5_become_10 ?_
  refine z_putI fl_X5_15 (zw_k hw) rfl dX5_become_13 ?_
  refine z_aload_0 dX5_become_16 ?_
  refine z_aload_1 dX5_become_17 ?_
  refine z_getJv (v := (M o 2)) fl_X5_18 (zw_k ho) rfl (by rw [zput_ne hne, zput_ne hne]) dX5_become_18 ?_
  refine z_putJ fl_X5_18 (zw_k hw) rfl dX5_become_21 ?_
  refine z_aload_0 dX5_become_24 ?_
  refine z_aload_1 dX5_become_25 ?_
  refine z_getJv (v := (M o 3)) fl_X5_22 (zw_k ho) rfl (by rw [zput_ne hne, zput_ne hne, zput_ne hne]) dX5_become_26 ?_
  refine z_putJ fl_X5_22 (zw_k hw) rfl dX5_become_29 ?_
  refine z_aload_1 dX5_become_32 ?_
  refine z_getR (r := (10 + o)) fl_X5_26 (zw_k ho) rfl (zw_pR ho) dX5_become_33 ?_
  refine z_iconst dX5_become_36 ?_
  refine z_aload_0 dX5_become_37 ?_
  refine z_getR (r := (10 + w)) fl_X5_26 (zw_k hw) rfl (zw_pR hw) dX5_become_38 ?_
  refine z_iconst dX5_become_41 ?_
  refine z_aload_0 dX5_become_42 ?_
  refine z_getR (r := (10 + w)) fl_X5_26 (zw_k hw) rfl (zw_pR hw) dX5_become_43 ?_
  refine z_alen (n := 6) (zw_p hw) (zw_pN hw) dX5_become_46 ?_
  refine z_acopyI (n1 := 6) (n2 := 6) ml_X5_47 (by decide) (Nat.le_of_ble_eq_true rfl) (zw_p ho) (zw_p hw) (zw_pN ho) (zw_pN hw) (by decide) (by decide) (by decide) (by decide) (by decide) dX5_become_47 ?_
  rw [show (zput (zput (zput (zput M w 0 (M o 0)) w 1 (M o 1)) w 2 (M o 2)) w 3 (M o 3)) (10 + o) = M (10 + o) by rw [zput_ne (by omega), zput_ne (by omega), zput_ne (by omega), zput_ne (by omega)], show (zput (zput (zput (zput M w 0 (M o 0)) w 1 (M o 1)) w 2 (M o 2)) w 3 (M o 3)) (10 + w) = M (10 + w) by rw [zput_ne (by omega), zput_ne (by omega), zput_ne (by omega), zput_ne (by omega)]]
  refine z_aload_0 dX5_become_50 ?_
  refine z_aload_1 dX5_become_51 ?_
  refine z_getIv (v := (M o 6)) fl_X5_36 (zw_k ho) rfl (by rw [zrow_ne (by omega), zput_ne hne, zput_ne hne, zput_ne hne, zput_ne hne]) dX5_become_52 ?_
  refine z_putI fl_X5_36 (zw_k hw) rfl dX5_become_55 ?_
  refine z_iconst dX5_become_58 ?_
  refine z_istore_2 rfl dX5_become_59 ?_
  have K60 : ∀ (fuel_ : Nat) (i_ : Int), M o 6 - i_ < (fuel_ : Int) → (0 ≤ i_ ∧ i_ ≤ M o 6) → Z RX5 cX5_become 3 none 3 (zQ (PN (becM M w o))) 60 [some (vR w), some (vR o), some (vI i_)] [] ((wcopy (becB M w o) M w o i_)) := by
    intro fuel_
    induction fuel_ with
    | zero => intro i_ hfuel_ hi_; exfalso; omega
    | succ fuel_ ih60 =>
      intro i_ hfuel_ hi_
      refine z_iload_2 dX5_become_60 ?_
      refine z_aload_0 dX5_become_61 ?_
      refine z_getIv (v := (M o 6)) fl_X5_36 (zw_k hw) rfl (by rw [wcopy_out (by omega), b6_]) dX5_become_62 ?_
      refine z_icmp_ge (tgt := 89) (by omega) (by omega) dX5_become_65 (by decide) (fun c65 => ?_) (fun c65 => ?_)
      · refine z_mem (show _ = (wcopy (becB M w o) M w o (M o 6)) by rw [show i_ = M o 6 by omega]) ?_
        refine z_aload_0 dX5_become_89 ?_
        refine z_aload_1 dX5_become_90 ?_
        refine z_getIv (v := (M o 8)) fl_X5_43 (zw_k ho) rfl (by rw [wcopy_out (by omega), bo_]) dX5_become_91 ?_
        refine z_putI fl_X5_43 (zw_k hw) rfl dX5_become_94 ?_
        refine z_aload_1 dX5_become_97 ?_
        refine z_getR (r := (16 + o)) fl_X5_39 (zw_k ho) rfl (zw_tR ho) dX5_become_98 ?_
        refine z_iconst dX5_become_101 ?_
        refine z_aload_0 dX5_become_102 ?_
        refine z_getR (r := (16 + w)) fl_X5_39 (zw_k hw) rfl (zw_tR hw) dX5_become_103 ?_
        refine z_iconst dX5_become_106 ?_
        refine z_aload_0 dX5_become_107 ?_
        refine z_getIv (v := (M o 8)) fl_X5_43 (zw_k hw) rfl (by rw [zput_eq]) dX5_become_108 ?_
        have t1_ : (zput (wcopy (becB M w o) M w o (M o 6)) w 8 (M o 8)) (16 + o) = M (16 + o) := by rw [zput_ne (by omega), wcopy_out (by omega), becB_out (by omega) (by omega)]
        have t2_ : (zput (wcopy (becB M w o) M w o (M o 6)) w 8 (M o 8)) (16 + w) = M (16 + w) := by rw [zput_ne (by omega), wcopy_out (by omega), becB_out (by omega) (by omega)]
        refine z_acopyB (n1 := 60) (n2 := 60) ml_X5_47 (by decide) (Nat.le_of_ble_eq_true rfl) (zw_t ho) (zw_t hw) (zw_tN ho) (zw_tN hw) (by decide) (by decide) (by omega) (by omega) (by omega) (fun j_ h1_ h2_ => by rw [t1_]; exact hby j_ (by omega) (by omega)) dX5_become_111 ?_
        rw [t1_, t2_]
        exact z_vret dX5_become_114 (zPN rfl)
      · refine z_aload_0 dX5_become_68 ?_
        refine z_getR (r := (13 + w)) fl_X5_32 (zw_k hw) rfl (zw_aR hw) dX5_become_69 ?_
        refine z_iload_2 dX5_become_72 ?_
        refine z_aald12 (n := 12) (r := (12 * w + 8 + i_.toNat)) (zw_a hw) (zw_aN hw) (by omega) (zw_wR hw (by omega)) dX5_become_73 ?_
        refine z_aload_1 dX5_become_74 ?_
        refine z_getR (r := (13 + o)) fl_X5_32 (zw_k ho) rfl (zw_aR ho) dX5_become_75 ?_
        refine z_iload_2 dX5_become_78 ?_
        refine z_aald12 (n := 12) (r := (12 * o + 8 + i_.toNat)) (zw_a ho) (zw_aN ho) (by omega) (zw_wR ho (by omega)) dX5_become_79 ?_
        refine z_cVN yv_X4_become ml_X5_53 (c_X4_become (zw_w hw (by omega)) (zw_w ho (by omega)) (by omega)) (zw_w hw (by omega)) rfl rfl (by decide) (Nat.le_of_ble_eq_true rfl) dX5_become_80 ?_
        rw [wcopy_1 (by omega) hw ho hne bb_]
        refine z_iinc_2 rfl dX5_become_83 ?_
        refine z_goto (tgt := 60) dX5_become_86 (by decide) ?_
        exact ih60 _ (by omega) (by omega)
  have L60 : ∀ (i_ : Int), (0 ≤ i_ ∧ i_ ≤ M o 6) → Z RX5 cX5_become 3 none 3 (zQ (PN (becM M w o))) 60 [some (vR w), some (vR o), some (vI i_)] [] ((wcopy (becB M w o) M w o i_)) := fun i_ hi_ => K60 ((M o 6 - i_).toNat + 1) i_ (by omega) hi_
  refine z_mem (show _ = (wcopy (becB M w o) M w o 0) by rw [wcopy_0]; rfl) ?_
  exact L60 _ (by omega)
