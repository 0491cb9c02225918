def wrnM (M : zM) (k_ o_ c_ : Int) : zM := zput (zput (zput (zput (zput (zput (zput M (12 * 1 + 8 + (M 1 6).toNat) 0 k_) (12 * 1 + 8 + (M 1 6).toNat) 1 (o_ / 10000)) (12 * 1 + 8 + (M 1 6).toNat) 2 (o_ / 100 % 100 - 12)) (12 * 1 + 8 + (M 1 6).toNat) 3 (o_ % 100)) (12 * 1 + 8 + (M 1 6).toNat) 4 c_) (12 * 1 + 8 + (M 1 6).toNat) 5 0) 1 6 (M 1 6 + 1)
theorem c_X6_warn {M : zM} {k_ o_ c_ : Int} (hO : WOK M 1) (hk : -2147483648 ≤ k_ ∧ k_ < 2147483648) (ho : -2147483648 ≤ o_ ∧ o_ < 2147483648) (hc : -2147483648 ≤ c_ ∧ c_ < 2147483648) : Call yX6_warn cX6_warn 7 (some .int) 2 [vR 0, vI k_, vI o_, vI c_] (M) (PI (if ¬ warnB (M 1 0) k_ o_ c_ then -1000000001 else if M 1 6 = 12 then -1000000002 else M 1 6) (if ¬ warnB (M 1 0) k_ o_ c_ then fnd6 M 0 else if M 1 6 = 12 then fnd6 M 1 else wrnM M k_ o_ c_)) := by
  refine Call.of2 (own := RX6) (lv0 := [some (vR 0), some (vI k_), some (vI o_), some (vI c_), none, none, none]) rfl (by decide) rfl (Nat.le_of_ble_eq_true rfl) ?_
  obtain ⟨⟨t0_, t1_⟩, ⟨h0_, h1_⟩, hn, hp⟩ := id hO
  obtain ⟨n0_, n1_⟩ := hn.1
  have e1_ := tdiv_c o_ (n := 10000) (by decide)
  have e2_ := tdiv_c o_ (n := 100) (by decide)
  have e3_ := tmod_c (o_.tdiv 100) (n := 100) (by decide)
  have e4_ := tmod_c o_ (n := 100) (by decide)
  refine z_iload_2 dX6_warn_0 ?_
  refine z_sipush dX6_warn_1 (by decide) ?_
  refine z_idiv (by omega) (by omega) (by omega) dX6_warn_4 ?_
  refine z_istore_4 rfl dX6_warn_5 ?_
  refine z_iload_2 dX6_warn_7 ?_
  refine z_bipush dX6_warn_8 (by decide) ?_
  refine z_idiv (by omega) (by omega) (by omega) dX6_warn_10 ?_
  refine z_bipush dX6_warn_11 (by decide) ?_
  refine z_irem (by omega) (by omega) (by omega) dX6_warn_13 ?_
  refine z_bipush dX6_warn_14 (by decide) ?_
  refine z_isub dX6_warn_16 ?_
  refine z_istore_5 rfl dX6_warn_17 ?_
  refine z_iload_2 dX6_warn_19 ?_
  refine z_bipush dX6_warn_20 (by decide) ?_
  refine z_irem (by omega) (by omega) (by omega) dX6_warn_22 ?_
  refine z_istore_6 rfl dX6_warn_23 ?_
  refine z_iload_1 dX6_warn_25 ?_
  refine z_iconst dX6_warn_26 ?_
  refine z_iconst dX6_warn_27 ?_
  refine z_cSI ys_X6_isOutside ml_X6_69 (c_X6_isOutside (by omega) (by omega) (by omega)) rfl rfl (by decide) (Nat.le_of_ble_eq_true rfl) dX6_warn_28 ?_
  refine z_ifb_ne (tgt := 87) dX6_warn_31 (by decide) (fun c31 => ?_) (fun c31 => ?_)
  · refine z_aload_0 dX6_warn_87 ?_
    refine z_ldc (n := -1000000001) kc_X6_79 (by decide) dX6_warn_88 ?_
    refine z_cVI yv_X6_finding ml_X6_80 (c_X6_finding (by omega)) zk_0 rfl rfl (by decide) (Nat.le_of_ble_eq_true rfl) dX6_warn_90 ?_
    exact z_iret dX6_warn_93 (zPI (by rw [if_pos (by omega)]) (by rw [if_pos (by omega)] <;> rfl))
  · refine z_iload_2 dX6_warn_34 ?_
    refine z_if_lt (tgt := 87) (by omega) dX6_warn_35 (by decide) (fun c35 => ?_) (fun c35 => ?_)
    · refine z_aload_0 dX6_warn_87 ?_
      refine z_ldc (n := -1000000001) kc_X6_79 (by decide) dX6_warn_88 ?_
      refine z_cVI yv_X6_finding ml_X6_80 (c_X6_finding (by omega)) zk_0 rfl rfl (by decide) (Nat.le_of_ble_eq_true rfl) dX6_warn_90 ?_
      exact z_iret dX6_warn_93 (zPI (by rw [if_pos (by omega)]) (by rw [if_pos (by omega)] <;> rfl))
    · refine z_iload_5 dX6_warn_38 ?_
      refine z_cSI ys_X6_isNoHeight ml_X6_121 (c_X6_isNoHeight (by omega)) rfl rfl (by decide) (Nat.le_of_ble_eq_true rfl) dX6_warn_40 ?_
      refine z_ifb_ne (tgt := 87) dX6_warn_43 (by decide) (fun c43 => ?_) (fun c43 => ?_)
      · refine z_aload_0 dX6_warn_87 ?_
        refine z_ldc (n := -1000000001) kc_X6_79 (by decide) dX6_warn_88 ?_
        refine z_cVI yv_X6_finding ml_X6_80 (c_X6_finding (by omega)) zk_0 rfl rfl (by decide) (Nat.le_of_ble_eq_true rfl) dX6_warn_90 ?_
        exact z_iret dX6_warn_93 (zPI (by rw [if_pos (by omega)]) (by rw [if_pos (by omega)] <;> rfl))
      · refine z_iload_6 dX6_warn_46 ?_
        refine z_iconst dX6_warn_48 ?_
        refine z_bipush dX6_warn_49 (by decide) ?_
        refine z_cSI ys_X6_isOutside ml_X6_69 (c_X6_isOutside (by omega) (by omega) (by omega)) rfl rfl (by decide) (Nat.le_of_ble_eq_true rfl) dX6_warn_51 ?_
        refine z_ifb_ne (tgt := 87) dX6_warn_54 (by decide) (fun c54 => ?_) (fun c54 => ?_)
        · refine z_aload_0 dX6_warn_87 ?_
          refine z_ldc (n := -1000000001) kc_X6_79 (by decide) dX6_warn_88 ?_
          refine z_cVI yv_X6_finding ml_X6_80 (c_X6_finding (by omega)) zk_0 rfl rfl (by decide) (Nat.le_of_ble_eq_true rfl) dX6_warn_90 ?_
          exact z_iret dX6_warn_93 (zPI (by rw [if_pos (by omega)]) (by rw [if_pos (by omega)] <;> rfl))
        · refine z_iload_4 dX6_warn_57 ?_
          refine z_aload_0 dX6_warn_59 ?_
          refine z_getR (r := 1) fl_X6_10 zk_0 rfl rfl dX6_warn_60 ?_
          refine z_getI fl_X6_102 (zw_k isW1) rfl dX6_warn_63 ?_
          refine z_iconst dX6_warn_66 ?_
          refine z_iadd dX6_warn_67 ?_
          refine z_sipush dX6_warn_68 (by decide) ?_
          refine z_cSI ys_X6_isOutside ml_X6_69 (c_X6_isOutside (by omega) (by omega) (by omega)) rfl rfl (by decide) (Nat.le_of_ble_eq_true rfl) dX6_warn_71 ?_
          refine z_ifb_ne (tgt := 87) dX6_warn_74 (by decide) (fun c74 => ?_) (fun c74 => ?_)
          · refine z_aload_0 dX6_warn_87 ?_
            refine z_ldc (n := -1000000001) kc_X6_79 (by decide) dX6_warn_88 ?_
            refine z_cVI yv_X6_finding ml_X6_80 (c_X6_finding (by omega)) zk_0 rfl rfl (by decide) (Nat.le_of_ble_eq_true rfl) dX6_warn_90 ?_
            exact z_iret dX6_warn_93 (zPI (by rw [if_pos (by omega)]) (by rw [if_pos (by omega)] <;> rfl))
          · refine z_iload_3 dX6_warn_77 ?_
            refine z_iconst dX6_warn_78 ?_
            refine z_ldc (n := 1000000) kc_X6_124 (by decide) dX6_warn_79 ?_
            refine z_cSI ys_X6_isOutside ml_X6_69 (c_X6_isOutside (by omega) (by omega) (by omega)) rfl rfl (by decide) (Nat.le_of_ble_eq_true rfl) dX6_warn_81 ?_
            refine z_ifb_eq (tgt := 94) dX6_warn_84 (by decide) (fun c84 => ?_) (fun c84 => ?_)
            · refine z_aload_0 dX6_warn_94 ?_
              refine z_getR (r := 1) fl_X6_10 zk_0 rfl rfl dX6_warn_95 ?_
              refine z_getI fl_X6_125 (zw_k isW1) rfl dX6_warn_98 ?_
              refine z_bipush dX6_warn_101 (by decide) ?_
              refine z_icmp_lt (tgt := 113) (by omega) (by decide) dX6_warn_103 (by decide) (fun c103 => ?_) (fun c103 => ?_)
              · refine z_aload_0 dX6_warn_113 ?_
                refine z_getR (r := 1) fl_X6_10 zk_0 rfl rfl dX6_warn_114 ?_
                refine z_getR (r := (13 + 1)) fl_X6_129 (zw_k isW1) rfl (zw_aR isW1) dX6_warn_117 ?_
                refine z_aload_0 dX6_warn_120 ?_
                refine z_getR (r := 1) fl_X6_10 zk_0 rfl rfl dX6_warn_121 ?_
                refine z_getI fl_X6_125 (zw_k isW1) rfl dX6_warn_124 ?_
                refine z_aald12 (n := 12) (r := (12 * 1 + 8 + (M 1 6).toNat)) (zw_a isW1) (zw_aN isW1) (by omega) (zw_wR isW1 (by omega)) dX6_warn_127 ?_
                refine z_iload_1 dX6_warn_128 ?_
                refine z_iload_4 dX6_warn_129 ?_
                refine z_iload_5 dX6_warn_131 ?_
                refine z_iload_6 dX6_warn_133 ?_
                refine z_iload_3 dX6_warn_135 ?_
                refine z_cVN yv_X4_begin ml_X6_133 (c_X4_begin (zw_w isW1 (by omega))) (zw_w isW1 (by omega)) rfl rfl (by decide) (Nat.le_of_ble_eq_true rfl) dX6_warn_136 ?_
                refine z_aload_0 dX6_warn_139 ?_
                refine z_getR (r := 1) fl_X6_10 zk_0 rfl rfl dX6_warn_140 ?_
                refine z_dup rfl dX6_warn_143 ?_
                refine z_getIv (v := (M 1 6)) fl_X6_125 (zw_k isW1) rfl (by rw [zput_ne (by omega), zput_ne (by omega), zput_ne (by omega), zput_ne (by omega), zput_ne (by omega), zput_ne (by omega)]) dX6_warn_144 ?_
                refine z_iconst dX6_warn_147 ?_
                refine z_iadd dX6_warn_148 ?_
                refine z_putI fl_X6_125 (zw_k isW1) rfl dX6_warn_149 ?_
                refine z_aload_0 dX6_warn_152 ?_
                refine z_getR (r := 1) fl_X6_10 zk_0 rfl rfl dX6_warn_153 ?_
                refine z_getIv (v := (M 1 6 + 1)) fl_X6_125 (zw_k isW1) rfl (by rw [zput_eq]) dX6_warn_156 ?_
                refine z_iconst dX6_warn_159 ?_
                refine z_isub dX6_warn_160 ?_
                exact z_iret dX6_warn_161 (zPI (by rw [if_neg (by omega), if_neg (by omega)]; omega) (by rw [if_neg (by omega), if_neg (by omega), show Int.tdiv o_ 10000 = o_ / 10000 by omega, show Int.tmod (Int.tdiv o_ 100) 100 = o_ / 100 % 100 by omega, show Int.tmod o_ 100 = o_ % 100 by omega]; rfl))
              · refine z_aload_0 dX6_warn_106 ?_
                refine z_ldc (n := -1000000002) kc_X6_128 (by decide) dX6_warn_107 ?_
                refine z_cVI yv_X6_finding ml_X6_80 (c_X6_finding (by omega)) zk_0 rfl rfl (by decide) (Nat.le_of_ble_eq_true rfl) dX6_warn_109 ?_
                exact z_iret dX6_warn_112 (zPI (by rw [if_neg (by omega), if_pos (by omega)]) (by rw [if_neg (by omega), if_pos (by omega)] <;> rfl))
            · refine z_aload_0 dX6_warn_87 ?_
              refine z_ldc (n := -1000000001) kc_X6_79 (by decide) dX6_warn_88 ?_
              refine z_cVI yv_X6_finding ml_X6_80 (c_X6_finding (by omega)) zk_0 rfl rfl (by decide) (Nat.le_of_ble_eq_true rfl) dX6_warn_90 ?_
              exact z_iret dX6_warn_93 (zPI (by rw [if_pos (by omega)]) (by rw [if_pos (by omega)] <;> rfl))
