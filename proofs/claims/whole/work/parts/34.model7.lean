theorem tdiv_c (x : Int) {n : Int} (_ : 0 < n) : (0 ≤ x ∧ x.tdiv n = x / n) ∨ (x < 0 ∧ x.tdiv n = -((-x) / n)) := by
  by_cases h : 0 ≤ x
  · exact Or.inl ⟨h, Int.tdiv_eq_ediv_of_nonneg h⟩
  · refine Or.inr ⟨by omega, ?_⟩
    have := Int.neg_tdiv (-x) n
    rw [Int.neg_neg, Int.tdiv_eq_ediv_of_nonneg (a := -x) (by omega)] at this
    exact this
theorem tmod_c (x : Int) {n : Int} (_ : 0 < n) : (0 ≤ x ∧ x.tmod n = x % n) ∨ (x < 0 ∧ x.tmod n = -((-x) % n)) := by
  by_cases h : 0 ≤ x
  · exact Or.inl ⟨h, Int.tmod_eq_emod_of_nonneg h⟩
  · refine Or.inr ⟨by omega, ?_⟩
    have := Int.neg_tmod (-x) n
    rw [Int.neg_neg, Int.tmod_eq_emod_of_nonneg (a := -x) (by omega)] at this
    exact this
def warnS (s : Int → Int) (k o c : Int) : Int → Int := zup (zup (zup (zup (zup (zup (zup s (12 + 6 * s 10 + 0) k) (12 + 6 * s 10 + 1) (o / 10000)) (12 + 6 * s 10 + 2) (o / 100 % 100 - 12)) (12 + 6 * s 10 + 3) (o % 100)) (12 + 6 * s 10 + 4) c) (12 + 6 * s 10 + 5) 0) 10 (s 10 + 1)
abbrev warnB (t k o c : Int) : Prop := 0 ≤ o ∧ (0 ≤ k ∧ k ≤ 5) ∧ (t + 1 ≤ o / 10000 ∧ o / 10000 ≤ 999) ∧ o / 100 % 100 ≤ 24 ∧ o % 100 ≤ 9 ∧ (0 ≤ c ∧ c ≤ 1000000)
theorem zput_self {M : zM} {k : Nat} {j : Int} : zput M k j (M k j) = M := by
  funext a b
  unfold zput
  split
  · rename_i h
    rw [h.1, h.2]
  · rfl
theorem zput_over {A : zM} {k k2 : Nat} {j x p v y : Int} (h : k2 ≠ k) : zput (zput (zput A k j x) k2 p v) k j y = zput (zput A k2 p v) k j y := by
  funext a b
  unfold zput
  by_cases h1 : a = k ∧ b = j
  · simp only [if_pos h1]
  · simp only [if_neg h1]
theorem c_X7_warn {M : zM} {k_ o_ c_ : Int} (hn : SN (M 76)) (ht : 0 ≤ M 76 0 ∧ M 76 0 ≤ 2000) (hk : -2147483648 ≤ k_ ∧ k_ < 2147483648) (ho : -2147483648 ≤ o_ ∧ o_ < 2147483648) (hc : -2147483648 ≤ c_ ∧ c_ < 2147483648) : Call yX7_warn cX7_warn 6 (some .int) 2 [vR 75, vI k_, vI o_, vI c_] (M) (PI (if ¬ warnB (M 76 0) k_ o_ c_ then -1000000001 else if M 76 10 = 12 then -1000000002 else M 76 10) (if ¬ warnB (M 76 0) k_ o_ c_ then fnd7 M 0 else if M 76 10 = 12 then fnd7 M 1 else zrow M 76 (warnS (M 76) k_ o_ c_))) := by
  refine Call.of2 (own := RX7) (lv0 := [some (vR 75), some (vI k_), some (vI o_), some (vI c_), none, none]) rfl (by decide) rfl (Nat.le_of_ble_eq_true rfl) ?_
  have e1_ := tdiv_c o_ (n := 10000) (by decide)
  have e2_ := tdiv_c o_ (n := 100) (by decide)
  have e3_ := tmod_c (o_.tdiv 100) (n := 100) (by decide)
  have e4_ := tmod_c o_ (n := 100) (by decide)
  have hn1_ := hn.1
  have J73 : Z RX7 cX7_warn 6 (some .int) 2 (zQ (PI (if ¬ warnB (M 76 0) k_ o_ c_ then -1000000001 else if M 76 10 = 12 then -1000000002 else M 76 10) (if ¬ warnB (M 76 0) k_ o_ c_ then fnd7 M 0 else if M 76 10 = 12 then fnd7 M 1 else zrow M 76 (warnS (M 76) k_ o_ c_)))) 73 [some (vR 75), some (vI k_), some (vI o_), some (vI c_), none, none] [vI (zb ((0 ≤ k_ ∧ k_ ≤ 5) ∧ (M 76 0 + 1 ≤ Int.tdiv o_ 10000 ∧ Int.tdiv o_ 10000 ≤ 999) ∧ Int.tmod (Int.tdiv o_ 100) 100 ≤ 24 ∧ Int.tmod o_ 100 ≤ 9 ∧ (0 ≤ c_ ∧ c_ ≤ 1000000)))] (M) := by
    refine z_istore_4 rfl dX7_warn_73 ?_
    refine z_iload_2 dX7_warn_75 ?_
    refine z_if_lt (tgt := 84) (by omega) dX7_warn_76 (by decide) (fun c76 => ?_) (fun c76 => ?_)
    · refine z_aload_0 dX7_warn_84 ?_
      refine z_iconst dX7_warn_85 ?_
      refine z_cVI yv_X7_finding ml_X7_93 (c_X7_finding (by omega)) zk_75 rfl rfl (by decide) (Nat.le_of_ble_eq_true rfl) dX7_warn_86 ?_
      exact z_iret dX7_warn_89 (zPI (by rw [if_pos (by omega)] <;> rfl) (by rw [if_pos (by omega)]))
    · refine z_iload_4 dX7_warn_79 ?_
      refine z_ifb_ne (tgt := 90) dX7_warn_81 (by decide) (fun c81 => ?_) (fun c81 => ?_)
      · refine z_aload_0 dX7_warn_90 ?_
        refine z_getR (r := 76) fl_X7_7 zk_75 rfl rfl dX7_warn_91 ?_
        refine z_bipush dX7_warn_94 (by decide) ?_
        refine z_lald (n := 214) zk_76 rfl (by omega) dX7_warn_96 ?_
        refine z_ldc2 (n := 12) kl_X7_98 (by decide) dX7_warn_97 ?_
        refine z_lcmp_ne (tgt := 110) (by omega) (by decide) dX7_warn_100 dX7_warn_101 (by decide) (fun c100 => ?_) (fun c100 => ?_)
        · refine z_bipush dX7_warn_110 (by decide) ?_
          refine z_bipush dX7_warn_112 (by decide) ?_
          refine z_aload_0 dX7_warn_114 ?_
          refine z_bipush dX7_warn_115 (by decide) ?_
          refine z_cVI yv_X7_its ml_X7_71 (c_X7_its (by omega)) zk_75 rfl rfl (by decide) (Nat.le_of_ble_eq_true rfl) dX7_warn_117 ?_
          refine z_imul dX7_warn_120 ?_
          refine z_iadd dX7_warn_121 ?_
          refine z_istore_5 rfl dX7_warn_122 ?_
          refine z_aload_0 dX7_warn_124 ?_
          refine z_getR (r := 76) fl_X7_7 zk_75 rfl rfl dX7_warn_125 ?_
          refine z_iload_5 dX7_warn_128 ?_
          refine z_iconst dX7_warn_130 ?_
          refine z_iadd dX7_warn_131 ?_
          refine z_iload_1 dX7_warn_132 ?_
          refine z_i2l (by omega) dX7_warn_133 ?_
          refine z_last (n := 214) zk_76 rfl (by omega) dX7_warn_134 ?_
          refine z_aload_0 dX7_warn_135 ?_
          refine z_getR (r := 76) fl_X7_7 zk_75 rfl rfl dX7_warn_136 ?_
          refine z_iload_5 dX7_warn_139 ?_
          refine z_iconst dX7_warn_141 ?_
          refine z_iadd dX7_warn_142 ?_
          refine z_iload_2 dX7_warn_143 ?_
          refine z_sipush dX7_warn_144 (by decide) ?_
          refine z_idivp (by omega) (by decide) dX7_warn_147 ?_
          refine z_i2l (by omega) dX7_warn_148 ?_
          refine z_last (n := 214) zk_76 rfl (by omega) dX7_warn_149 ?_
          refine z_aload_0 dX7_warn_150 ?_
          refine z_getR (r := 76) fl_X7_7 zk_75 rfl rfl dX7_warn_151 ?_
          refine z_iload_5 dX7_warn_154 ?_
          refine z_iconst dX7_warn_156 ?_
          refine z_iadd dX7_warn_157 ?_
          refine z_iload_2 dX7_warn_158 ?_
          refine z_bipush dX7_warn_159 (by decide) ?_
          refine z_idivp (by omega) (by decide) dX7_warn_161 ?_
          refine z_bipush dX7_warn_162 (by decide) ?_
          refine z_iremp (by omega) (by decide) dX7_warn_164 ?_
          refine z_bipush dX7_warn_165 (by decide) ?_
          refine z_isub dX7_warn_167 ?_
          refine z_i2l (by omega) dX7_warn_168 ?_
          refine z_last (n := 214) zk_76 rfl (by omega) dX7_warn_169 ?_
          refine z_aload_0 dX7_warn_170 ?_
          refine z_getR (r := 76) fl_X7_7 zk_75 rfl rfl dX7_warn_171 ?_
          refine z_iload_5 dX7_warn_174 ?_
          refine z_iconst dX7_warn_176 ?_
          refine z_iadd dX7_warn_177 ?_
          refine z_iload_2 dX7_warn_178 ?_
          refine z_bipush dX7_warn_179 (by decide) ?_
          refine z_iremp (by omega) (by decide) dX7_warn_181 ?_
          refine z_i2l (by omega) dX7_warn_182 ?_
          refine z_last (n := 214) zk_76 rfl (by omega) dX7_warn_183 ?_
          refine z_aload_0 dX7_warn_184 ?_
          refine z_getR (r := 76) fl_X7_7 zk_75 rfl rfl dX7_warn_185 ?_
          refine z_iload_5 dX7_warn_188 ?_
          refine z_iconst dX7_warn_190 ?_
          refine z_iadd dX7_warn_191 ?_
          refine z_iload_3 dX7_warn_192 ?_
          refine z_i2l (by omega) dX7_warn_193 ?_
          refine z_last (n := 214) zk_76 rfl (by omega) dX7_warn_194 ?_
          refine z_aload_0 dX7_warn_195 ?_
          refine z_getR (r := 76) fl_X7_7 zk_75 rfl rfl dX7_warn_196 ?_
          refine z_iload_5 dX7_warn_199 ?_
          refine z_iconst dX7_warn_201 ?_
          refine z_iadd dX7_warn_202 ?_
          refine z_lconst0 dX7_warn_203 ?_
          refine z_last (n := 214) zk_76 rfl (by omega) dX7_warn_204 ?_
          refine z_aload_0 dX7_warn_205 ?_
          refine z_getR (r := 76) fl_X7_7 zk_75 rfl rfl dX7_warn_206 ?_
          refine z_bipush dX7_warn_209 (by decide) ?_
          refine z_dup2_11 rfl rfl dX7_warn_211 ?_
          refine z_laldv (n := 214) (v := (M 76 10)) zk_76 rfl (by omega) (by rw [zput_ne2 (by omega), zput_ne2 (by omega), zput_ne2 (by omega), zput_ne2 (by omega), zput_ne2 (by omega), zput_ne2 (by omega)]) dX7_warn_212 ?_
          refine z_lconst1 dX7_warn_213 ?_
          refine z_ladd dX7_warn_214 ?_
          refine z_last (n := 214) zk_76 rfl (by omega) dX7_warn_215 ?_
          refine z_aload_0 dX7_warn_216 ?_
          refine z_bipush dX7_warn_217 (by decide) ?_
          refine z_cVI yv_X7_its ml_X7_71 (c_X7_its (by omega)) zk_75 rfl rfl (by decide) (Nat.le_of_ble_eq_true rfl) dX7_warn_219 ?_
          rw [zput_eq]
          refine z_iconst dX7_warn_222 ?_
          refine z_isub dX7_warn_223 ?_
          exact z_iret dX7_warn_224 (zPI (by rw [if_neg (by omega), if_neg (by omega)]; omega) (by rw [if_neg (by omega), if_neg (by omega)]; simp only [zput_row, zrow_eq, zrow_row]; rfl))
        · refine z_aload_0 dX7_warn_104 ?_
          refine z_iconst dX7_warn_105 ?_
          refine z_cVI yv_X7_finding ml_X7_93 (c_X7_finding (by omega)) zk_75 rfl rfl (by decide) (Nat.le_of_ble_eq_true rfl) dX7_warn_106 ?_
          exact z_iret dX7_warn_109 (zPI (by rw [if_neg (by omega), if_pos (by omega)] <;> rfl) (by rw [if_neg (by omega), if_pos (by omega)]))
      · refine z_aload_0 dX7_warn_84 ?_
        refine z_iconst dX7_warn_85 ?_
        refine z_cVI yv_X7_finding ml_X7_93 (c_X7_finding (by omega)) zk_75 rfl rfl (by decide) (Nat.le_of_ble_eq_true rfl) dX7_warn_86 ?_
        exact z_iret dX7_warn_89 (zPI (by rw [if_pos (by omega)] <;> rfl) (by rw [if_pos (by omega)]))
  refine z_iload_1 dX7_warn_0 ?_
  refine z_i2l (by omega) dX7_warn_1 ?_
  refine z_lconst0 dX7_warn_2 ?_
  refine z_ldc2 (n := 5) kl_X7_83 (by decide) dX7_warn_3 ?_
  refine z_cSI ys_X7_in ml_X7_85 (c_X7_in (by omega) (by decide) (by decide)) rfl rfl (by decide) (Nat.le_of_ble_eq_true rfl) dX7_warn_6 ?_
  refine z_ifb_eq (tgt := 72) dX7_warn_9 (by decide) (fun c9 => ?_) (fun c9 => ?_)
  · refine z_iconst dX7_warn_72 ?_
    exact z_topI (by first | exact (zb_t (by omega)).symm | exact (zb_f (by omega)).symm) (J73  )
  · refine z_iload_2 dX7_warn_12 ?_
    refine z_sipush dX7_warn_13 (by decide) ?_
    refine z_idiv (by omega) (by omega) (by omega) dX7_warn_16 ?_
    refine z_i2l (by omega) dX7_warn_17 ?_
    refine z_aload_0 dX7_warn_18 ?_
    refine z_getR (r := 76) fl_X7_7 zk_75 rfl rfl dX7_warn_19 ?_
    refine z_iconst dX7_warn_22 ?_
    refine z_lald (n := 214) zk_76 rfl (by omega) dX7_warn_23 ?_
    refine z_lconst1 dX7_warn_24 ?_
    refine z_ladd dX7_warn_25 ?_
    refine z_ldc2 (n := 999) kl_X7_77 (by decide) dX7_warn_26 ?_
    refine z_cSI ys_X7_in ml_X7_85 (c_X7_in (by omega) (by omega) (by decide)) rfl rfl (by decide) (Nat.le_of_ble_eq_true rfl) dX7_warn_29 ?_
    refine z_ifb_eq (tgt := 72) dX7_warn_32 (by decide) (fun c32 => ?_) (fun c32 => ?_)
    · refine z_iconst dX7_warn_72 ?_
      exact z_topI (by first | exact (zb_t (by omega)).symm | exact (zb_f (by omega)).symm) (J73  )
    · refine z_iload_2 dX7_warn_35 ?_
      refine z_bipush dX7_warn_36 (by decide) ?_
      refine z_idiv (by omega) (by omega) (by omega) dX7_warn_38 ?_
      refine z_bipush dX7_warn_39 (by decide) ?_
      refine z_irem (by omega) (by omega) (by omega) dX7_warn_41 ?_
      refine z_bipush dX7_warn_42 (by decide) ?_
      refine z_icmp_gt (tgt := 72) (by omega) (by decide) dX7_warn_44 (by decide) (fun c44 => ?_) (fun c44 => ?_)
      · refine z_iconst dX7_warn_72 ?_
        exact z_topI (by first | exact (zb_t (by omega)).symm | exact (zb_f (by omega)).symm) (J73  )
      · refine z_iload_2 dX7_warn_47 ?_
        refine z_bipush dX7_warn_48 (by decide) ?_
        refine z_irem (by omega) (by omega) (by omega) dX7_warn_50 ?_
        refine z_bipush dX7_warn_51 (by decide) ?_
        refine z_icmp_gt (tgt := 72) (by omega) (by decide) dX7_warn_53 (by decide) (fun c53 => ?_) (fun c53 => ?_)
        · refine z_iconst dX7_warn_72 ?_
          exact z_topI (by first | exact (zb_t (by omega)).symm | exact (zb_f (by omega)).symm) (J73  )
        · refine z_iload_3 dX7_warn_56 ?_
          refine z_i2l (by omega) dX7_warn_57 ?_
          refine z_lconst0 dX7_warn_58 ?_
          refine z_ldc2 (n := 1000000) kl_X7_66 (by decide) dX7_warn_59 ?_
          refine z_cSI ys_X7_in ml_X7_85 (c_X7_in (by omega) (by decide) (by decide)) rfl rfl (by decide) (Nat.le_of_ble_eq_true rfl) dX7_warn_62 ?_
          refine z_ifb_eq (tgt := 72) dX7_warn_65 (by decide) (fun c65 => ?_) (fun c65 => ?_)
          · refine z_iconst dX7_warn_72 ?_
            exact z_topI (by first | exact (zb_t (by omega)).symm | exact (zb_f (by omega)).symm) (J73  )
          · refine z_iconst dX7_warn_68 ?_
            refine z_goto (tgt := 73) dX7_warn_69 (by decide) ?_
            exact z_topI (by first | exact (zb_t (by omega)).symm | exact (zb_f (by omega)).symm) (J73  )

theorem c_X7_feed {M : zM} {b_ n_ : Int} (ht : 0 ≤ M 75 5 ∧ M 75 5 ≤ 60) (hb : -2147483648 ≤ b_ ∧ b_ < 2147483648) (hn : -2147483648 ≤ n_ ∧ n_ < 2147483648) : Call yX7_feed cX7_feed 4 (some .int) 1 [vR 75, vI b_, vI n_] (M) (PI (if ¬ (1 ≤ n_ ∧ n_ ≤ 4) then -1000000001 else if 60 < M 75 5 + n_ then -1000000002 else M 75 5 + n_) (if ¬ (1 ≤ n_ ∧ n_ ≤ 4) then fnd7 M 0 else if 60 < M 75 5 + n_ then fnd7 M 1 else (zput (zrow M 79 (zfillA (fun j_ => zand (zshr b_ (8 * (n_ - 1 - (j_ - M 75 5)))) 255) (M 79) (M 75 5) n_)) 75 5 (M 75 5 + n_)))) := by
  refine Call.of2 (own := RX7) (lv0 := [some (vR 75), some (vI b_), some (vI n_), none]) rfl (by decide) rfl (Nat.le_of_ble_eq_true rfl) ?_
  refine z_iload_2 dX7_feed_0 ?_
  refine z_i2l (by omega) dX7_feed_1 ?_
  refine z_lconst1 dX7_feed_2 ?_
  refine z_ldc2 (n := 4) kl_X7_186 (by decide) dX7_feed_3 ?_
  refine z_cSI ys_X7_in ml_X7_85 (c_X7_in (by omega) (by decide) (by decide)) rfl rfl (by decide) (Nat.le_of_ble_eq_true rfl) dX7_feed_6 ?_
  refine z_ifb_ne (tgt := 18) dX7_feed_9 (by decide) (fun c9 => ?_) (fun c9 => ?_)
  · refine z_aload_0 dX7_feed_18 ?_
    refine z_getI fl_X7_188 zk_75 rfl dX7_feed_19 ?_
    refine z_iload_2 dX7_feed_22 ?_
    refine z_iadd dX7_feed_23 ?_
    refine z_bipush dX7_feed_24 (by decide) ?_
    refine z_icmp_le (tgt := 35) (by omega) (by decide) dX7_feed_26 (by decide) (fun c26 => ?_) (fun c26 => ?_)
    · refine z_iload_2 dX7_feed_35 ?_
      refine z_iconst dX7_feed_36 ?_
      refine z_isub dX7_feed_37 ?_
      refine z_istore_3 rfl dX7_feed_38 ?_
      have K39 : ∀ (fuel_ : Nat) (i_ : Int), i_ + 1 < (fuel_ : Int) → (-1 ≤ i_ ∧ i_ ≤ n_ - 1) → Z RX7 cX7_feed 4 (some .int) 1 (zQ (PI (if ¬ (1 ≤ n_ ∧ n_ ≤ 4) then -1000000001 else if 60 < M 75 5 + n_ then -1000000002 else M 75 5 + n_) (if ¬ (1 ≤ n_ ∧ n_ ≤ 4) then fnd7 M 0 else if 60 < M 75 5 + n_ then fnd7 M 1 else (zput (zrow M 79 (zfillA (fun j_ => zand (zshr b_ (8 * (n_ - 1 - (j_ - M 75 5)))) 255) (M 79) (M 75 5) n_)) 75 5 (M 75 5 + n_))))) 39 [some (vR 75), some (vI b_), some (vI n_), some (vI i_)] [] ((zput (zrow M 79 (zfillA (fun j_ => zand (zshr b_ (8 * (n_ - 1 - (j_ - M 75 5)))) 255) (M 79) (M 75 5) (n_ - 1 - i_))) 75 5 (M 75 5 + (n_ - 1 - i_)))) := by
        intro fuel_
        induction fuel_ with
        | zero => intro i_ hfuel_ hi_; exfalso; omega
        | succ fuel_ ih39 =>
          intro i_ hfuel_ hi_
          refine z_iload_3 dX7_feed_39 ?_
          refine z_if_lt (tgt := 78) (by omega) dX7_feed_40 (by decide) (fun c40 => ?_) (fun c40 => ?_)
          · refine z_aload_0 dX7_feed_78 ?_
            refine z_getIv (v := (M 75 5 + (n_ - 1 - i_))) fl_X7_188 zk_75 rfl (by rw [zput_eq]) dX7_feed_79 ?_
            exact z_iret dX7_feed_82 (zPI (by rw [if_neg (by omega), if_neg (by omega)]; omega) (by rw [if_neg (by omega), if_neg (by omega), show n_ - 1 - i_ = n_ by omega]))
          · refine z_aload_0 dX7_feed_43 ?_
            refine z_getR (r := 79) fl_X7_20 zk_75 rfl rfl dX7_feed_44 ?_
            refine z_aload_0 dX7_feed_47 ?_
            refine z_getIv (v := (M 75 5 + (n_ - 1 - i_))) fl_X7_188 zk_75 rfl (by rw [zput_eq]) dX7_feed_48 ?_
            refine z_iload_1 dX7_feed_51 ?_
            refine z_bipush dX7_feed_52 (by decide) ?_
            refine z_iload_3 dX7_feed_54 ?_
            refine z_imul dX7_feed_55 ?_
            refine z_ishr dX7_feed_56 ?_
            refine z_sipush dX7_feed_57 (by decide) ?_
            refine z_iand dX7_feed_60 ?_
            refine z_iast (n := 60) zk_79 rfl (by omega) dX7_feed_61 ?_
            refine z_aload_0 dX7_feed_62 ?_
            refine z_dup rfl dX7_feed_63 ?_
            refine z_getIv (v := (M 75 5 + (n_ - 1 - i_))) fl_X7_188 zk_75 rfl (by rw [zput_ne (by decide), zput_eq]) dX7_feed_64 ?_
            refine z_iconst dX7_feed_67 ?_
            refine z_iadd dX7_feed_68 ?_
            refine z_putI fl_X7_188 zk_75 rfl dX7_feed_69 ?_
            refine z_mem (show _ = (zput (zrow M 79 (zfillA (fun j_ => zand (zshr b_ (8 * (n_ - 1 - (j_ - M 75 5)))) 255) (M 79) (M 75 5) (n_ - 1 - (i_ + -1)))) 75 5 (M 75 5 + (n_ - 1 - (i_ + -1)))) from by
              rw [zput_over (by decide), show zand (zshr b_ (8 * i_)) 255 = (fun j_ => zand (zshr b_ (8 * (n_ - 1 - (j_ - M 75 5)))) 255) (M 75 5 + (n_ - 1 - i_)) from by show _ = zand (zshr b_ (8 * (n_ - 1 - (M 75 5 + (n_ - 1 - i_) - M 75 5)))) 255; rw [show n_ - 1 - (M 75 5 + (n_ - 1 - i_) - M 75 5) = i_ by omega], zfillA_1 (by omega), show n_ - 1 - (i_ + -1) = n_ - 1 - i_ + 1 by omega, Int.add_assoc]) ?_
            refine z_iinc_3 rfl dX7_feed_72 ?_
            refine z_goto (tgt := 39) dX7_feed_75 (by decide) ?_
            exact ih39 _ (by omega) (by omega)
      have L39 : ∀ (i_ : Int), (-1 ≤ i_ ∧ i_ ≤ n_ - 1) → Z RX7 cX7_feed 4 (some .int) 1 (zQ (PI (if ¬ (1 ≤ n_ ∧ n_ ≤ 4) then -1000000001 else if 60 < M 75 5 + n_ then -1000000002 else M 75 5 + n_) (if ¬ (1 ≤ n_ ∧ n_ ≤ 4) then fnd7 M 0 else if 60 < M 75 5 + n_ then fnd7 M 1 else (zput (zrow M 79 (zfillA (fun j_ => zand (zshr b_ (8 * (n_ - 1 - (j_ - M 75 5)))) 255) (M 79) (M 75 5) n_)) 75 5 (M 75 5 + n_))))) 39 [some (vR 75), some (vI b_), some (vI n_), some (vI i_)] [] ((zput (zrow M 79 (zfillA (fun j_ => zand (zshr b_ (8 * (n_ - 1 - (j_ - M 75 5)))) 255) (M 79) (M 75 5) (n_ - 1 - i_))) 75 5 (M 75 5 + (n_ - 1 - i_)))) := fun i_ hi_ => K39 ((i_ + 1).toNat + 1) i_ (by omega) hi_
      refine z_mem (show M = (zput (zrow M 79 (zfillA (fun j_ => zand (zshr b_ (8 * (n_ - 1 - (j_ - M 75 5)))) 255) (M 79) (M 75 5) (n_ - 1 - (n_ - 1)))) 75 5 (M 75 5 + (n_ - 1 - (n_ - 1)))) from by rw [show n_ - 1 - (n_ - 1) = 0 by omega, zfillA_0, zrow_self, Int.add_zero, zput_self]) ?_
      exact L39 _ (by omega)
    · refine z_aload_0 dX7_feed_29 ?_
      refine z_iconst dX7_feed_30 ?_
      refine z_cVI yv_X7_finding ml_X7_93 (c_X7_finding (by omega)) zk_75 rfl rfl (by decide) (Nat.le_of_ble_eq_true rfl) dX7_feed_31 ?_
      exact z_iret dX7_feed_34 (zPI (by (repeat (first | rw [if_pos (by omega)] | rw [if_neg (by omega)])) <;> rfl) (by (repeat (first | rw [if_pos (by omega)] | rw [if_neg (by omega)])) <;> rfl))
  · refine z_aload_0 dX7_feed_12 ?_
    refine z_iconst dX7_feed_13 ?_
    refine z_cVI yv_X7_finding ml_X7_93 (c_X7_finding (by omega)) zk_75 rfl rfl (by decide) (Nat.le_of_ble_eq_true rfl) dX7_feed_14 ?_
    exact z_iret dX7_feed_17 (zPI (by (repeat (first | rw [if_pos (by omega)] | rw [if_neg (by omega)])) <;> rfl) (by (repeat (first | rw [if_pos (by omega)] | rw [if_neg (by omega)])) <;> rfl))
