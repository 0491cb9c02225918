def RuF (N M : zM) : Prop := (∀ k : Nat, k ≠ 75 → k ≠ 76 → k ≠ 80 → N k = M k) ∧ (∀ j : Int, j ≠ 5 → j ≠ 6 → j ≠ 7 → j ≠ 8 → N 75 j = M 75 j)
def stS2 (s : Int → Int) : List (Int × Int) := stL (fun j => s (84 + j)) (s 11).toNat
def QRu (M : zM) (x : Int) (N : zM) : Prop := (x = 0 ∧ exL (fun l => TopF (M 79) (M 75 5) (M 75 5) l ∧ okL l ∧ l.length ≤ 60 ∧ N 76 11 = (l.length : Int) ∧ stS2 (N 76) = l) ∧ N 75 5 = 0 ∧ (∀ j : Int, j < 84 → j ≠ 11 → N 76 j = M 76 j) ∧ RuF N M) ∨ (x = -1 - N 75 6 ∧ (0 ≤ N 75 6 ∧ N 75 6 ≤ M 75 5) ∧ (TopNO (M 79) (M 75 5) (N 75 6) ∨ (N 75 6 < M 75 5 ∧ exL (fun l => TopF (M 79) (M 75 5) (N 75 6) l))) ∧ N 75 5 = M 75 5 ∧ N 76 = M 76 ∧ RuF N M)
abbrev ru0 (M : zM) : zM := zput (zput (zput M 75 6 0) 75 7 0) 75 8 0
theorem ru0_5 {M : zM} : ru0 M 75 5 = M 75 5 := by show zput _ _ _ _ 75 5 = _; rw [zput_ne2 (by decide), zput_ne2 (by decide), zput_ne2 (by decide)]
theorem ru0_6 {M : zM} : ru0 M 75 6 = 0 := by show zput _ _ _ _ 75 6 = _; rw [zput_ne2 (by decide), zput_ne2 (by decide), zput_eq]
theorem ru0_7 {M : zM} : ru0 M 75 7 = 0 := by show zput _ _ _ _ 75 7 = _; rw [zput_ne2 (by decide), zput_eq]
theorem ru0_8 {M : zM} : ru0 M 75 8 = 0 := zput_eq
theorem ru0_o {M : zM} {k : Nat} (h : k ≠ 75) : ru0 M k = M k := by show zput _ _ _ _ k = _; rw [zput_ne h, zput_ne h, zput_ne h]
theorem ru0_F {M : zM} : FrP (ru0 M) M := ⟨fun k a b => ru0_o a, fun j a b c => by show zput _ _ _ _ 75 j = _; rw [zput_ne2 c, zput_ne2 b, zput_ne2 a]⟩
theorem ru0_PB {M : zM} (h5 : 0 ≤ M 75 5 ∧ M 75 5 ≤ 60) (ht : ∀ j : Int, 0 ≤ j → j < 60 → 0 ≤ M 79 j ∧ M 79 j ≤ 255) : PB (ru0 M) := by
  refine ⟨by rw [ru0_6, ru0_5]; omega, by rw [ru0_5]; exact h5, by rw [ru0_o (by decide)]; exact ht, by rw [ru0_8, ru0_6]; omega⟩
theorem Ru_no {M N : zM} (h5 : 0 ≤ M 75 5) (hl : Fl (ru0 M) N) (h : TopNO (ru0 M 79) (ru0 M 75 5) (N 75 6)) : QRu M (-1 - N 75 6) N := by
  have f := FrP_tr (ru0_F (M := M)) hl.1
  have a := hl.2.1
  have b := hl.2.2
  rw [ru0_6] at a
  rw [ru0_5] at b
  rw [ru0_o (by decide), ru0_5] at h
  exact Or.inr ⟨rfl, ⟨a, b⟩, Or.inl h, f.2 5 (by decide) (by decide) (by decide), f.1 76 (by decide) (by decide), ⟨fun k a b c => f.1 k a c, fun j a b c d => f.2 j b c d⟩⟩
theorem Ru_no2 {M N : zM} {l : List (Int × Int)} (hp : Pg (ru0 M) N l 0) (h : TopF (ru0 M 79) (ru0 M 75 5) (N 75 6) l) (hn : N 75 6 ≠ N 75 5) : QRu M (-1 - N 75 6) N := by
  have f := FrP_tr (ru0_F (M := M)) hp.1
  have a := hp.2.1
  have e5 := f.2 5 (by decide) (by decide) (by decide)
  rw [ru0_6, ru0_5] at a
  rw [ru0_o (by decide), ru0_5] at h
  exact Or.inr ⟨rfl, a, Or.inr ⟨by omega, l, h⟩, e5, f.1 76 (by decide) (by decide), ⟨fun k a b c => f.1 k a c, fun j a b c d => f.2 j b c d⟩⟩
theorem Ru_m {M N : zM} {l : List (Int × Int)} (hp : Pg (ru0 M) N l 0) : N 75 8 = (l.length : Int) ∧ stL (N 80) l.length = l := by
  have h := hp.2.2.2.2.1
  rw [ru0_8] at h
  have h2 := congrArg List.length h
  rw [stL_len] at h2
  have h3 := hp.2.2.1
  have e : (stL (ru0 M 80) (0 : Int).toNat ++ l) = l := rfl
  rw [e] at h h2
  have e2 : (N 75 8).toNat = l.length := h2
  rw [e2] at h
  exact ⟨by omega, h⟩
theorem Ru_yes {M N K : zM} {l : List (Int × Int)} (hp : Pg (ru0 M) N l 0) (h5 : M 75 5 ≤ 60) (h : TopF (ru0 M 79) (ru0 M 75 5) (N 75 6) l) (hn : N 75 6 = N 75 5) (hK : K = zrow (zput (zput N 75 5 0) 76 11 (N 75 8)) 76 (zfillA (fun j => N 80 (j - 84)) (zup (N 76) 11 (N 75 8)) 84 (2 * N 75 8))) : QRu M 0 K := by
  obtain ⟨m1, m2⟩ := Ru_m hp
  have f := FrP_tr (ru0_F (M := M)) hp.1
  have a := hp.2.1
  have b := hp.2.2.2.1
  have e5 := f.2 5 (by decide) (by decide) (by decide)
  rw [ru0_6, ru0_5] at a
  rw [ru0_6, ru0_8] at b
  rw [ru0_o (by decide), ru0_5, hn, e5] at h
  have r76 : K 76 = zfillA (fun j => N 80 (j - 84)) (zup (N 76) 11 (N 75 8)) 84 (2 * N 75 8) := by rw [hK, zrow_eq]
  have r11 : K 76 11 = (l.length : Int) := by
    rw [r76]
    unfold zfillA
    rw [if_neg (by omega), zup_eq, m1]
  refine Or.inl ⟨rfl, ⟨l, h, hp.2.2.2.2.2, by omega, r11, ?_⟩, by rw [hK, zrow_ne (by decide), zput_ne (by decide), zput_eq], fun j h1 h2 => ?_, ⟨fun k h1 h2 h3 => ?_, fun j h1 h2 h3 h4 => ?_⟩⟩
  · unfold stS2
    rw [r11, Int.toNat_natCast]
    refine Eq.trans (stL_congr _ (fun j h1 h2 => ?_)) m2
    rw [r76]
    unfold zfillA
    rw [if_pos (by omega)]
    dsimp only
    rw [show 84 + j - 84 = j by omega]
  · rw [r76]
    unfold zfillA
    rw [if_neg (by omega), zup_ne h2, f.1 76 (by decide) (by decide)]
  · rw [hK, zrow_ne h2, zput_ne h2, zput_ne h1, f.1 k h1 h3]
  · rw [hK, zrow_ne (by decide), zput_ne (by decide), zput_ne2 h1, f.2 j h2 h3 h4]
theorem c_X7_rule {M : zM} (h5 : 0 ≤ M 75 5 ∧ M 75 5 ≤ 60) (ht : ∀ j : Int, 0 ≤ j → j < 60 → 0 ≤ M 79 j ∧ M 79 j ≤ 255) : Call yX7_rule cX7_rule 3 (some .int) 17 [vR 75] (M) (BI (QRu M)) := by
  refine Call.of2 (own := RX7) (lv0 := [some (vR 75), none, none]) rfl (by decide) rfl (Nat.le_of_ble_eq_true rfl) ?_
  refine z_aload_0 dX7_rule_0 ?_
  refine z_iconst dX7_rule_1 ?_
  refine z_putI fl_X7_192 zk_75 rfl dX7_rule_2 ?_
  refine z_aload_0 dX7_rule_5 ?_
  refine z_iconst dX7_rule_6 ?_
  refine z_putI fl_X7_223 zk_75 rfl dX7_rule_7 ?_
  refine z_aload_0 dX7_rule_10 ?_
  refine z_iconst dX7_rule_11 ?_
  refine z_putI fl_X7_198 zk_75 rfl dX7_rule_12 ?_
  refine z_aload_0 dX7_rule_15 ?_
  refine z_sV yv_X7_whole ml_X7_236 (c_X7_whole (M := ru0 M) (ru0_PB h5 ht) ru0_6 ru0_7) zk_75 rfl rfl (by decide) (Nat.le_of_ble_eq_true rfl) dX7_rule_16 (fun x_ N_ hq_ => ?_)
  rcases (QWh_c hq_) with ⟨rfl, l_, w1_, w2_⟩ | ⟨rfl, w1_, w2_⟩
  · skip
    have hBN_ := Pg_PB (ru0_PB h5 ht) w1_ (by decide)
    obtain ⟨⟨n0_, n1_⟩, ⟨n2_, n3_⟩, n4_, ⟨n5_, n6_⟩⟩ := id hBN_
    have hst_ := (Ru_m w1_).2
    have hln_ := (Ru_m w1_).1
    refine z_if_eq (tgt := 37) (by decide) dX7_rule_19 (by decide) (fun c19 => absurd c19 (by decide)) (fun c19 => ?_)
    refine z_aload_0 dX7_rule_22 ?_
    refine z_getI fl_X7_192 zk_75 rfl dX7_rule_23 ?_
    refine z_aload_0 dX7_rule_26 ?_
    refine z_getI fl_X7_188 zk_75 rfl dX7_rule_27 ?_
    refine z_icmp_ne (tgt := 37) (by omega) (by omega) dX7_rule_30 (by decide) (fun c30 => ?_) (fun c30 => ?_)
    · refine z_iconst dX7_rule_37 ?_
      refine z_istore_1 rfl dX7_rule_38 ?_
      refine z_iload_1 dX7_rule_39 ?_
      refine z_if_ne (tgt := 50) (by decide) dX7_rule_40 (by decide) (fun c40 => absurd c40 (by decide)) (fun c40 => ?_)
      refine z_iconst dX7_rule_43 ?_
      refine z_aload_0 dX7_rule_44 ?_
      refine z_getI fl_X7_192 zk_75 rfl dX7_rule_45 ?_
      refine z_isub dX7_rule_48 ?_
      exact z_iret dX7_rule_49 (zBI (by first | exact Ru_no h5.1 w1_ w2_ | exact Ru_no2 w1_ w2_ c30))
    · refine z_iconst dX7_rule_33 ?_
      refine z_goto (tgt := 38) dX7_rule_34 (by decide) ?_
      refine z_istore_1 rfl dX7_rule_38 ?_
      refine z_iload_1 dX7_rule_39 ?_
      refine z_if_ne (tgt := 50) (by decide) dX7_rule_40 (by decide) (fun c40 => ?_) (fun c40 => absurd c40 (by decide))
      refine z_aload_0 dX7_rule_50 ?_
      refine z_iconst dX7_rule_51 ?_
      refine z_putI fl_X7_188 zk_75 rfl dX7_rule_52 ?_
      refine z_aload_0 dX7_rule_55 ?_
      refine z_getR (r := 76) fl_X7_7 zk_75 rfl rfl dX7_rule_56 ?_
      refine z_bipush dX7_rule_59 (by decide) ?_
      refine z_aload_0 dX7_rule_61 ?_
      refine z_getIv (v := (N_ 75 8)) fl_X7_198 zk_75 rfl (by rw [zput_ne2 (by decide)]) dX7_rule_62 ?_
      refine z_i2l (by omega) dX7_rule_65 ?_
      refine z_last (n := 214) zk_76 rfl (by omega) dX7_rule_66 ?_
      refine z_iconst dX7_rule_67 ?_
      refine z_istore_2 rfl dX7_rule_68 ?_
      have K69 : ∀ (fuel_ : Nat) (i_ : Int) (K_ : zM), 2 * (N_ 75 8) - i_ < (fuel_ : Int) → (0 ≤ i_ ∧ i_ ≤ 2 * (N_ 75 8)) → (K_ = (zrow (zput (zput N_ 75 5 0) 76 11 (N_ 75 8)) 76 (zfillA (fun j_ => N_ 80 (j_ - 84)) (zup (N_ 76) 11 (N_ 75 8)) 84 i_))) → Z RX7 cX7_rule 3 (some .int) 17 (zQ (BI (QRu M))) 69 [some (vR 75), some (vI 1), some (vI i_)] [] (K_) := by
        intro fuel_
        induction fuel_ with
        | zero => intro i_ K_ hfuel_ hi_ hK_; exfalso; omega
        | succ fuel_ ih69 =>
          intro i_ K_ hfuel_ hi_ hK_
          have k8_ : K_ 75 8 = (N_ 75 8) := by rw [hK_, zrow_ne (by decide), zput_ne (by decide), zput_ne2 (by decide)]
          have k80_ : K_ 80 = N_ 80 := by rw [hK_, zrow_ne (by decide), zput_ne (by decide), zput_ne (by decide)]
          refine z_iload_2 dX7_rule_69 ?_
          refine z_iconst dX7_rule_70 ?_
          refine z_aload_0 dX7_rule_71 ?_
          refine z_getIv (v := (N_ 75 8)) fl_X7_198 zk_75 rfl (k8_) dX7_rule_72 ?_
          refine z_imul dX7_rule_75 ?_
          refine z_icmp_ge (tgt := 101) (by omega) (by omega) dX7_rule_76 (by decide) (fun c76 => ?_) (fun c76 => ?_)
          · refine z_iconst dX7_rule_101 ?_
            exact z_iret dX7_rule_102 (zBI (Ru_yes w1_ h5.2 w2_ c30 (by rw [hK_, show i_ = 2 * N_ 75 8 by omega])))
          · refine z_aload_0 dX7_rule_79 ?_
            refine z_getR (r := 76) fl_X7_7 zk_75 rfl rfl dX7_rule_80 ?_
            refine z_bipush dX7_rule_83 (by decide) ?_
            refine z_iload_2 dX7_rule_85 ?_
            refine z_iadd dX7_rule_86 ?_
            refine z_aload_0 dX7_rule_87 ?_
            refine z_getR (r := 80) fl_X7_23 zk_75 rfl rfl dX7_rule_88 ?_
            refine z_iload_2 dX7_rule_91 ?_
            have hv_ : -2147483648 ≤ N_ 80 i_ ∧ N_ 80 i_ < 2147483648 := (by have h9_ := okL_r (f := N_ 80) (n := l_.length) (by rw [hst_]; exact w1_.2.2.2.2.2) (j := i_) (by omega) (by omega); omega)
            refine z_ialdv (n := 130) (v := (N_ 80 i_)) zk_80 rfl (by omega) (by rw [k80_]) dX7_rule_92 ?_
            refine z_i2l (by omega) dX7_rule_93 ?_
            refine z_last (n := 214) zk_76 rfl (by omega) dX7_rule_94 ?_
            refine z_iinc_2 rfl dX7_rule_95 ?_
            refine z_goto (tgt := 69) dX7_rule_98 (by decide) ?_
            exact ih69 _ _ (by omega) (by omega) (by rw [hK_]; refine Eq.trans ?_ (zfillA_1 (f := fun j_ => N_ 80 (j_ - 84)) hi_.1); rw [show 84 + i_ - 84 = i_ by omega])
      have L69 : ∀ (i_ : Int) (K_ : zM), (0 ≤ i_ ∧ i_ ≤ 2 * (N_ 75 8)) → (K_ = (zrow (zput (zput N_ 75 5 0) 76 11 (N_ 75 8)) 76 (zfillA (fun j_ => N_ 80 (j_ - 84)) (zup (N_ 76) 11 (N_ 75 8)) 84 i_))) → Z RX7 cX7_rule 3 (some .int) 17 (zQ (BI (QRu M))) 69 [some (vR 75), some (vI 1), some (vI i_)] [] (K_) := fun i_ K_ hi_ hK_ => K69 ((2 * (N_ 75 8) - i_).toNat + 1) i_ K_ (by omega) hi_ hK_
      exact L69 _ _ (by omega) (by rw [zfillA_0, show zup (N_ 76) 11 (N_ 75 8) = (zput (zput N_ 75 5 0) 76 11 (N_ 75 8)) 76 by rw [zput_at, zput_ne (by decide)], zrow_self])
  · skip
    have hb_ := w1_.2
    rw [ru0_6, ru0_5] at hb_
    refine z_if_eq (tgt := 37) (by decide) dX7_rule_19 (by decide) (fun c19 => ?_) (fun c19 => absurd c19 (by decide))
    refine z_iconst dX7_rule_37 ?_
    refine z_istore_1 rfl dX7_rule_38 ?_
    refine z_iload_1 dX7_rule_39 ?_
    refine z_if_ne (tgt := 50) (by decide) dX7_rule_40 (by decide) (fun c40 => absurd c40 (by decide)) (fun c40 => ?_)
    refine z_iconst dX7_rule_43 ?_
    refine z_aload_0 dX7_rule_44 ?_
    refine z_getI fl_X7_192 zk_75 rfl dX7_rule_45 ?_
    refine z_isub dX7_rule_48 ?_
    exact z_iret dX7_rule_49 (zBI (by first | exact Ru_no h5.1 w1_ w2_ | exact Ru_no2 w1_ w2_ c30))
