theorem nmI_i (c : Int) : -1 ≤ nmI c ∧ nmI c ≤ 5 := by
  unfold nmI
  split
  · decide
  · split
    · decide
    · split
      · decide
      · split
        · decide
        · split
          · decide
          · split <;> decide
section
variable {F : Int → Int} {wp nu di su sg c : Int} {st : List (Int × Int)} {o : aO} {M : zM}
theorem inK_m (hw : wp ≠ 0) (hl : st.length < 5) : inK F (wp, nu, di, su, sg, st) 45 = some (wp, nu, di, su, sg, (su, 0) :: st) := by
  unfold inK
  rw [if_pos hw, if_neg (by rw [nm_45]; simp), if_pos ⟨Or.inl rfl, hl⟩, if_pos rfl]
theorem inK_p (hw : wp ≠ 0) (hl : st.length < 5) : inK F (wp, nu, di, su, sg, st) 40 = some (wp, nu, di, 0, 1, (su, sg) :: st) := by
  unfold inK
  rw [if_pos hw, if_neg (by rw [nm_40]; simp), if_pos ⟨Or.inr rfl, hl⟩, if_neg (by decide)]
theorem inK_n (hw : wp ≠ 0) (hn : nmI c ≠ -1) : inK F (wp, nu, di, su, sg, st) c = some (kEnd (0, 0, 0, su, sg, st) (F (nmI c))) := by
  unfold inK
  rw [if_pos hw, if_pos hn]
  rfl
theorem inK_b (hw : wp ≠ 0) (hn : nmI c = -1) (hb : ¬ ((c = 45 ∨ c = 40) ∧ st.length < 5)) : inK F (wp, nu, di, su, sg, st) c = none := by
  unfold inK
  rw [if_pos hw, if_neg (by rw [hn]; simp), if_neg hb]
theorem inK_s (hw : wp = 0) (hc : c = 43 ∨ c = 45) : inK F (wp, nu, di, su, sg, st) c = some (1, nu, di, su, (if c = 43 then 1 else -1), st) := by
  unfold inK
  rw [if_neg (by simp only []; omega), if_pos hc]
theorem inK_e {e : Int × Int} {r : List (Int × Int)} (hw : wp = 0) : inK F (wp, nu, di, su, sg, e :: r) 41 = some (kEnd (0, 0, 0, e.1, e.2, r) su) := by
  unfold inK
  rw [if_neg (by simp only []; omega), if_neg (by decide), if_pos rfl]
theorem inK_0 (hw : wp = 0) (hc : ¬ (c = 43 ∨ c = 45)) (h : c = 41 → st = []) : inK F (wp, nu, di, su, sg, st) c = none := by
  unfold inK
  rw [if_neg (by simp only []; omega), if_neg hc]
  by_cases q : c = 41
  · rw [if_pos q, h q]
  · rw [if_neg q]
theorem Rep_push {x : Int} (h : Rep M ((wp, nu, di, su, sg, st), o)) (hl : st.length < 5) (hx : -1 ≤ x ∧ x ≤ 1) : Rep (zput (zput (zput M 65 (st.length : Int) su) 66 (st.length : Int) x) 7 10 ((st.length : Int) + 1)) ((wp, nu, di, su, sg, (su, x) :: st), o) := by
  obtain ⟨⟨r3, r4, r5, rw', rd⟩, ⟨s6, s7, s10, sS, sok, sg2⟩, hO⟩ := h
  have e7 : ∀ j : Int, j ≠ 10 → (zput (zput (zput M 65 (st.length : Int) su) 66 (st.length : Int) x) 7 10 ((st.length : Int) + 1)) 7 j = M 7 j := fun j a => by rw [zput_ne2 a, zput_ne (by decide), zput_ne (by decide)]
  refine ⟨⟨by rw [e7 3 (by decide)]; exact r3, fun q => by rw [e7 4 (by decide)]; exact r4 q, by rw [e7 5 (by decide)]; exact r5, rw', rd⟩, ⟨by rw [e7 6 (by decide)]; exact s6, by rw [e7 7 (by decide)]; exact s7, by rw [zput_eq, List.length_cons]; omega, ?_, ⟨by rw [List.length_cons]; omega, fun e he => ?_⟩, sg2⟩, ?_⟩
  · rw [zput_ne (by decide), zput_ne (by decide), zput_at, zput_ne (by decide), zput_at]
    refine ⟨zup_eq, ?_, StkR_congr st (fun j a b => ⟨zup_ne (by omega), ?_⟩) sS⟩
    · rw [zput_ne (by decide), zup_eq]
    · rw [zput_ne (by decide), zup_ne (by omega)]
  · rcases List.mem_cons.mp he with q | q
    · rw [q]; exact hx
    · exact sok.2 e q
  · unfold RepO
    rw [e7 2 (by decide), e7 11 (by decide), e7 12 (by decide), e7 13 (by decide), e7 14 (by decide), e7 15 (by decide)]
    exact hO
theorem Rep_ss {a b : Int} (h : Rep M ((wp, nu, di, su, sg, st), o)) (hb : -1 ≤ b ∧ b ≤ 1) : Rep (zput (zput M 7 6 a) 7 7 b) ((wp, nu, di, a, b, st), o) := by
  obtain ⟨⟨r3, r4, r5, rw', rd⟩, ⟨s6, s7, s10, sS, sok, sg2⟩, hO⟩ := h
  have e7 : ∀ j : Int, j ≠ 6 → j ≠ 7 → (zput (zput M 7 6 a) 7 7 b) 7 j = M 7 j := fun j p q => by rw [zput_ne2 q, zput_ne2 p]
  exact ⟨⟨by rw [e7 3 (by decide) (by decide)]; exact r3, fun q => by rw [e7 4 (by decide) (by decide)]; exact r4 q, by rw [e7 5 (by decide) (by decide)]; exact r5, rw', rd⟩, ⟨by rw [zput_ne2 (by decide), zput_eq], zput_eq, by rw [e7 10 (by decide) (by decide)]; exact s10, by rw [zput_ne (by decide), zput_ne (by decide), zput_ne (by decide), zput_ne (by decide)]; exact sS, sok, hb⟩, RepO_p (RepO_p hO (by decide)) (by decide)⟩
theorem Rep_sw {b : Int} (h : Rep M ((wp, nu, di, su, sg, st), o)) (hb : -1 ≤ b ∧ b ≤ 1) : Rep (zput (zput M 7 7 b) 7 3 1) ((1, nu, di, su, b, st), o) := by
  obtain ⟨⟨r3, r4, r5, rw', rd⟩, ⟨s6, s7, s10, sS, sok, sg2⟩, hO⟩ := h
  have e7 : ∀ j : Int, j ≠ 3 → j ≠ 7 → (zput (zput M 7 7 b) 7 3 1) 7 j = M 7 j := fun j p q => by rw [zput_ne2 p, zput_ne2 q]
  exact ⟨⟨zput_eq, fun q => by rw [e7 4 (by decide) (by decide)]; exact r4 q, by rw [e7 5 (by decide) (by decide)]; exact r5, Or.inr rfl, rd⟩, ⟨by rw [e7 6 (by decide) (by decide)]; exact s6, by rw [zput_ne2 (by decide), zput_eq], by rw [e7 10 (by decide) (by decide)]; exact s10, by rw [zput_ne (by decide), zput_ne (by decide), zput_ne (by decide), zput_ne (by decide)]; exact sS, sok, hb⟩, RepO_p (RepO_p hO (by decide)) (by decide)⟩
abbrev bgM (M : zM) (p : Int) : zM := zput (zput (zput (zput M 7 2 p) 7 6 0) 7 7 1) 7 3 1
theorem Rep_bg {o2 : aO} (h5 : M 7 5 = 0) (h10 : M 7 10 = 0) (ha : M 7 11 = o2.2.1) (hb : M 7 12 = o2.2.2.1) (hc : M 7 13 = o2.2.2.2.1) (hd : M 7 14 = o2.2.2.2.2.1) (he : M 7 15 = o2.2.2.2.2.2) (r1 : 0 ≤ o2.1 ∧ o2.1 ≤ 3) (r2 : -128 ≤ o2.2.2.1 ∧ o2.2.2.1 < 128) (r3 : o2.2.2.2.1 = 0 ∨ o2.2.2.2.1 = 1) (r4 : o2.2.2.2.2.1 = 0 ∨ o2.2.2.2.2.1 = 1) : Rep (bgM M o2.1) ((1, nu, 0, 0, 1, []), o2) := by
  have e7 : ∀ j : Int, j ≠ 2 → j ≠ 3 → j ≠ 6 → j ≠ 7 → bgM M o2.1 7 j = M 7 j := fun j p q r s => by show zput _ _ _ _ 7 j = _; rw [zput_ne2 q, zput_ne2 s, zput_ne2 r, zput_ne2 p]
  refine ⟨⟨zput_eq, fun q => absurd q (show ¬ (0 : Int) < 0 by decide), by rw [e7 5 (by decide) (by decide) (by decide) (by decide)]; exact h5, Or.inr rfl, (show (0 : Int) ≤ 0 ∧ (0 : Int) ≤ 7 by decide)⟩, ⟨?_, ?_, by rw [e7 10 (by decide) (by decide) (by decide) (by decide)]; exact h10, trivial, ⟨(show (0 : Nat) ≤ 5 by decide), fun e h => by cases h⟩, (show (-1 : Int) ≤ 1 ∧ (1 : Int) ≤ 1 by decide)⟩, ?_, by rw [e7 11 (by decide) (by decide) (by decide) (by decide)]; exact ha, by rw [e7 12 (by decide) (by decide) (by decide) (by decide)]; exact hb, by rw [e7 13 (by decide) (by decide) (by decide) (by decide)]; exact hc, by rw [e7 14 (by decide) (by decide) (by decide) (by decide)]; exact hd, by rw [e7 15 (by decide) (by decide) (by decide) (by decide)]; exact he, r1, r2, r3, r4⟩
  · show zput _ _ _ _ 7 6 = _; rw [zput_ne2 (by decide), zput_ne2 (by decide), zput_eq]
  · show zput _ _ _ _ 7 7 = _; rw [zput_ne2 (by decide), zput_eq]
  · show zput _ _ _ _ 7 2 = _; rw [zput_ne2 (by decide), zput_ne2 (by decide), zput_ne2 (by decide), zput_eq]
theorem outR_b {p : Int} : outR (bgM M p) M := outR_tr (outR_tr (outR_tr (outR_p (by decide)) (outR_p (by decide))) (outR_p (by decide))) (outR_p (by decide))
theorem outR_65 {j v : Int} : outR (zput M 65 j v) M := ⟨fun k a b c => zput_ne b, by rw [zput_ne (by decide)]⟩
theorem outR_66 {j v : Int} : outR (zput M 66 j v) M := ⟨fun k a b c => zput_ne c, by rw [zput_ne (by decide)]⟩
end
theorem plB_r (pl c : Int) : -1 ≤ plB pl c ∧ plB pl c ≤ 3 := by
  unfold plB
  split
  · split <;> decide
  · split
    · split <;> decide
    · split
      · split <;> decide
      · split
        · split <;> decide
        · decide
theorem c_X1_takesInPart {M : zM} {c_ : Int} {wp_ nu_ di_ su_ sg_ : Int} {st_ : List (Int × Int)} {o_ : aO} (hR : Rep M ((wp_, nu_, di_, su_, sg_, st_), o_)) (hc : -128 ≤ c_ ∧ c_ < 128) (hw : wp_ ≠ 0) (hd : di_ = 0) : Call yX1_takesInPart cX1_takesInPart 3 (some .boolean) 1 [vR 7, vI c_] (M) (BI (fun x N => (x = 1 ∧ exK (fun k2 => inK (M 64) (wp_, nu_, di_, su_, sg_, st_) c_ = some k2 ∧ Rep N (k2, o_)) ∧ outR N M) ∨ (x = 0 ∧ inK (M 64) (wp_, nu_, di_, su_, sg_, st_) c_ = none ∧ N = M))) := by
  refine Call.of2 (own := RX1) (lv0 := [some (vR 7), some (vI c_), none]) rfl (by decide) rfl (Nat.le_of_ble_eq_true rfl) ?_
  obtain ⟨⟨r3_, r4_, r5_, rw_, rd_⟩, hS, hO⟩ := id hR
  simp only [] at r3_ r4_ r5_ rw_ rd_ hS hO
  obtain ⟨s6_, s7_, s10_, sS_, sok_, sg2_⟩ := id hS
  obtain ⟨o2_, o11_, o12_, o13_, o14_, o15_, oa_, ob_, oc_, od_⟩ := id hO
  have hni_ := nmI_i c_
  have hl5_ := sok_.1
  refine z_iload_1 dX1_takesInPart_0 ?_
  refine z_cSI ys_X1_nameOf ml_X1_126 (c_X1_nameOf (by omega)) rfl rfl (by decide) (Nat.le_of_ble_eq_true rfl) dX1_takesInPart_1 ?_
  refine z_istore_2 rfl dX1_takesInPart_4 ?_
  refine z_iload_2 dX1_takesInPart_5 ?_
  refine z_iconst dX1_takesInPart_6 ?_
  refine z_icmp_eq (tgt := 22) (by omega) (by decide) dX1_takesInPart_7 (by decide) (fun c7 => ?_) (fun c7 => ?_)
  · refine z_iload_1 dX1_takesInPart_22 ?_
    refine z_bipush dX1_takesInPart_23 (by decide) ?_
    refine z_icmp_eq (tgt := 34) (by omega) (by decide) dX1_takesInPart_25 (by decide) (fun c25 => ?_) (fun c25 => ?_)
    · refine z_aload_0 dX1_takesInPart_34 ?_
      refine z_getIv (v := (st_.length : Int)) fl_X1_44 zk_7 rfl (s10_) dX1_takesInPart_35 ?_
      refine z_iconst dX1_takesInPart_38 ?_
      refine z_icmp_lt (tgt := 44) (by omega) (by decide) dX1_takesInPart_39 (by decide) (fun c39 => ?_) (fun c39 => ?_)
      · refine z_aload_0 dX1_takesInPart_44 ?_
        refine z_getR (r := 65) fl_X1_38 zk_7 rfl rfl dX1_takesInPart_45 ?_
        refine z_aload_0 dX1_takesInPart_48 ?_
        refine z_getIv (v := (st_.length : Int)) fl_X1_44 zk_7 rfl (s10_) dX1_takesInPart_49 ?_
        refine z_aload_0 dX1_takesInPart_52 ?_
        refine z_getIv (v := su_) fl_X1_32 zk_7 rfl (s6_) dX1_takesInPart_53 ?_
        refine z_iast (n := 5) zk_65 rfl (by omega) dX1_takesInPart_56 ?_
        refine z_aload_0 dX1_takesInPart_57 ?_
        refine z_getR (r := 66) fl_X1_41 zk_7 rfl rfl dX1_takesInPart_58 ?_
        refine z_aload_0 dX1_takesInPart_61 ?_
        refine z_getIv (v := (st_.length : Int)) fl_X1_44 zk_7 rfl (by rw [zput_ne (by decide)]; exact s10_) dX1_takesInPart_62 ?_
        refine z_iload_1 dX1_takesInPart_65 ?_
        refine z_bipush dX1_takesInPart_66 (by decide) ?_
        refine z_icmp_ne (tgt := 75) (by omega) (by decide) dX1_takesInPart_68 (by decide) (fun c68 => ?_) (fun c68 => ?_)
        · refine z_aload_0 dX1_takesInPart_75 ?_
          refine z_getIv (v := sg_) fl_X1_35 zk_7 rfl (by rw [zput_ne (by decide)]; exact s7_) dX1_takesInPart_76 ?_
          refine z_iast (n := 5) zk_66 rfl (by omega) dX1_takesInPart_79 ?_
          refine z_aload_0 dX1_takesInPart_80 ?_
          refine z_dup rfl dX1_takesInPart_81 ?_
          refine z_getIv (v := (st_.length : Int)) fl_X1_44 zk_7 rfl (by rw [zput_ne (by decide), zput_ne (by decide)]; exact s10_) dX1_takesInPart_82 ?_
          refine z_iconst dX1_takesInPart_85 ?_
          refine z_iadd dX1_takesInPart_86 ?_
          refine z_putI fl_X1_44 zk_7 rfl dX1_takesInPart_87 ?_
          refine z_iload_1 dX1_takesInPart_90 ?_
          refine z_bipush dX1_takesInPart_91 (by decide) ?_
          refine z_icmp_ne (tgt := 106) (by omega) (by decide) dX1_takesInPart_93 (by decide) (fun c93 => ?_) (fun c93 => ?_)
          · refine z_iconst dX1_takesInPart_106 ?_
            exact z_zret (by first | exact Or.inl rfl | exact Or.inr rfl | exact zb_01 | omega) dX1_takesInPart_107 (zBI (by first | (exfalso; omega) | (have e_ : c_ = 45 := by omega); subst e_; exact Or.inl ⟨rfl, ⟨_, inK_m hw (by omega), Rep_push hR (by omega) (by decide)⟩, outR_tr (outR_tr outR_65 outR_66) (outR_p (by decide))⟩ | (have e_ : c_ = 40 := by omega); subst e_; exact Or.inl ⟨rfl, ⟨_, inK_p hw (by omega), Rep_ss (Rep_push hR (by omega) sg2_) (by decide)⟩, outR_tr (outR_tr (outR_tr outR_65 outR_66) (outR_p (by decide))) (outR_tr (outR_p (by decide)) (outR_p (by decide)))⟩))
          · refine z_aload_0 dX1_takesInPart_96 ?_
            refine z_iconst dX1_takesInPart_97 ?_
            refine z_putI fl_X1_32 zk_7 rfl dX1_takesInPart_98 ?_
            refine z_aload_0 dX1_takesInPart_101 ?_
            refine z_iconst dX1_takesInPart_102 ?_
            refine z_putI fl_X1_35 zk_7 rfl dX1_takesInPart_103 ?_
            refine z_iconst dX1_takesInPart_106 ?_
            exact z_zret (by first | exact Or.inl rfl | exact Or.inr rfl | exact zb_01 | omega) dX1_takesInPart_107 (zBI (by first | (exfalso; omega) | (have e_ : c_ = 45 := by omega); subst e_; exact Or.inl ⟨rfl, ⟨_, inK_m hw (by omega), Rep_push hR (by omega) (by decide)⟩, outR_tr (outR_tr outR_65 outR_66) (outR_p (by decide))⟩ | (have e_ : c_ = 40 := by omega); subst e_; exact Or.inl ⟨rfl, ⟨_, inK_p hw (by omega), Rep_ss (Rep_push hR (by omega) sg2_) (by decide)⟩, outR_tr (outR_tr (outR_tr outR_65 outR_66) (outR_p (by decide))) (outR_tr (outR_p (by decide)) (outR_p (by decide)))⟩))
        · refine z_iconst dX1_takesInPart_71 ?_
          refine z_goto (tgt := 79) dX1_takesInPart_72 (by decide) ?_
          refine z_iast (n := 5) zk_66 rfl (by omega) dX1_takesInPart_79 ?_
          refine z_aload_0 dX1_takesInPart_80 ?_
          refine z_dup rfl dX1_takesInPart_81 ?_
          refine z_getIv (v := (st_.length : Int)) fl_X1_44 zk_7 rfl (by rw [zput_ne (by decide), zput_ne (by decide)]; exact s10_) dX1_takesInPart_82 ?_
          refine z_iconst dX1_takesInPart_85 ?_
          refine z_iadd dX1_takesInPart_86 ?_
          refine z_putI fl_X1_44 zk_7 rfl dX1_takesInPart_87 ?_
          refine z_iload_1 dX1_takesInPart_90 ?_
          refine z_bipush dX1_takesInPart_91 (by decide) ?_
          refine z_icmp_ne (tgt := 106) (by omega) (by decide) dX1_takesInPart_93 (by decide) (fun c93 => ?_) (fun c93 => ?_)
          · refine z_iconst dX1_takesInPart_106 ?_
            exact z_zret (by first | exact Or.inl rfl | exact Or.inr rfl | exact zb_01 | omega) dX1_takesInPart_107 (zBI (by first | (exfalso; omega) | (have e_ : c_ = 45 := by omega); subst e_; exact Or.inl ⟨rfl, ⟨_, inK_m hw (by omega), Rep_push hR (by omega) (by decide)⟩, outR_tr (outR_tr outR_65 outR_66) (outR_p (by decide))⟩ | (have e_ : c_ = 40 := by omega); subst e_; exact Or.inl ⟨rfl, ⟨_, inK_p hw (by omega), Rep_ss (Rep_push hR (by omega) sg2_) (by decide)⟩, outR_tr (outR_tr (outR_tr outR_65 outR_66) (outR_p (by decide))) (outR_tr (outR_p (by decide)) (outR_p (by decide)))⟩))
          · refine z_aload_0 dX1_takesInPart_96 ?_
            refine z_iconst dX1_takesInPart_97 ?_
            refine z_putI fl_X1_32 zk_7 rfl dX1_takesInPart_98 ?_
            refine z_aload_0 dX1_takesInPart_101 ?_
            refine z_iconst dX1_takesInPart_102 ?_
            refine z_putI fl_X1_35 zk_7 rfl dX1_takesInPart_103 ?_
            refine z_iconst dX1_takesInPart_106 ?_
            exact z_zret (by first | exact Or.inl rfl | exact Or.inr rfl | exact zb_01 | omega) dX1_takesInPart_107 (zBI (by first | (exfalso; omega) | (have e_ : c_ = 45 := by omega); subst e_; exact Or.inl ⟨rfl, ⟨_, inK_m hw (by omega), Rep_push hR (by omega) (by decide)⟩, outR_tr (outR_tr outR_65 outR_66) (outR_p (by decide))⟩ | (have e_ : c_ = 40 := by omega); subst e_; exact Or.inl ⟨rfl, ⟨_, inK_p hw (by omega), Rep_ss (Rep_push hR (by omega) sg2_) (by decide)⟩, outR_tr (outR_tr (outR_tr outR_65 outR_66) (outR_p (by decide))) (outR_tr (outR_p (by decide)) (outR_p (by decide)))⟩))
      · refine z_iconst dX1_takesInPart_42 ?_
        exact z_zret (by first | exact Or.inl rfl | exact Or.inr rfl | exact zb_01 | omega) dX1_takesInPart_43 (zBI (Or.inr ⟨rfl, inK_b hw (by omega) (by omega), rfl⟩))
    · refine z_iload_1 dX1_takesInPart_28 ?_
      refine z_bipush dX1_takesInPart_29 (by decide) ?_
      refine z_icmp_ne (tgt := 42) (by omega) (by decide) dX1_takesInPart_31 (by decide) (fun c31 => ?_) (fun c31 => ?_)
      · refine z_iconst dX1_takesInPart_42 ?_
        exact z_zret (by first | exact Or.inl rfl | exact Or.inr rfl | exact zb_01 | omega) dX1_takesInPart_43 (zBI (Or.inr ⟨rfl, inK_b hw (by omega) (by omega), rfl⟩))
      · refine z_aload_0 dX1_takesInPart_34 ?_
        refine z_getIv (v := (st_.length : Int)) fl_X1_44 zk_7 rfl (s10_) dX1_takesInPart_35 ?_
        refine z_iconst dX1_takesInPart_38 ?_
        refine z_icmp_lt (tgt := 44) (by omega) (by decide) dX1_takesInPart_39 (by decide) (fun c39 => ?_) (fun c39 => ?_)
        · refine z_aload_0 dX1_takesInPart_44 ?_
          refine z_getR (r := 65) fl_X1_38 zk_7 rfl rfl dX1_takesInPart_45 ?_
          refine z_aload_0 dX1_takesInPart_48 ?_
          refine z_getIv (v := (st_.length : Int)) fl_X1_44 zk_7 rfl (s10_) dX1_takesInPart_49 ?_
          refine z_aload_0 dX1_takesInPart_52 ?_
          refine z_getIv (v := su_) fl_X1_32 zk_7 rfl (s6_) dX1_takesInPart_53 ?_
          refine z_iast (n := 5) zk_65 rfl (by omega) dX1_takesInPart_56 ?_
          refine z_aload_0 dX1_takesInPart_57 ?_
          refine z_getR (r := 66) fl_X1_41 zk_7 rfl rfl dX1_takesInPart_58 ?_
          refine z_aload_0 dX1_takesInPart_61 ?_
          refine z_getIv (v := (st_.length : Int)) fl_X1_44 zk_7 rfl (by rw [zput_ne (by decide)]; exact s10_) dX1_takesInPart_62 ?_
          refine z_iload_1 dX1_takesInPart_65 ?_
          refine z_bipush dX1_takesInPart_66 (by decide) ?_
          refine z_icmp_ne (tgt := 75) (by omega) (by decide) dX1_takesInPart_68 (by decide) (fun c68 => ?_) (fun c68 => ?_)
          · refine z_aload_0 dX1_takesInPart_75 ?_
            refine z_getIv (v := sg_) fl_X1_35 zk_7 rfl (by rw [zput_ne (by decide)]; exact s7_) dX1_takesInPart_76 ?_
            refine z_iast (n := 5) zk_66 rfl (by omega) dX1_takesInPart_79 ?_
            refine z_aload_0 dX1_takesInPart_80 ?_
            refine z_dup rfl dX1_takesInPart_81 ?_
            refine z_getIv (v := (st_.length : Int)) fl_X1_44 zk_7 rfl (by rw [zput_ne (by decide), zput_ne (by decide)]; exact s10_) dX1_takesInPart_82 ?_
            refine z_iconst dX1_takesInPart_85 ?_
            refine z_iadd dX1_takesInPart_86 ?_
            refine z_putI fl_X1_44 zk_7 rfl dX1_takesInPart_87 ?_
            refine z_iload_1 dX1_takesInPart_90 ?_
            refine z_bipush dX1_takesInPart_91 (by decide) ?_
            refine z_icmp_ne (tgt := 106) (by omega) (by decide) dX1_takesInPart_93 (by decide) (fun c93 => ?_) (fun c93 => ?_)
            · refine z_iconst dX1_takesInPart_106 ?_
              exact z_zret (by first | exact Or.inl rfl | exact Or.inr rfl | exact zb_01 | omega) dX1_takesInPart_107 (zBI (by first | (exfalso; omega) | (have e_ : c_ = 45 := by omega); subst e_; exact Or.inl ⟨rfl, ⟨_, inK_m hw (by omega), Rep_push hR (by omega) (by decide)⟩, outR_tr (outR_tr outR_65 outR_66) (outR_p (by decide))⟩ | (have e_ : c_ = 40 := by omega); subst e_; exact Or.inl ⟨rfl, ⟨_, inK_p hw (by omega), Rep_ss (Rep_push hR (by omega) sg2_) (by decide)⟩, outR_tr (outR_tr (outR_tr outR_65 outR_66) (outR_p (by decide))) (outR_tr (outR_p (by decide)) (outR_p (by decide)))⟩))
            · refine z_aload_0 dX1_takesInPart_96 ?_
              refine z_iconst dX1_takesInPart_97 ?_
              refine z_putI fl_X1_32 zk_7 rfl dX1_takesInPart_98 ?_
              refine z_aload_0 dX1_takesInPart_101 ?_
              refine z_iconst dX1_takesInPart_102 ?_
              refine z_putI fl_X1_35 zk_7 rfl dX1_takesInPart_103 ?_
              refine z_iconst dX1_takesInPart_106 ?_
              exact z_zret (by first | exact Or.inl rfl | exact Or.inr rfl | exact zb_01 | omega) dX1_takesInPart_107 (zBI (by first | (exfalso; omega) | (have e_ : c_ = 45 := by omega); subst e_; exact Or.inl ⟨rfl, ⟨_, inK_m hw (by omega), Rep_push hR (by omega) (by decide)⟩, outR_tr (outR_tr outR_65 outR_66) (outR_p (by decide))⟩ | (have e_ : c_ = 40 := by omega); subst e_; exact Or.inl ⟨rfl, ⟨_, inK_p hw (by omega), Rep_ss (Rep_push hR (by omega) sg2_) (by decide)⟩, outR_tr (outR_tr (outR_tr outR_65 outR_66) (outR_p (by decide))) (outR_tr (outR_p (by decide)) (outR_p (by decide)))⟩))
          · refine z_iconst dX1_takesInPart_71 ?_
            refine z_goto (tgt := 79) dX1_takesInPart_72 (by decide) ?_
            refine z_iast (n := 5) zk_66 rfl (by omega) dX1_takesInPart_79 ?_
            refine z_aload_0 dX1_takesInPart_80 ?_
            refine z_dup rfl dX1_takesInPart_81 ?_
            refine z_getIv (v := (st_.length : Int)) fl_X1_44 zk_7 rfl (by rw [zput_ne (by decide), zput_ne (by decide)]; exact s10_) dX1_takesInPart_82 ?_
            refine z_iconst dX1_takesInPart_85 ?_
            refine z_iadd dX1_takesInPart_86 ?_
            refine z_putI fl_X1_44 zk_7 rfl dX1_takesInPart_87 ?_
            refine z_iload_1 dX1_takesInPart_90 ?_
            refine z_bipush dX1_takesInPart_91 (by decide) ?_
            refine z_icmp_ne (tgt := 106) (by omega) (by decide) dX1_takesInPart_93 (by decide) (fun c93 => ?_) (fun c93 => ?_)
            · refine z_iconst dX1_takesInPart_106 ?_
              exact z_zret (by first | exact Or.inl rfl | exact Or.inr rfl | exact zb_01 | omega) dX1_takesInPart_107 (zBI (by first | (exfalso; omega) | (have e_ : c_ = 45 := by omega); subst e_; exact Or.inl ⟨rfl, ⟨_, inK_m hw (by omega), Rep_push hR (by omega) (by decide)⟩, outR_tr (outR_tr outR_65 outR_66) (outR_p (by decide))⟩ | (have e_ : c_ = 40 := by omega); subst e_; exact Or.inl ⟨rfl, ⟨_, inK_p hw (by omega), Rep_ss (Rep_push hR (by omega) sg2_) (by decide)⟩, outR_tr (outR_tr (outR_tr outR_65 outR_66) (outR_p (by decide))) (outR_tr (outR_p (by decide)) (outR_p (by decide)))⟩))
            · refine z_aload_0 dX1_takesInPart_96 ?_
              refine z_iconst dX1_takesInPart_97 ?_
              refine z_putI fl_X1_32 zk_7 rfl dX1_takesInPart_98 ?_
              refine z_aload_0 dX1_takesInPart_101 ?_
              refine z_iconst dX1_takesInPart_102 ?_
              refine z_putI fl_X1_35 zk_7 rfl dX1_takesInPart_103 ?_
              refine z_iconst dX1_takesInPart_106 ?_
              exact z_zret (by first | exact Or.inl rfl | exact Or.inr rfl | exact zb_01 | omega) dX1_takesInPart_107 (zBI (by first | (exfalso; omega) | (have e_ : c_ = 45 := by omega); subst e_; exact Or.inl ⟨rfl, ⟨_, inK_m hw (by omega), Rep_push hR (by omega) (by decide)⟩, outR_tr (outR_tr outR_65 outR_66) (outR_p (by decide))⟩ | (have e_ : c_ = 40 := by omega); subst e_; exact Or.inl ⟨rfl, ⟨_, inK_p hw (by omega), Rep_ss (Rep_push hR (by omega) sg2_) (by decide)⟩, outR_tr (outR_tr (outR_tr outR_65 outR_66) (outR_p (by decide))) (outR_tr (outR_p (by decide)) (outR_p (by decide)))⟩))
        · refine z_iconst dX1_takesInPart_42 ?_
          exact z_zret (by first | exact Or.inl rfl | exact Or.inr rfl | exact zb_01 | omega) dX1_takesInPart_43 (zBI (Or.inr ⟨rfl, inK_b hw (by omega) (by omega), rfl⟩))
  · refine z_aload_0 dX1_takesInPart_10 ?_
    refine z_aload_0 dX1_takesInPart_11 ?_
    refine z_getR (r := 64) fl_X1_11 zk_7 rfl rfl dX1_takesInPart_12 ?_
    refine z_iload_2 dX1_takesInPart_15 ?_
    refine z_iald (n := 6) zk_64 rfl (by omega) dX1_takesInPart_16 ?_
    refine z_rVN yv_X1_endPart ml_X1_123 (c_X1_endPart (M := M) (su_ := su_) (sg_ := sg_) (st_ := st_) (v_ := (M 64 (nmI c_))) (by rw [r5_]; exact hd) hS hO) zk_7 rfl rfl (by decide) (Nat.le_of_ble_eq_true rfl) dX1_takesInPart_17 (fun E_ hE_ => ?_)
    refine z_iconst dX1_takesInPart_20 ?_
    exact z_zret (by first | exact Or.inl rfl | exact Or.inr rfl | exact zb_01 | omega) dX1_takesInPart_21 (zBI (Or.inl ⟨rfl, ⟨_, inK_n hw c7, hE_.1⟩, hE_.2⟩))

theorem c_X1_takesBehindPart {M : zM} {c_ : Int} {wp_ nu_ di_ su_ sg_ : Int} {st_ : List (Int × Int)} {o_ : aO} (hR : Rep M ((wp_, nu_, di_, su_, sg_, st_), o_)) (hc : -128 ≤ c_ ∧ c_ < 128) (hw : wp_ = 0) (hd : di_ = 0) : Call yX1_takesBehindPart cX1_takesBehindPart 3 (some .boolean) 1 [vR 7, vI c_] (M) (BI (fun x N => (x = 1 ∧ exK (fun k2 => inK (M 64) (wp_, nu_, di_, su_, sg_, st_) c_ = some k2 ∧ Rep N (k2, o_)) ∧ outR N M) ∨ (x = 0 ∧ inK (M 64) (wp_, nu_, di_, su_, sg_, st_) c_ = none ∧ N = M))) := by
  refine Call.of2 (own := RX1) (lv0 := [some (vR 7), some (vI c_), none]) rfl (by decide) rfl (Nat.le_of_ble_eq_true rfl) ?_
  obtain ⟨⟨r3_, r4_, r5_, rw_, rd_⟩, hS, hO⟩ := id hR
  simp only [] at r3_ r4_ r5_ rw_ rd_ hS hO
  obtain ⟨s6_, s7_, s10_, sS_, sok_, sg2_⟩ := id hS
  obtain ⟨o2_, o11_, o12_, o13_, o14_, o15_, oa_, ob_, oc_, od_⟩ := id hO
  have hl5_ := sok_.1
  refine z_iload_1 dX1_takesBehindPart_0 ?_
  refine z_bipush dX1_takesBehindPart_1 (by decide) ?_
  refine z_icmp_eq (tgt := 12) (by omega) (by decide) dX1_takesBehindPart_3 (by decide) (fun c3 => ?_) (fun c3 => ?_)
  · refine z_aload_0 dX1_takesBehindPart_12 ?_
    refine z_iload_1 dX1_takesBehindPart_13 ?_
    refine z_bipush dX1_takesBehindPart_14 (by decide) ?_
    refine z_icmp_ne (tgt := 23) (by omega) (by decide) dX1_takesBehindPart_16 (by decide) (fun c16 => ?_) (fun c16 => ?_)
    · refine z_iconst dX1_takesBehindPart_23 ?_
      refine z_putI fl_X1_35 zk_7 rfl dX1_takesBehindPart_24 ?_
      refine z_aload_0 dX1_takesBehindPart_27 ?_
      refine z_iconst dX1_takesBehindPart_28 ?_
      refine z_putZ (by first | omega | exact zb_01) fl_X1_22 zk_7 rfl dX1_takesBehindPart_29 ?_
      refine z_iconst dX1_takesBehindPart_32 ?_
      exact z_zret (by first | exact Or.inl rfl | exact Or.inr rfl | exact zb_01 | omega) dX1_takesBehindPart_33 (zBI (Or.inl ⟨rfl, ⟨_, inK_s hw (by omega), by first | (rw [if_pos (by omega)]; exact Rep_sw hR (by decide)) | (rw [if_neg (by omega)]; exact Rep_sw hR (by decide))⟩, outR_tr (outR_p (by decide)) (outR_p (by decide))⟩))
    · refine z_iconst dX1_takesBehindPart_19 ?_
      refine z_goto (tgt := 24) dX1_takesBehindPart_20 (by decide) ?_
      refine z_putI fl_X1_35 zk_7 rfl dX1_takesBehindPart_24 ?_
      refine z_aload_0 dX1_takesBehindPart_27 ?_
      refine z_iconst dX1_takesBehindPart_28 ?_
      refine z_putZ (by first | omega | exact zb_01) fl_X1_22 zk_7 rfl dX1_takesBehindPart_29 ?_
      refine z_iconst dX1_takesBehindPart_32 ?_
      exact z_zret (by first | exact Or.inl rfl | exact Or.inr rfl | exact zb_01 | omega) dX1_takesBehindPart_33 (zBI (Or.inl ⟨rfl, ⟨_, inK_s hw (by omega), by first | (rw [if_pos (by omega)]; exact Rep_sw hR (by decide)) | (rw [if_neg (by omega)]; exact Rep_sw hR (by decide))⟩, outR_tr (outR_p (by decide)) (outR_p (by decide))⟩))
  · refine z_iload_1 dX1_takesBehindPart_6 ?_
    refine z_bipush dX1_takesBehindPart_7 (by decide) ?_
    refine z_icmp_ne (tgt := 34) (by omega) (by decide) dX1_takesBehindPart_9 (by decide) (fun c9 => ?_) (fun c9 => ?_)
    · refine z_iload_1 dX1_takesBehindPart_34 ?_
      refine z_bipush dX1_takesBehindPart_35 (by decide) ?_
      refine z_icmp_ne (tgt := 47) (by omega) (by decide) dX1_takesBehindPart_37 (by decide) (fun c37 => ?_) (fun c37 => ?_)
      · refine z_iconst dX1_takesBehindPart_47 ?_
        exact z_zret (by first | exact Or.inl rfl | exact Or.inr rfl | exact zb_01 | omega) dX1_takesBehindPart_48 (zBI (Or.inr ⟨rfl, inK_0 hw (by omega) (fun q_ => by first | (exfalso; omega) | exact nil_of (by omega)), rfl⟩))
      · refine z_aload_0 dX1_takesBehindPart_40 ?_
        refine z_getIv (v := (st_.length : Int)) fl_X1_44 zk_7 rfl (s10_) dX1_takesBehindPart_41 ?_
        refine z_if_ne (tgt := 49) (by omega) dX1_takesBehindPart_44 (by decide) (fun c44 => ?_) (fun c44 => ?_)
        · obtain ⟨e_, t_, hr_⟩ := cons_of (st := st_) (by omega)
          have hlt_ : (st_.length : Int) = (t_.length : Int) + 1 := by rw [hr_, List.length_cons]; omega
          have sS2_ : StkR (M 65) (M 66) (e_ :: t_) := by rw [← hr_]; exact sS_
          have sok2_ := stOK_t (e := e_) (r := t_) (by rw [← hr_]; exact sok_)
          refine z_aload_0 dX1_takesBehindPart_49 ?_
          refine z_dup rfl dX1_takesBehindPart_50 ?_
          refine z_getIv (v := (st_.length : Int)) fl_X1_44 zk_7 rfl (s10_) dX1_takesBehindPart_51 ?_
          refine z_iconst dX1_takesBehindPart_54 ?_
          refine z_isub dX1_takesBehindPart_55 ?_
          refine z_putI fl_X1_44 zk_7 rfl dX1_takesBehindPart_56 ?_
          refine z_aload_0 dX1_takesBehindPart_59 ?_
          refine z_getIv (v := su_) fl_X1_32 zk_7 rfl (by rw [zput_ne2 (by decide)]; exact s6_) dX1_takesBehindPart_60 ?_
          refine z_istore_2 rfl dX1_takesBehindPart_63 ?_
          refine z_aload_0 dX1_takesBehindPart_64 ?_
          refine z_aload_0 dX1_takesBehindPart_65 ?_
          refine z_getR (r := 65) fl_X1_38 zk_7 rfl rfl dX1_takesBehindPart_66 ?_
          refine z_aload_0 dX1_takesBehindPart_69 ?_
          refine z_getIv (v := ((st_.length : Int) - 1)) fl_X1_44 zk_7 rfl (by rw [zput_eq]) dX1_takesBehindPart_70 ?_
          refine z_ialdv (n := 5) (v := e_.1) zk_65 rfl (by omega) (by rw [zput_ne (by decide), show (st_.length : Int) - 1 = (t_.length : Int) by omega]; exact sS2_.1) dX1_takesBehindPart_73 ?_
          refine z_putI fl_X1_32 zk_7 rfl dX1_takesBehindPart_74 ?_
          refine z_aload_0 dX1_takesBehindPart_77 ?_
          refine z_aload_0 dX1_takesBehindPart_78 ?_
          refine z_getR (r := 66) fl_X1_41 zk_7 rfl rfl dX1_takesBehindPart_79 ?_
          refine z_aload_0 dX1_takesBehindPart_82 ?_
          refine z_getIv (v := ((st_.length : Int) - 1)) fl_X1_44 zk_7 rfl (by rw [zput_ne2 (by decide), zput_eq]) dX1_takesBehindPart_83 ?_
          refine z_ialdv (n := 5) (v := e_.2) zk_66 rfl (by omega) (by rw [zput_ne (by decide), zput_ne (by decide), show (st_.length : Int) - 1 = (t_.length : Int) by omega]; exact sS2_.2.1) dX1_takesBehindPart_86 ?_
          refine z_putI fl_X1_35 zk_7 rfl dX1_takesBehindPart_87 ?_
          refine z_aload_0 dX1_takesBehindPart_90 ?_
          refine z_iload_2 dX1_takesBehindPart_91 ?_
          refine z_rVN yv_X1_endPart ml_X1_123 (c_X1_endPart (M := (zput (zput (zput M 7 10 ((st_.length : Int) - 1)) 7 6 e_.1) 7 7 e_.2)) (su_ := e_.1) (sg_ := e_.2) (st_ := t_) (v_ := su_) (by rw [zput_ne2 (by decide), zput_ne2 (by decide), zput_ne2 (by decide), r5_]; exact hd) ⟨by rw [zput_ne2 (by decide), zput_eq], zput_eq, by rw [zput_ne2 (by decide), zput_ne2 (by decide), zput_eq]; omega, by rw [zput_ne (by decide), zput_ne (by decide), zput_ne (by decide), zput_ne (by decide), zput_ne (by decide), zput_ne (by decide)]; exact sS2_.2.2, sok2_.1, sok2_.2⟩ (RepO_p (RepO_p (RepO_p hO (by decide)) (by decide)) (by decide))) zk_7 rfl rfl (by decide) (Nat.le_of_ble_eq_true rfl) dX1_takesBehindPart_92 (fun E_ hE_ => ?_)
          refine z_iconst dX1_takesBehindPart_95 ?_
          exact z_zret (by first | exact Or.inl rfl | exact Or.inr rfl | exact zb_01 | omega) dX1_takesBehindPart_96 (zBI (by have e2_ : c_ = 41 := (by omega); subst e2_; rw [hr_]; exact Or.inl ⟨rfl, ⟨_, inK_e hw, hE_.1⟩, outR_tr (outR_tr (outR_tr (outR_p (by decide)) (outR_p (by decide))) (outR_p (by decide))) hE_.2⟩))
        · refine z_iconst dX1_takesBehindPart_47 ?_
          exact z_zret (by first | exact Or.inl rfl | exact Or.inr rfl | exact zb_01 | omega) dX1_takesBehindPart_48 (zBI (Or.inr ⟨rfl, inK_0 hw (by omega) (fun q_ => by first | (exfalso; omega) | exact nil_of (by omega)), rfl⟩))
    · refine z_aload_0 dX1_takesBehindPart_12 ?_
      refine z_iload_1 dX1_takesBehindPart_13 ?_
      refine z_bipush dX1_takesBehindPart_14 (by decide) ?_
      refine z_icmp_ne (tgt := 23) (by omega) (by decide) dX1_takesBehindPart_16 (by decide) (fun c16 => ?_) (fun c16 => ?_)
      · refine z_iconst dX1_takesBehindPart_23 ?_
        refine z_putI fl_X1_35 zk_7 rfl dX1_takesBehindPart_24 ?_
        refine z_aload_0 dX1_takesBehindPart_27 ?_
        refine z_iconst dX1_takesBehindPart_28 ?_
        refine z_putZ (by first | omega | exact zb_01) fl_X1_22 zk_7 rfl dX1_takesBehindPart_29 ?_
        refine z_iconst dX1_takesBehindPart_32 ?_
        exact z_zret (by first | exact Or.inl rfl | exact Or.inr rfl | exact zb_01 | omega) dX1_takesBehindPart_33 (zBI (Or.inl ⟨rfl, ⟨_, inK_s hw (by omega), by first | (rw [if_pos (by omega)]; exact Rep_sw hR (by decide)) | (rw [if_neg (by omega)]; exact Rep_sw hR (by decide))⟩, outR_tr (outR_p (by decide)) (outR_p (by decide))⟩))
      · refine z_iconst dX1_takesBehindPart_19 ?_
        refine z_goto (tgt := 24) dX1_takesBehindPart_20 (by decide) ?_
        refine z_putI fl_X1_35 zk_7 rfl dX1_takesBehindPart_24 ?_
        refine z_aload_0 dX1_takesBehindPart_27 ?_
        refine z_iconst dX1_takesBehindPart_28 ?_
        refine z_putZ (by first | omega | exact zb_01) fl_X1_22 zk_7 rfl dX1_takesBehindPart_29 ?_
        refine z_iconst dX1_takesBehindPart_32 ?_
        exact z_zret (by first | exact Or.inl rfl | exact Or.inr rfl | exact zb_01 | omega) dX1_takesBehindPart_33 (zBI (Or.inl ⟨rfl, ⟨_, inK_s hw (by omega), by first | (rw [if_pos (by omega)]; exact Rep_sw hR (by decide)) | (rw [if_neg (by omega)]; exact Rep_sw hR (by decide))⟩, outR_tr (outR_p (by decide)) (outR_p (by decide))⟩))

theorem c_X1_takesBehindSum {M : zM} {c_ : Int} {nu_ su_ sg_ pl_ lf_ cp_ ho_ co_ va_ : Int} (hR : Rep M ((0, nu_, 0, su_, sg_, []), (pl_, lf_, cp_, ho_, co_, va_))) (hc : -128 ≤ c_ ∧ c_ < 128) : Call yX1_takesBehindSum cX1_takesBehindSum 3 (some .boolean) 1 [vR 7, vI c_] (M) (BI (fun x N => (x = 1 ∧ exO (fun o2 => ouO (pl_, lf_, cp_, ho_, co_, va_) su_ c_ = some o2 ∧ Rep N ((1, nu_, 0, 0, 1, []), o2)) ∧ outR N M) ∨ (x = 0 ∧ ouO (pl_, lf_, cp_, ho_, co_, va_) su_ c_ = none ∧ N = M))) := by
  refine Call.of2 (own := RX1) (lv0 := [some (vR 7), some (vI c_), none]) rfl (by decide) rfl (Nat.le_of_ble_eq_true rfl) ?_
  obtain ⟨⟨r3_, r4_, r5_, rw_, rd_⟩, hS, hO⟩ := id hR
  simp only [] at r3_ r5_ hS hO
  obtain ⟨s6_, s7_, s10_, sS_, sok_, sg2_⟩ := id hS
  obtain ⟨o2_, o11_, o12_, o13_, o14_, o15_, oa_, ob_, oc_, od_⟩ := id hO
  simp only [] at o2_ o11_ o12_ o13_ o14_ o15_ oa_ ob_ oc_ od_
  have cp01_ := cpR_01 (x := lf_) (c := cp_) (y := su_)
  have pb_ := plB_r pl_ c_
  refine z_aload_0 dX1_takesBehindSum_0 ?_
  refine z_iload_1 dX1_takesBehindSum_1 ?_
  refine z_cVI yv_X1_placeBehind ml_X1_130 (c_X1_placeBehind hR (by omega)) zk_7 rfl rfl (by decide) (Nat.le_of_ble_eq_true rfl) dX1_takesBehindSum_2 ?_
  refine z_topI (show _ = plB pl_ c_ from rfl) ?_
  refine z_istore_2 rfl dX1_takesBehindSum_5 ?_
  refine z_iload_2 dX1_takesBehindSum_6 ?_
  refine z_iconst dX1_takesBehindSum_7 ?_
  refine z_icmp_ne (tgt := 13) (by omega) (by decide) dX1_takesBehindSum_8 (by decide) (fun c8 => ?_) (fun c8 => ?_)
  · refine z_aload_0 dX1_takesBehindSum_13 ?_
    refine z_getIv (v := pl_) fl_X1_19 zk_7 rfl (o2_) dX1_takesBehindSum_14 ?_
    rcases (show (pl_ ≠ 1 ∧ pl_ ≠ 3) ∨ pl_ = 1 ∨ pl_ = 3 from by omega) with c17 | c17 | c17
    · refine z_lookup (off := 113) (tgt := 130) (by omega) dX1_takesBehindSum_17 (by decide) (by simp [Op.lookupswitch.offset] <;> (repeat rw [if_neg (by omega)])) (by decide) ?_
      refine z_aload_0 dX1_takesBehindSum_130 ?_
      refine z_aload_0 dX1_takesBehindSum_131 ?_
      refine z_getIv (v := su_) fl_X1_32 zk_7 rfl (s6_) dX1_takesBehindSum_132 ?_
      refine z_putI fl_X1_47 zk_7 rfl dX1_takesBehindSum_135 ?_
      refine z_aload_0 dX1_takesBehindSum_138 ?_
      refine z_iload_1 dX1_takesBehindSum_139 ?_
      refine z_putI fl_X1_50 zk_7 rfl dX1_takesBehindSum_140 ?_
      refine z_aload_0 dX1_takesBehindSum_143 ?_
      refine z_iload_2 dX1_takesBehindSum_144 ?_
      refine z_cVN yv_X1_beginSum ml_X1_103 c_X1_beginSum zk_7 rfl rfl (by decide) (Nat.le_of_ble_eq_true rfl) dX1_takesBehindSum_145 ?_
      refine z_iconst dX1_takesBehindSum_148 ?_
      exact z_zret (by first | exact Or.inl rfl | exact Or.inr rfl | exact zb_01 | omega) dX1_takesBehindSum_149 (zBI (Or.inl ⟨rfl, by first | exact ⟨(plB pl_ c_, lf_, cp_, (if ho_ ≠ 0 ∧ cpR lf_ cp_ su_ ≠ 0 then 1 else 0), co_, va_), by unfold ouO; simp only []; rw [if_neg c8, if_pos (by omega)], Rep_bg (o2 := (plB pl_ c_, lf_, cp_, (if ho_ ≠ 0 ∧ cpR lf_ cp_ su_ ≠ 0 then 1 else 0), co_, va_)) (by rw [zput_ne2 (by decide)]; exact r5_) (by rw [zput_ne2 (by decide)]; exact s10_) (by rw [zput_ne2 (by decide)]; exact o11_) (by rw [zput_ne2 (by decide)]; exact o12_) (by rw [zput_eq]; exact hh_) (by rw [zput_ne2 (by decide)]; exact o14_) (by rw [zput_ne2 (by decide)]; exact o15_) (by show 0 ≤ plB pl_ c_ ∧ plB pl_ c_ ≤ 3; omega) (ob_) (by rw [hh_] at hh2_; exact hh2_) (od_)⟩ | exact ⟨(plB pl_ c_, lf_, cp_, 1, (if co_ ≠ 0 ∨ ho_ ≠ 0 then 1 else 0), (if ho_ ≠ 0 ∧ co_ = 0 then su_ else va_)), by unfold ouO; simp only []; rw [if_neg c8, if_neg (by omega), if_pos (by omega)], Rep_bg (o2 := (plB pl_ c_, lf_, cp_, 1, (if co_ ≠ 0 ∨ ho_ ≠ 0 then 1 else 0), (if ho_ ≠ 0 ∧ co_ = 0 then su_ else va_))) (by rw [zput_ne2 (by decide), zput_ne2 (by decide), zput_ne2 (by decide)]; exact r5_) (by rw [zput_ne2 (by decide), zput_ne2 (by decide), zput_ne2 (by decide)]; exact s10_) (by rw [zput_ne2 (by decide), zput_ne2 (by decide), zput_ne2 (by decide)]; exact o11_) (by rw [zput_ne2 (by decide), zput_ne2 (by decide), zput_ne2 (by decide)]; exact o12_) (zput_eq) (by rw [zput_ne2 (by decide), zput_eq]; exact hc2_) (by rw [zput_ne2 (by decide), zput_ne2 (by decide), zput_eq]; exact hv_) (by show 0 ≤ plB pl_ c_ ∧ plB pl_ c_ ≤ 3; omega) (ob_) (Or.inr rfl) (by rw [hc2_] at hc3_; exact hc3_)⟩ | exact ⟨(plB pl_ c_, su_, c_, ho_, co_, va_), by unfold ouO; simp only []; rw [if_neg c8, if_neg (by omega), if_neg (by omega)], Rep_bg (o2 := (plB pl_ c_, su_, c_, ho_, co_, va_)) (by rw [zput_ne2 (by decide), zput_ne2 (by decide)]; exact r5_) (by rw [zput_ne2 (by decide), zput_ne2 (by decide)]; exact s10_) (by rw [zput_ne2 (by decide), zput_eq]) (zput_eq) (by rw [zput_ne2 (by decide), zput_ne2 (by decide)]; exact o13_) (by rw [zput_ne2 (by decide), zput_ne2 (by decide)]; exact o14_) (by rw [zput_ne2 (by decide), zput_ne2 (by decide)]; exact o15_) (by show 0 ≤ plB pl_ c_ ∧ plB pl_ c_ ≤ 3; omega) (hc) (oc_) (od_)⟩, by first | exact outR_tr (outR_p (by decide)) outR_b | exact outR_tr (outR_tr (outR_p (by decide)) (outR_p (by decide))) outR_b | exact outR_tr (outR_tr (outR_tr (outR_p (by decide)) (outR_p (by decide))) (outR_p (by decide))) outR_b⟩))
    · refine z_lookup (off := 27) (tgt := 44) (by omega) dX1_takesBehindSum_17 (by decide) (by rw [c17]; rfl) (by decide) ?_
      refine z_aload_0 dX1_takesBehindSum_44 ?_
      have J64 : ∀ (h_ : Int), (h_ = if ho_ ≠ 0 ∧ cpR lf_ cp_ su_ ≠ 0 then 1 else 0) → (h_ = 0 ∨ h_ = 1) → Z RX1 cX1_takesBehindSum 3 (some .boolean) 1 (zQ (BI (fun x N => (x = 1 ∧ exO (fun o2 => ouO (pl_, lf_, cp_, ho_, co_, va_) su_ c_ = some o2 ∧ Rep N ((1, nu_, 0, 0, 1, []), o2)) ∧ outR N M) ∨ (x = 0 ∧ ouO (pl_, lf_, cp_, ho_, co_, va_) su_ c_ = none ∧ N = M)))) 64 [some (vR 7), some (vI c_), some (vI (plB pl_ c_))] [vI h_, vR 7] (M) := by
        intro h_ hh_ hh2_
        refine z_putZ (by first | omega | exact zb_01) fl_X1_53 zk_7 rfl dX1_takesBehindSum_64 ?_
        refine z_goto (tgt := 143) dX1_takesBehindSum_67 (by decide) ?_
        refine z_aload_0 dX1_takesBehindSum_143 ?_
        refine z_iload_2 dX1_takesBehindSum_144 ?_
        refine z_cVN yv_X1_beginSum ml_X1_103 c_X1_beginSum zk_7 rfl rfl (by decide) (Nat.le_of_ble_eq_true rfl) dX1_takesBehindSum_145 ?_
        refine z_iconst dX1_takesBehindSum_148 ?_
        exact z_zret (by first | exact Or.inl rfl | exact Or.inr rfl | exact zb_01 | omega) dX1_takesBehindSum_149 (zBI (Or.inl ⟨rfl, by first | exact ⟨(plB pl_ c_, lf_, cp_, (if ho_ ≠ 0 ∧ cpR lf_ cp_ su_ ≠ 0 then 1 else 0), co_, va_), by unfold ouO; simp only []; rw [if_neg c8, if_pos (by omega)], Rep_bg (o2 := (plB pl_ c_, lf_, cp_, (if ho_ ≠ 0 ∧ cpR lf_ cp_ su_ ≠ 0 then 1 else 0), co_, va_)) (by rw [zput_ne2 (by decide)]; exact r5_) (by rw [zput_ne2 (by decide)]; exact s10_) (by rw [zput_ne2 (by decide)]; exact o11_) (by rw [zput_ne2 (by decide)]; exact o12_) (by rw [zput_eq]; exact hh_) (by rw [zput_ne2 (by decide)]; exact o14_) (by rw [zput_ne2 (by decide)]; exact o15_) (by show 0 ≤ plB pl_ c_ ∧ plB pl_ c_ ≤ 3; omega) (ob_) (by rw [hh_] at hh2_; exact hh2_) (od_)⟩ | exact ⟨(plB pl_ c_, lf_, cp_, 1, (if co_ ≠ 0 ∨ ho_ ≠ 0 then 1 else 0), (if ho_ ≠ 0 ∧ co_ = 0 then su_ else va_)), by unfold ouO; simp only []; rw [if_neg c8, if_neg (by omega), if_pos (by omega)], Rep_bg (o2 := (plB pl_ c_, lf_, cp_, 1, (if co_ ≠ 0 ∨ ho_ ≠ 0 then 1 else 0), (if ho_ ≠ 0 ∧ co_ = 0 then su_ else va_))) (by rw [zput_ne2 (by decide), zput_ne2 (by decide), zput_ne2 (by decide)]; exact r5_) (by rw [zput_ne2 (by decide), zput_ne2 (by decide), zput_ne2 (by decide)]; exact s10_) (by rw [zput_ne2 (by decide), zput_ne2 (by decide), zput_ne2 (by decide)]; exact o11_) (by rw [zput_ne2 (by decide), zput_ne2 (by decide), zput_ne2 (by decide)]; exact o12_) (zput_eq) (by rw [zput_ne2 (by decide), zput_eq]; exact hc2_) (by rw [zput_ne2 (by decide), zput_ne2 (by decide), zput_eq]; exact hv_) (by show 0 ≤ plB pl_ c_ ∧ plB pl_ c_ ≤ 3; omega) (ob_) (Or.inr rfl) (by rw [hc2_] at hc3_; exact hc3_)⟩ | exact ⟨(plB pl_ c_, su_, c_, ho_, co_, va_), by unfold ouO; simp only []; rw [if_neg c8, if_neg (by omega), if_neg (by omega)], Rep_bg (o2 := (plB pl_ c_, su_, c_, ho_, co_, va_)) (by rw [zput_ne2 (by decide), zput_ne2 (by decide)]; exact r5_) (by rw [zput_ne2 (by decide), zput_ne2 (by decide)]; exact s10_) (by rw [zput_ne2 (by decide), zput_eq]) (zput_eq) (by rw [zput_ne2 (by decide), zput_ne2 (by decide)]; exact o13_) (by rw [zput_ne2 (by decide), zput_ne2 (by decide)]; exact o14_) (by rw [zput_ne2 (by decide), zput_ne2 (by decide)]; exact o15_) (by show 0 ≤ plB pl_ c_ ∧ plB pl_ c_ ≤ 3; omega) (hc) (oc_) (od_)⟩, by first | exact outR_tr (outR_p (by decide)) outR_b | exact outR_tr (outR_tr (outR_p (by decide)) (outR_p (by decide))) outR_b | exact outR_tr (outR_tr (outR_tr (outR_p (by decide)) (outR_p (by decide))) (outR_p (by decide))) outR_b⟩))
      refine z_aload_0 dX1_takesBehindSum_45 ?_
      refine z_getIv (v := ho_) fl_X1_53 zk_7 rfl (o13_) dX1_takesBehindSum_46 ?_
      refine z_if_eq (tgt := 63) (by omega) dX1_takesBehindSum_49 (by decide) (fun c49 => ?_) (fun c49 => ?_)
      · refine z_iconst dX1_takesBehindSum_63 ?_
        exact J64 _ (by first | exact (if_pos (by omega)).symm | exact (if_neg (by omega)).symm) (by decide)
      · refine z_aload_0 dX1_takesBehindSum_52 ?_
        refine z_cVI yv_X1_comparesRight ml_X1_133 (c_X1_comparesRight hR) zk_7 rfl rfl (by decide) (Nat.le_of_ble_eq_true rfl) dX1_takesBehindSum_53 ?_
        refine z_topI (show _ = cpR lf_ cp_ su_ from rfl) ?_
        refine z_if_eq (tgt := 63) (by omega) dX1_takesBehindSum_56 (by decide) (fun c56 => ?_) (fun c56 => ?_)
        · refine z_iconst dX1_takesBehindSum_63 ?_
          exact J64 _ (by first | exact (if_pos (by omega)).symm | exact (if_neg (by omega)).symm) (by decide)
        · refine z_iconst dX1_takesBehindSum_59 ?_
          refine z_goto (tgt := 64) dX1_takesBehindSum_60 (by decide) ?_
          exact J64 _ (by first | exact (if_pos (by omega)).symm | exact (if_neg (by omega)).symm) (by decide)
    · refine z_lookup (off := 53) (tgt := 70) (by omega) dX1_takesBehindSum_17 (by decide) (by rw [c17]; rfl) (by decide) ?_
      refine z_aload_0 dX1_takesBehindSum_70 ?_
      have J96 : ∀ (v_ : Int), (v_ = if ho_ ≠ 0 ∧ co_ = 0 then su_ else va_) → Z RX1 cX1_takesBehindSum 3 (some .boolean) 1 (zQ (BI (fun x N => (x = 1 ∧ exO (fun o2 => ouO (pl_, lf_, cp_, ho_, co_, va_) su_ c_ = some o2 ∧ Rep N ((1, nu_, 0, 0, 1, []), o2)) ∧ outR N M) ∨ (x = 0 ∧ ouO (pl_, lf_, cp_, ho_, co_, va_) su_ c_ = none ∧ N = M)))) 96 [some (vR 7), some (vI c_), some (vI (plB pl_ c_))] [vI v_, vR 7] (M) := by
        intro v_ hv_
        refine z_putI fl_X1_59 zk_7 rfl dX1_takesBehindSum_96 ?_
        refine z_aload_0 dX1_takesBehindSum_99 ?_
        have J119 : ∀ (q_ : Int), (q_ = if co_ ≠ 0 ∨ ho_ ≠ 0 then 1 else 0) → (q_ = 0 ∨ q_ = 1) → Z RX1 cX1_takesBehindSum 3 (some .boolean) 1 (zQ (BI (fun x N => (x = 1 ∧ exO (fun o2 => ouO (pl_, lf_, cp_, ho_, co_, va_) su_ c_ = some o2 ∧ Rep N ((1, nu_, 0, 0, 1, []), o2)) ∧ outR N M) ∨ (x = 0 ∧ ouO (pl_, lf_, cp_, ho_, co_, va_) su_ c_ = none ∧ N = M)))) 119 [some (vR 7), some (vI c_), some (vI (plB pl_ c_))] [vI q_, vR 7] ((zput M 7 15 v_)) := by
          intro q_ hc2_ hc3_
          refine z_putZ (by first | omega | exact zb_01) fl_X1_56 zk_7 rfl dX1_takesBehindSum_119 ?_
          refine z_aload_0 dX1_takesBehindSum_122 ?_
          refine z_iconst dX1_takesBehindSum_123 ?_
          refine z_putZ (by first | omega | exact zb_01) fl_X1_53 zk_7 rfl dX1_takesBehindSum_124 ?_
          refine z_goto (tgt := 143) dX1_takesBehindSum_127 (by decide) ?_
          refine z_aload_0 dX1_takesBehindSum_143 ?_
          refine z_iload_2 dX1_takesBehindSum_144 ?_
          refine z_cVN yv_X1_beginSum ml_X1_103 c_X1_beginSum zk_7 rfl rfl (by decide) (Nat.le_of_ble_eq_true rfl) dX1_takesBehindSum_145 ?_
          refine z_iconst dX1_takesBehindSum_148 ?_
          exact z_zret (by first | exact Or.inl rfl | exact Or.inr rfl | exact zb_01 | omega) dX1_takesBehindSum_149 (zBI (Or.inl ⟨rfl, by first | exact ⟨(plB pl_ c_, lf_, cp_, (if ho_ ≠ 0 ∧ cpR lf_ cp_ su_ ≠ 0 then 1 else 0), co_, va_), by unfold ouO; simp only []; rw [if_neg c8, if_pos (by omega)], Rep_bg (o2 := (plB pl_ c_, lf_, cp_, (if ho_ ≠ 0 ∧ cpR lf_ cp_ su_ ≠ 0 then 1 else 0), co_, va_)) (by rw [zput_ne2 (by decide)]; exact r5_) (by rw [zput_ne2 (by decide)]; exact s10_) (by rw [zput_ne2 (by decide)]; exact o11_) (by rw [zput_ne2 (by decide)]; exact o12_) (by rw [zput_eq]; exact hh_) (by rw [zput_ne2 (by decide)]; exact o14_) (by rw [zput_ne2 (by decide)]; exact o15_) (by show 0 ≤ plB pl_ c_ ∧ plB pl_ c_ ≤ 3; omega) (ob_) (by rw [hh_] at hh2_; exact hh2_) (od_)⟩ | exact ⟨(plB pl_ c_, lf_, cp_, 1, (if co_ ≠ 0 ∨ ho_ ≠ 0 then 1 else 0), (if ho_ ≠ 0 ∧ co_ = 0 then su_ else va_)), by unfold ouO; simp only []; rw [if_neg c8, if_neg (by omega), if_pos (by omega)], Rep_bg (o2 := (plB pl_ c_, lf_, cp_, 1, (if co_ ≠ 0 ∨ ho_ ≠ 0 then 1 else 0), (if ho_ ≠ 0 ∧ co_ = 0 then su_ else va_))) (by rw [zput_ne2 (by decide), zput_ne2 (by decide), zput_ne2 (by decide)]; exact r5_) (by rw [zput_ne2 (by decide), zput_ne2 (by decide), zput_ne2 (by decide)]; exact s10_) (by rw [zput_ne2 (by decide), zput_ne2 (by decide), zput_ne2 (by decide)]; exact o11_) (by rw [zput_ne2 (by decide), zput_ne2 (by decide), zput_ne2 (by decide)]; exact o12_) (zput_eq) (by rw [zput_ne2 (by decide), zput_eq]; exact hc2_) (by rw [zput_ne2 (by decide), zput_ne2 (by decide), zput_eq]; exact hv_) (by show 0 ≤ plB pl_ c_ ∧ plB pl_ c_ ≤ 3; omega) (ob_) (Or.inr rfl) (by rw [hc2_] at hc3_; exact hc3_)⟩ | exact ⟨(plB pl_ c_, su_, c_, ho_, co_, va_), by unfold ouO; simp only []; rw [if_neg c8, if_neg (by omega), if_neg (by omega)], Rep_bg (o2 := (plB pl_ c_, su_, c_, ho_, co_, va_)) (by rw [zput_ne2 (by decide), zput_ne2 (by decide)]; exact r5_) (by rw [zput_ne2 (by decide), zput_ne2 (by decide)]; exact s10_) (by rw [zput_ne2 (by decide), zput_eq]) (zput_eq) (by rw [zput_ne2 (by decide), zput_ne2 (by decide)]; exact o13_) (by rw [zput_ne2 (by decide), zput_ne2 (by decide)]; exact o14_) (by rw [zput_ne2 (by decide), zput_ne2 (by decide)]; exact o15_) (by show 0 ≤ plB pl_ c_ ∧ plB pl_ c_ ≤ 3; omega) (hc) (oc_) (od_)⟩, by first | exact outR_tr (outR_p (by decide)) outR_b | exact outR_tr (outR_tr (outR_p (by decide)) (outR_p (by decide))) outR_b | exact outR_tr (outR_tr (outR_tr (outR_p (by decide)) (outR_p (by decide))) (outR_p (by decide))) outR_b⟩))
        refine z_aload_0 dX1_takesBehindSum_100 ?_
        refine z_getIv (v := co_) fl_X1_56 zk_7 rfl (by rw [zput_ne2 (by decide)]; exact o14_) dX1_takesBehindSum_101 ?_
        refine z_if_ne (tgt := 114) (by omega) dX1_takesBehindSum_104 (by decide) (fun c104 => ?_) (fun c104 => ?_)
        · refine z_iconst dX1_takesBehindSum_114 ?_
          refine z_goto (tgt := 119) dX1_takesBehindSum_115 (by decide) ?_
          exact J119 _ (by first | exact (if_pos (by omega)).symm | exact (if_neg (by omega)).symm) (by decide)
        · refine z_aload_0 dX1_takesBehindSum_107 ?_
          refine z_getIv (v := ho_) fl_X1_53 zk_7 rfl (by rw [zput_ne2 (by decide)]; exact o13_) dX1_takesBehindSum_108 ?_
          refine z_if_eq (tgt := 118) (by omega) dX1_takesBehindSum_111 (by decide) (fun c111 => ?_) (fun c111 => ?_)
          · refine z_iconst dX1_takesBehindSum_118 ?_
            exact J119 _ (by first | exact (if_pos (by omega)).symm | exact (if_neg (by omega)).symm) (by decide)
          · refine z_iconst dX1_takesBehindSum_114 ?_
            refine z_goto (tgt := 119) dX1_takesBehindSum_115 (by decide) ?_
            exact J119 _ (by first | exact (if_pos (by omega)).symm | exact (if_neg (by omega)).symm) (by decide)
      refine z_aload_0 dX1_takesBehindSum_71 ?_
      refine z_getIv (v := ho_) fl_X1_53 zk_7 rfl (o13_) dX1_takesBehindSum_72 ?_
      refine z_if_eq (tgt := 92) (by omega) dX1_takesBehindSum_75 (by decide) (fun c75 => ?_) (fun c75 => ?_)
      · refine z_aload_0 dX1_takesBehindSum_92 ?_
        refine z_getIv (v := va_) fl_X1_59 zk_7 rfl (o15_) dX1_takesBehindSum_93 ?_
        exact J96 _ (by first | exact (if_pos (by omega)).symm | exact (if_neg (by omega)).symm)
      · refine z_aload_0 dX1_takesBehindSum_78 ?_
        refine z_getIv (v := co_) fl_X1_56 zk_7 rfl (o14_) dX1_takesBehindSum_79 ?_
        refine z_if_ne (tgt := 92) (by omega) dX1_takesBehindSum_82 (by decide) (fun c82 => ?_) (fun c82 => ?_)
        · refine z_aload_0 dX1_takesBehindSum_92 ?_
          refine z_getIv (v := va_) fl_X1_59 zk_7 rfl (o15_) dX1_takesBehindSum_93 ?_
          exact J96 _ (by first | exact (if_pos (by omega)).symm | exact (if_neg (by omega)).symm)
        · refine z_aload_0 dX1_takesBehindSum_85 ?_
          refine z_getIv (v := su_) fl_X1_32 zk_7 rfl (s6_) dX1_takesBehindSum_86 ?_
          refine z_goto (tgt := 96) dX1_takesBehindSum_89 (by decide) ?_
          exact J96 _ (by first | exact (if_pos (by omega)).symm | exact (if_neg (by omega)).symm)
  · refine z_iconst dX1_takesBehindSum_11 ?_
    exact z_zret (by first | exact Or.inl rfl | exact Or.inr rfl | exact zb_01 | omega) dX1_takesBehindSum_12 (zBI (Or.inr ⟨rfl, by unfold ouO; simp only []; rw [if_pos (by omega)], rfl⟩))
