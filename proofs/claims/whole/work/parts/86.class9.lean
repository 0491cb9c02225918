theorem moveR_congr {p p2 : Int → Int} {h f v : Int} (h0 : p 0 = p2 0) (h4 : p 4 = p2 4) : moveR p h f v = moveR p2 h f v := by
  have e : cnF p h f = cnF p2 h f := by
    funext m
    unfold cnF
    rw [h0, h4]
  unfold moveR
  have : ∀ (P Q : Int → Prop) [DecidablePred P] [DecidablePred Q] (sd : Int), P = Q → ∀ n : Nat, mvT P sd n = mvT Q sd n := by
    intro P Q _ _ sd hPQ n
    subst hPQ
    induction n with
    | zero => rfl
    | succ n ih =>
      rw [mvT, mvT, ih]
      by_cases q : P (sd * ((n + 1 : Nat) : Int))
      · rw [if_pos q, if_pos q]
      · rw [if_neg q, if_neg q]
  exact this _ _ _ e _
theorem c_X5_moveBy {M : zM} {l_ : List (Int × Int)} {w : Nat} (hw : isW w) (hO : WOK M w) (hT : (M w 8 = 0 ∧ l_ = []) ∨ ((1 ≤ M w 8 ∧ M w 8 ≤ 60) ∧ TopF (M (16 + w)) (M w 8) (M w 8) l_)) (hby : ∀ j : Int, 0 ≤ j → j < M w 8 → -128 ≤ M (16 + w) j ∧ M (16 + w) j < 128) (hcp : RdI M) : Call yX5_moveBy cX5_moveBy 5 (some .int) 5 [vR w, vR 7] (M) (RI (moveR (M (10 + w)) (M w 1) (M (10 + w) 5) (evV (nmV (M w 6).toNat (gW M w) (M w 0) (M w 1) (M (10 + w) 5)) l_)) (fun N => outX N M ∧ RdI N)) := by
  refine Call.of2 (own := RX5) (lv0 := [some (vR w), some (vR 7), none, none, none]) rfl (by decide) rfl (Nat.le_of_ble_eq_true rfl) ?_
  have hw3_ := isW_le hw
  obtain ⟨⟨t0_, t1_⟩, ⟨h0_, h1_⟩, hn, hp⟩ := id hO
  have hnx_ := nextC_le (g := gW M w) (today := M w 0) t0_ (M w 6).toNat (WN_all hn)
  have wv_ := zw_r (evV (nmV (M w 6).toNat (gW M w) (M w 0) (M w 1) (M (10 + w) 5)) l_)
  have cl_ := clmp_le (zw (evV (nmV (M w 6).toNat (gW M w) (M w 0) (M w 1) (M (10 + w) 5)) l_))
  have zm_ := zmin_c 24 (zw (evV (nmV (M w 6).toNat (gW M w) (M w 0) (M w 1) (M (10 + w) 5)) l_))
  have sg_ := sgn1_c (clmp (zw (evV (nmV (M w 6).toNat (gW M w) (M w 0) (M w 1) (M (10 + w) 5)) l_)))
  have za_ := zabs_cases (clmp (zw (evV (nmV (M w 6).toNat (gW M w) (M w 0) (M w 1) (M (10 + w) 5)) l_)))
  refine z_bipush dX5_moveBy_0 (by decide) ?_
  refine z_bipush dX5_moveBy_2 (by decide) ?_
  refine z_aload_1 dX5_moveBy_4 ?_
  refine z_aload_0 dX5_moveBy_5 ?_
  refine z_rVI yv_X1_told ml_X5_91 (c_X1_told hw hO hT hby hcp) zk_7 rfl rfl (by decide) (Nat.le_of_ble_eq_true rfl) dX5_moveBy_6 (fun N_ hN_ => ?_)
  have nw_ : N_ w = M w := hN_.1 w (by omega) (by omega) (by omega) (by omega)
  have np_ : N_ (10 + w) = M (10 + w) := hN_.1 _ (by omega) (by omega) (by omega) (by omega)
  refine z_wrap ?_
  refine z_mmin ml_X5_71 (by decide) (Nat.le_of_ble_eq_true rfl) (by decide) (by omega) dX5_moveBy_9 ?_
  refine z_topI (show (if (zw (evV (nmV (M w 6).toNat (gW M w) (M w 0) (M w 1) (M (10 + w) 5)) l_)) < 24 then (zw (evV (nmV (M w 6).toNat (gW M w) (M w 0) (M w 1) (M (10 + w) 5)) l_)) else 24) = (zmin 24 (zw (evV (nmV (M w 6).toNat (gW M w) (M w 0) (M w 1) (M (10 + w) 5)) l_))) from rfl) ?_
  refine z_mmax ml_X5_80 (by decide) (Nat.le_of_ble_eq_true rfl) (by decide) (by omega) dX5_moveBy_12 ?_
  refine z_topI (show (if (-24) < (zmin 24 (zw (evV (nmV (M w 6).toNat (gW M w) (M w 0) (M w 1) (M (10 + w) 5)) l_))) then (zmin 24 (zw (evV (nmV (M w 6).toNat (gW M w) (M w 0) (M w 1) (M (10 + w) 5)) l_))) else (-24)) = (clmp (zw (evV (nmV (M w 6).toNat (gW M w) (M w 0) (M w 1) (M (10 + w) 5)) l_))) from by unfold clmp; split <;> split <;> (try split) <;> omega) ?_
  refine z_istore_2 rfl dX5_moveBy_15 ?_
  have J25 : Z RX5 cX5_moveBy 5 (some .int) 5 (zQ (RI (moveR (M (10 + w)) (M w 1) (M (10 + w) 5) (evV (nmV (M w 6).toNat (gW M w) (M w 0) (M w 1) (M (10 + w) 5)) l_)) (fun N => outX N M ∧ RdI N))) 25 [some (vR w), some (vR 7), some (vI (clmp (zw (evV (nmV (M w 6).toNat (gW M w) (M w 0) (M w 1) (M (10 + w) 5)) l_)))), none, none] [vI (sgn1 (clmp (zw (evV (nmV (M w 6).toNat (gW M w) (M w 0) (M w 1) (M (10 + w) 5)) l_))))] (N_) := by
    refine z_istore_3 rfl dX5_moveBy_25 ?_
    refine z_iload_2 dX5_moveBy_26 ?_
    refine z_iload_3 dX5_moveBy_27 ?_
    refine z_imul dX5_moveBy_28 ?_
    refine z_topI (show _ = (zabs (clmp (zw (evV (nmV (M w 6).toNat (gW M w) (M w 0) (M w 1) (M (10 + w) 5)) l_)))) by rcases sg_ with h_ | h_ <;> rw [h_.2] <;> omega) ?_
    refine z_istore_4 rfl dX5_moveBy_29 ?_
    have K31 : ∀ (fuel_ : Nat) (n_ : Int), n_ < (fuel_ : Int) → (0 ≤ n_ ∧ n_ ≤ 24) → (mvT (cnF (M (10 + w)) (M w 1) (M (10 + w) 5)) (sgn1 (clmp (zw (evV (nmV (M w 6).toNat (gW M w) (M w 0) (M w 1) (M (10 + w) 5)) l_)))) n_.toNat = (moveR (M (10 + w)) (M w 1) (M (10 + w) 5) (evV (nmV (M w 6).toNat (gW M w) (M w 0) (M w 1) (M (10 + w) 5)) l_))) → Z RX5 cX5_moveBy 5 (some .int) 5 (zQ (RI (moveR (M (10 + w)) (M w 1) (M (10 + w) 5) (evV (nmV (M w 6).toNat (gW M w) (M w 0) (M w 1) (M (10 + w) 5)) l_)) (fun N => outX N M ∧ RdI N))) 31 [some (vR w), some (vR 7), some (vI (clmp (zw (evV (nmV (M w 6).toNat (gW M w) (M w 0) (M w 1) (M (10 + w) 5)) l_)))), some (vI (sgn1 (clmp (zw (evV (nmV (M w 6).toNat (gW M w) (M w 0) (M w 1) (M (10 + w) 5)) l_))))), some (vI n_)] [] (N_) := by
      intro fuel_
      induction fuel_ with
      | zero => intro n_ hfuel_ hn_ hr_; exfalso; omega
      | succ fuel_ ih31 =>
        intro n_ hfuel_ hn_ hr_
        have hsn_ : (sgn1 (clmp (zw (evV (nmV (M w 6).toNat (gW M w) (M w 0) (M w 1) (M (10 + w) 5)) l_)))) * n_ = n_ ∨ (sgn1 (clmp (zw (evV (nmV (M w 6).toNat (gW M w) (M w 0) (M w 1) (M (10 + w) 5)) l_)))) * n_ = -n_ := by rcases sg_ with h_ | h_ <;> rw [h_.2] <;> omega
        refine z_iload_4 dX5_moveBy_31 ?_
        refine z_if_le (tgt := 53) (by omega) dX5_moveBy_33 (by decide) (fun c33 => ?_) (fun c33 => ?_)
        · refine z_iload_3 dX5_moveBy_53 ?_
          refine z_iload_4 dX5_moveBy_54 ?_
          refine z_imul dX5_moveBy_56 ?_
          exact z_iret dX5_moveBy_57 (zRI (by rw [← hr_]; first | (rw [show n_ = 0 by omega]; show _ = (0 : Int); omega) | (rw [show n_.toNat = (n_ - 1).toNat + 1 by omega, mvT, show (((n_ - 1).toNat + 1 : Nat) : Int) = n_ by omega, if_pos c44])) hN_)
        · refine z_aload_0 dX5_moveBy_36 ?_
          refine z_iload_3 dX5_moveBy_37 ?_
          refine z_iload_4 dX5_moveBy_38 ?_
          refine z_imul dX5_moveBy_40 ?_
          refine z_cVI yv_X5_canShift ml_X5_97 (c_X5_canShift (M := N_) hw (by rw [np_]; exact hp) (by rw [nw_]; exact ⟨h0_, h1_⟩) (by omega)) (zw_k hw) rfl rfl (by decide) (Nat.le_of_ble_eq_true rfl) dX5_moveBy_41 ?_
          rw [nw_, np_]
          refine z_topI (show _ = zb ((cnF (M (10 + w)) (M w 1) (M (10 + w) 5)) ((sgn1 (clmp (zw (evV (nmV (M w 6).toNat (gW M w) (M w 0) (M w 1) (M (10 + w) 5)) l_)))) * n_)) from rfl) ?_
          refine z_ifb_ne (tgt := 53) dX5_moveBy_44 (by decide) (fun c44 => ?_) (fun c44 => ?_)
          · refine z_iload_3 dX5_moveBy_53 ?_
            refine z_iload_4 dX5_moveBy_54 ?_
            refine z_imul dX5_moveBy_56 ?_
            exact z_iret dX5_moveBy_57 (zRI (by rw [← hr_]; first | (rw [show n_ = 0 by omega]; show _ = (0 : Int); omega) | (rw [show n_.toNat = (n_ - 1).toNat + 1 by omega, mvT, show (((n_ - 1).toNat + 1 : Nat) : Int) = n_ by omega, if_pos c44])) hN_)
          · refine z_iinc_4 rfl dX5_moveBy_47 ?_
            refine z_goto (tgt := 31) dX5_moveBy_50 (by decide) ?_
            exact ih31 _ (by omega) (by omega) (by rw [← hr_, show n_.toNat = (n_ + -1).toNat + 1 by omega, mvT, show (((n_ + -1).toNat + 1 : Nat) : Int) = n_ by omega, if_neg c44])
    have L31 : ∀ (n_ : Int), (0 ≤ n_ ∧ n_ ≤ 24) → (mvT (cnF (M (10 + w)) (M w 1) (M (10 + w) 5)) (sgn1 (clmp (zw (evV (nmV (M w 6).toNat (gW M w) (M w 0) (M w 1) (M (10 + w) 5)) l_)))) n_.toNat = (moveR (M (10 + w)) (M w 1) (M (10 + w) 5) (evV (nmV (M w 6).toNat (gW M w) (M w 0) (M w 1) (M (10 + w) 5)) l_))) → Z RX5 cX5_moveBy 5 (some .int) 5 (zQ (RI (moveR (M (10 + w)) (M w 1) (M (10 + w) 5) (evV (nmV (M w 6).toNat (gW M w) (M w 0) (M w 1) (M (10 + w) 5)) l_)) (fun N => outX N M ∧ RdI N))) 31 [some (vR w), some (vR 7), some (vI (clmp (zw (evV (nmV (M w 6).toNat (gW M w) (M w 0) (M w 1) (M (10 + w) 5)) l_)))), some (vI (sgn1 (clmp (zw (evV (nmV (M w 6).toNat (gW M w) (M w 0) (M w 1) (M (10 + w) 5)) l_))))), some (vI n_)] [] (N_) := fun n_ hn_ hr_ => K31 ((n_).toNat + 1) n_ (by omega) hn_ hr_
    exact L31 _ (by omega) (by rfl)
  refine z_iload_2 dX5_moveBy_16 ?_
  refine z_if_ge (tgt := 24) (by omega) dX5_moveBy_17 (by decide) (fun c17 => ?_) (fun c17 => ?_)
  · refine z_iconst dX5_moveBy_24 ?_
    exact z_topI (by unfold sgn1; first | (rw [if_pos (by omega)]; done) | (rw [if_neg (by omega)]; done)) (J25  )
  · refine z_iconst dX5_moveBy_20 ?_
    refine z_goto (tgt := 25) dX5_moveBy_21 (by decide) ?_
    exact z_topI (by unfold sgn1; first | (rw [if_pos (by omega)]; done) | (rw [if_neg (by omega)]; done)) (J25  )

theorem c_X6_says {M : zM} {a_ : Int} {l_ : List (Int × Int)} (hO : WOK M 1) (hT : (M 1 8 = 0 ∧ l_ = []) ∨ ((1 ≤ M 1 8 ∧ M 1 8 ≤ 60) ∧ TopF (M (16 + 1)) (M 1 8) (M 1 8) l_)) (hby : ∀ j : Int, 0 ≤ j → j < M 1 8 → -128 ≤ M (16 + 1) j ∧ M (16 + 1) j < 128) (hcp : RdI M) (ha : -2147483648 ≤ a_ ∧ a_ < 2147483648) : Call yX6_says cX6_says 2 (some .int) 6 [vR 0, vI a_] (M) (RI (if (0 ≤ a_ ∧ a_ ≤ 1) then (if a_ = 0 then (evV (nmV (M 1 6).toNat (gW M 1) (M 1 0) (M 1 1) (M (10 + 1) 5)) l_) else (moveR (M (10 + 1)) (M 1 1) (M (10 + 1) 5) (evV (nmV (M 1 6).toNat (gW M 1) (M 1 0) (M 1 1) (M (10 + 1) 5)) l_))) else -1000000001) (fun N => outX N (if (0 ≤ a_ ∧ a_ ≤ 1) then M else fnd6 M 0) ∧ RdI N)) := by
  refine Call.of2 (own := RX6) (lv0 := [some (vR 0), some (vI a_)]) rfl (by decide) rfl (Nat.le_of_ble_eq_true rfl) ?_
  obtain ⟨⟨t0_, t1_⟩, ⟨h0_, h1_⟩, hn, hp⟩ := id hO
  obtain ⟨n0_, n1_⟩ := hn.1
  refine z_iload_1 dX6_says_0 ?_
  rcases (show (a_ ≠ 0 ∧ a_ ≠ 1) ∨ a_ = 0 ∨ a_ = 1 from by omega) with c1 | c1 | c1
  · refine z_lookup (off := 51) (tgt := 52) (by omega) dX6_says_1 (by decide) (by simp [Op.lookupswitch.offset] <;> (repeat rw [if_neg (by omega)])) (by decide) ?_
    refine z_aload_0 dX6_says_52 ?_
    refine z_ldc (n := -1000000001) kc_X6_79 (by decide) dX6_says_53 ?_
    refine z_cVI yv_X6_finding ml_X6_80 (c_X6_finding (by omega)) zk_0 rfl rfl (by decide) (Nat.le_of_ble_eq_true rfl) dX6_says_55 ?_
    exact z_iret dX6_says_58 (zRI (by rw [if_neg (by omega)] <;> rfl) (by rw [if_neg (by omega)]; exact ⟨fun _ _ _ _ _ => rfl, by unfold RdI fnd6; rw [zput_ne (by decide)]; exact hcp⟩))
  · refine z_lookup (off := 27) (tgt := 28) (by omega) dX6_says_1 (by decide) (by rw [c1]; rfl) (by decide) ?_
    refine z_aload_0 dX6_says_28 ?_
    refine z_getR (r := 7) fl_X6_47 zk_0 rfl rfl dX6_says_29 ?_
    refine z_aload_0 dX6_says_32 ?_
    refine z_getR (r := 1) fl_X6_10 zk_0 rfl rfl dX6_says_33 ?_
    refine z_rVI yv_X1_told ml_X6_200 (c_X1_told isW1 hO hT hby hcp) zk_7 rfl rfl (by decide) (Nat.le_of_ble_eq_true rfl) dX6_says_36 (fun N_ hN_ => ?_)
    exact z_iret dX6_says_39 (zRI (by rw [if_pos (by omega), if_pos (by omega)]) (by rw [if_pos (by omega)]; exact hN_))
  · refine z_lookup (off := 39) (tgt := 40) (by omega) dX6_says_1 (by decide) (by rw [c1]; rfl) (by decide) ?_
    refine z_aload_0 dX6_says_40 ?_
    refine z_getR (r := 1) fl_X6_10 zk_0 rfl rfl dX6_says_41 ?_
    refine z_aload_0 dX6_says_44 ?_
    refine z_getR (r := 7) fl_X6_47 zk_0 rfl rfl dX6_says_45 ?_
    refine z_rVI yv_X5_moveBy ml_X6_108 (c_X5_moveBy isW1 hO hT hby hcp) (zw_k isW1) rfl rfl (by decide) (Nat.le_of_ble_eq_true rfl) dX6_says_48 (fun N_ hN_ => ?_)
    exact z_iret dX6_says_51 (zRI (by rw [if_pos (by omega), if_neg (by omega)]) (by rw [if_pos (by omega)]; exact hN_))

theorem c_X6_rule1 {M : zM} {l_ : List (Int × Int)} (h5 : 0 ≤ M 0 5 ∧ M 0 5 ≤ 60) (hb4 : ∀ j : Int, 0 ≤ j → j < 60 → -128 ≤ M 4 j ∧ M 4 j < 128) (hcp : RdI M) (hF : TopF (M 4) (M 0 5) (M 0 5) l_) : Call yX6_rule cX6_rule 2 (some .int) 5 [vR 0] (M) (RI 0 (fun N => (∀ k_ : Nat, k_ ≠ 7 → k_ ≠ 65 → k_ ≠ 66 → k_ ≠ 0 → k_ ≠ 1 → k_ ≠ 17 → N k_ = M k_) ∧ (∀ j_ : Int, j_ ≠ 5 → N 0 j_ = M 0 j_) ∧ (∀ j_ : Int, j_ ≠ 8 → N 1 j_ = M 1 j_) ∧ N 0 5 = 0 ∧ N 1 8 = M 0 5 ∧ N 17 = zcopy (M 4) (M 17) 0 0 (M 0 5) ∧ RdI N)) := by
  refine Call.of2 (own := RX6) (lv0 := [some (vR 0), none]) rfl (by decide) rfl (Nat.le_of_ble_eq_true rfl) ?_
  refine z_aload_0 dX6_rule_0 ?_
  refine z_getR (r := 7) fl_X6_47 zk_0 rfl rfl dX6_rule_1 ?_
  refine z_aload_0 dX6_rule_4 ?_
  refine z_getR (r := 4) fl_X6_26 zk_0 rfl rfl dX6_rule_5 ?_
  refine z_aload_0 dX6_rule_8 ?_
  refine z_getI fl_X6_30 zk_0 rfl dX6_rule_9 ?_
  refine z_rVI yv_X1_faultOf ml_X6_180 (c_X1_faultOf1 (tb := 4) zk_4 rfl (by decide) h5 (fun j_ a_ b_ => hb4 j_ a_ (by omega)) hcp hF) zk_7 rfl rfl (by decide) (Nat.le_of_ble_eq_true rfl) dX6_rule_12 (fun N_ hN_ => ?_)
  have n0_ : N_ 0 = M 0 := hN_.1 0 (by decide) (by decide) (by decide)
  have n4_ : N_ 4 = M 4 := hN_.1 4 (by decide) (by decide) (by decide)
  have n17_ : N_ (16 + 1) = M (16 + 1) := hN_.1 _ (by decide) (by decide) (by decide)
  refine z_istore_1 rfl dX6_rule_15 ?_
  refine z_iload_1 dX6_rule_16 ?_
  refine z_iconst dX6_rule_17 ?_
  refine z_icmp_eq (tgt := 25) (by decide) (by decide) dX6_rule_18 (by decide) (fun c18 => ?_) (fun c18 => ?_)
  · refine z_aload_0 dX6_rule_25 ?_
    refine z_getR (r := 4) fl_X6_26 zk_0 rfl rfl dX6_rule_26 ?_
    refine z_iconst dX6_rule_29 ?_
    refine z_aload_0 dX6_rule_30 ?_
    refine z_getR (r := 1) fl_X6_10 zk_0 rfl rfl dX6_rule_31 ?_
    refine z_getR (r := (16 + 1)) fl_X6_184 (zw_k isW1) rfl (zw_tR isW1) dX6_rule_34 ?_
    refine z_iconst dX6_rule_37 ?_
    refine z_aload_0 dX6_rule_38 ?_
    refine z_getIv (v := (M 0 5)) fl_X6_30 zk_0 rfl (by rw [n0_]) dX6_rule_39 ?_
    refine z_acopyB (n1 := 60) (n2 := 60) ml_X6_187 (by decide) (Nat.le_of_ble_eq_true rfl) zk_4 (zw_t isW1) rfl (zw_tN isW1) (by decide) (by decide) (by omega) (by omega) (by omega) (fun j_ h1_ h2_ => by rw [n4_]; exact hb4 j_ (by omega) (by omega)) dX6_rule_42 ?_
    rw [n4_, n17_]
    refine z_aload_0 dX6_rule_45 ?_
    refine z_getR (r := 1) fl_X6_10 zk_0 rfl rfl dX6_rule_46 ?_
    refine z_aload_0 dX6_rule_49 ?_
    refine z_getIv (v := (M 0 5)) fl_X6_30 zk_0 rfl (by rw [zrow_ne (by decide), n0_]) dX6_rule_50 ?_
    refine z_putI fl_X6_193 (zw_k isW1) rfl dX6_rule_53 ?_
    refine z_aload_0 dX6_rule_56 ?_
    refine z_iconst dX6_rule_57 ?_
    refine z_putI fl_X6_30 zk_0 rfl dX6_rule_58 ?_
    refine z_iconst dX6_rule_61 ?_
    exact z_iret dX6_rule_62 (zRI rfl ⟨fun k_ a_ b_ c_ d_ e_ f_ => by rw [zput_ne d_, zput_ne e_, zrow_ne f_]; exact hN_.1 k_ a_ b_ c_, fun j_ h_ => by rw [zput_ne2 h_, zput_ne (by decide), zrow_ne (by decide), n0_], fun j_ h_ => by rw [zput_ne (by decide), zput_ne2 h_, zrow_ne (by decide), hN_.1 1 (by decide) (by decide) (by decide)], zput_eq, by rw [zput_ne (by decide), zput_eq], by rw [zput_ne (by decide), zput_ne (by decide)]; exact zrow_eq, by unfold RdI; rw [zput_ne (by decide), zput_ne (by decide), zrow_ne (by decide)]; exact hN_.2⟩)
  · exact absurd c18 (by decide)

theorem c_X6_rule0 {M : zM} {b_ : Int} (h5 : 0 ≤ M 0 5 ∧ M 0 5 ≤ 60) (hb4 : ∀ j : Int, 0 ≤ j → j < 60 → -128 ≤ M 4 j ∧ M 4 j < 128) (hcp : RdI M) (hb : 0 ≤ b_ ∧ b_ ≤ M 0 5) (hF : TopNO (M 4) (M 0 5) b_ ∨ (b_ < M 0 5 ∧ exL (fun l => TopF (M 4) (M 0 5) b_ l))) : Call yX6_rule cX6_rule 2 (some .int) 5 [vR 0] (M) (RI (-1 - b_) (fun N => outT N M ∧ RdI N)) := by
  refine Call.of2 (own := RX6) (lv0 := [some (vR 0), none]) rfl (by decide) rfl (Nat.le_of_ble_eq_true rfl) ?_
  refine z_aload_0 dX6_rule_0 ?_
  refine z_getR (r := 7) fl_X6_47 zk_0 rfl rfl dX6_rule_1 ?_
  refine z_aload_0 dX6_rule_4 ?_
  refine z_getR (r := 4) fl_X6_26 zk_0 rfl rfl dX6_rule_5 ?_
  refine z_aload_0 dX6_rule_8 ?_
  refine z_getI fl_X6_30 zk_0 rfl dX6_rule_9 ?_
  refine z_rVI yv_X1_faultOf ml_X6_180 (c_X1_faultOf0 (tb := 4) (b_ := b_) zk_4 rfl (by decide) h5 (fun j_ a_ b_ => hb4 j_ a_ (by omega)) hcp hb.2 hF) zk_7 rfl rfl (by decide) (Nat.le_of_ble_eq_true rfl) dX6_rule_12 (fun N_ hN_ => ?_)
  refine z_istore_1 rfl dX6_rule_15 ?_
  refine z_iload_1 dX6_rule_16 ?_
  refine z_iconst dX6_rule_17 ?_
  refine z_icmp_eq (tgt := 25) (by omega) (by decide) dX6_rule_18 (by decide) (fun c18 => ?_) (fun c18 => ?_)
  · exfalso; omega
  · refine z_iconst dX6_rule_21 ?_
    refine z_iload_1 dX6_rule_22 ?_
    refine z_isub dX6_rule_23 ?_
    exact z_iret dX6_rule_24 (zRI rfl hN_)
