theorem c_X6_dayOfStrike {M : zM} {lo_ n_ : Int} {dg : Nat → Int} (hn_ : 1 ≤ n_ ∧ n_ ≤ 100) (hd : ∀ i_ : Int, 0 ≤ i_ → i_ < n_ → M 10 i_ = dg (i_.toNat + 1)) (hdr : ∀ i_ : Int, 0 ≤ i_ → i_ < n_ → 0 ≤ M 10 i_ ∧ M 10 i_ ≤ 1000000) : Call yX6_dayOfStrike cX6_dayOfStrike 5 (some .int) 0 [vR 0, vI lo_, vI n_] (M) (PI (fhS dg lo_ n_.toNat) M) := by
  refine Call.of2 (own := RX6) (lv0 := [some (vR 0), some (vI lo_), some (vI n_), none, none]) rfl (by decide) rfl (Nat.le_of_ble_eq_true rfl) ?_
  refine z_iload_1 dX6_dayOfStrike_0 ?_
  refine z_istore_3 rfl dX6_dayOfStrike_1 ?_
  refine z_iconst dX6_dayOfStrike_2 ?_
  refine z_istore_4 rfl dX6_dayOfStrike_3 ?_
  have K5 : ∀ (fuel_ : Nat) (l_ : Int) (i_ : Int), n_ - i_ < (fuel_ : Int) → (0 ≤ i_ ∧ i_ ≤ n_) → (l_ = lotS lo_ i_.toNat) → (fhS dg lo_ i_.toNat = 0) → Z RX6 cX6_dayOfStrike 5 (some .int) 0 (zQ (PI (fhS dg lo_ n_.toNat) M)) 5 [some (vR 0), some (vI lo_), some (vI n_), some (vI l_), some (vI i_)] [] (M) := by
    intro fuel_
    induction fuel_ with
    | zero => intro l_ i_ hfuel_ hi_ hl_ hf_; exfalso; omega
    | succ fuel_ ih5 =>
      intro l_ i_ hfuel_ hi_ hl_ hf_
      refine z_iload_4 dX6_dayOfStrike_5 ?_
      refine z_iload_2 dX6_dayOfStrike_7 ?_
      refine z_icmp_ge (tgt := 53) (by omega) (by omega) dX6_dayOfStrike_8 (by decide) (fun c8 => ?_) (fun c8 => ?_)
      · refine z_iconst dX6_dayOfStrike_53 ?_
        exact z_iret dX6_dayOfStrike_54 (zPI (by rw [show n_ = i_ by omega, hf_]) rfl)
      · have hz_ := zushr_r (l_ * 1103515245 + 12345)
        have hdi_ := hd i_ (by omega) (by omega)
        have hdx_ := hdr i_ (by omega) (by omega)
        refine z_iload_3 dX6_dayOfStrike_11 ?_
        refine z_ldcw (n := 1103515245) kc_X6_320 (by decide) dX6_dayOfStrike_12 ?_
        refine z_imul dX6_dayOfStrike_15 ?_
        refine z_sipush dX6_dayOfStrike_16 (by decide) ?_
        refine z_iadd dX6_dayOfStrike_19 ?_
        refine z_istore_3 rfl dX6_dayOfStrike_20 ?_
        refine z_iload_3 dX6_dayOfStrike_21 ?_
        refine z_bipush dX6_dayOfStrike_22 (by decide) ?_
        refine z_iushr dX6_dayOfStrike_24 ?_
        refine z_sipush dX6_dayOfStrike_25 (by decide) ?_
        refine z_iremp (by omega) (by decide) dX6_dayOfStrike_28 ?_
        refine z_aload_0 dX6_dayOfStrike_29 ?_
        refine z_getR (r := 10) fl_X6_65 zk_0 rfl rfl dX6_dayOfStrike_30 ?_
        refine z_iload_4 dX6_dayOfStrike_33 ?_
        refine z_iald (n := 100) zk_10 rfl (by omega) dX6_dayOfStrike_35 ?_
        refine z_bipush dX6_dayOfStrike_36 (by decide) ?_
        refine z_idivp (by omega) (by decide) dX6_dayOfStrike_38 ?_
        refine z_icmp_ge (tgt := 47) (by omega) (by omega) dX6_dayOfStrike_39 (by decide) (fun c39 => ?_) (fun c39 => ?_)
        · refine z_iinc_4 rfl dX6_dayOfStrike_47 ?_
          refine z_goto (tgt := 5) dX6_dayOfStrike_50 (by decide) ?_
          exact ih5 _ _ (by omega) (by omega) (by rw [nat_1 hi_.1, lotS, ← hl_]) (by rw [nat_1 hi_.1, fhS, hf_, if_neg (by omega)]; unfold hitS; rw [← hdi_, lotS, ← hl_]; rw [if_neg (by omega)])
        · refine z_iload_4 dX6_dayOfStrike_42 ?_
          refine z_iconst dX6_dayOfStrike_44 ?_
          refine z_iadd dX6_dayOfStrike_45 ?_
          exact z_iret dX6_dayOfStrike_46 (zPI (by have e_ : fhS dg lo_ (i_.toNat + 1) = i_ + 1 := (by rw [fhS, hf_, if_neg (by omega)]; unfold hitS; rw [← hdi_, lotS, ← hl_, if_pos (by omega)]; omega); rw [show n_.toNat = i_.toNat + 1 + (n_ - i_ - 1).toNat by omega, fhS_st (by rw [e_]; omega), e_]) rfl)
  have L5 : ∀ (l_ : Int) (i_ : Int), (0 ≤ i_ ∧ i_ ≤ n_) → (l_ = lotS lo_ i_.toNat) → (fhS dg lo_ i_.toNat = 0) → Z RX6 cX6_dayOfStrike 5 (some .int) 0 (zQ (PI (fhS dg lo_ n_.toNat) M)) 5 [some (vR 0), some (vI lo_), some (vI n_), some (vI l_), some (vI i_)] [] (M) := fun l_ i_ hi_ hl_ hf_ => K5 ((n_ - i_).toNat + 1) l_ i_ (by omega) hi_ hl_ hf_
  exact L5 _ _ (by omega) (by rfl) (by rfl)

theorem c_X6_life {M : zM} {lo_ n_ : Int} {s_ : Int → Int} (hs : SOK s_) (hWS : WS M 1 s_) (hTx : TxR M 1 s_) (hTb : TxB M 1) (hcp : RdI M) (ht9 : M 1 0 ≤ 999) (ht8 : 0 ≤ M 1 8 ∧ M 1 8 ≤ 60) (hT60 : ∀ j : Int, 0 ≤ j → j < 60 → -128 ≤ M (16 + 1) j ∧ M (16 + 1) j < 128) (hn : -2147483648 ≤ n_ ∧ n_ < 2147483648) : Call yX6_life cX6_life 4 (some .int) 7 [vR 0, vI lo_, vI n_] (M) (RI (if (1 ≤ n_ ∧ n_ ≤ 100) then lsA (dgS s_) lo_ n_ else -1000000001) (fun N => (∀ k_ : Nat, k_ ≠ 7 → k_ ≠ 64 → k_ ≠ 65 → k_ ≠ 66 → k_ ≠ 10 → k_ ≠ 3 → k_ ≠ 13 → k_ ≠ 19 → ¬ (44 ≤ k_ ∧ k_ < 56) → N k_ = (if (1 ≤ n_ ∧ n_ ≤ 100) then M else fnd6 M 0) k_) ∧ RdI N)) := by
  refine Call.of2 (own := RX6) (lv0 := [some (vR 0), some (vI lo_), some (vI n_), none]) rfl (by decide) rfl (Nat.le_of_ble_eq_true rfl) ?_
  refine z_iload_2 dX6_life_0 ?_
  refine z_iconst dX6_life_1 ?_
  refine z_bipush dX6_life_2 (by decide) ?_
  refine z_cSI ys_X6_isOutside ml_X6_69 (c_X6_isOutside (by omega) (by omega) (by omega)) rfl rfl (by decide) (Nat.le_of_ble_eq_true rfl) dX6_life_4 ?_
  refine z_ifb_eq (tgt := 17) dX6_life_7 (by decide) (fun c7 => ?_) (fun c7 => ?_)
  · refine z_aload_0 dX6_life_17 ?_
    refine z_iload_2 dX6_life_18 ?_
    refine z_rVN yv_X6_foresee ml_X6_240 (c_X6_foresee hs hWS hTx hTb hcp (by omega) ht9 ht8 hT60) zk_0 rfl rfl (by decide) (Nat.le_of_ble_eq_true rfl) dX6_life_19 (fun N_ hN_ => ?_)
    have hdr_ : ∀ i_ : Int, 0 ≤ i_ → i_ < n_ → 0 ≤ N_ 10 i_ ∧ N_ 10 i_ ≤ 1000000 := fun i_ a_ b_ => by rw [hN_.2.2 i_ a_ b_]; exact danger_le (SN_all hs.2.2.1)
    refine z_aload_0 dX6_life_22 ?_
    refine z_iload_1 dX6_life_23 ?_
    refine z_iload_2 dX6_life_24 ?_
    refine z_cVI yv_X6_dayOfStrike ml_X6_243 (c_X6_dayOfStrike (M := N_) (dg := dgS s_) (by omega) hN_.2.2 hdr_) zk_0 rfl rfl (by decide) (Nat.le_of_ble_eq_true rfl) dX6_life_25 ?_
    have hfl_ := fhS_le (dg := dgS s_) (l := lo_) n_.toNat
    refine z_istore_3 rfl dX6_life_28 ?_
    refine z_iload_3 dX6_life_29 ?_
    refine z_if_ne (tgt := 37) (by omega) dX6_life_30 (by decide) (fun c30 => ?_) (fun c30 => ?_)
    · refine z_iload_3 dX6_life_37 ?_
      exact z_iret dX6_life_38 (zRI (by rw [if_pos (by omega)]; unfold lsA; first | (rw [if_pos (by omega)]; done) | (rw [if_neg (by omega)]; done)) (by rw [if_pos (by omega)]; exact ⟨hN_.1, hN_.2.1⟩))
    · refine z_iload_2 dX6_life_33 ?_
      refine z_goto (tgt := 38) dX6_life_34 (by decide) ?_
      exact z_iret dX6_life_38 (zRI (by rw [if_pos (by omega)]; unfold lsA; first | (rw [if_pos (by omega)]; done) | (rw [if_neg (by omega)]; done)) (by rw [if_pos (by omega)]; exact ⟨hN_.1, hN_.2.1⟩))
  · refine z_aload_0 dX6_life_10 ?_
    refine z_ldc (n := -1000000001) kc_X6_79 (by decide) dX6_life_11 ?_
    refine z_cVI yv_X6_finding ml_X6_80 (c_X6_finding (by omega)) zk_0 rfl rfl (by decide) (Nat.le_of_ble_eq_true rfl) dX6_life_13 ?_
    exact z_iret dX6_life_16 (zRI (by rw [if_neg (by omega)]) (by rw [if_neg (by omega)]; exact ⟨fun _ _ _ _ _ _ _ _ _ _ => rfl, by unfold RdI fnd6; rw [zput_ne (by decide)]; exact hcp⟩))

theorem c_X6_lives {M : zM} {l_ m_ n_ : Int} {s_ : Int → Int} (hs : SOK s_) (hWS : WS M 1 s_) (hTx : TxR M 1 s_) (hTb : TxB M 1) (hcp : RdI M) (ht9 : M 1 0 ≤ 999) (ht8 : 0 ≤ M 1 8 ∧ M 1 8 ≤ 60) (hT60 : ∀ j : Int, 0 ≤ j → j < 60 → -128 ≤ M (16 + 1) j ∧ M (16 + 1) j < 128) (hm : -2147483648 ≤ m_ ∧ m_ < 2147483648) (hn : -2147483648 ≤ n_ ∧ n_ < 2147483648) : Call yX6_lives cX6_lives 6 (some .int) 7 [vR 0, vI l_, vI m_, vI n_] (M) (RI (if ((1 ≤ m_ ∧ m_ ≤ 50) ∧ (1 ≤ n_ ∧ n_ ≤ 100)) then (lvS (dgS s_) l_ n_.toNat m_.toNat) else -1000000001) (fun N => (∀ k_ : Nat, k_ ≠ 7 → k_ ≠ 64 → k_ ≠ 65 → k_ ≠ 66 → k_ ≠ 10 → k_ ≠ 3 → k_ ≠ 13 → k_ ≠ 19 → ¬ (44 ≤ k_ ∧ k_ < 56) → N k_ = (if ((1 ≤ m_ ∧ m_ ≤ 50) ∧ (1 ≤ n_ ∧ n_ ≤ 100)) then M else fnd6 M 0) k_) ∧ RdI N)) := by
  refine Call.of2 (own := RX6) (lv0 := [some (vR 0), some (vI l_), some (vI m_), some (vI n_), none, none]) rfl (by decide) rfl (Nat.le_of_ble_eq_true rfl) ?_
  refine z_iload_2 dX6_lives_0 ?_
  refine z_iconst dX6_lives_1 ?_
  refine z_bipush dX6_lives_2 (by decide) ?_
  refine z_cSI ys_X6_isOutside ml_X6_69 (c_X6_isOutside (by omega) (by omega) (by omega)) rfl rfl (by decide) (Nat.le_of_ble_eq_true rfl) dX6_lives_4 ?_
  refine z_ifb_ne (tgt := 20) dX6_lives_7 (by decide) (fun c7 => ?_) (fun c7 => ?_)
  · refine z_aload_0 dX6_lives_20 ?_
    refine z_ldc (n := -1000000001) kc_X6_79 (by decide) dX6_lives_21 ?_
    refine z_cVI yv_X6_finding ml_X6_80 (c_X6_finding (by omega)) zk_0 rfl rfl (by decide) (Nat.le_of_ble_eq_true rfl) dX6_lives_23 ?_
    exact z_iret dX6_lives_26 (zRI (by rw [if_neg (by omega)]) (by rw [if_neg (by omega)]; exact ⟨fun _ _ _ _ _ _ _ _ _ _ => rfl, by unfold RdI fnd6; rw [zput_ne (by decide)]; exact hcp⟩))
  · refine z_iload_3 dX6_lives_10 ?_
    refine z_iconst dX6_lives_11 ?_
    refine z_bipush dX6_lives_12 (by decide) ?_
    refine z_cSI ys_X6_isOutside ml_X6_69 (c_X6_isOutside (by omega) (by omega) (by omega)) rfl rfl (by decide) (Nat.le_of_ble_eq_true rfl) dX6_lives_14 ?_
    refine z_ifb_eq (tgt := 27) dX6_lives_17 (by decide) (fun c17 => ?_) (fun c17 => ?_)
    · refine z_aload_0 dX6_lives_27 ?_
      refine z_iload_3 dX6_lives_28 ?_
      refine z_rVN yv_X6_foresee ml_X6_240 (c_X6_foresee hs hWS hTx hTb hcp (by omega) ht9 ht8 hT60) zk_0 rfl rfl (by decide) (Nat.le_of_ble_eq_true rfl) dX6_lives_29 (fun N_ hN_ => ?_)
      have hdr_ : ∀ i_ : Int, 0 ≤ i_ → i_ < n_ → 0 ≤ N_ 10 i_ ∧ N_ 10 i_ ≤ 1000000 := fun i_ a_ b_ => by rw [hN_.2.2 i_ a_ b_]; exact danger_le (SN_all hs.2.2.1)
      refine z_iconst dX6_lives_32 ?_
      refine z_istore_4 rfl dX6_lives_33 ?_
      refine z_iconst dX6_lives_35 ?_
      refine z_istore_5 rfl dX6_lives_36 ?_
      have K38 : ∀ (fuel_ : Nat) (c_ : Int) (i_ : Int), m_ - i_ < (fuel_ : Int) → (0 ≤ i_ ∧ i_ ≤ m_) → (c_ = (lvS (dgS s_) l_ n_.toNat i_.toNat)) → Z RX6 cX6_lives 6 (some .int) 7 (zQ (RI (if ((1 ≤ m_ ∧ m_ ≤ 50) ∧ (1 ≤ n_ ∧ n_ ≤ 100)) then (lvS (dgS s_) l_ n_.toNat m_.toNat) else -1000000001) (fun N => (∀ k_ : Nat, k_ ≠ 7 → k_ ≠ 64 → k_ ≠ 65 → k_ ≠ 66 → k_ ≠ 10 → k_ ≠ 3 → k_ ≠ 13 → k_ ≠ 19 → ¬ (44 ≤ k_ ∧ k_ < 56) → N k_ = (if ((1 ≤ m_ ∧ m_ ≤ 50) ∧ (1 ≤ n_ ∧ n_ ≤ 100)) then M else fnd6 M 0) k_) ∧ RdI N))) 38 [some (vR 0), some (vI l_), some (vI m_), some (vI n_), some (vI c_), some (vI i_)] [] (N_) := by
        intro fuel_
        induction fuel_ with
        | zero => intro c_ i_ hfuel_ hi_ hc_; exfalso; omega
        | succ fuel_ ih38 =>
          intro c_ i_ hfuel_ hi_ hc_
          refine z_iload_5 dX6_lives_38 ?_
          refine z_iload_2 dX6_lives_40 ?_
          refine z_icmp_ge (tgt := 65) (by omega) (by omega) dX6_lives_41 (by decide) (fun c41 => ?_) (fun c41 => ?_)
          · refine z_iload_4 dX6_lives_65 ?_
            exact z_iret dX6_lives_67 (zRI (by rw [if_pos (by omega), hc_, show i_ = m_ by omega]) (by rw [if_pos (by omega)]; exact ⟨hN_.1, hN_.2.1⟩))
          · refine z_aload_0 dX6_lives_44 ?_
            refine z_iload_1 dX6_lives_45 ?_
            refine z_iload_5 dX6_lives_46 ?_
            refine z_iadd dX6_lives_48 ?_
            refine z_iload_3 dX6_lives_49 ?_
            refine z_cVI yv_X6_dayOfStrike ml_X6_243 (c_X6_dayOfStrike (M := N_) (dg := dgS s_) (by omega) hN_.2.2 hdr_) zk_0 rfl rfl (by decide) (Nat.le_of_ble_eq_true rfl) dX6_lives_50 ?_
            have hfl_ := fhS_le (dg := dgS s_) (l := l_ + i_) n_.toNat
            refine z_if_ne (tgt := 59) (by omega) dX6_lives_53 (by decide) (fun c53 => ?_) (fun c53 => ?_)
            · refine z_iinc_5 rfl dX6_lives_59 ?_
              refine z_goto (tgt := 38) dX6_lives_62 (by decide) ?_
              exact ih38 _ _ (by omega) (by omega) (by rw [nat_1 hi_.1, lvS, ← hc_, Int.toNat_of_nonneg hi_.1]; first | (rw [if_pos (by omega)]; done) | (rw [if_neg (by omega)]; omega))
            · refine z_iinc_4 rfl dX6_lives_56 ?_
              refine z_iinc_5 rfl dX6_lives_59 ?_
              refine z_goto (tgt := 38) dX6_lives_62 (by decide) ?_
              exact ih38 _ _ (by omega) (by omega) (by rw [nat_1 hi_.1, lvS, ← hc_, Int.toNat_of_nonneg hi_.1]; first | (rw [if_pos (by omega)]; done) | (rw [if_neg (by omega)]; omega))
      have L38 : ∀ (c_ : Int) (i_ : Int), (0 ≤ i_ ∧ i_ ≤ m_) → (c_ = (lvS (dgS s_) l_ n_.toNat i_.toNat)) → Z RX6 cX6_lives 6 (some .int) 7 (zQ (RI (if ((1 ≤ m_ ∧ m_ ≤ 50) ∧ (1 ≤ n_ ∧ n_ ≤ 100)) then (lvS (dgS s_) l_ n_.toNat m_.toNat) else -1000000001) (fun N => (∀ k_ : Nat, k_ ≠ 7 → k_ ≠ 64 → k_ ≠ 65 → k_ ≠ 66 → k_ ≠ 10 → k_ ≠ 3 → k_ ≠ 13 → k_ ≠ 19 → ¬ (44 ≤ k_ ∧ k_ < 56) → N k_ = (if ((1 ≤ m_ ∧ m_ ≤ 50) ∧ (1 ≤ n_ ∧ n_ ≤ 100)) then M else fnd6 M 0) k_) ∧ RdI N))) 38 [some (vR 0), some (vI l_), some (vI m_), some (vI n_), some (vI c_), some (vI i_)] [] (N_) := fun c_ i_ hi_ hc_ => K38 ((m_ - i_).toNat + 1) c_ i_ (by omega) hi_ hc_
      exact L38 _ _ (by omega) (by rfl)
    · refine z_aload_0 dX6_lives_20 ?_
      refine z_ldc (n := -1000000001) kc_X6_79 (by decide) dX6_lives_21 ?_
      refine z_cVI yv_X6_finding ml_X6_80 (c_X6_finding (by omega)) zk_0 rfl rfl (by decide) (Nat.le_of_ble_eq_true rfl) dX6_lives_23 ?_
      exact z_iret dX6_lives_26 (zRI (by rw [if_neg (by omega)]) (by rw [if_neg (by omega)]; exact ⟨fun _ _ _ _ _ _ _ _ _ _ => rfl, by unfold RdI fnd6; rw [zput_ne (by decide)]; exact hcp⟩))
