theorem c_X6_turns {M : zM} {k_ : Int} (hS : SH6 M) (hO : WOK M 1) (hk : -2147483648 ≤ k_ ∧ k_ < 2147483648) : Call yX6_turns cX6_turns 7 (some .int) 3 [vR 0, vI k_] (M) (PI (if ¬ (0 ≤ k_ ∧ k_ ≤ 3) then -1000000001 else if M (56 + k_.toNat) 0 = 0 then -1000000006 else (turnW (M (60 + k_.toNat)) M 1 (M (56 + k_.toNat) 1).toNat).2) (if ¬ (0 ≤ k_ ∧ k_ ≤ 3) then fnd6 M 0 else if M (56 + k_.toNat) 0 = 0 then fnd6 M 5 else (turnW (M (60 + k_.toNat)) M 1 (M (56 + k_.toNat) 1).toNat).1)) := by
  refine Call.of2 (own := RX6) (lv0 := [some (vR 0), some (vI k_), none, none, none, none, none]) rfl (by decide) rfl (Nat.le_of_ble_eq_true rfl) ?_
  obtain ⟨⟨t0_, t1_⟩, ⟨h0_, h1_⟩, hn, hp⟩ := id hO
  obtain ⟨n0_, n1_⟩ := hn.1
  refine z_aload_0 dX6_turns_0 ?_
  refine z_iload_1 dX6_turns_1 ?_
  refine z_cVI yv_X6_findingOfSheet ml_X6_285 (c_X6_findingOfSheet hS hk) zk_0 rfl rfl (by decide) (Nat.le_of_ble_eq_true rfl) dX6_turns_2 ?_
  generalize hq_ : (if ¬ (0 ≤ k_ ∧ k_ ≤ 3) then (-1000000001 : Int) else if M (56 + k_.toNat) 0 = 0 then -1000000006 else 0) = q_
  have hq2_ : (¬ (0 ≤ k_ ∧ k_ ≤ 3) ∧ q_ = -1000000001) ∨ ((0 ≤ k_ ∧ k_ ≤ 3) ∧ M (56 + k_.toNat) 0 = 0 ∧ q_ = -1000000006) ∨ ((0 ≤ k_ ∧ k_ ≤ 3) ∧ ¬ M (56 + k_.toNat) 0 = 0 ∧ q_ = 0) := by rw [← hq_]; split <;> (try split) <;> omega
  refine z_istore_2 rfl dX6_turns_5 ?_
  refine z_iload_2 dX6_turns_6 ?_
  refine z_if_eq (tgt := 16) (by omega) dX6_turns_7 (by decide) (fun c7 => ?_) (fun c7 => ?_)
  · have hs_ := hS k_.toNat (by omega)
    refine z_iconst dX6_turns_16 ?_
    refine z_istore_3 rfl dX6_turns_17 ?_
    refine z_iconst dX6_turns_18 ?_
    refine z_istore_4 rfl dX6_turns_19 ?_
    have K21 : ∀ (fuel_ : Nat) (c_ : Int) (i_ : Int) (u_ : zM), M (56 + k_.toNat) 1 - i_ < (fuel_ : Int) → (0 ≤ i_ ∧ i_ ≤ M (56 + k_.toNat) 1) → (u_ = (turnW (M (60 + k_.toNat)) M 1 i_.toNat).1) → (c_ = (turnW (M (60 + k_.toNat)) M 1 i_.toNat).2) → Z RX6 cX6_turns 7 (some .int) 3 (zQ (PI (if ¬ (0 ≤ k_ ∧ k_ ≤ 3) then -1000000001 else if M (56 + k_.toNat) 0 = 0 then -1000000006 else (turnW (M (60 + k_.toNat)) M 1 (M (56 + k_.toNat) 1).toNat).2) (if ¬ (0 ≤ k_ ∧ k_ ≤ 3) then fnd6 M 0 else if M (56 + k_.toNat) 0 = 0 then fnd6 M 5 else (turnW (M (60 + k_.toNat)) M 1 (M (56 + k_.toNat) 1).toNat).1))) 21 [some (vR 0), some (vI k_), some (vI q_), some (vI c_), some (vI i_), none, none] [] (u_) := by
      intro fuel_
      induction fuel_ with
      | zero => intro c_ i_ u_ hfuel_ hi_ hu_ hc_; exfalso; omega
      | succ fuel_ ih21 =>
        intro c_ i_ u_ hfuel_ hi_ hu_ hc_
        have uo_ : ∀ k2_ : Nat, k2_ ≠ 1 → k2_ ≠ 10 + 1 → u_ k2_ = M k2_ := fun k2_ h1_ h2_ => by rw [hu_]; exact turnW_out h1_ h2_ _
        have hok_ : WOK u_ 1 := by rw [hu_]; exact turnW_ok isW1 hO _
        obtain ⟨⟨t2_, t3_⟩, ⟨h2_, h3_⟩, hn2_, hp2_⟩ := id hok_
        have J119 : ((u_, c_) = turnW (M (60 + k_.toNat)) M 1 (M (56 + k_.toNat) 1).toNat) → Z RX6 cX6_turns 7 (some .int) 3 (zQ (PI (if ¬ (0 ≤ k_ ∧ k_ ≤ 3) then -1000000001 else if M (56 + k_.toNat) 0 = 0 then -1000000006 else (turnW (M (60 + k_.toNat)) M 1 (M (56 + k_.toNat) 1).toNat).2) (if ¬ (0 ≤ k_ ∧ k_ ≤ 3) then fnd6 M 0 else if M (56 + k_.toNat) 0 = 0 then fnd6 M 5 else (turnW (M (60 + k_.toNat)) M 1 (M (56 + k_.toNat) 1).toNat).1))) 119 [some (vR 0), some (vI k_), some (vI q_), some (vI c_), some (vI i_), none, none] [] (u_) := by
          intro hr_
          refine z_iload_3 dX6_turns_119 ?_
          exact z_iret dX6_turns_120 (zPI (by rw [if_neg (by omega), if_neg (by omega), ← hr_]) (by rw [if_neg (by omega), if_neg (by omega), ← hr_]))
        refine z_iload_4 dX6_turns_21 ?_
        refine z_aload_0 dX6_turns_23 ?_
        refine z_getR (r := 5) fl_X6_36 zk_0 rfl rfl dX6_turns_24 ?_
        refine z_iload_1 dX6_turns_27 ?_
        refine z_aald11 (n := 4) (r := (56 + k_.toNat)) zk_5 rfl (by omega) (zsh_A (by omega)) dX6_turns_28 ?_
        refine z_getIv (v := (M (56 + k_.toNat) 1)) fl_X6_275 (zsh_k (by omega)) rfl (by rw [uo_ _ (by omega) (by omega)]) dX6_turns_29 ?_
        refine z_icmp_ge (tgt := 119) (by omega) (by omega) dX6_turns_32 (by decide) (fun c32 => ?_) (fun c32 => ?_)
        · exact J119  (by first | (rw [show M (56 + k_.toNat) 1 = i_ by omega, hu_, hc_]; done) | (rw [show (M (56 + k_.toNat) 1).toNat = i_.toNat + (M (56 + k_.toNat) 1 - i_).toNat by omega, turnW_stop (by rw [← hu_]; omega), hu_, hc_]))
        · refine z_aload_0 dX6_turns_35 ?_
          refine z_getR (r := 1) fl_X6_10 zk_0 rfl rfl dX6_turns_36 ?_
          refine z_getI fl_X6_102 (zw_k isW1) rfl dX6_turns_39 ?_
          refine z_sipush dX6_turns_42 (by decide) ?_
          refine z_icmp_ge (tgt := 119) (by omega) (by decide) dX6_turns_45 (by decide) (fun c45 => ?_) (fun c45 => ?_)
          · exact J119  (by first | (rw [show M (56 + k_.toNat) 1 = i_ by omega, hu_, hc_]; done) | (rw [show (M (56 + k_.toNat) 1).toNat = i_.toNat + (M (56 + k_.toNat) 1 - i_).toNat by omega, turnW_stop (by rw [← hu_]; omega), hu_, hc_]))
          · have hv_ := hs_.2.2 i_ (by omega) (by omega)
            refine z_aload_0 dX6_turns_48 ?_
            refine z_getR (r := 5) fl_X6_36 zk_0 rfl rfl dX6_turns_49 ?_
            refine z_iload_1 dX6_turns_52 ?_
            refine z_aald11 (n := 4) (r := (56 + k_.toNat)) zk_5 rfl (by omega) (zsh_A (by omega)) dX6_turns_53 ?_
            refine z_getR (r := (60 + k_.toNat)) fl_X6_249 (zsh_k (by omega)) rfl (zsh_R (by omega)) dX6_turns_54 ?_
            refine z_iload_4 dX6_turns_57 ?_
            refine z_laldv (n := 40) (v := (M (60 + k_.toNat) i_)) (zsh_n (by omega)) (zsh_N (by omega)) (by omega) (by rw [uo_ _ (by omega) (by omega)]) dX6_turns_59 ?_
            refine z_lstore_5 rfl dX6_turns_60 ?_
            refine z_lload_5 dX6_turns_62 ?_
            refine z_ldc2 (n := -24) kl_X6_303 (by decide) dX6_turns_64 ?_
            refine z_lcmp_lt (tgt := 113) (by omega) (by decide) dX6_turns_67 dX6_turns_68 (by decide) (fun c67 => ?_) (fun c67 => ?_)
            · refine z_iinc_4 rfl dX6_turns_113 ?_
              refine z_goto (tgt := 21) dX6_turns_116 (by decide) ?_
              refine z_drop_5 ?_
              exact ih21 _ _ _ (by omega) (by omega) (by rw [nat_1 hi_.1, turnW, ← hu_, Int.toNat_of_nonneg hi_.1]; first | (rw [if_pos (show (u_ 1 0 < 999 ∧ (-24 ≤ (M (60 + k_.toNat) i_) ∧ (M (60 + k_.toNat) i_) ≤ 24) ∧ canS (u_ (10 + 1)) (u_ 1 1) (M (60 + k_.toNat) i_)) from ⟨by omega, ⟨by omega, by omega⟩, c90⟩)] <;> rfl) | (rw [if_neg (show ¬ (u_ 1 0 < 999 ∧ (-24 ≤ (M (60 + k_.toNat) i_) ∧ (M (60 + k_.toNat) i_) ≤ 24) ∧ canS (u_ (10 + 1)) (u_ 1 1) (M (60 + k_.toNat) i_)) from fun h_ => c90 h_.2.2)]; exact hu_) | (rw [if_neg (show ¬ (u_ 1 0 < 999 ∧ (-24 ≤ (M (60 + k_.toNat) i_) ∧ (M (60 + k_.toNat) i_) ≤ 24) ∧ canS (u_ (10 + 1)) (u_ 1 1) (M (60 + k_.toNat) i_)) from fun h_ => by have h2_ := h_.2.1; omega)]; exact hu_)) (by rw [nat_1 hi_.1, turnW, ← hu_, Int.toNat_of_nonneg hi_.1]; first | (rw [if_pos (show (u_ 1 0 < 999 ∧ (-24 ≤ (M (60 + k_.toNat) i_) ∧ (M (60 + k_.toNat) i_) ≤ 24) ∧ canS (u_ (10 + 1)) (u_ 1 1) (M (60 + k_.toNat) i_)) from ⟨by omega, ⟨by omega, by omega⟩, c90⟩), hc_] <;> rfl) | (rw [if_neg (show ¬ (u_ 1 0 < 999 ∧ (-24 ≤ (M (60 + k_.toNat) i_) ∧ (M (60 + k_.toNat) i_) ≤ 24) ∧ canS (u_ (10 + 1)) (u_ 1 1) (M (60 + k_.toNat) i_)) from fun h_ => c90 h_.2.2)]; exact hc_) | (rw [if_neg (show ¬ (u_ 1 0 < 999 ∧ (-24 ≤ (M (60 + k_.toNat) i_) ∧ (M (60 + k_.toNat) i_) ≤ 24) ∧ canS (u_ (10 + 1)) (u_ 1 1) (M (60 + k_.toNat) i_)) from fun h_ => by have h2_ := h_.2.1; omega)]; exact hc_))
            · refine z_lload_5 dX6_turns_71 ?_
              refine z_ldc2 (n := 24) kl_X6_305 (by decide) dX6_turns_73 ?_
              refine z_lcmp_gt (tgt := 113) (by omega) (by decide) dX6_turns_76 dX6_turns_77 (by decide) (fun c76 => ?_) (fun c76 => ?_)
              · refine z_iinc_4 rfl dX6_turns_113 ?_
                refine z_goto (tgt := 21) dX6_turns_116 (by decide) ?_
                refine z_drop_5 ?_
                exact ih21 _ _ _ (by omega) (by omega) (by rw [nat_1 hi_.1, turnW, ← hu_, Int.toNat_of_nonneg hi_.1]; first | (rw [if_pos (show (u_ 1 0 < 999 ∧ (-24 ≤ (M (60 + k_.toNat) i_) ∧ (M (60 + k_.toNat) i_) ≤ 24) ∧ canS (u_ (10 + 1)) (u_ 1 1) (M (60 + k_.toNat) i_)) from ⟨by omega, ⟨by omega, by omega⟩, c90⟩)] <;> rfl) | (rw [if_neg (show ¬ (u_ 1 0 < 999 ∧ (-24 ≤ (M (60 + k_.toNat) i_) ∧ (M (60 + k_.toNat) i_) ≤ 24) ∧ canS (u_ (10 + 1)) (u_ 1 1) (M (60 + k_.toNat) i_)) from fun h_ => c90 h_.2.2)]; exact hu_) | (rw [if_neg (show ¬ (u_ 1 0 < 999 ∧ (-24 ≤ (M (60 + k_.toNat) i_) ∧ (M (60 + k_.toNat) i_) ≤ 24) ∧ canS (u_ (10 + 1)) (u_ 1 1) (M (60 + k_.toNat) i_)) from fun h_ => by have h2_ := h_.2.1; omega)]; exact hu_)) (by rw [nat_1 hi_.1, turnW, ← hu_, Int.toNat_of_nonneg hi_.1]; first | (rw [if_pos (show (u_ 1 0 < 999 ∧ (-24 ≤ (M (60 + k_.toNat) i_) ∧ (M (60 + k_.toNat) i_) ≤ 24) ∧ canS (u_ (10 + 1)) (u_ 1 1) (M (60 + k_.toNat) i_)) from ⟨by omega, ⟨by omega, by omega⟩, c90⟩), hc_] <;> rfl) | (rw [if_neg (show ¬ (u_ 1 0 < 999 ∧ (-24 ≤ (M (60 + k_.toNat) i_) ∧ (M (60 + k_.toNat) i_) ≤ 24) ∧ canS (u_ (10 + 1)) (u_ 1 1) (M (60 + k_.toNat) i_)) from fun h_ => c90 h_.2.2)]; exact hc_) | (rw [if_neg (show ¬ (u_ 1 0 < 999 ∧ (-24 ≤ (M (60 + k_.toNat) i_) ∧ (M (60 + k_.toNat) i_) ≤ 24) ∧ canS (u_ (10 + 1)) (u_ 1 1) (M (60 + k_.toNat) i_)) from fun h_ => by have h2_ := h_.2.1; omega)]; exact hc_))
              · refine z_aload_0 dX6_turns_80 ?_
                refine z_getR (r := 1) fl_X6_10 zk_0 rfl rfl dX6_turns_81 ?_
                refine z_lload_5 dX6_turns_84 ?_
                refine z_l2i dX6_turns_86 ?_
                refine z_cVI yv_X5_canShift ml_X6_91 (c_X5_canShift isW1 hp2_ ⟨h2_, h3_⟩ (by omega)) (zw_k isW1) rfl rfl (by decide) (Nat.le_of_ble_eq_true rfl) dX6_turns_87 ?_
                refine z_ifb_eq (tgt := 113) dX6_turns_90 (by decide) (fun c90 => ?_) (fun c90 => ?_)
                · refine z_iinc_4 rfl dX6_turns_113 ?_
                  refine z_goto (tgt := 21) dX6_turns_116 (by decide) ?_
                  refine z_drop_5 ?_
                  exact ih21 _ _ _ (by omega) (by omega) (by rw [nat_1 hi_.1, turnW, ← hu_, Int.toNat_of_nonneg hi_.1]; first | (rw [if_pos (show (u_ 1 0 < 999 ∧ (-24 ≤ (M (60 + k_.toNat) i_) ∧ (M (60 + k_.toNat) i_) ≤ 24) ∧ canS (u_ (10 + 1)) (u_ 1 1) (M (60 + k_.toNat) i_)) from ⟨by omega, ⟨by omega, by omega⟩, c90⟩)] <;> rfl) | (rw [if_neg (show ¬ (u_ 1 0 < 999 ∧ (-24 ≤ (M (60 + k_.toNat) i_) ∧ (M (60 + k_.toNat) i_) ≤ 24) ∧ canS (u_ (10 + 1)) (u_ 1 1) (M (60 + k_.toNat) i_)) from fun h_ => c90 h_.2.2)]; exact hu_) | (rw [if_neg (show ¬ (u_ 1 0 < 999 ∧ (-24 ≤ (M (60 + k_.toNat) i_) ∧ (M (60 + k_.toNat) i_) ≤ 24) ∧ canS (u_ (10 + 1)) (u_ 1 1) (M (60 + k_.toNat) i_)) from fun h_ => by have h2_ := h_.2.1; omega)]; exact hu_)) (by rw [nat_1 hi_.1, turnW, ← hu_, Int.toNat_of_nonneg hi_.1]; first | (rw [if_pos (show (u_ 1 0 < 999 ∧ (-24 ≤ (M (60 + k_.toNat) i_) ∧ (M (60 + k_.toNat) i_) ≤ 24) ∧ canS (u_ (10 + 1)) (u_ 1 1) (M (60 + k_.toNat) i_)) from ⟨by omega, ⟨by omega, by omega⟩, c90⟩), hc_] <;> rfl) | (rw [if_neg (show ¬ (u_ 1 0 < 999 ∧ (-24 ≤ (M (60 + k_.toNat) i_) ∧ (M (60 + k_.toNat) i_) ≤ 24) ∧ canS (u_ (10 + 1)) (u_ 1 1) (M (60 + k_.toNat) i_)) from fun h_ => c90 h_.2.2)]; exact hc_) | (rw [if_neg (show ¬ (u_ 1 0 < 999 ∧ (-24 ≤ (M (60 + k_.toNat) i_) ∧ (M (60 + k_.toNat) i_) ≤ 24) ∧ canS (u_ (10 + 1)) (u_ 1 1) (M (60 + k_.toNat) i_)) from fun h_ => by have h2_ := h_.2.1; omega)]; exact hc_))
                · refine z_aload_0 dX6_turns_93 ?_
                  refine z_getR (r := 1) fl_X6_10 zk_0 rfl rfl dX6_turns_94 ?_
                  refine z_lload_5 dX6_turns_97 ?_
                  refine z_l2i dX6_turns_99 ?_
                  refine z_cVN yv_X5_shift ml_X6_95 (c_X5_shift isW1 (by omega)) (zw_k isW1) rfl rfl (by decide) (Nat.le_of_ble_eq_true rfl) dX6_turns_100 ?_
                  have hs2_ := shiftW_ok isW1 hok_ c90
                  refine z_aload_0 dX6_turns_103 ?_
                  refine z_getR (r := 1) fl_X6_10 zk_0 rfl rfl dX6_turns_104 ?_
                  refine z_cVN yv_X5_endDay ml_X6_105 (c_X5_endDay (M := shiftW u_ 1 (M (60 + k_.toNat) i_)) isW1 hs2_.2.2.1 hs2_.2.2.2 hs2_.1 hs2_.2.1) (zw_k isW1) rfl rfl (by decide) (Nat.le_of_ble_eq_true rfl) dX6_turns_107 ?_
                  refine z_iinc_3 rfl dX6_turns_110 ?_
                  refine z_iinc_4 rfl dX6_turns_113 ?_
                  refine z_goto (tgt := 21) dX6_turns_116 (by decide) ?_
                  refine z_drop_5 ?_
                  exact ih21 _ _ _ (by omega) (by omega) (by rw [nat_1 hi_.1, turnW, ← hu_, Int.toNat_of_nonneg hi_.1]; first | (rw [if_pos (show (u_ 1 0 < 999 ∧ (-24 ≤ (M (60 + k_.toNat) i_) ∧ (M (60 + k_.toNat) i_) ≤ 24) ∧ canS (u_ (10 + 1)) (u_ 1 1) (M (60 + k_.toNat) i_)) from ⟨by omega, ⟨by omega, by omega⟩, c90⟩)] <;> rfl) | (rw [if_neg (show ¬ (u_ 1 0 < 999 ∧ (-24 ≤ (M (60 + k_.toNat) i_) ∧ (M (60 + k_.toNat) i_) ≤ 24) ∧ canS (u_ (10 + 1)) (u_ 1 1) (M (60 + k_.toNat) i_)) from fun h_ => c90 h_.2.2)]; exact hu_) | (rw [if_neg (show ¬ (u_ 1 0 < 999 ∧ (-24 ≤ (M (60 + k_.toNat) i_) ∧ (M (60 + k_.toNat) i_) ≤ 24) ∧ canS (u_ (10 + 1)) (u_ 1 1) (M (60 + k_.toNat) i_)) from fun h_ => by have h2_ := h_.2.1; omega)]; exact hu_)) (by rw [nat_1 hi_.1, turnW, ← hu_, Int.toNat_of_nonneg hi_.1]; first | (rw [if_pos (show (u_ 1 0 < 999 ∧ (-24 ≤ (M (60 + k_.toNat) i_) ∧ (M (60 + k_.toNat) i_) ≤ 24) ∧ canS (u_ (10 + 1)) (u_ 1 1) (M (60 + k_.toNat) i_)) from ⟨by omega, ⟨by omega, by omega⟩, c90⟩), hc_] <;> rfl) | (rw [if_neg (show ¬ (u_ 1 0 < 999 ∧ (-24 ≤ (M (60 + k_.toNat) i_) ∧ (M (60 + k_.toNat) i_) ≤ 24) ∧ canS (u_ (10 + 1)) (u_ 1 1) (M (60 + k_.toNat) i_)) from fun h_ => c90 h_.2.2)]; exact hc_) | (rw [if_neg (show ¬ (u_ 1 0 < 999 ∧ (-24 ≤ (M (60 + k_.toNat) i_) ∧ (M (60 + k_.toNat) i_) ≤ 24) ∧ canS (u_ (10 + 1)) (u_ 1 1) (M (60 + k_.toNat) i_)) from fun h_ => by have h2_ := h_.2.1; omega)]; exact hc_))
    have L21 : ∀ (c_ : Int) (i_ : Int) (u_ : zM), (0 ≤ i_ ∧ i_ ≤ M (56 + k_.toNat) 1) → (u_ = (turnW (M (60 + k_.toNat)) M 1 i_.toNat).1) → (c_ = (turnW (M (60 + k_.toNat)) M 1 i_.toNat).2) → Z RX6 cX6_turns 7 (some .int) 3 (zQ (PI (if ¬ (0 ≤ k_ ∧ k_ ≤ 3) then -1000000001 else if M (56 + k_.toNat) 0 = 0 then -1000000006 else (turnW (M (60 + k_.toNat)) M 1 (M (56 + k_.toNat) 1).toNat).2) (if ¬ (0 ≤ k_ ∧ k_ ≤ 3) then fnd6 M 0 else if M (56 + k_.toNat) 0 = 0 then fnd6 M 5 else (turnW (M (60 + k_.toNat)) M 1 (M (56 + k_.toNat) 1).toNat).1))) 21 [some (vR 0), some (vI k_), some (vI q_), some (vI c_), some (vI i_), none, none] [] (u_) := fun c_ i_ u_ hi_ hu_ hc_ => K21 ((M (56 + k_.toNat) 1 - i_).toNat + 1) c_ i_ u_ (by omega) hi_ hu_ hc_
    exact L21 _ _ _ (by omega) (by rfl) (by rfl)
  · refine z_aload_0 dX6_turns_10 ?_
    refine z_iload_2 dX6_turns_11 ?_
    refine z_cVI yv_X6_finding ml_X6_80 (c_X6_finding (by omega)) zk_0 rfl rfl (by decide) (Nat.le_of_ble_eq_true rfl) dX6_turns_12 ?_
    exact z_iret dX6_turns_15 (zPI (by rcases hq2_ with h_ | h_ | h_ <;> ((repeat (first | rw [if_pos (by omega)] | rw [if_neg (by omega)])) <;> omega)) (by rcases hq2_ with h_ | h_ | h_ <;> first | (exfalso; omega) | (rw [if_pos h_.1, h_.2] <;> rfl) | (rw [if_neg (by omega), if_pos h_.2.1, h_.2.2] <;> rfl)))

theorem c_X6_image {M : zM} (hO : WOK M 1) (hby : ∀ j : Int, 0 ≤ j → j < 60 → -128 ≤ M (16 + 1) j ∧ M (16 + 1) j < 128) (ht8 : 0 ≤ M 1 8 ∧ M 1 8 ≤ 60) : Call yX6_image cX6_image 1 (some .int) 4 [vR 0] (M) (PI 1 (zput (becM M 2 1) 0 3 1)) := by
  refine Call.of2 (own := RX6) (lv0 := [some (vR 0)]) rfl (by decide) rfl (Nat.le_of_ble_eq_true rfl) ?_
  refine z_aload_0 dX6_image_0 ?_
  refine z_getR (r := 2) fl_X6_16 zk_0 rfl rfl dX6_image_1 ?_
  refine z_aload_0 dX6_image_4 ?_
  refine z_getR (r := 1) fl_X6_10 zk_0 rfl rfl dX6_image_5 ?_
  refine z_cVN yv_X5_become ml_X6_228 (c_X5_become isW2 isW1 (by decide) hO.2.2.1.1 ht8 hby) (zw_k isW2) rfl rfl (by decide) (Nat.le_of_ble_eq_true rfl) dX6_image_8 ?_
  refine z_aload_0 dX6_image_11 ?_
  refine z_iconst dX6_image_12 ?_
  refine z_putZ (by first | omega | exact zb_01) fl_X6_22 zk_0 rfl dX6_image_13 ?_
  refine z_iconst dX6_image_16 ?_
  exact z_iret dX6_image_17 (zPI rfl rfl)

theorem c_X6_undo {M : zM} (hi : M 0 3 = 0 ∨ M 0 3 = 1) (hk : M 0 3 = 1 → (0 ≤ M 2 6 ∧ M 2 6 ≤ 12) ∧ (0 ≤ M 2 8 ∧ M 2 8 ≤ 60) ∧ ∀ j : Int, 0 ≤ j → j < 60 → -128 ≤ M (16 + 2) j ∧ M (16 + 2) j < 128) : Call yX6_undo cX6_undo 1 (some .int) 4 [vR 0] (M) (PI (if M 0 3 = 0 then -1000000004 else M 2 0) (if M 0 3 = 0 then fnd6 M 3 else becM M 1 2)) := by
  refine Call.of2 (own := RX6) (lv0 := [some (vR 0)]) rfl (by decide) rfl (Nat.le_of_ble_eq_true rfl) ?_
  refine z_aload_0 dX6_undo_0 ?_
  refine z_getI fl_X6_22 zk_0 rfl dX6_undo_1 ?_
  refine z_if_ne (tgt := 14) (by omega) dX6_undo_4 (by decide) (fun c4 => ?_) (fun c4 => ?_)
  · obtain ⟨k1_, k2_, k3_⟩ := hk (by omega)
    refine z_aload_0 dX6_undo_14 ?_
    refine z_getR (r := 1) fl_X6_10 zk_0 rfl rfl dX6_undo_15 ?_
    refine z_aload_0 dX6_undo_18 ?_
    refine z_getR (r := 2) fl_X6_16 zk_0 rfl rfl dX6_undo_19 ?_
    refine z_cVN yv_X5_become ml_X6_228 (c_X5_become isW1 isW2 (by decide) k1_ k2_ k3_) (zw_k isW1) rfl rfl (by decide) (Nat.le_of_ble_eq_true rfl) dX6_undo_22 ?_
    refine z_aload_0 dX6_undo_25 ?_
    refine z_getR (r := 1) fl_X6_10 zk_0 rfl rfl dX6_undo_26 ?_
    refine z_getIv (v := (M 2 0)) fl_X6_102 (zw_k isW1) rfl (by unfold becM; rw [zrow_ne (by decide), zput_ne2 (by decide), wcopy_out (by omega)]; unfold becB; rw [zput_ne2 (by decide), zrow_ne (by decide), zput_ne2 (by decide), zput_ne2 (by decide), zput_ne2 (by decide), zput_eq]) dX6_undo_29 ?_
    exact z_iret dX6_undo_32 (zPI (by rw [if_neg c4]) (by rw [if_neg c4]))
  · refine z_aload_0 dX6_undo_7 ?_
    refine z_ldc (n := -1000000004) kc_X6_227 (by decide) dX6_undo_8 ?_
    refine z_cVI yv_X6_finding ml_X6_80 (c_X6_finding (by omega)) zk_0 rfl rfl (by decide) (Nat.le_of_ble_eq_true rfl) dX6_undo_10 ?_
    exact z_iret dX6_undo_13 (zPI (by rw [if_pos c4]) (by rw [if_pos c4] <;> rfl))

theorem c_X6_restsOf {M : zM} {i_ : Nat} (hi : i_ < 4) (hv : ∀ j : Int, 0 ≤ j → j < 40 → -9223372036854775808 ≤ M (60 + i_) j ∧ M (60 + i_) j < 9223372036854775808) : Call yX6_restsOf cX6_restsOf 5 (some .int) 0 [vR (60 + i_)] (M) (PI (restsS (M (60 + i_)) 4) M) := by
  refine Call.of2 (own := RX6) (lv0 := [some (vR (60 + i_)), none, none, none, none]) rfl (by decide) rfl (Nat.le_of_ble_eq_true rfl) ?_
  refine z_iconst dX6_restsOf_0 ?_
  refine z_istore_1 rfl dX6_restsOf_1 ?_
  refine z_iconst dX6_restsOf_2 ?_
  refine z_istore_2 rfl dX6_restsOf_3 ?_
  have K4 : ∀ (fuel_ : Nat) (t_ : Int) (f_ : Int), 4 - f_ < (fuel_ : Int) → (0 ≤ f_ ∧ f_ ≤ 4) → (t_ = restsS (M (60 + i_)) f_.toNat) → Z RX6 cX6_restsOf 5 (some .int) 0 (zQ (PI (restsS (M (60 + i_)) 4) M)) 4 [some (vR (60 + i_)), some (vI t_), some (vI f_), none, none] [] (M) := by
    intro fuel_
    induction fuel_ with
    | zero => intro t_ f_ hfuel_ hf_ ha_; exfalso; omega
    | succ fuel_ ih4 =>
      intro t_ f_ hfuel_ hf_ ha_
      refine z_iload_2 dX6_restsOf_4 ?_
      refine z_iconst dX6_restsOf_5 ?_
      refine z_icmp_ge (tgt := 71) (by omega) (by decide) dX6_restsOf_6 (by decide) (fun c6 => ?_) (fun c6 => ?_)
      · refine z_iload_1 dX6_restsOf_71 ?_
        exact z_iret dX6_restsOf_72 (zPI (by rw [ha_, show f_ = 4 by omega]; rfl) rfl)
      · have hx_ : (0 ≤ zxor f_ 1 ∧ zxor f_ 1 < 4) ∧ (0 ≤ zxor f_ 2 ∧ zxor f_ 2 < 4) := by rcases (show f_ = 0 ∨ f_ = 1 ∨ f_ = 2 ∨ f_ = 3 by omega) with h_ | h_ | h_ | h_ <;> rw [h_] <;> decide
        have v1_ := hv f_ (by omega) (by omega)
        have v2_ := hv (zxor f_ 1) (by omega) (by omega)
        have v3_ := hv (4 + f_) (by omega) (by omega)
        have v4_ := hv (4 + zxor f_ 2) (by omega) (by omega)
        refine z_aload_0 dX6_restsOf_9 ?_
        have J26 : Z RX6 cX6_restsOf 5 (some .int) 0 (zQ (PI (restsS (M (60 + i_)) 4) M)) 26 [some (vR (60 + i_)), some (vI t_), some (vI f_), none, none] [vI (zb (M (60 + i_) (zxor f_ 1) ≤ M (60 + i_) f_))] (M) := by
          refine z_istore_3 rfl dX6_restsOf_26 ?_
          have J48 : Z RX6 cX6_restsOf 5 (some .int) 0 (zQ (PI (restsS (M (60 + i_)) 4) M)) 48 [some (vR (60 + i_)), some (vI t_), some (vI f_), some (vI (zb (M (60 + i_) (zxor f_ 1) ≤ M (60 + i_) f_))), none] [vI (zb (M (60 + i_) (4 + zxor f_ 2) ≤ M (60 + i_) (4 + f_)))] (M) := by
            refine z_istore_4 rfl dX6_restsOf_48 ?_
            refine z_iload_3 dX6_restsOf_50 ?_
            refine z_ifb_eq (tgt := 65) dX6_restsOf_51 (by decide) (fun c51 => ?_) (fun c51 => ?_)
            · refine z_iinc_2 rfl dX6_restsOf_65 ?_
              refine z_goto (tgt := 4) dX6_restsOf_68 (by decide) ?_
              refine z_drop_3 ?_
              refine z_drop_4 ?_
              exact ih4 _ _ (by omega) (by omega) (by rw [nat_1 hf_.1, restsS, Int.toNat_of_nonneg hf_.1]; first | (rw [if_pos (show restB (M (60 + i_)) f_ from ⟨c51, c56⟩), ha_]; done) | (rw [if_neg (show ¬ restB (M (60 + i_)) f_ from fun h_ => c51 h_.1), ha_]; done) | (rw [if_neg (show ¬ restB (M (60 + i_)) f_ from fun h_ => c56 h_.2), ha_]; done))
            · refine z_iload_4 dX6_restsOf_54 ?_
              refine z_ifb_eq (tgt := 65) dX6_restsOf_56 (by decide) (fun c56 => ?_) (fun c56 => ?_)
              · refine z_iinc_2 rfl dX6_restsOf_65 ?_
                refine z_goto (tgt := 4) dX6_restsOf_68 (by decide) ?_
                refine z_drop_3 ?_
                refine z_drop_4 ?_
                exact ih4 _ _ (by omega) (by omega) (by rw [nat_1 hf_.1, restsS, Int.toNat_of_nonneg hf_.1]; first | (rw [if_pos (show restB (M (60 + i_)) f_ from ⟨c51, c56⟩), ha_]; done) | (rw [if_neg (show ¬ restB (M (60 + i_)) f_ from fun h_ => c51 h_.1), ha_]; done) | (rw [if_neg (show ¬ restB (M (60 + i_)) f_ from fun h_ => c56 h_.2), ha_]; done))
              · refine z_iload_1 dX6_restsOf_59 ?_
                refine z_iconst dX6_restsOf_60 ?_
                refine z_iload_2 dX6_restsOf_61 ?_
                refine z_ishl dX6_restsOf_62 ?_
                refine z_ior dX6_restsOf_63 ?_
                refine z_istore_1 rfl dX6_restsOf_64 ?_
                refine z_iinc_2 rfl dX6_restsOf_65 ?_
                refine z_goto (tgt := 4) dX6_restsOf_68 (by decide) ?_
                refine z_drop_3 ?_
                refine z_drop_4 ?_
                exact ih4 _ _ (by omega) (by omega) (by rw [nat_1 hf_.1, restsS, Int.toNat_of_nonneg hf_.1]; first | (rw [if_pos (show restB (M (60 + i_)) f_ from ⟨c51, c56⟩), ha_]; done) | (rw [if_neg (show ¬ restB (M (60 + i_)) f_ from fun h_ => c51 h_.1), ha_]; done) | (rw [if_neg (show ¬ restB (M (60 + i_)) f_ from fun h_ => c56 h_.2), ha_]; done))
          refine z_aload_0 dX6_restsOf_27 ?_
          refine z_iconst dX6_restsOf_28 ?_
          refine z_iload_2 dX6_restsOf_29 ?_
          refine z_iconst dX6_restsOf_30 ?_
          refine z_ixor dX6_restsOf_31 ?_
          refine z_iadd dX6_restsOf_32 ?_
          refine z_lald (n := 40) (zsh_n hi) (zsh_N hi) (by omega) dX6_restsOf_33 ?_
          refine z_aload_0 dX6_restsOf_34 ?_
          refine z_iconst dX6_restsOf_35 ?_
          refine z_iload_2 dX6_restsOf_36 ?_
          refine z_iadd dX6_restsOf_37 ?_
          refine z_lald (n := 40) (zsh_n hi) (zsh_N hi) (by omega) dX6_restsOf_38 ?_
          refine z_lcmp_gt (tgt := 47) (by omega) (by omega) dX6_restsOf_39 dX6_restsOf_40 (by decide) (fun c39 => ?_) (fun c39 => ?_)
          · refine z_iconst dX6_restsOf_47 ?_
            exact z_topI (by first | exact (zb_t (by omega)).symm | exact (zb_f (by omega)).symm) (J48  )
          · refine z_iconst dX6_restsOf_43 ?_
            refine z_goto (tgt := 48) dX6_restsOf_44 (by decide) ?_
            exact z_topI (by first | exact (zb_t (by omega)).symm | exact (zb_f (by omega)).symm) (J48  )
        refine z_iload_2 dX6_restsOf_10 ?_
        refine z_iconst dX6_restsOf_11 ?_
        refine z_ixor dX6_restsOf_12 ?_
        refine z_lald (n := 40) (zsh_n hi) (zsh_N hi) (by omega) dX6_restsOf_13 ?_
        refine z_aload_0 dX6_restsOf_14 ?_
        refine z_iload_2 dX6_restsOf_15 ?_
        refine z_lald (n := 40) (zsh_n hi) (zsh_N hi) (by omega) dX6_restsOf_16 ?_
        refine z_lcmp_gt (tgt := 25) (by omega) (by omega) dX6_restsOf_17 dX6_restsOf_18 (by decide) (fun c17 => ?_) (fun c17 => ?_)
        · refine z_iconst dX6_restsOf_25 ?_
          exact z_topI (by first | exact (zb_t (by omega)).symm | exact (zb_f (by omega)).symm) (J26  )
        · refine z_iconst dX6_restsOf_21 ?_
          refine z_goto (tgt := 26) dX6_restsOf_22 (by decide) ?_
          exact z_topI (by first | exact (zb_t (by omega)).symm | exact (zb_f (by omega)).symm) (J26  )
  have L4 : ∀ (t_ : Int) (f_ : Int), (0 ≤ f_ ∧ f_ ≤ 4) → (t_ = restsS (M (60 + i_)) f_.toNat) → Z RX6 cX6_restsOf 5 (some .int) 0 (zQ (PI (restsS (M (60 + i_)) 4) M)) 4 [some (vR (60 + i_)), some (vI t_), some (vI f_), none, none] [] (M) := fun t_ f_ hf_ ha_ => K4 ((4 - f_).toNat + 1) t_ f_ (by omega) hf_ ha_
  exact L4 _ _ (by omega) (by rfl)

theorem c_X6_rests {M : zM} {k_ : Int} (hS : SH6 M) (hk : -2147483648 ≤ k_ ∧ k_ < 2147483648) : Call yX6_rests cX6_rests 3 (some .int) 4 [vR 0, vI k_] (M) (PI (if (if ¬ (0 ≤ k_ ∧ k_ ≤ 3) then -1000000001 else if M (56 + k_.toNat) 0 = 0 then -1000000006 else if M (56 + k_.toNat) 1 ≠ 8 then -1000000007 else if inAll (M (60 + k_.toNat)) 1000000 (M (56 + k_.toNat) 1).toNat = true then 0 else -1000000003) = 0 then restsS (M (60 + k_.toNat)) 4 else (if ¬ (0 ≤ k_ ∧ k_ ≤ 3) then -1000000001 else if M (56 + k_.toNat) 0 = 0 then -1000000006 else if M (56 + k_.toNat) 1 ≠ 8 then -1000000007 else if inAll (M (60 + k_.toNat)) 1000000 (M (56 + k_.toNat) 1).toNat = true then 0 else -1000000003)) (if (if ¬ (0 ≤ k_ ∧ k_ ≤ 3) then -1000000001 else if M (56 + k_.toNat) 0 = 0 then -1000000006 else if M (56 + k_.toNat) 1 ≠ 8 then -1000000007 else if inAll (M (60 + k_.toNat)) 1000000 (M (56 + k_.toNat) 1).toNat = true then 0 else -1000000003) = 0 then M else fnd6 M (-1000000001 - (if ¬ (0 ≤ k_ ∧ k_ ≤ 3) then -1000000001 else if M (56 + k_.toNat) 0 = 0 then -1000000006 else if M (56 + k_.toNat) 1 ≠ 8 then -1000000007 else if inAll (M (60 + k_.toNat)) 1000000 (M (56 + k_.toNat) 1).toNat = true then 0 else -1000000003)))) := by
  refine Call.of2 (own := RX6) (lv0 := [some (vR 0), some (vI k_), none]) rfl (by decide) rfl (Nat.le_of_ble_eq_true rfl) ?_
  refine z_aload_0 dX6_rests_0 ?_
  refine z_iload_1 dX6_rests_1 ?_
  refine z_cVI yv_X6_findingOfPair ml_X6_246 (c_X6_findingOfPair hS hk) zk_0 rfl rfl (by decide) (Nat.le_of_ble_eq_true rfl) dX6_rests_2 ?_
  generalize hq_ : (if ¬ (0 ≤ k_ ∧ k_ ≤ 3) then (-1000000001 : Int) else if M (56 + k_.toNat) 0 = 0 then -1000000006 else if M (56 + k_.toNat) 1 ≠ 8 then -1000000007 else if inAll (M (60 + k_.toNat)) 1000000 (M (56 + k_.toNat) 1).toNat = true then 0 else -1000000003) = q_
  have hq3_ : q_ = 0 ∨ (-1000000007 ≤ q_ ∧ q_ ≤ -1000000001) := by rw [← hq_]; split <;> (try split) <;> (try split) <;> (try split) <;> omega
  refine z_istore_2 rfl dX6_rests_5 ?_
  refine z_iload_2 dX6_rests_6 ?_
  refine z_if_eq (tgt := 16) (by omega) dX6_rests_7 (by decide) (fun c7 => ?_) (fun c7 => ?_)
  · have hk0_ : 0 ≤ k_ ∧ k_ ≤ 3 := Classical.byContradiction (fun h_ => by rw [if_pos h_] at hq_; omega)
    have hs_ := hS k_.toNat (by omega)
    refine z_aload_0 dX6_rests_16 ?_
    refine z_getR (r := 5) fl_X6_36 zk_0 rfl rfl dX6_rests_17 ?_
    refine z_iload_1 dX6_rests_20 ?_
    refine z_aald11 (n := 4) (r := (56 + k_.toNat)) zk_5 rfl (by omega) (zsh_A (by omega)) dX6_rests_21 ?_
    refine z_getR (r := (60 + k_.toNat)) fl_X6_249 (zsh_k (by omega)) rfl (zsh_R (by omega)) dX6_rests_22 ?_
    refine z_cSI ys_X6_restsOf ml_X6_253 (c_X6_restsOf (by omega) hs_.2.2) rfl rfl (by decide) (Nat.le_of_ble_eq_true rfl) dX6_rests_25 ?_
    exact z_iret dX6_rests_28 (zPI (by rw [if_pos c7]) (by rw [if_pos c7]))
  · refine z_aload_0 dX6_rests_10 ?_
    refine z_iload_2 dX6_rests_11 ?_
    refine z_cVI yv_X6_finding ml_X6_80 (c_X6_finding (by omega)) zk_0 rfl rfl (by decide) (Nat.le_of_ble_eq_true rfl) dX6_rests_12 ?_
    exact z_iret dX6_rests_15 (zPI (by rw [if_neg c7]) (by rw [if_neg c7]))
