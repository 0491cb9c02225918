theorem c_X7_goesR {M : zM} {u : Int → Int} {m_ : Int} (hs : -24 ≤ m_ ∧ m_ ≤ 24) : Call yX7_goes cX7_goes 2 none 1 [vR 75, vI m_] (zrow M 76 u) (PN (zrow M 76 (goesS u m_))) := by
  have h := c_X7_goes (M := zrow M 76 u) hs
  rw [zput_row, zput_row, zrow_eq, zrow_eq, zrow_row, zrow_row] at h
  exact h
theorem c_X7_endsR {M : zM} {u : Int → Int} (h : SOK u) : Call yX7_ends cX7_ends 1 none 4 [vR 75] (zrow M 76 u) (PN (zrow M 76 (endS u))) := by
  have h2 := c_X7_ends (M := zrow M 76 u) (by rw [zrow_eq]; exact h.2.2.1) (by rw [zrow_eq]; exact h.2.2.2) (by rw [zrow_eq]; exact h.2.1) (by rw [zrow_eq]; exact h.1)
  rw [zrow_eq, zrow_row] at h2
  exact h2
theorem c_X7_canR {M : zM} {u : Int → Int} {m_ : Int} (h : SOK u) (hs : -24 ≤ m_ ∧ m_ ≤ 24) : Call yX7_can cX7_can 4 (some .boolean) 1 [vR 75, vI (u 1), vI (u 7), vI m_] (zrow M 76 u) (PI (zb (canR u m_)) (zrow M 76 u)) := by
  have p := pOK_s h.2.2.2
  have h2 := c_X7_can (M := zrow M 76 u) (h := u 1) (f_ := u 7) (s_ := m_) (by rw [zrow_eq]; exact h.2.2.2) h.2.1 (by omega) hs
  rw [zrow_eq] at h2
  exact h2
theorem c_X7_heightR {M : zM} {u : Int → Int} : Call yX7_height cX7_height 1 (some .int) 1 [vR 75] (zrow M 76 u) (PI (u 1) (zrow M 76 u)) := by
  have h2 := c_X7_height (M := zrow M 76 u)
  rw [zrow_eq] at h2
  exact h2
theorem c_X7_fuelR {M : zM} {u : Int → Int} : Call yX7_fuel cX7_fuel 1 (some .int) 1 [vR 75] (zrow M 76 u) (PI (u 7) (zrow M 76 u)) := by
  have h2 := c_X7_fuel (M := zrow M 76 u)
  rw [zrow_eq] at h2
  exact h2
theorem c_X7_todayR {M : zM} {u : Int → Int} : Call yX7_today cX7_today 1 (some .int) 1 [vR 75] (zrow M 76 u) (PI (u 0) (zrow M 76 u)) := by
  have h2 := c_X7_today (M := zrow M 76 u)
  rw [zrow_eq] at h2
  exact h2
theorem c_X7_turns {M : zM} {k_ : Int} (hS : SH7 M) (hO : SOK (M 76)) (hk : -2147483648 ≤ k_ ∧ k_ < 2147483648) : Call yX7_turns cX7_turns 7 (some .int) 5 [vR 75, vI k_] (M) (PI (if ¬ (0 ≤ k_ ∧ k_ ≤ 3) then -1000000001 else if M 87 k_ = 0 then -1000000006 else (turnS (fun j_ => M 89 (40 * k_ + j_)) (M 76) (M 88 k_).toNat).2) (if ¬ (0 ≤ k_ ∧ k_ ≤ 3) then fnd7 M 0 else if M 87 k_ = 0 then fnd7 M 5 else zrow M 76 (turnS (fun j_ => M 89 (40 * k_ + j_)) (M 76) (M 88 k_).toNat).1)) := by
  refine Call.of2 (own := RX7) (lv0 := [some (vR 75), some (vI k_), none, none, none, none, none]) rfl (by decide) rfl (Nat.le_of_ble_eq_true rfl) ?_
  refine z_aload_0 dX7_turns_0 ?_
  refine z_iload_1 dX7_turns_1 ?_
  refine z_cVI yv_X7_lacks ml_X7_316 (c_X7_lacks hS hk) zk_75 rfl rfl (by decide) (Nat.le_of_ble_eq_true rfl) dX7_turns_2 ?_
  generalize hq_ : (if ¬ (0 ≤ k_ ∧ k_ ≤ 3) then (0 : Int) else if M 87 k_ = 0 then 5 else -1) = q_
  have hq2_ : (¬ (0 ≤ k_ ∧ k_ ≤ 3) ∧ q_ = 0) ∨ ((0 ≤ k_ ∧ k_ ≤ 3) ∧ M 87 k_ = 0 ∧ q_ = 5) ∨ ((0 ≤ k_ ∧ k_ ≤ 3) ∧ ¬ M 87 k_ = 0 ∧ q_ = -1) := by rw [← hq_]; split <;> (try split) <;> omega
  refine z_istore_2 rfl dX7_turns_5 ?_
  refine z_iload_2 dX7_turns_6 ?_
  refine z_if_lt (tgt := 16) (by omega) dX7_turns_7 (by decide) (fun c7 => ?_) (fun c7 => ?_)
  · have hs_ := hS k_ (by omega) (by omega)
    refine z_iconst dX7_turns_16 ?_
    refine z_istore_3 rfl dX7_turns_17 ?_
    refine z_iconst dX7_turns_18 ?_
    refine z_istore_4 rfl dX7_turns_19 ?_
    have K21 : ∀ (fuel_ : Nat) (c_ : Int) (i_ : Int) (u_ : Int → Int), M 88 k_ - i_ < (fuel_ : Int) → (0 ≤ i_ ∧ i_ ≤ M 88 k_) → (u_ = (turnS (fun j_ => M 89 (40 * k_ + j_)) (M 76) i_.toNat).1) → (c_ = (turnS (fun j_ => M 89 (40 * k_ + j_)) (M 76) i_.toNat).2) → Z RX7 cX7_turns 7 (some .int) 5 (zQ (PI (if ¬ (0 ≤ k_ ∧ k_ ≤ 3) then -1000000001 else if M 87 k_ = 0 then -1000000006 else (turnS (fun j_ => M 89 (40 * k_ + j_)) (M 76) (M 88 k_).toNat).2) (if ¬ (0 ≤ k_ ∧ k_ ≤ 3) then fnd7 M 0 else if M 87 k_ = 0 then fnd7 M 5 else zrow M 76 (turnS (fun j_ => M 89 (40 * k_ + j_)) (M 76) (M 88 k_).toNat).1))) 21 [some (vR 75), some (vI k_), some (vI q_), some (vI c_), some (vI i_), none, none] [] ((zrow M 76 u_)) := by
      intro fuel_
      induction fuel_ with
      | zero => intro c_ i_ u_ hfuel_ hi_ hu_ hc_; exfalso; omega
      | succ fuel_ ih21 =>
        intro c_ i_ u_ hfuel_ hi_ hu_ hc_
        have hok_ : SOK u_ := by rw [hu_]; exact turnS_ok hO _
        have J100 : ((u_, c_) = turnS (fun j_ => M 89 (40 * k_ + j_)) (M 76) (M 88 k_).toNat) → Z RX7 cX7_turns 7 (some .int) 5 (zQ (PI (if ¬ (0 ≤ k_ ∧ k_ ≤ 3) then -1000000001 else if M 87 k_ = 0 then -1000000006 else (turnS (fun j_ => M 89 (40 * k_ + j_)) (M 76) (M 88 k_).toNat).2) (if ¬ (0 ≤ k_ ∧ k_ ≤ 3) then fnd7 M 0 else if M 87 k_ = 0 then fnd7 M 5 else zrow M 76 (turnS (fun j_ => M 89 (40 * k_ + j_)) (M 76) (M 88 k_).toNat).1))) 100 [some (vR 75), some (vI k_), some (vI q_), some (vI c_), some (vI i_), none, none] [] ((zrow M 76 u_)) := by
          intro hr_
          refine z_iload_3 dX7_turns_100 ?_
          exact z_iret dX7_turns_101 (zPI (by rw [if_neg (by omega), if_neg (by omega), ← hr_]) (by rw [if_neg (by omega), if_neg (by omega), ← hr_]))
        refine z_iload_4 dX7_turns_21 ?_
        refine z_aload_0 dX7_turns_23 ?_
        refine z_getR (r := 88) fl_X7_47 zk_75 rfl rfl dX7_turns_24 ?_
        refine z_iload_1 dX7_turns_27 ?_
        refine z_ialdv (n := 4) (v := (M 88 k_)) zk_88 rfl (by omega) (by rw [zrow_ne (by decide)]) dX7_turns_28 ?_
        refine z_icmp_ge (tgt := 100) (by omega) (by omega) dX7_turns_29 (by decide) (fun c29 => ?_) (fun c29 => ?_)
        · exact J100  (by first | (rw [show M 88 k_ = i_ by omega, hu_, hc_]; done) | (rw [show (M 88 k_).toNat = i_.toNat + (M 88 k_ - i_).toNat by omega, turnS_stop (by rw [← hu_]; omega), hu_, hc_]))
        · have h0_ := hok_.1
          refine z_aload_0 dX7_turns_32 ?_
          refine z_getR (r := 76) fl_X7_7 zk_75 rfl rfl dX7_turns_33 ?_
          refine z_iconst dX7_turns_36 ?_
          refine z_laldv (n := 214) (v := (u_ 0)) zk_76 rfl (by omega) (by rw [zrow_eq]) dX7_turns_37 ?_
          refine z_ldc2 (n := 999) kl_X7_77 (by decide) dX7_turns_38 ?_
          refine z_lcmp_ge (tgt := 100) (by omega) (by decide) dX7_turns_41 dX7_turns_42 (by decide) (fun c41 => ?_) (fun c41 => ?_)
          · exact J100  (by first | (rw [show M 88 k_ = i_ by omega, hu_, hc_]; done) | (rw [show (M 88 k_).toNat = i_.toNat + (M 88 k_ - i_).toNat by omega, turnS_stop (by rw [← hu_]; omega), hu_, hc_]))
          · have hv_ := hs_.2.2 i_ (by omega) (by omega)
            refine z_aload_0 dX7_turns_45 ?_
            refine z_iload_1 dX7_turns_46 ?_
            refine z_iload_4 dX7_turns_47 ?_
            refine z_cVJ yv_X7_numberOf ml_X7_298 (c_X7_numberOf (by omega) (by omega)) zk_75 rfl rfl (by decide) (Nat.le_of_ble_eq_true rfl) dX7_turns_49 ?_
            rw [zrow_ne (by decide)]
            refine z_lstore_5 rfl dX7_turns_52 ?_
            refine z_lload_5 dX7_turns_54 ?_
            refine z_cSI ys_X7_isMove ml_X7_107 (c_X7_isMove (by omega)) rfl rfl (by decide) (Nat.le_of_ble_eq_true rfl) dX7_turns_56 ?_
            refine z_ifb_eq (tgt := 94) dX7_turns_59 (by decide) (fun c59 => ?_) (fun c59 => ?_)
            · refine z_iinc_4 rfl dX7_turns_94 ?_
              refine z_goto (tgt := 21) dX7_turns_97 (by decide) ?_
              refine z_drop_5 ?_
              exact ih21 _ _ u_ (by omega) (by omega) (by rw [nat_1 hi_.1, turnS, ← hu_, Int.toNat_of_nonneg hi_.1]; first | (rw [if_pos (show (u_ 0 < 999 ∧ (-24 ≤ (M 89 (40 * k_ + i_)) ∧ (M 89 (40 * k_ + i_)) ≤ 24) ∧ canR u_ (M 89 (40 * k_ + i_))) from ⟨by omega, c59, c77⟩)] <;> rfl) | (rw [if_neg (show ¬ (u_ 0 < 999 ∧ (-24 ≤ (M 89 (40 * k_ + i_)) ∧ (M 89 (40 * k_ + i_)) ≤ 24) ∧ canR u_ (M 89 (40 * k_ + i_))) from fun h_ => c77 h_.2.2)]; exact hu_) | (rw [if_neg (show ¬ (u_ 0 < 999 ∧ (-24 ≤ (M 89 (40 * k_ + i_)) ∧ (M 89 (40 * k_ + i_)) ≤ 24) ∧ canR u_ (M 89 (40 * k_ + i_))) from fun h_ => c59 h_.2.1)]; exact hu_)) (by rw [nat_1 hi_.1, turnS, ← hu_, Int.toNat_of_nonneg hi_.1]; first | (rw [if_pos (show (u_ 0 < 999 ∧ (-24 ≤ (M 89 (40 * k_ + i_)) ∧ (M 89 (40 * k_ + i_)) ≤ 24) ∧ canR u_ (M 89 (40 * k_ + i_))) from ⟨by omega, c59, c77⟩), hc_] <;> rfl) | (rw [if_neg (show ¬ (u_ 0 < 999 ∧ (-24 ≤ (M 89 (40 * k_ + i_)) ∧ (M 89 (40 * k_ + i_)) ≤ 24) ∧ canR u_ (M 89 (40 * k_ + i_))) from fun h_ => c77 h_.2.2)]; exact hc_) | (rw [if_neg (show ¬ (u_ 0 < 999 ∧ (-24 ≤ (M 89 (40 * k_ + i_)) ∧ (M 89 (40 * k_ + i_)) ≤ 24) ∧ canR u_ (M 89 (40 * k_ + i_))) from fun h_ => c59 h_.2.1)]; exact hc_))
            · refine z_aload_0 dX7_turns_62 ?_
              refine z_aload_0 dX7_turns_63 ?_
              refine z_cVI yv_X7_height ml_X7_111 c_X7_heightR zk_75 rfl rfl (by decide) (Nat.le_of_ble_eq_true rfl) dX7_turns_64 ?_
              refine z_aload_0 dX7_turns_67 ?_
              refine z_cVI yv_X7_fuel ml_X7_115 c_X7_fuelR zk_75 rfl rfl (by decide) (Nat.le_of_ble_eq_true rfl) dX7_turns_68 ?_
              refine z_lload_5 dX7_turns_71 ?_
              refine z_l2i dX7_turns_73 ?_
              refine z_cVI yv_X7_can ml_X7_118 (c_X7_canR hok_ c59) zk_75 rfl rfl (by decide) (Nat.le_of_ble_eq_true rfl) dX7_turns_74 ?_
              refine z_ifb_eq (tgt := 94) dX7_turns_77 (by decide) (fun c77 => ?_) (fun c77 => ?_)
              · refine z_iinc_4 rfl dX7_turns_94 ?_
                refine z_goto (tgt := 21) dX7_turns_97 (by decide) ?_
                refine z_drop_5 ?_
                exact ih21 _ _ u_ (by omega) (by omega) (by rw [nat_1 hi_.1, turnS, ← hu_, Int.toNat_of_nonneg hi_.1]; first | (rw [if_pos (show (u_ 0 < 999 ∧ (-24 ≤ (M 89 (40 * k_ + i_)) ∧ (M 89 (40 * k_ + i_)) ≤ 24) ∧ canR u_ (M 89 (40 * k_ + i_))) from ⟨by omega, c59, c77⟩)] <;> rfl) | (rw [if_neg (show ¬ (u_ 0 < 999 ∧ (-24 ≤ (M 89 (40 * k_ + i_)) ∧ (M 89 (40 * k_ + i_)) ≤ 24) ∧ canR u_ (M 89 (40 * k_ + i_))) from fun h_ => c77 h_.2.2)]; exact hu_) | (rw [if_neg (show ¬ (u_ 0 < 999 ∧ (-24 ≤ (M 89 (40 * k_ + i_)) ∧ (M 89 (40 * k_ + i_)) ≤ 24) ∧ canR u_ (M 89 (40 * k_ + i_))) from fun h_ => c59 h_.2.1)]; exact hu_)) (by rw [nat_1 hi_.1, turnS, ← hu_, Int.toNat_of_nonneg hi_.1]; first | (rw [if_pos (show (u_ 0 < 999 ∧ (-24 ≤ (M 89 (40 * k_ + i_)) ∧ (M 89 (40 * k_ + i_)) ≤ 24) ∧ canR u_ (M 89 (40 * k_ + i_))) from ⟨by omega, c59, c77⟩), hc_] <;> rfl) | (rw [if_neg (show ¬ (u_ 0 < 999 ∧ (-24 ≤ (M 89 (40 * k_ + i_)) ∧ (M 89 (40 * k_ + i_)) ≤ 24) ∧ canR u_ (M 89 (40 * k_ + i_))) from fun h_ => c77 h_.2.2)]; exact hc_) | (rw [if_neg (show ¬ (u_ 0 < 999 ∧ (-24 ≤ (M 89 (40 * k_ + i_)) ∧ (M 89 (40 * k_ + i_)) ≤ 24) ∧ canR u_ (M 89 (40 * k_ + i_))) from fun h_ => c59 h_.2.1)]; exact hc_))
              · refine z_aload_0 dX7_turns_80 ?_
                refine z_lload_5 dX7_turns_81 ?_
                refine z_l2i dX7_turns_83 ?_
                refine z_cVN yv_X7_goes ml_X7_122 (c_X7_goesR c59) zk_75 rfl rfl (by decide) (Nat.le_of_ble_eq_true rfl) dX7_turns_84 ?_
                refine z_aload_0 dX7_turns_87 ?_
                refine z_cVN yv_X7_ends ml_X7_140 (c_X7_endsR (goesS_ok hok_ c77)) zk_75 rfl rfl (by decide) (Nat.le_of_ble_eq_true rfl) dX7_turns_88 ?_
                refine z_iinc_3 rfl dX7_turns_91 ?_
                refine z_iinc_4 rfl dX7_turns_94 ?_
                refine z_goto (tgt := 21) dX7_turns_97 (by decide) ?_
                refine z_drop_5 ?_
                exact ih21 _ _ (endS (goesS u_ (M 89 (40 * k_ + i_)))) (by omega) (by omega) (by rw [nat_1 hi_.1, turnS, ← hu_, Int.toNat_of_nonneg hi_.1]; first | (rw [if_pos (show (u_ 0 < 999 ∧ (-24 ≤ (M 89 (40 * k_ + i_)) ∧ (M 89 (40 * k_ + i_)) ≤ 24) ∧ canR u_ (M 89 (40 * k_ + i_))) from ⟨by omega, c59, c77⟩)] <;> rfl) | (rw [if_neg (show ¬ (u_ 0 < 999 ∧ (-24 ≤ (M 89 (40 * k_ + i_)) ∧ (M 89 (40 * k_ + i_)) ≤ 24) ∧ canR u_ (M 89 (40 * k_ + i_))) from fun h_ => c77 h_.2.2)]; exact hu_) | (rw [if_neg (show ¬ (u_ 0 < 999 ∧ (-24 ≤ (M 89 (40 * k_ + i_)) ∧ (M 89 (40 * k_ + i_)) ≤ 24) ∧ canR u_ (M 89 (40 * k_ + i_))) from fun h_ => c59 h_.2.1)]; exact hu_)) (by rw [nat_1 hi_.1, turnS, ← hu_, Int.toNat_of_nonneg hi_.1]; first | (rw [if_pos (show (u_ 0 < 999 ∧ (-24 ≤ (M 89 (40 * k_ + i_)) ∧ (M 89 (40 * k_ + i_)) ≤ 24) ∧ canR u_ (M 89 (40 * k_ + i_))) from ⟨by omega, c59, c77⟩), hc_] <;> rfl) | (rw [if_neg (show ¬ (u_ 0 < 999 ∧ (-24 ≤ (M 89 (40 * k_ + i_)) ∧ (M 89 (40 * k_ + i_)) ≤ 24) ∧ canR u_ (M 89 (40 * k_ + i_))) from fun h_ => c77 h_.2.2)]; exact hc_) | (rw [if_neg (show ¬ (u_ 0 < 999 ∧ (-24 ≤ (M 89 (40 * k_ + i_)) ∧ (M 89 (40 * k_ + i_)) ≤ 24) ∧ canR u_ (M 89 (40 * k_ + i_))) from fun h_ => c59 h_.2.1)]; exact hc_))
    have L21 : ∀ (c_ : Int) (i_ : Int) (u_ : Int → Int), (0 ≤ i_ ∧ i_ ≤ M 88 k_) → (u_ = (turnS (fun j_ => M 89 (40 * k_ + j_)) (M 76) i_.toNat).1) → (c_ = (turnS (fun j_ => M 89 (40 * k_ + j_)) (M 76) i_.toNat).2) → Z RX7 cX7_turns 7 (some .int) 5 (zQ (PI (if ¬ (0 ≤ k_ ∧ k_ ≤ 3) then -1000000001 else if M 87 k_ = 0 then -1000000006 else (turnS (fun j_ => M 89 (40 * k_ + j_)) (M 76) (M 88 k_).toNat).2) (if ¬ (0 ≤ k_ ∧ k_ ≤ 3) then fnd7 M 0 else if M 87 k_ = 0 then fnd7 M 5 else zrow M 76 (turnS (fun j_ => M 89 (40 * k_ + j_)) (M 76) (M 88 k_).toNat).1))) 21 [some (vR 75), some (vI k_), some (vI q_), some (vI c_), some (vI i_), none, none] [] ((zrow M 76 u_)) := fun c_ i_ u_ hi_ hu_ hc_ => K21 ((M 88 k_ - i_).toNat + 1) c_ i_ u_ (by omega) hi_ hu_ hc_
    refine z_mem (zrow_self (M := M) (k := 76)).symm ?_
    exact L21 _ _ (M 76) (by omega) (by rfl) (by rfl)
  · refine z_aload_0 dX7_turns_10 ?_
    refine z_iload_2 dX7_turns_11 ?_
    refine z_cVI yv_X7_finding ml_X7_93 (c_X7_finding (by omega)) zk_75 rfl rfl (by decide) (Nat.le_of_ble_eq_true rfl) dX7_turns_12 ?_
    exact z_iret dX7_turns_15 (zPI (by rcases hq2_ with h_ | h_ | h_ <;> ((repeat (first | rw [if_pos (by omega)] | rw [if_neg (by omega)])) <;> omega)) (by rcases hq2_ with h_ | h_ | h_ <;> first | (rw [if_pos h_.1, h_.2]; done) | (rw [if_neg (by omega), if_pos h_.2.1, h_.2.2]; done) | (exfalso; omega)))
