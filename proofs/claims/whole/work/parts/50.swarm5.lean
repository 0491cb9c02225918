theorem firstF_le {M : zM} {i c q : Int} (hq : 0 ≤ q) : ∀ (f : Nat) (d : Int), 0 ≤ d → d + f ≤ q + 1 → -q ≤ firstF M i c f d ∧ firstF M i c f d ≤ q
  | 0, d, _, _ => by unfold firstF; omega
  | f + 1, d, h0, h1 => by
    have i1 := firstF_le (M := M) (i := i) (c := c) hq f (d + 1) (by omega) (by omega)
    unfold firstF
    split
    · omega
    · split
      · omega
      · exact i1
def folP (M : zM) (n : Nat) (r : zM × Int) : Int := firstF r.1 n r.2 (M 9 7 + 1).toNat 0
def folM (M : zM) : Nat → zM × Int
  | 0 => (zput (zput M 9 9 0) 9 10 0, M 9 8)
  | n + 1 => (zput (zput (zput (folM M n).1 74 n (folP M n (folM M n))) 9 9 ((folM M n).1 9 9 + if folP M n (folM M n) = 0 then 0 else 1)) 9 10 ((folM M n).1 9 10 + zabs (folP M n (folM M n))), (folM M n).2 - costO (folP M n (folM M n)))
theorem folP_le {M : zM} {n : Nat} {r : zM × Int} (hq : 0 ≤ M 9 7 ∧ M 9 7 ≤ 20) : -M 9 7 ≤ folP M n r ∧ folP M n r ≤ M 9 7 := firstF_le hq.1 _ _ (by decide) (by omega)
theorem folM_out {M : zM} {k : Nat} (h1 : k ≠ 9) (h2 : k ≠ 74) : ∀ n : Nat, (folM M n).1 k = M k
  | 0 => by show zput (zput M 9 9 0) 9 10 0 k = M k; rw [zput_ne h1, zput_ne h1]
  | n + 1 => by
    show zput (zput (zput (folM M n).1 74 n _) 9 9 _) 9 10 _ k = M k
    rw [zput_ne h1, zput_ne h1, zput_ne h2, folM_out h1 h2 n]
theorem folM_9 {M : zM} {j : Int} (h1 : j ≠ 9) (h2 : j ≠ 10) : ∀ n : Nat, (folM M n).1 9 j = M 9 j
  | 0 => by show zput (zput M 9 9 0) 9 10 0 9 j = M 9 j; rw [zput_ne2 h2, zput_ne2 h1]
  | n + 1 => by
    show zput (zput (zput (folM M n).1 74 n _) 9 9 _) 9 10 _ 9 j = M 9 j
    rw [zput_ne2 h2, zput_ne2 h1, zput_ne (by decide), folM_9 h1 h2 n]
theorem folM_74 {M : zM} (hq : 0 ≤ M 9 7 ∧ M 9 7 ≤ 20) (h : ∀ j : Int, 0 ≤ j → j < 12 → -20 ≤ M 74 j ∧ M 74 j ≤ 20) : ∀ (n : Nat) (j : Int), 0 ≤ j → j < 12 → -20 ≤ (folM M n).1 74 j ∧ (folM M n).1 74 j ≤ 20
  | 0, j, a, b => by show -20 ≤ zput (zput M 9 9 0) 9 10 0 74 j ∧ zput (zput M 9 9 0) 9 10 0 74 j ≤ 20; rw [zput_ne (by decide), zput_ne (by decide)]; exact h j a b
  | n + 1, j, a, b => by
    have i := folM_74 hq h n j a b
    have p := folP_le (M := M) (n := n) (r := folM M n) hq
    have e2 : (folM M (n + 1)).1 74 j = zput (folM M n).1 74 n (folP M n (folM M n)) 74 j := by
      rw [folM]
      simp only []
      rw [zput_ne (by decide), zput_ne (by decide)]
    rw [e2]
    by_cases e : j = n
    · rw [e, zput_eq]; omega
    · rw [zput_ne2 e]; exact i
theorem folM_c {M : zM} (hq : 0 ≤ M 9 7 ∧ M 9 7 ≤ 20) : ∀ n : Nat, M 9 8 - 1100 * n ≤ (folM M n).2 ∧ (folM M n).2 ≤ M 9 8
  | 0 => by show M 9 8 - 1100 * (0 : Nat) ≤ M 9 8 ∧ M 9 8 ≤ M 9 8; omega
  | n + 1 => by
    have i := folM_c hq n
    have p := folP_le (M := M) (n := n) (r := folM M n) hq
    have z := zabs_cases (folP M n (folM M n))
    have q : 0 ≤ costO (folP M n (folM M n)) ∧ costO (folP M n (folM M n)) ≤ 1100 := by unfold costO; split <;> omega
    show _ ≤ (folM M n).2 - costO (folP M n (folM M n)) ∧ (folM M n).2 - costO (folP M n (folM M n)) ≤ _
    omega
theorem c_X3_follow {M : zM} (hz : 1 ≤ M 9 5 ∧ M 9 5 ≤ 12) (hc8 : 0 ≤ M 9 8 ∧ M 9 8 ≤ 1000000) (hg : 0 ≤ M 9 6 ∧ M 9 6 ≤ 50) (hq : 0 ≤ M 9 7 ∧ M 9 7 ≤ 20) (hH : ∀ j : Int, 0 ≤ j → j < 12 → -1000000 ≤ M 70 j ∧ M 70 j ≤ 1000000) (hC : ∀ j : Int, 0 ≤ j → j < 492 → 0 ≤ M 71 j ∧ M 71 j ≤ 1000000) (hV : ∀ j : Int, 0 ≤ j → j < 12 → -20 ≤ M 74 j ∧ M 74 j ≤ 20) : Call yX3_follow cX3_follow 4 none 3 [vR 9] (M) (PN (folM M (M 9 5).toNat).1) := by
  refine Call.of2 (own := RX3) (lv0 := [some (vR 9), none, none, none]) rfl (by decide) rfl (Nat.le_of_ble_eq_true rfl) ?_
  refine z_aload_0 dX3_follow_0 ?_
  refine z_getI fl_X3_37 zk_9 rfl dX3_follow_1 ?_
  refine z_istore_1 rfl dX3_follow_4 ?_
  refine z_aload_0 dX3_follow_5 ?_
  refine z_iconst dX3_follow_6 ?_
  refine z_putI fl_X3_40 zk_9 rfl dX3_follow_7 ?_
  refine z_aload_0 dX3_follow_10 ?_
  refine z_iconst dX3_follow_11 ?_
  refine z_putI fl_X3_43 zk_9 rfl dX3_follow_12 ?_
  refine z_iconst dX3_follow_15 ?_
  refine z_istore_2 rfl dX3_follow_16 ?_
  have K17 : ∀ (fuel_ : Nat) (c_ : Int) (i_ : Int) (N_ : zM), M 9 5 - i_ < (fuel_ : Int) → (0 ≤ i_ ∧ i_ ≤ M 9 5) → (c_ = (folM M i_.toNat).2) → (N_ = (folM M i_.toNat).1) → Z RX3 cX3_follow 4 none 3 (zQ (PN (folM M (M 9 5).toNat).1)) 17 [some (vR 9), some (vI c_), some (vI i_), none] [] (N_) := by
    intro fuel_
    induction fuel_ with
    | zero => intro c_ i_ N_ hfuel_ hi_ hc_ hN_; exfalso; omega
    | succ fuel_ ih17 =>
      intro c_ i_ N_ hfuel_ hi_ hc_ hN_
      have nn_ : N_ = (folM M i_.toNat).1 := hN_
      have n9_ : ∀ j_ : Int, j_ ≠ 9 → j_ ≠ 10 → N_ 9 j_ = M 9 j_ := fun j_ h1_ h2_ => by rw [hN_]; exact folM_9 h1_ h2_ _
      have n70_ : N_ 70 = M 70 := by rw [hN_]; exact folM_out (by decide) (by decide) _
      have n71_ : N_ 71 = M 71 := by rw [hN_]; exact folM_out (by decide) (by decide) _
      have n74_ : ∀ j_ : Int, 0 ≤ j_ → j_ < 12 → -20 ≤ N_ 74 j_ ∧ N_ 74 j_ ≤ 20 := by rw [hN_]; exact folM_74 hq hV _
      have hcl_ := folM_c (M := M) hq i_.toNat
      have hpl_ := folP_le (M := M) (n := i_.toNat) (r := (folM M i_.toNat)) hq
      have hza_ := zabs_cases (folP M i_.toNat (folM M i_.toNat))
      refine z_iload_2 dX3_follow_17 ?_
      refine z_aload_0 dX3_follow_18 ?_
      refine z_getIv (v := (M 9 5)) fl_X3_27 zk_9 rfl (by rw [n9_ 5 (by decide) (by decide)]) dX3_follow_19 ?_
      refine z_icmp_ge (tgt := 83) (by omega) (by omega) dX3_follow_22 (by decide) (fun c22 => ?_) (fun c22 => ?_)
      · exact z_vret dX3_follow_83 (zPN (by rw [hN_, show i_ = M 9 5 by omega]))
      · refine z_aload_0 dX3_follow_25 ?_
        refine z_iload_2 dX3_follow_26 ?_
        refine z_iload_1 dX3_follow_27 ?_
        refine z_cVI yv_X3_firstMove ml_X3_87 (c_X3_firstMove (M := N_) (by omega) (by omega) (by rw [n9_ 6 (by decide) (by decide)]; exact hg) (by rw [n9_ 7 (by decide) (by decide)]; exact hq) (by rw [n70_]; exact hH) (by rw [n71_]; exact hC) n74_) zk_9 rfl rfl (by decide) (Nat.le_of_ble_eq_true rfl) dX3_follow_28 ?_
        rw [n9_ 7 (by decide) (by decide), show firstF N_ i_ c_ (M 9 7 + 1).toNat 0 = (folP M i_.toNat (folM M i_.toNat)) by rw [folP, Int.toNat_of_nonneg hi_.1, ← hc_, ← hN_]]
        refine z_istore_3 rfl dX3_follow_31 ?_
        refine z_aload_0 dX3_follow_32 ?_
        refine z_getR (r := 74) fl_X3_24 zk_9 rfl rfl dX3_follow_33 ?_
        refine z_iload_2 dX3_follow_36 ?_
        refine z_iload_3 dX3_follow_37 ?_
        refine z_iast (n := 12) zk_74 rfl (by omega) dX3_follow_38 ?_
        refine z_iload_1 dX3_follow_39 ?_
        refine z_iload_3 dX3_follow_40 ?_
        refine z_cSI ys_X3_costOf ml_X3_77 (c_X3_costOf (by omega)) rfl rfl (by decide) (Nat.le_of_ble_eq_true rfl) dX3_follow_41 ?_
        refine z_isub dX3_follow_44 ?_
        refine z_istore_1 rfl dX3_follow_45 ?_
        have J60 : ∀ (u_ : Int), (u_ = if (folP M i_.toNat (folM M i_.toNat)) = 0 then 0 else 1) → Z RX3 cX3_follow 4 none 3 (zQ (PN (folM M (M 9 5).toNat).1)) 60 [some (vR 9), some (vI (c_ - (costO (folP M i_.toNat (folM M i_.toNat))))), some (vI i_), some (vI (folP M i_.toNat (folM M i_.toNat)))] [vI u_, vI (N_ 9 9), vR 9] ((zput N_ 74 i_ (folP M i_.toNat (folM M i_.toNat)))) := by
          intro u_ hu_
          refine z_iadd dX3_follow_60 ?_
          refine z_putI fl_X3_40 zk_9 rfl dX3_follow_61 ?_
          refine z_aload_0 dX3_follow_64 ?_
          refine z_dup rfl dX3_follow_65 ?_
          refine z_getIv (v := (N_ 9 10)) fl_X3_43 zk_9 rfl (by rw [zput_ne2 (by decide), zput_ne (by decide)]) dX3_follow_66 ?_
          refine z_iload_3 dX3_follow_69 ?_
          refine z_mabs ml_X3_81 (by decide) (Nat.le_of_ble_eq_true rfl) (by omega) dX3_follow_70 ?_
          refine z_iadd dX3_follow_73 ?_
          refine z_putI fl_X3_43 zk_9 rfl dX3_follow_74 ?_
          refine z_iinc_2 rfl dX3_follow_77 ?_
          refine z_goto (tgt := 17) dX3_follow_80 (by decide) ?_
          refine z_drop_3 ?_
          exact ih17 _ _ _ (by omega) (by omega) (by rw [nat_1 hi_.1, folM, ← hc_]) (by rw [nat_1 hi_.1, folM, ← hN_, Int.toNat_of_nonneg hi_.1, hu_])
        refine z_aload_0 dX3_follow_46 ?_
        refine z_dup rfl dX3_follow_47 ?_
        refine z_getIv (v := (N_ 9 9)) fl_X3_40 zk_9 rfl (by rw [zput_ne (by decide)]) dX3_follow_48 ?_
        refine z_iload_3 dX3_follow_51 ?_
        refine z_if_ne (tgt := 59) (by omega) dX3_follow_52 (by decide) (fun c52 => ?_) (fun c52 => ?_)
        · refine z_iconst dX3_follow_59 ?_
          exact J60 _ (by first | exact (if_pos (by omega)).symm | exact (if_neg (by omega)).symm)
        · refine z_iconst dX3_follow_55 ?_
          refine z_goto (tgt := 60) dX3_follow_56 (by decide) ?_
          exact J60 _ (by first | exact (if_pos (by omega)).symm | exact (if_neg (by omega)).symm)
  have L17 : ∀ (c_ : Int) (i_ : Int) (N_ : zM), (0 ≤ i_ ∧ i_ ≤ M 9 5) → (c_ = (folM M i_.toNat).2) → (N_ = (folM M i_.toNat).1) → Z RX3 cX3_follow 4 none 3 (zQ (PN (folM M (M 9 5).toNat).1)) 17 [some (vR 9), some (vI c_), some (vI i_), none] [] (N_) := fun c_ i_ N_ hi_ hc_ hN_ => K17 ((M 9 5 - i_).toNat + 1) c_ i_ N_ (by omega) hi_ hc_ hN_
  exact L17 _ _ _ (by omega) (by rfl) (by rfl)
