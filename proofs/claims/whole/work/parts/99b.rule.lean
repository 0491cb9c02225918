theorem goA_ad2 {F t : Int → Int} : ∀ (m k : Nat) (a : Int) (s : aK × aO), goA F t (m + k) a s = (goA F t m a s).bind (goA F t k (a + m))
  | 0, k, a, s => by
    rw [Nat.zero_add, goA, show a + ((0 : Nat) : Int) = a by omega]
    rfl
  | m + 1, k, a, s => by
    rw [show m + 1 + k = (m + k) + 1 by omega, goA, goA]
    cases e : stA F s (t a) with
    | none => rfl
    | some s3 =>
      show goA F t (m + k) (a + 1) s3 = (goA F t m (a + 1) s3).bind (goA F t k (a + ((m + 1 : Nat) : Int)))
      rw [goA_ad2 m k (a + 1) s3, show a + 1 + (m : Int) = a + ((m + 1 : Nat) : Int) by omega]
theorem Go_sp {F t : Int → Int} {a b c : Int} {s s2 s3 : aK × aO} (h1 : Go F t a s b s2) (h2 : Go F t a s c s3) (hb : b ≤ c) : Go F t b s2 c s3 := by
  obtain ⟨l1, g1⟩ := h1
  obtain ⟨l2, g2⟩ := h2
  refine ⟨hb, ?_⟩
  rw [show (c - a).toNat = (b - a).toNat + (c - b).toNat by omega, goA_ad2, g1, show a + (((b - a).toNat : Nat) : Int) = b by omega] at g2
  exact g2
theorem run_d {F t : Int → Int} {s : aK × aO} {n : Int} (hn : 0 ≤ n) : (∃ s2, Go F t 0 s n s2 ∧ mEnd s2) ∨ (∃ b s2, (0 ≤ b ∧ b ≤ n) ∧ Go F t 0 s b s2 ∧ Stuck F t n b s2) := by
  have key : ∀ m : Nat, (m : Int) ≤ n → (∃ s2, Go F t 0 s m s2) ∨ (∃ b s2, (0 ≤ b ∧ b < n) ∧ Go F t 0 s b s2 ∧ stA F s2 (t b) = none) := by
    intro m
    induction m with
    | zero => intro _; exact Or.inl ⟨s, Go_rf⟩
    | succ m ih =>
      intro hm
      rcases ih (by omega) with ⟨s2, g⟩ | g
      · cases e : stA F s2 (t m) with
        | none => exact Or.inr ⟨m, s2, by omega, g, e⟩
        | some s3 =>
          refine Or.inl ⟨s3, ?_⟩
          have := Go_tr g (Go_1 e)
          rw [show ((m + 1 : Nat) : Int) = (m : Int) + 1 by omega]
          exact this
      · exact Or.inr g
  rcases key n.toNat (by omega) with ⟨s2, g⟩ | ⟨b, s2, h1, h2, h3⟩
  · rw [Int.toNat_of_nonneg hn] at g
    by_cases e : mEnd s2
    · exact Or.inl ⟨s2, g, e⟩
    · exact Or.inr ⟨n, s2, by omega, g, Or.inr ⟨rfl, e⟩⟩
  · exact Or.inr ⟨b, s2, by omega, h2, Or.inl ⟨h1.2, h3⟩⟩
theorem stuck_u {F t : Int → Int} {s s2 s3 : aK × aO} {n b c : Int} (h1 : Go F t 0 s b s2) (k1 : Stuck F t n b s2) (h2 : Go F t 0 s c s3) (k2 : Stuck F t n c s3 ∨ (c = n ∧ mEnd s3)) : b = c ∧ s2 = s3 ∧ Stuck F t n c s3 := by
  have nl : ¬ b < c := fun q => by
    have g := Go_sp h1 h2 (by omega)
    have e := Go_nn g q
    rcases k1 with k | k
    · exact e k.2
    · rcases k2 with (k3 | k3) | k3
      · have := k.1
        have := k3.1
        omega
      · have := k.1
        have := k3.1
        omega
      · have := k.1
        have := k3.1
        omega
  have ng : ¬ c < b := fun q => by
    have g := Go_sp h2 h1 (by omega)
    have e := Go_nn g q
    have kn : b ≤ n := by
      rcases k1 with k | k
      · have := k.1
        omega
      · have := k.1
        omega
    rcases k2 with (k3 | k3) | k3
    · exact e k3.2
    · have := k3.1
      omega
    · have := k3.1
      omega
  have eb : b = c := by omega
  subst eb
  have es := Go_eq (Go_sp h1 h2 (Int.le_refl _))
  refine ⟨rfl, es, ?_⟩
  rw [← es]
  exact k1
theorem c_X1_faultOf1g {M : zM} {tb : Nat} {n_ : Int} {s2_ : aK × aO} (htk : zKT tb 8) (htN : zN tb = 60) (htb : tb ≠ 7 ∧ tb ≠ 65 ∧ tb ≠ 66) (hn : 0 ≤ n_ ∧ n_ ≤ 60) (hby : ∀ j : Int, 0 ≤ j → j < n_ → -128 ≤ M tb j ∧ M tb j < 128) (hcp : RdI M) (t1_ : Go (M 64) (M tb) 0 (s0A (M 7 4) (M 7 11) (M 7 12) (M 7 15)) n_ s2_) (t2_ : mEnd s2_) : Call yX1_faultOf cX1_faultOf 3 (some .int) 4 [vR 7, vR tb, vI n_] (M) (RI (-1) (fun N => outT N M ∧ RdI N)) := by
  refine Call.of2 (own := RX1) (lv0 := [some (vR 7), some (vR tb), some (vI n_)]) rfl (by decide) rfl (Nat.le_of_ble_eq_true rfl) ?_
  refine z_aload_0 dX1_faultOf_0 ?_
  refine z_aload_1 dX1_faultOf_1 ?_
  refine z_iload_2 dX1_faultOf_2 ?_
  refine z_rVN yv_X1_readText ml_X1_79 (c_X1_readText htk htN htb hn hby hcp t1_ (Or.inr rfl)) zk_7 rfl rfl (by decide) (Nat.le_of_ble_eq_true rfl) dX1_faultOf_3 (fun N_ hN_ => ?_)
  refine z_aload_0 dX1_faultOf_6 ?_
  refine z_getIv (v := (-1)) fl_X1_15 zk_7 rfl ((hN_.2.2.2.1 rfl t2_).1) dX1_faultOf_7 ?_
  exact z_iret dX1_faultOf_10 (zRI rfl ⟨hN_.1, hN_.2.1⟩)

theorem c_X1_faultOf0g {M : zM} {tb : Nat} {n_ b_ : Int} {s2_ : aK × aO} (htk : zKT tb 8) (htN : zN tb = 60) (htb : tb ≠ 7 ∧ tb ≠ 65 ∧ tb ≠ 66) (hn : 0 ≤ n_ ∧ n_ ≤ 60) (hby : ∀ j : Int, 0 ≤ j → j < n_ → -128 ≤ M tb j ∧ M tb j < 128) (hcp : RdI M) (hb : b_ ≤ n_) (t1_ : Go (M 64) (M tb) 0 (s0A (M 7 4) (M 7 11) (M 7 12) (M 7 15)) b_ s2_) (t2_ : Stuck (M 64) (M tb) n_ b_ s2_) : Call yX1_faultOf cX1_faultOf 3 (some .int) 4 [vR 7, vR tb, vI n_] (M) (RI b_ (fun N => outT N M ∧ RdI N)) := by
  refine Call.of2 (own := RX1) (lv0 := [some (vR 7), some (vR tb), some (vI n_)]) rfl (by decide) rfl (Nat.le_of_ble_eq_true rfl) ?_
  refine z_aload_0 dX1_faultOf_0 ?_
  refine z_aload_1 dX1_faultOf_1 ?_
  refine z_iload_2 dX1_faultOf_2 ?_
  refine z_rVN yv_X1_readText ml_X1_79 (c_X1_readText htk htN htb hn hby hcp t1_ (by rcases t2_ with h_ | h_; (exact Or.inl h_); (exact Or.inr h_.1))) zk_7 rfl rfl (by decide) (Nat.le_of_ble_eq_true rfl) dX1_faultOf_3 (fun N_ hN_ => ?_)
  refine z_aload_0 dX1_faultOf_6 ?_
  refine z_getIv (v := b_) fl_X1_15 zk_7 rfl (by rcases t2_ with h_ | h_; (exact hN_.2.2.1 h_.1); (rw [hN_.2.2.2.2 h_.1 h_.2]; exact h_.1.symm)) dX1_faultOf_7 ?_
  exact z_iret dX1_faultOf_10 (zRI rfl ⟨hN_.1, hN_.2.1⟩)

theorem c_X6_rule1g {M : zM} {s2_ : aK × aO} (h5 : 0 ≤ M 0 5 ∧ M 0 5 ≤ 60) (hb4 : ∀ j : Int, 0 ≤ j → j < 60 → -128 ≤ M 4 j ∧ M 4 j < 128) (hcp : RdI M) (t1_ : Go (M 64) (M 4) 0 (s0A (M 7 4) (M 7 11) (M 7 12) (M 7 15)) (M 0 5) s2_) (t2_ : mEnd s2_) : Call yX6_rule cX6_rule 2 (some .int) 5 [vR 0] (M) (RI 0 (fun N => (∀ k_ : Nat, k_ ≠ 7 → k_ ≠ 65 → k_ ≠ 66 → k_ ≠ 0 → k_ ≠ 1 → k_ ≠ 17 → N k_ = M k_) ∧ (∀ j_ : Int, j_ ≠ 5 → N 0 j_ = M 0 j_) ∧ (∀ j_ : Int, j_ ≠ 8 → N 1 j_ = M 1 j_) ∧ N 0 5 = 0 ∧ N 1 8 = M 0 5 ∧ N 17 = zcopy (M 4) (M 17) 0 0 (M 0 5) ∧ RdI N)) := by
  refine Call.of2 (own := RX6) (lv0 := [some (vR 0), none]) rfl (by decide) rfl (Nat.le_of_ble_eq_true rfl) ?_
  refine z_aload_0 dX6_rule_0 ?_
  refine z_getR (r := 7) fl_X6_47 zk_0 rfl rfl dX6_rule_1 ?_
  refine z_aload_0 dX6_rule_4 ?_
  refine z_getR (r := 4) fl_X6_26 zk_0 rfl rfl dX6_rule_5 ?_
  refine z_aload_0 dX6_rule_8 ?_
  refine z_getI fl_X6_30 zk_0 rfl dX6_rule_9 ?_
  refine z_rVI yv_X1_faultOf ml_X6_180 (c_X1_faultOf1g (tb := 4) zk_4 rfl (by decide) h5 (fun j_ a_ b_ => hb4 j_ a_ (by omega)) hcp t1_ t2_) zk_7 rfl rfl (by decide) (Nat.le_of_ble_eq_true rfl) dX6_rule_12 (fun N_ hN_ => ?_)
  have n0_ : N_ 0 = M 0 := hN_.1 0 (by decide) (by decide) (by decide)
  have n4_ : N_ 4 = M 4 := hN_.1 4 (by decide) (by decide) (by decide)
  have n17_ : N_ (16 + 1) = M (16 + 1) := hN_.1 _ (by decide) (by decide) (by decide)
  refine z_istore_1 rfl dX6_rule_15 ?_
  refine z_iload_1 dX6_rule_16 ?_
  refine z_iconst dX6_rule_17 ?_
  refine z_icmp_eq (tgt := 25) (by decide) (by decide) dX6_rule_18 (by decide) (fun c18 => ?_) (fun c18 => ?_)
  · refine z_aload_0 dX6_rule_25 ?_
    refine z_getR (r := 4) fl_X6_26 zk_0 rfl rfl dX6_rule_26 ?_
    refine z_iconst dX6_rule_29 ?_
    refine z_aload_0 dX6_rule_30 ?_
    refine z_getR (r := 1) fl_X6_10 zk_0 rfl rfl dX6_rule_31 ?_
    refine z_getR (r := (16 + 1)) fl_X6_184 (zw_k isW1) rfl (zw_tR isW1) dX6_rule_34 ?_
    refine z_iconst dX6_rule_37 ?_
    refine z_aload_0 dX6_rule_38 ?_
    refine z_getIv (v := (M 0 5)) fl_X6_30 zk_0 rfl (by rw [n0_]) dX6_rule_39 ?_
    refine z_acopyB (n1 := 60) (n2 := 60) ml_X6_187 (by decide) (Nat.le_of_ble_eq_true rfl) zk_4 (zw_t isW1) rfl (zw_tN isW1) (by decide) (by decide) (by omega) (by omega) (by omega) (fun j_ h1_ h2_ => by rw [n4_]; exact hb4 j_ (by omega) (by omega)) dX6_rule_42 ?_
    rw [n4_, n17_]
    refine z_aload_0 dX6_rule_45 ?_
    refine z_getR (r := 1) fl_X6_10 zk_0 rfl rfl dX6_rule_46 ?_
    refine z_aload_0 dX6_rule_49 ?_
    refine z_getIv (v := (M 0 5)) fl_X6_30 zk_0 rfl (by rw [zrow_ne (by decide), n0_]) dX6_rule_50 ?_
    refine z_putI fl_X6_193 (zw_k isW1) rfl dX6_rule_53 ?_
    refine z_aload_0 dX6_rule_56 ?_
    refine z_iconst dX6_rule_57 ?_
    refine z_putI fl_X6_30 zk_0 rfl dX6_rule_58 ?_
    refine z_iconst dX6_rule_61 ?_
    exact z_iret dX6_rule_62 (zRI rfl ⟨fun k_ a_ b_ c_ d_ e_ f_ => by rw [zput_ne d_, zput_ne e_, zrow_ne f_]; exact hN_.1 k_ a_ b_ c_, fun j_ h_ => by rw [zput_ne2 h_, zput_ne (by decide), zrow_ne (by decide), n0_], fun j_ h_ => by rw [zput_ne (by decide), zput_ne2 h_, zrow_ne (by decide), hN_.1 1 (by decide) (by decide) (by decide)], zput_eq, by rw [zput_ne (by decide), zput_eq], by rw [zput_ne (by decide), zput_ne (by decide)]; exact zrow_eq, by unfold RdI; rw [zput_ne (by decide), zput_ne (by decide), zrow_ne (by decide)]; exact hN_.2⟩)
  · exact absurd c18 (by decide)

theorem c_X6_rule0g {M : zM} {b_ : Int} {s2_ : aK × aO} (h5 : 0 ≤ M 0 5 ∧ M 0 5 ≤ 60) (hb4 : ∀ j : Int, 0 ≤ j → j < 60 → -128 ≤ M 4 j ∧ M 4 j < 128) (hcp : RdI M) (hb : 0 ≤ b_ ∧ b_ ≤ M 0 5) (t1_ : Go (M 64) (M 4) 0 (s0A (M 7 4) (M 7 11) (M 7 12) (M 7 15)) b_ s2_) (t2_ : Stuck (M 64) (M 4) (M 0 5) b_ s2_) : Call yX6_rule cX6_rule 2 (some .int) 5 [vR 0] (M) (RI (-1 - b_) (fun N => outT N M ∧ RdI N)) := by
  refine Call.of2 (own := RX6) (lv0 := [some (vR 0), none]) rfl (by decide) rfl (Nat.le_of_ble_eq_true rfl) ?_
  refine z_aload_0 dX6_rule_0 ?_
  refine z_getR (r := 7) fl_X6_47 zk_0 rfl rfl dX6_rule_1 ?_
  refine z_aload_0 dX6_rule_4 ?_
  refine z_getR (r := 4) fl_X6_26 zk_0 rfl rfl dX6_rule_5 ?_
  refine z_aload_0 dX6_rule_8 ?_
  refine z_getI fl_X6_30 zk_0 rfl dX6_rule_9 ?_
  refine z_rVI yv_X1_faultOf ml_X6_180 (c_X1_faultOf0g (tb := 4) (b_ := b_) zk_4 rfl (by decide) h5 (fun j_ a_ b_ => hb4 j_ a_ (by omega)) hcp hb.2 t1_ t2_) zk_7 rfl rfl (by decide) (Nat.le_of_ble_eq_true rfl) dX6_rule_12 (fun N_ hN_ => ?_)
  refine z_istore_1 rfl dX6_rule_15 ?_
  refine z_iload_1 dX6_rule_16 ?_
  refine z_iconst dX6_rule_17 ?_
  refine z_icmp_eq (tgt := 25) (by omega) (by decide) dX6_rule_18 (by decide) (fun c18 => ?_) (fun c18 => ?_)
  · exfalso; omega
  · refine z_iconst dX6_rule_21 ?_
    refine z_iload_1 dX6_rule_22 ?_
    refine z_isub dX6_rule_23 ?_
    exact z_iret dX6_rule_24 (zRI rfl hN_)
