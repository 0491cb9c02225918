def out92 (N M : zM) : Prop := ∀ k : Nat, k ≠ 91 → k ≠ 92 → N k = M k
theorem out92_rf {M : zM} : out92 M M := fun _ _ _ => rfl
theorem out92_f {N M : zM} {j : Int} (h : out92 N M) : out92 (fnd7 N j) (fnd7 M j) := by
  intro k h1 h2
  unfold fnd7
  rw [h 78 (by decide) (by decide)]
  by_cases e : k = 78
  · rw [e, zput_at, zput_at, h 78 (by decide) (by decide)]
  · rw [zput_ne e, zput_ne e, h k h1 h2]
theorem c_X7_swarm {M : zM} {k_ g_ q_ a_ : Int} (hS : SH7 M) (hk : -2147483648 ≤ k_ ∧ k_ < 2147483648) (hg : -2147483648 ≤ g_ ∧ g_ < 2147483648) (hq : -2147483648 ≤ q_ ∧ q_ < 2147483648) (ha : -2147483648 ≤ a_ ∧ a_ < 2147483648) : Call yX7_swarm cX7_swarm 9 (some .int) 4 [vR 75, vI k_, vI g_, vI q_, vI a_] (M) (RI (if ¬ ((0 ≤ k_ ∧ k_ ≤ 3) ∧ (0 ≤ g_ ∧ g_ ≤ 50) ∧ (0 ≤ q_ ∧ q_ ≤ 20) ∧ (0 ≤ a_ ∧ a_ ≤ 13)) then -1000000001 else if 0 ≤ hindS M k_ 2 12 100 then -1000000001 - hindS M k_ 2 12 100 else if (1000000 ≤ (swT (fun j_ => M 89 (40 * k_ + j_)) g_ q_ (M 88 k_)) ∨ (M 88 k_) ≤ a_ - 2) then -1000000004 else swA (fun j_ => M 89 (40 * k_ + j_)) g_ q_ (M 88 k_) a_) (fun N => out92 N (if ¬ ((0 ≤ k_ ∧ k_ ≤ 3) ∧ (0 ≤ g_ ∧ g_ ≤ 50) ∧ (0 ≤ q_ ∧ q_ ≤ 20) ∧ (0 ≤ a_ ∧ a_ ≤ 13)) then fnd7 M 0 else if 0 ≤ hindS M k_ 2 12 100 then fnd7 M (hindS M k_ 2 12 100) else if (1000000 ≤ (swT (fun j_ => M 89 (40 * k_ + j_)) g_ q_ (M 88 k_)) ∨ (M 88 k_) ≤ a_ - 2) then fnd7 M 3 else M))) := by
  refine Call.of2 (own := RX7) (lv0 := [some (vR 75), some (vI k_), some (vI g_), some (vI q_), some (vI a_), none, none, none, none]) rfl (by decide) rfl (Nat.le_of_ble_eq_true rfl) ?_
  refine z_iload_1 dX7_swarm_0 ?_
  refine z_cSI ys_X7_isSheet ml_X7_295 (c_X7_isSheet (by omega)) rfl rfl (by decide) (Nat.le_of_ble_eq_true rfl) dX7_swarm_1 ?_
  refine z_ifb_eq (tgt := 44) dX7_swarm_4 (by decide) (fun c4 => ?_) (fun c4 => ?_)
  · refine z_aload_0 dX7_swarm_44 ?_
    refine z_iconst dX7_swarm_45 ?_
    refine z_cVI yv_X7_finding ml_X7_93 (c_X7_finding (by omega)) zk_75 rfl rfl (by decide) (Nat.le_of_ble_eq_true rfl) dX7_swarm_46 ?_
    exact z_iret dX7_swarm_49 (zRI (by rw [if_pos (by omega)] <;> rfl) (by rw [if_pos (by omega)]; exact out92_rf))
  · refine z_iload_2 dX7_swarm_7 ?_
    refine z_i2l (by omega) dX7_swarm_8 ?_
    refine z_lconst0 dX7_swarm_9 ?_
    refine z_ldc2 (n := 50) kl_X7_173 (by decide) dX7_swarm_10 ?_
    refine z_cSI ys_X7_in ml_X7_85 (c_X7_in (by omega) (by decide) (by decide)) rfl rfl (by decide) (Nat.le_of_ble_eq_true rfl) dX7_swarm_13 ?_
    refine z_ifb_eq (tgt := 44) dX7_swarm_16 (by decide) (fun c16 => ?_) (fun c16 => ?_)
    · refine z_aload_0 dX7_swarm_44 ?_
      refine z_iconst dX7_swarm_45 ?_
      refine z_cVI yv_X7_finding ml_X7_93 (c_X7_finding (by omega)) zk_75 rfl rfl (by decide) (Nat.le_of_ble_eq_true rfl) dX7_swarm_46 ?_
      exact z_iret dX7_swarm_49 (zRI (by rw [if_pos (by omega)] <;> rfl) (by rw [if_pos (by omega)]; exact out92_rf))
    · refine z_iload_3 dX7_swarm_19 ?_
      refine z_i2l (by omega) dX7_swarm_20 ?_
      refine z_lconst0 dX7_swarm_21 ?_
      refine z_ldc2 (n := 20) kl_X7_281 (by decide) dX7_swarm_22 ?_
      refine z_cSI ys_X7_in ml_X7_85 (c_X7_in (by omega) (by decide) (by decide)) rfl rfl (by decide) (Nat.le_of_ble_eq_true rfl) dX7_swarm_25 ?_
      refine z_ifb_eq (tgt := 44) dX7_swarm_28 (by decide) (fun c28 => ?_) (fun c28 => ?_)
      · refine z_aload_0 dX7_swarm_44 ?_
        refine z_iconst dX7_swarm_45 ?_
        refine z_cVI yv_X7_finding ml_X7_93 (c_X7_finding (by omega)) zk_75 rfl rfl (by decide) (Nat.le_of_ble_eq_true rfl) dX7_swarm_46 ?_
        exact z_iret dX7_swarm_49 (zRI (by rw [if_pos (by omega)] <;> rfl) (by rw [if_pos (by omega)]; exact out92_rf))
      · refine z_iload_4 dX7_swarm_31 ?_
        refine z_i2l (by omega) dX7_swarm_33 ?_
        refine z_lconst0 dX7_swarm_34 ?_
        refine z_ldc2 (n := 13) kl_X7_311 (by decide) dX7_swarm_35 ?_
        refine z_cSI ys_X7_in ml_X7_85 (c_X7_in (by omega) (by decide) (by decide)) rfl rfl (by decide) (Nat.le_of_ble_eq_true rfl) dX7_swarm_38 ?_
        refine z_ifb_ne (tgt := 50) dX7_swarm_41 (by decide) (fun c41 => ?_) (fun c41 => ?_)
        · refine z_aload_0 dX7_swarm_50 ?_
          refine z_iload_1 dX7_swarm_51 ?_
          refine z_iconst dX7_swarm_52 ?_
          refine z_bipush dX7_swarm_53 (by decide) ?_
          refine z_ldc2 (n := 100) kl_X7_62 (by decide) dX7_swarm_55 ?_
          refine z_cVI yv_X7_hinders ml_X7_301 (c_X7_hinders hS hk (by decide) (by decide) (by decide)) zk_75 rfl rfl (by decide) (Nat.le_of_ble_eq_true rfl) dX7_swarm_58 ?_
          have hh_ : hindS M k_ 2 12 100 = 0 ∨ hindS M k_ 2 12 100 = 5 ∨ hindS M k_ 2 12 100 = 6 ∨ hindS M k_ 2 12 100 = -1 ∨ hindS M k_ 2 12 100 = 2 := by unfold hindS; split <;> (try split) <;> (try split) <;> (try split) <;> simp
          refine z_istore_5 rfl dX7_swarm_61 ?_
          refine z_iload_5 dX7_swarm_63 ?_
          refine z_if_lt (tgt := 75) (by omega) dX7_swarm_65 (by decide) (fun c65 => ?_) (fun c65 => ?_)
          · have hs_ := hS k_ (by omega) (by omega)
            obtain ⟨k1_, k2_, k3_, k4_⟩ := hind_k (show hindS M k_ 2 12 100 < 0 by omega)
            have hH_ : ∀ j : Int, 0 ≤ j → j < (M 88 k_) → -100 ≤ M 89 (40 * k_ + j) ∧ M 89 (40 * k_ + j) ≤ 100 := fun j h0_ h1_ => inAll_all _ k4_ j h0_ (by omega)
            refine z_aload_0 dX7_swarm_75 ?_
            refine z_iload_1 dX7_swarm_76 ?_
            refine z_iload_2 dX7_swarm_77 ?_
            refine z_iload_3 dX7_swarm_78 ?_
            refine z_rVN yv_X7_findSwarm ml_X7_313 (c_X7_findSwarm (by omega) (by omega) (by omega) k3_ hH_) zk_75 rfl rfl (by decide) (Nat.le_of_ble_eq_true rfl) dX7_swarm_79 (fun N2_ hN_ => ?_)
            have hm_ : ∀ t_ : Int, 0 ≤ t_ ∧ t_ ≤ 2 * q_ → N2_ 91 t_ = (swC (fun j_ => M 89 (40 * k_ + j_)) g_ q_ (M 88 k_) ((M 88 k_) - 1).toNat (mvI t_)) := fun t_ h_ => by
              have h2_ := (hN_.2 0 t_ (by decide) (by omega) h_ trivial).1
              rw [show 41 * 0 + t_ = t_ by omega, show (M 88 k_) - 1 - 0 = (M 88 k_) - 1 by omega] at h2_
              exact h2_
            have hcl_ : ∀ t_ : Int, 0 ≤ t_ ∧ t_ ≤ 2 * q_ → 0 ≤ (swC (fun j_ => M 89 (40 * k_ + j_)) g_ q_ (M 88 k_) ((M 88 k_) - 1).toNat (mvI t_)) ∧ (swC (fun j_ => M 89 (40 * k_ + j_)) g_ q_ (M 88 k_) ((M 88 k_) - 1).toNat (mvI t_)) ≤ 1000000 := fun t_ h_ => swC_le (by omega) _ _ (mvI_r h_)
            have n88_ : N2_ 88 = M 88 := hN_.1 88 (by decide) (by decide)
            refine z_iconst dX7_swarm_82 ?_
            refine z_istore_6 rfl dX7_swarm_83 ?_
            refine z_iconst dX7_swarm_85 ?_
            refine z_istore_7 rfl dX7_swarm_86 ?_
            have K88 : ∀ (fuel_ : Nat) (b_ : Int) (t_ : Int), 2 * q_ + 1 - t_ < (fuel_ : Int) → (1 ≤ t_ ∧ t_ ≤ 2 * q_ + 1) → (b_ = swB (swC (fun j_ => M 89 (40 * k_ + j_)) g_ q_ (M 88 k_) ((M 88 k_) - 1).toNat) (t_ - 1).toNat) → Z RX7 cX7_swarm 9 (some .int) 4 (zQ (RI (if ¬ ((0 ≤ k_ ∧ k_ ≤ 3) ∧ (0 ≤ g_ ∧ g_ ≤ 50) ∧ (0 ≤ q_ ∧ q_ ≤ 20) ∧ (0 ≤ a_ ∧ a_ ≤ 13)) then -1000000001 else if 0 ≤ hindS M k_ 2 12 100 then -1000000001 - hindS M k_ 2 12 100 else if (1000000 ≤ (swT (fun j_ => M 89 (40 * k_ + j_)) g_ q_ (M 88 k_)) ∨ (M 88 k_) ≤ a_ - 2) then -1000000004 else swA (fun j_ => M 89 (40 * k_ + j_)) g_ q_ (M 88 k_) a_) (fun N => out92 N (if ¬ ((0 ≤ k_ ∧ k_ ≤ 3) ∧ (0 ≤ g_ ∧ g_ ≤ 50) ∧ (0 ≤ q_ ∧ q_ ≤ 20) ∧ (0 ≤ a_ ∧ a_ ≤ 13)) then fnd7 M 0 else if 0 ≤ hindS M k_ 2 12 100 then fnd7 M (hindS M k_ 2 12 100) else if (1000000 ≤ (swT (fun j_ => M 89 (40 * k_ + j_)) g_ q_ (M 88 k_)) ∨ (M 88 k_) ≤ a_ - 2) then fnd7 M 3 else M)))) 88 [some (vR 75), some (vI k_), some (vI g_), some (vI q_), some (vI a_), some (vI (hindS M k_ 2 12 100)), some (vI b_), some (vI t_), none] [] (N2_) := by
              intro fuel_
              induction fuel_ with
              | zero => intro b_ t_ hfuel_ ht_ hb_; exfalso; omega
              | succ fuel_ ih88 =>
                intro b_ t_ hfuel_ ht_ hb_
                have hbp_ := (swB_p (f := swC (fun j_ => M 89 (40 * k_ + j_)) g_ q_ (M 88 k_) ((M 88 k_) - 1).toNat) (t_ - 1).toNat).1
                rw [← hb_] at hbp_
                refine z_iload_7 dX7_swarm_88 ?_
                refine z_iconst dX7_swarm_90 ?_
                refine z_iload_3 dX7_swarm_91 ?_
                refine z_imul dX7_swarm_92 ?_
                refine z_icmp_gt (tgt := 128) (by omega) (by omega) dX7_swarm_93 (by decide) (fun c93 => ?_) (fun c93 => ?_)
                · have hb2_ : b_ = (swK (fun j_ => M 89 (40 * k_ + j_)) g_ q_ (M 88 k_) 0) := by rw [hb_, show (t_ - 1).toNat = (2 * q_).toNat by omega]; rfl
                  have hbT_ : (swC (fun j_ => M 89 (40 * k_ + j_)) g_ q_ (M 88 k_) ((M 88 k_) - 1).toNat (mvI b_)) = (swT (fun j_ => M 89 (40 * k_ + j_)) g_ q_ (M 88 k_)) := by rw [hb2_]; rfl
                  have hcb_ := hcl_ b_ (by omega)
                  refine z_aload_0 dX7_swarm_128 ?_
                  refine z_getR (r := 91) fl_X7_56 zk_75 rfl rfl dX7_swarm_129 ?_
                  refine z_iload_6 dX7_swarm_132 ?_
                  refine z_ialdv (n := 492) (v := (swT (fun j_ => M 89 (40 * k_ + j_)) g_ q_ (M 88 k_))) zk_91 rfl (by omega) (by rw [hm_ b_ (by omega)]; exact hbT_) dX7_swarm_134 ?_
                  refine z_ldc (n := 1000000) kc_X7_160 (by decide) dX7_swarm_135 ?_
                  refine z_icmp_ge (tgt := 153) (by omega) (by decide) dX7_swarm_137 (by decide) (fun c137 => ?_) (fun c137 => ?_)
                  · refine z_aload_0 dX7_swarm_153 ?_
                    refine z_iconst dX7_swarm_154 ?_
                    refine z_cVI yv_X7_finding ml_X7_93 (c_X7_finding (by omega)) zk_75 rfl rfl (by decide) (Nat.le_of_ble_eq_true rfl) dX7_swarm_155 ?_
                    exact z_iret dX7_swarm_158 (zRI (by rw [if_neg (by omega), if_neg (by omega), if_pos (by omega)] <;> rfl) (by rw [if_neg (by omega), if_neg (by omega), if_pos (by omega)]; exact out92_f hN_.1))
                  · refine z_iload_4 dX7_swarm_140 ?_
                    refine z_iconst dX7_swarm_142 ?_
                    refine z_isub dX7_swarm_143 ?_
                    refine z_aload_0 dX7_swarm_144 ?_
                    refine z_getR (r := 88) fl_X7_47 zk_75 rfl rfl dX7_swarm_145 ?_
                    refine z_iload_1 dX7_swarm_148 ?_
                    refine z_ialdv (n := 4) (v := (M 88 k_)) zk_88 rfl (by omega) (by rw [n88_]) dX7_swarm_149 ?_
                    refine z_icmp_lt (tgt := 159) (by omega) (by omega) dX7_swarm_150 (by decide) (fun c150 => ?_) (fun c150 => ?_)
                    · refine z_iload_4 dX7_swarm_159 ?_
                      refine z_iconst dX7_swarm_161 ?_
                      refine z_icmp_ge (tgt := 196) (by omega) (by decide) dX7_swarm_162 (by decide) (fun c162 => ?_) (fun c162 => ?_)
                      · have hKp_ := swK_p (H := (fun j_ => M 89 (40 * k_ + j_))) (g := g_) (q := q_) (n := (M 88 k_)) (by omega) (by omega) (by omega)
                        refine z_iload_6 dX7_swarm_196 ?_
                        refine z_istore_7 rfl dX7_swarm_198 ?_
                        refine z_iconst dX7_swarm_200 ?_
                        refine z_istore_8 rfl dX7_swarm_201 ?_
                        have K203 : ∀ (fuel_ : Nat) (t_ : Int) (i_ : Int), a_ - 2 - i_ < (fuel_ : Int) → (0 ≤ i_ ∧ i_ ≤ a_ - 2) → (t_ = (swK (fun j_ => M 89 (40 * k_ + j_)) g_ q_ (M 88 k_) i_.toNat)) → Z RX7 cX7_swarm 9 (some .int) 4 (zQ (RI (if ¬ ((0 ≤ k_ ∧ k_ ≤ 3) ∧ (0 ≤ g_ ∧ g_ ≤ 50) ∧ (0 ≤ q_ ∧ q_ ≤ 20) ∧ (0 ≤ a_ ∧ a_ ≤ 13)) then -1000000001 else if 0 ≤ hindS M k_ 2 12 100 then -1000000001 - hindS M k_ 2 12 100 else if (1000000 ≤ (swT (fun j_ => M 89 (40 * k_ + j_)) g_ q_ (M 88 k_)) ∨ (M 88 k_) ≤ a_ - 2) then -1000000004 else swA (fun j_ => M 89 (40 * k_ + j_)) g_ q_ (M 88 k_) a_) (fun N => out92 N (if ¬ ((0 ≤ k_ ∧ k_ ≤ 3) ∧ (0 ≤ g_ ∧ g_ ≤ 50) ∧ (0 ≤ q_ ∧ q_ ≤ 20) ∧ (0 ≤ a_ ∧ a_ ≤ 13)) then fnd7 M 0 else if 0 ≤ hindS M k_ 2 12 100 then fnd7 M (hindS M k_ 2 12 100) else if (1000000 ≤ (swT (fun j_ => M 89 (40 * k_ + j_)) g_ q_ (M 88 k_)) ∨ (M 88 k_) ≤ a_ - 2) then fnd7 M 3 else M)))) 203 [some (vR 75), some (vI k_), some (vI g_), some (vI q_), some (vI a_), some (vI (hindS M k_ 2 12 100)), some (vI b_), some (vI t_), some (vI i_)] [] (N2_) := by
                          intro fuel_
                          induction fuel_ with
                          | zero => intro t_ i_ hfuel_ hi_ ht2_; exfalso; omega
                          | succ fuel_ ih203 =>
                            intro t_ i_ hfuel_ hi_ ht2_
                            have hki_ := hKp_ i_.toNat (by omega)
                            rw [← ht2_] at hki_
                            have hki2_ := hki_.1
                            refine z_iload_8 dX7_swarm_203 ?_
                            refine z_iload_4 dX7_swarm_205 ?_
                            refine z_iconst dX7_swarm_207 ?_
                            refine z_isub dX7_swarm_208 ?_
                            refine z_icmp_ge (tgt := 233) (by omega) (by omega) dX7_swarm_209 (by decide) (fun c209 => ?_) (fun c209 => ?_)
                            · refine z_iload_7 dX7_swarm_233 ?_
                              refine z_cSI ys_X7_moveAt ml_X7_262 (c_X7_moveAt (by omega)) rfl rfl (by decide) (Nat.le_of_ble_eq_true rfl) dX7_swarm_235 ?_
                              refine z_topI (show _ = mvI t_ from rfl) ?_
                              exact z_iret dX7_swarm_238 (zRI (by rw [if_neg (by omega), if_neg (by omega), if_neg (by omega)]; unfold swA; rw [if_neg (by omega), if_neg (by omega), ht2_, show i_ = a_ - 2 by omega]) (by rw [if_neg (by omega), if_neg (by omega), if_neg (by omega)]; exact hN_.1))
                            · refine z_aload_0 dX7_swarm_212 ?_
                              refine z_getR (r := 92) fl_X7_59 zk_75 rfl rfl dX7_swarm_213 ?_
                              refine z_bipush dX7_swarm_216 (by decide) ?_
                              refine z_iload_8 dX7_swarm_218 ?_
                              refine z_imul dX7_swarm_220 ?_
                              refine z_iload_7 dX7_swarm_221 ?_
                              refine z_iadd dX7_swarm_223 ?_
                              refine z_ialdv (n := 492) (v := (swK (fun j_ => M 89 (40 * k_ + j_)) g_ q_ (M 88 k_) (i_.toNat + 1))) zk_92 rfl (by omega) (by rw [(hN_.2 i_ t_ (by omega) (by omega) (by omega) trivial).2 (by omega), ht2_, swK, Int.toNat_of_nonneg hi_.1]) dX7_swarm_224 ?_
                              refine z_istore_7 rfl dX7_swarm_225 ?_
                              refine z_iinc_8 rfl dX7_swarm_227 ?_
                              refine z_goto (tgt := 203) dX7_swarm_230 (by decide) ?_
                              exact ih203 _ _ (by omega) (by omega) (by rw [nat_1 hi_.1])
                        have L203 : ∀ (t_ : Int) (i_ : Int), (0 ≤ i_ ∧ i_ ≤ a_ - 2) → (t_ = (swK (fun j_ => M 89 (40 * k_ + j_)) g_ q_ (M 88 k_) i_.toNat)) → Z RX7 cX7_swarm 9 (some .int) 4 (zQ (RI (if ¬ ((0 ≤ k_ ∧ k_ ≤ 3) ∧ (0 ≤ g_ ∧ g_ ≤ 50) ∧ (0 ≤ q_ ∧ q_ ≤ 20) ∧ (0 ≤ a_ ∧ a_ ≤ 13)) then -1000000001 else if 0 ≤ hindS M k_ 2 12 100 then -1000000001 - hindS M k_ 2 12 100 else if (1000000 ≤ (swT (fun j_ => M 89 (40 * k_ + j_)) g_ q_ (M 88 k_)) ∨ (M 88 k_) ≤ a_ - 2) then -1000000004 else swA (fun j_ => M 89 (40 * k_ + j_)) g_ q_ (M 88 k_) a_) (fun N => out92 N (if ¬ ((0 ≤ k_ ∧ k_ ≤ 3) ∧ (0 ≤ g_ ∧ g_ ≤ 50) ∧ (0 ≤ q_ ∧ q_ ≤ 20) ∧ (0 ≤ a_ ∧ a_ ≤ 13)) then fnd7 M 0 else if 0 ≤ hindS M k_ 2 12 100 then fnd7 M (hindS M k_ 2 12 100) else if (1000000 ≤ (swT (fun j_ => M 89 (40 * k_ + j_)) g_ q_ (M 88 k_)) ∨ (M 88 k_) ≤ a_ - 2) then fnd7 M 3 else M)))) 203 [some (vR 75), some (vI k_), some (vI g_), some (vI q_), some (vI a_), some (vI (hindS M k_ 2 12 100)), some (vI b_), some (vI t_), some (vI i_)] [] (N2_) := fun t_ i_ hi_ ht2_ => K203 ((a_ - 2 - i_).toNat + 1) t_ i_ (by omega) hi_ ht2_
                        exact L203 _ _ (by omega) (by exact hb2_)
                      · refine z_iload_4 dX7_swarm_165 ?_
                        refine z_if_ne (tgt := 184) (by omega) dX7_swarm_167 (by decide) (fun c167 => ?_) (fun c167 => ?_)
                        · refine z_aload_0 dX7_swarm_184 ?_
                          refine z_getR (r := 91) fl_X7_56 zk_75 rfl rfl dX7_swarm_185 ?_
                          refine z_iload_6 dX7_swarm_188 ?_
                          refine z_ialdv (n := 492) (v := (swT (fun j_ => M 89 (40 * k_ + j_)) g_ q_ (M 88 k_))) zk_91 rfl (by omega) (by rw [hm_ b_ (by omega)]; exact hbT_) dX7_swarm_190 ?_
                          refine z_sipush dX7_swarm_191 (by decide) ?_
                          refine z_iremp (by omega) (by decide) dX7_swarm_194 ?_
                          exact z_iret dX7_swarm_195 (zRI (by rw [if_neg (by omega), if_neg (by omega), if_neg (by omega)]; unfold swA; first | (rw [if_pos (by omega)]; done) | (rw [if_neg (by omega), if_pos (by omega)]; done)) (by rw [if_neg (by omega), if_neg (by omega), if_neg (by omega)]; exact hN_.1))
                        · refine z_aload_0 dX7_swarm_170 ?_
                          refine z_getR (r := 91) fl_X7_56 zk_75 rfl rfl dX7_swarm_171 ?_
                          refine z_iload_6 dX7_swarm_174 ?_
                          refine z_ialdv (n := 492) (v := (swT (fun j_ => M 89 (40 * k_ + j_)) g_ q_ (M 88 k_))) zk_91 rfl (by omega) (by rw [hm_ b_ (by omega)]; exact hbT_) dX7_swarm_176 ?_
                          refine z_sipush dX7_swarm_177 (by decide) ?_
                          refine z_idivp (by omega) (by decide) dX7_swarm_180 ?_
                          refine z_goto (tgt := 195) dX7_swarm_181 (by decide) ?_
                          exact z_iret dX7_swarm_195 (zRI (by rw [if_neg (by omega), if_neg (by omega), if_neg (by omega)]; unfold swA; first | (rw [if_pos (by omega)]; done) | (rw [if_neg (by omega), if_pos (by omega)]; done)) (by rw [if_neg (by omega), if_neg (by omega), if_neg (by omega)]; exact hN_.1))
                    · refine z_aload_0 dX7_swarm_153 ?_
                      refine z_iconst dX7_swarm_154 ?_
                      refine z_cVI yv_X7_finding ml_X7_93 (c_X7_finding (by omega)) zk_75 rfl rfl (by decide) (Nat.le_of_ble_eq_true rfl) dX7_swarm_155 ?_
                      exact z_iret dX7_swarm_158 (zRI (by rw [if_neg (by omega), if_neg (by omega), if_pos (by omega)] <;> rfl) (by rw [if_neg (by omega), if_neg (by omega), if_pos (by omega)]; exact out92_f hN_.1))
                · have hc1_ := hcl_ t_ (by omega)
                  have hc2_ := hcl_ b_ (by omega)
                  refine z_aload_0 dX7_swarm_96 ?_
                  refine z_getR (r := 91) fl_X7_56 zk_75 rfl rfl dX7_swarm_97 ?_
                  refine z_iload_7 dX7_swarm_100 ?_
                  refine z_ialdv (n := 492) (v := (swC (fun j_ => M 89 (40 * k_ + j_)) g_ q_ (M 88 k_) ((M 88 k_) - 1).toNat (mvI t_))) zk_91 rfl (by omega) (hm_ t_ (by omega)) dX7_swarm_102 ?_
                  refine z_aload_0 dX7_swarm_103 ?_
                  refine z_getR (r := 91) fl_X7_56 zk_75 rfl rfl dX7_swarm_104 ?_
                  refine z_iload_6 dX7_swarm_107 ?_
                  refine z_ialdv (n := 492) (v := (swC (fun j_ => M 89 (40 * k_ + j_)) g_ q_ (M 88 k_) ((M 88 k_) - 1).toNat (mvI b_))) zk_91 rfl (by omega) (hm_ b_ (by omega)) dX7_swarm_109 ?_
                  refine z_icmp_ge (tgt := 118) (by omega) (by omega) dX7_swarm_110 (by decide) (fun c110 => ?_) (fun c110 => ?_)
                  · refine z_iload_6 dX7_swarm_118 ?_
                    refine z_istore_6 rfl dX7_swarm_120 ?_
                    refine z_iinc_7 rfl dX7_swarm_122 ?_
                    refine z_goto (tgt := 88) dX7_swarm_125 (by decide) ?_
                    exact ih88 _ _ (by omega) (by omega) (by rw [show (t_ + 1 - 1).toNat = (t_ - 1).toNat + 1 by omega, swB, ← hb_, show (((t_ - 1).toNat + 1 : Nat) : Int) = t_ by omega]; first | exact (if_pos (by omega)).symm | exact (if_neg (by omega)).symm)
                  · refine z_iload_7 dX7_swarm_113 ?_
                    refine z_goto (tgt := 120) dX7_swarm_115 (by decide) ?_
                    refine z_istore_6 rfl dX7_swarm_120 ?_
                    refine z_iinc_7 rfl dX7_swarm_122 ?_
                    refine z_goto (tgt := 88) dX7_swarm_125 (by decide) ?_
                    exact ih88 _ _ (by omega) (by omega) (by rw [show (t_ + 1 - 1).toNat = (t_ - 1).toNat + 1 by omega, swB, ← hb_, show (((t_ - 1).toNat + 1 : Nat) : Int) = t_ by omega]; first | exact (if_pos (by omega)).symm | exact (if_neg (by omega)).symm)
            have L88 : ∀ (b_ : Int) (t_ : Int), (1 ≤ t_ ∧ t_ ≤ 2 * q_ + 1) → (b_ = swB (swC (fun j_ => M 89 (40 * k_ + j_)) g_ q_ (M 88 k_) ((M 88 k_) - 1).toNat) (t_ - 1).toNat) → Z RX7 cX7_swarm 9 (some .int) 4 (zQ (RI (if ¬ ((0 ≤ k_ ∧ k_ ≤ 3) ∧ (0 ≤ g_ ∧ g_ ≤ 50) ∧ (0 ≤ q_ ∧ q_ ≤ 20) ∧ (0 ≤ a_ ∧ a_ ≤ 13)) then -1000000001 else if 0 ≤ hindS M k_ 2 12 100 then -1000000001 - hindS M k_ 2 12 100 else if (1000000 ≤ (swT (fun j_ => M 89 (40 * k_ + j_)) g_ q_ (M 88 k_)) ∨ (M 88 k_) ≤ a_ - 2) then -1000000004 else swA (fun j_ => M 89 (40 * k_ + j_)) g_ q_ (M 88 k_) a_) (fun N => out92 N (if ¬ ((0 ≤ k_ ∧ k_ ≤ 3) ∧ (0 ≤ g_ ∧ g_ ≤ 50) ∧ (0 ≤ q_ ∧ q_ ≤ 20) ∧ (0 ≤ a_ ∧ a_ ≤ 13)) then fnd7 M 0 else if 0 ≤ hindS M k_ 2 12 100 then fnd7 M (hindS M k_ 2 12 100) else if (1000000 ≤ (swT (fun j_ => M 89 (40 * k_ + j_)) g_ q_ (M 88 k_)) ∨ (M 88 k_) ≤ a_ - 2) then fnd7 M 3 else M)))) 88 [some (vR 75), some (vI k_), some (vI g_), some (vI q_), some (vI a_), some (vI (hindS M k_ 2 12 100)), some (vI b_), some (vI t_), none] [] (N2_) := fun b_ t_ ht_ hb_ => K88 ((2 * q_ + 1 - t_).toNat + 1) b_ t_ (by omega) ht_ hb_
            exact L88 _ _ (by omega) (by rfl)
          · refine z_aload_0 dX7_swarm_68 ?_
            refine z_iload_5 dX7_swarm_69 ?_
            refine z_cVI yv_X7_finding ml_X7_93 (c_X7_finding (by omega)) zk_75 rfl rfl (by decide) (Nat.le_of_ble_eq_true rfl) dX7_swarm_71 ?_
            exact z_iret dX7_swarm_74 (zRI (by rw [if_neg (by omega), if_pos (by omega)] <;> rfl) (by rw [if_neg (by omega), if_pos (by omega)]; exact out92_rf))
        · refine z_aload_0 dX7_swarm_44 ?_
          refine z_iconst dX7_swarm_45 ?_
          refine z_cVI yv_X7_finding ml_X7_93 (c_X7_finding (by omega)) zk_75 rfl rfl (by decide) (Nat.le_of_ble_eq_true rfl) dX7_swarm_46 ?_
          exact z_iret dX7_swarm_49 (zRI (by rw [if_pos (by omega)] <;> rfl) (by rw [if_pos (by omega)]; exact out92_rf))
