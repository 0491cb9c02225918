theorem zput2_2 {M : zM} {k k2 : Nat} {j x y z u : Int} : zput (zput (zput (zput M k j x) k2 j y) k j z) k2 j u = zput (zput M k j z) k2 j u := by
  funext c b
  unfold zput
  by_cases h : c = k2 ∧ b = j
  · simp [h]
  · by_cases h2 : c = k ∧ b = j
    · simp [h, h2]
    · simp [h, h2]
theorem c_X7_heightOf {M : zM} {k_ i_ j_ : Int} (hk : 0 ≤ k_ ∧ k_ ≤ 3) (hi : 0 ≤ i_ ∧ i_ < 40) (hj : 0 ≤ j_ ∧ j_ ≤ 1000) : Call yX7_heightOf cX7_heightOf 4 (some .int) 1 [vR 75, vI k_, vI i_, vI j_] (M) (PI (M 89 (40 * k_ + i_) + mvI j_) M) := by
  refine Call.of2 (own := RX7) (lv0 := [some (vR 75), some (vI k_), some (vI i_), some (vI j_)]) rfl (by decide) rfl (Nat.le_of_ble_eq_true rfl) ?_
  refine z_aload_0 dX7_heightOf_0 ?_
  refine z_iload_1 dX7_heightOf_1 ?_
  refine z_iload_2 dX7_heightOf_2 ?_
  refine z_cVJ yv_X7_numberOf ml_X7_298 (c_X7_numberOf (by omega) (by omega)) zk_75 rfl rfl (by decide) (Nat.le_of_ble_eq_true rfl) dX7_heightOf_3 ?_
  refine z_l2i dX7_heightOf_6 ?_
  refine z_iload_3 dX7_heightOf_7 ?_
  refine z_cSI ys_X7_moveAt ml_X7_262 (c_X7_moveAt (by omega)) rfl rfl (by decide) (Nat.le_of_ble_eq_true rfl) dX7_heightOf_8 ?_
  refine z_topI (show _ = mvI j_ from rfl) ?_
  refine z_iadd dX7_heightOf_11 ?_
  exact z_iret dX7_heightOf_12 (⟨rfl, rfl⟩)

theorem c_X7_findSwarm {M : zM} {k_ g_ q_ : Int} (hk : 0 ≤ k_ ∧ k_ ≤ 3) (hg : 0 ≤ g_ ∧ g_ ≤ 50) (hq : 0 ≤ q_ ∧ q_ ≤ 20) (hz : 2 ≤ (M 88 k_) ∧ (M 88 k_) ≤ 12) (hH : ∀ j : Int, 0 ≤ j → j < (M 88 k_) → -100 ≤ M 89 (40 * k_ + j) ∧ M 89 (40 * k_ + j) ≤ 100) : Call yX7_findSwarm cX7_findSwarm 11 none 3 [vR 75, vI k_, vI g_, vI q_] (M) (RN (fun N => (∀ c_ : Nat, c_ ≠ 91 → c_ ≠ 92 → N c_ = M c_) ∧ (∀ a_ t_ : Int, 0 ≤ a_ → a_ < (M 88 k_) → 0 ≤ t_ ∧ t_ ≤ 2 * q_ → True → N 91 (41 * a_ + t_) = (swC (fun j_ => M 89 (40 * k_ + j_)) g_ q_ (M 88 k_) ((M 88 k_) - 1 - a_).toNat (mvI t_)) ∧ (a_ < (M 88 k_) - 1 → N 92 (41 * a_ + t_) = (swNx (fun j_ => M 89 (40 * k_ + j_)) g_ q_ (M 88 k_) ((M 88 k_) - 2 - a_).toNat (mvI t_)))))) := by
  refine Call.of2 (own := RX7) (lv0 := [some (vR 75), some (vI k_), some (vI g_), some (vI q_), none, none, none, none, none, none, none]) rfl (by decide) rfl (Nat.le_of_ble_eq_true rfl) ?_
  refine z_aload_0 dX7_findSwarm_0 ?_
  refine z_getR (r := 88) fl_X7_47 zk_75 rfl rfl dX7_findSwarm_1 ?_
  refine z_iload_1 dX7_findSwarm_4 ?_
  refine z_iald (n := 4) zk_88 rfl (by omega) dX7_findSwarm_5 ?_
  refine z_istore_4 rfl dX7_findSwarm_6 ?_
  refine z_iload_4 dX7_findSwarm_8 ?_
  refine z_iconst dX7_findSwarm_10 ?_
  refine z_isub dX7_findSwarm_11 ?_
  refine z_istore_5 rfl dX7_findSwarm_12 ?_
  have K14 : ∀ (fuel_ : Nat) (i_ : Int) (N_ : zM), i_ + 1 < (fuel_ : Int) → (-1 ≤ i_ ∧ i_ ≤ (M 88 k_) - 1) → (∀ c_ : Nat, c_ ≠ 91 → c_ ≠ 92 → N_ c_ = M c_) → (∀ a_ t_ : Int, 0 ≤ a_ → a_ < (M 88 k_) → 0 ≤ t_ ∧ t_ ≤ 2 * q_ → i_ < a_ → N_ 91 (41 * a_ + t_) = (swC (fun j_ => M 89 (40 * k_ + j_)) g_ q_ (M 88 k_) ((M 88 k_) - 1 - a_).toNat (mvI t_)) ∧ (a_ < (M 88 k_) - 1 → N_ 92 (41 * a_ + t_) = (swNx (fun j_ => M 89 (40 * k_ + j_)) g_ q_ (M 88 k_) ((M 88 k_) - 2 - a_).toNat (mvI t_)))) → Z RX7 cX7_findSwarm 11 none 3 (zQ (RN (fun N => (∀ c_ : Nat, c_ ≠ 91 → c_ ≠ 92 → N c_ = M c_) ∧ (∀ a_ t_ : Int, 0 ≤ a_ → a_ < (M 88 k_) → 0 ≤ t_ ∧ t_ ≤ 2 * q_ → True → N 91 (41 * a_ + t_) = (swC (fun j_ => M 89 (40 * k_ + j_)) g_ q_ (M 88 k_) ((M 88 k_) - 1 - a_).toNat (mvI t_)) ∧ (a_ < (M 88 k_) - 1 → N 92 (41 * a_ + t_) = (swNx (fun j_ => M 89 (40 * k_ + j_)) g_ q_ (M 88 k_) ((M 88 k_) - 2 - a_).toNat (mvI t_))))))) 14 [some (vR 75), some (vI k_), some (vI g_), some (vI q_), some (vI (M 88 k_)), some (vI i_), none, none, none, none, none] [] (N_) := by
    intro fuel_
    induction fuel_ with
    | zero => intro i_ N_ hfuel_ hi_ hN1_ hN2_; exfalso; omega
    | succ fuel_ ih14 =>
      intro i_ N_ hfuel_ hi_ hN1_ hN2_
      refine z_iload_5 dX7_findSwarm_14 ?_
      refine z_if_lt (tgt := 243) (by omega) dX7_findSwarm_16 (by decide) (fun c16 => ?_) (fun c16 => ?_)
      · exact z_vret dX7_findSwarm_243 (zRN ⟨hN1_, fun a_ t_ h1_ h2_ h3_ _ => hN2_ a_ t_ h1_ h2_ h3_ (by omega)⟩)
      · refine z_iconst dX7_findSwarm_19 ?_
        refine z_istore_6 rfl dX7_findSwarm_20 ?_
        have K22 : ∀ (fuel_ : Nat) (t2_ : Int) (P_ : zM), 2 * q_ + 1 - t2_ < (fuel_ : Int) → (0 ≤ t2_ ∧ t2_ ≤ 2 * q_ + 1) → (∀ c_ : Nat, c_ ≠ 91 → c_ ≠ 92 → P_ c_ = M c_) → (∀ a_ t_ : Int, 0 ≤ a_ → a_ < (M 88 k_) → 0 ≤ t_ ∧ t_ ≤ 2 * q_ → (i_ < a_ ∨ a_ = i_ ∧ t_ < t2_) → P_ 91 (41 * a_ + t_) = (swC (fun j_ => M 89 (40 * k_ + j_)) g_ q_ (M 88 k_) ((M 88 k_) - 1 - a_).toNat (mvI t_)) ∧ (a_ < (M 88 k_) - 1 → P_ 92 (41 * a_ + t_) = (swNx (fun j_ => M 89 (40 * k_ + j_)) g_ q_ (M 88 k_) ((M 88 k_) - 2 - a_).toNat (mvI t_)))) → Z RX7 cX7_findSwarm 11 none 3 (zQ (RN (fun N => (∀ c_ : Nat, c_ ≠ 91 → c_ ≠ 92 → N c_ = M c_) ∧ (∀ a_ t_ : Int, 0 ≤ a_ → a_ < (M 88 k_) → 0 ≤ t_ ∧ t_ ≤ 2 * q_ → True → N 91 (41 * a_ + t_) = (swC (fun j_ => M 89 (40 * k_ + j_)) g_ q_ (M 88 k_) ((M 88 k_) - 1 - a_).toNat (mvI t_)) ∧ (a_ < (M 88 k_) - 1 → N 92 (41 * a_ + t_) = (swNx (fun j_ => M 89 (40 * k_ + j_)) g_ q_ (M 88 k_) ((M 88 k_) - 2 - a_).toNat (mvI t_))))))) 22 [some (vR 75), some (vI k_), some (vI g_), some (vI q_), some (vI (M 88 k_)), some (vI i_), some (vI t2_), none, none, none, none] [] (P_) := by
          intro fuel_
          induction fuel_ with
          | zero => intro t2_ P_ hfuel_ ht_ hP1_ hP2_; exfalso; omega
          | succ fuel_ ih22 =>
            intro t2_ P_ hfuel_ ht_ hP1_ hP2_
            have zm_ := mvI_abs (k := t2_) (by omega)
            have zm2_ := zabs_cases (mvI t2_)
            refine z_iload_6 dX7_findSwarm_22 ?_
            refine z_iconst dX7_findSwarm_24 ?_
            refine z_iload_3 dX7_findSwarm_25 ?_
            refine z_imul dX7_findSwarm_26 ?_
            refine z_icmp_gt (tgt := 237) (by omega) (by omega) dX7_findSwarm_27 (by decide) (fun c27 => ?_) (fun c27 => ?_)
            · refine z_iinc_5 rfl dX7_findSwarm_237 ?_
              refine z_goto (tgt := 14) dX7_findSwarm_240 (by decide) ?_
              refine z_drop_6 ?_
              exact ih14 _ _ (by omega) (by omega) (by exact hP1_) (by intro a_ t_ h1_ h2_ h3_ h4_; exact hP2_ a_ t_ h1_ h2_ h3_ (by omega))
            · have J51 : Z RX7 cX7_findSwarm 11 none 3 (zQ (RN (fun N => (∀ c_ : Nat, c_ ≠ 91 → c_ ≠ 92 → N c_ = M c_) ∧ (∀ a_ t_ : Int, 0 ≤ a_ → a_ < (M 88 k_) → 0 ≤ t_ ∧ t_ ≤ 2 * q_ → True → N 91 (41 * a_ + t_) = (swC (fun j_ => M 89 (40 * k_ + j_)) g_ q_ (M 88 k_) ((M 88 k_) - 1 - a_).toNat (mvI t_)) ∧ (a_ < (M 88 k_) - 1 → N 92 (41 * a_ + t_) = (swNx (fun j_ => M 89 (40 * k_ + j_)) g_ q_ (M 88 k_) ((M 88 k_) - 2 - a_).toNat (mvI t_))))))) 51 [some (vR 75), some (vI k_), some (vI g_), some (vI q_), some (vI (M 88 k_)), some (vI i_), some (vI t2_), none, none, none, none] [vI (costO (mvI t2_))] (P_) := by
                have hco_ := costO_le (m := mvI t2_) (by omega)
                refine z_istore_7 rfl dX7_findSwarm_51 ?_
                refine z_aload_0 dX7_findSwarm_53 ?_
                refine z_getR (r := 91) fl_X7_56 zk_75 rfl rfl dX7_findSwarm_54 ?_
                refine z_bipush dX7_findSwarm_57 (by decide) ?_
                refine z_iload_5 dX7_findSwarm_59 ?_
                refine z_imul dX7_findSwarm_61 ?_
                refine z_iload_6 dX7_findSwarm_62 ?_
                refine z_iadd dX7_findSwarm_64 ?_
                have J81 : ∀ (v_ : Int), (v_ = (if i_ = (M 88 k_) - 1 then (costO (mvI t2_), -1) else swF (costO (mvI t2_)) g_ (M 89 (40 * k_ + i_) + mvI t2_ - M 89 (40 * k_ + (i_ + 1))) (swC (fun j_ => M 89 (40 * k_ + j_)) g_ q_ (M 88 k_) ((M 88 k_) - 2 - i_).toNat) 0).1) → Z RX7 cX7_findSwarm 11 none 3 (zQ (RN (fun N => (∀ c_ : Nat, c_ ≠ 91 → c_ ≠ 92 → N c_ = M c_) ∧ (∀ a_ t_ : Int, 0 ≤ a_ → a_ < (M 88 k_) → 0 ≤ t_ ∧ t_ ≤ 2 * q_ → True → N 91 (41 * a_ + t_) = (swC (fun j_ => M 89 (40 * k_ + j_)) g_ q_ (M 88 k_) ((M 88 k_) - 1 - a_).toNat (mvI t_)) ∧ (a_ < (M 88 k_) - 1 → N 92 (41 * a_ + t_) = (swNx (fun j_ => M 89 (40 * k_ + j_)) g_ q_ (M 88 k_) ((M 88 k_) - 2 - a_).toNat (mvI t_))))))) 81 [some (vR 75), some (vI k_), some (vI g_), some (vI q_), some (vI (M 88 k_)), some (vI i_), some (vI t2_), some (vI (costO (mvI t2_))), none, none, none] [vI v_, vI (41 * i_ + t2_), vR 91] (P_) := by
                  intro v_ hv_
                  refine z_iast (n := 492) zk_91 rfl (by omega) dX7_findSwarm_81 ?_
                  refine z_aload_0 dX7_findSwarm_82 ?_
                  refine z_getR (r := 92) fl_X7_59 zk_75 rfl rfl dX7_findSwarm_83 ?_
                  refine z_bipush dX7_findSwarm_86 (by decide) ?_
                  refine z_iload_5 dX7_findSwarm_88 ?_
                  refine z_imul dX7_findSwarm_90 ?_
                  refine z_iload_6 dX7_findSwarm_91 ?_
                  refine z_iadd dX7_findSwarm_93 ?_
                  refine z_iconst dX7_findSwarm_94 ?_
                  refine z_iast (n := 492) zk_92 rfl (by omega) dX7_findSwarm_95 ?_
                  refine z_iconst dX7_findSwarm_96 ?_
                  refine z_istore_8 rfl dX7_findSwarm_97 ?_
                  have K99 : ∀ (fuel_ : Nat) (j_ : Int) (R_ : zM), 2 * q_ + 1 - j_ < (fuel_ : Int) → ((0 ≤ j_ ∧ j_ ≤ 2 * q_ + 1) ∧ (i_ = (M 88 k_) - 1 → j_ = 0)) → (R_ = (zput (zput P_ 91 (41 * i_ + t2_) (if i_ = (M 88 k_) - 1 then (costO (mvI t2_), -1) else swF (costO (mvI t2_)) g_ (M 89 (40 * k_ + i_) + mvI t2_ - M 89 (40 * k_ + (i_ + 1))) (swC (fun j_ => M 89 (40 * k_ + j_)) g_ q_ (M 88 k_) ((M 88 k_) - 2 - i_).toNat) j_.toNat).1) 92 (41 * i_ + t2_) (if i_ = (M 88 k_) - 1 then (costO (mvI t2_), -1) else swF (costO (mvI t2_)) g_ (M 89 (40 * k_ + i_) + mvI t2_ - M 89 (40 * k_ + (i_ + 1))) (swC (fun j_ => M 89 (40 * k_ + j_)) g_ q_ (M 88 k_) ((M 88 k_) - 2 - i_).toNat) j_.toNat).2)) → Z RX7 cX7_findSwarm 11 none 3 (zQ (RN (fun N => (∀ c_ : Nat, c_ ≠ 91 → c_ ≠ 92 → N c_ = M c_) ∧ (∀ a_ t_ : Int, 0 ≤ a_ → a_ < (M 88 k_) → 0 ≤ t_ ∧ t_ ≤ 2 * q_ → True → N 91 (41 * a_ + t_) = (swC (fun j_ => M 89 (40 * k_ + j_)) g_ q_ (M 88 k_) ((M 88 k_) - 1 - a_).toNat (mvI t_)) ∧ (a_ < (M 88 k_) - 1 → N 92 (41 * a_ + t_) = (swNx (fun j_ => M 89 (40 * k_ + j_)) g_ q_ (M 88 k_) ((M 88 k_) - 2 - a_).toNat (mvI t_))))))) 99 [some (vR 75), some (vI k_), some (vI g_), some (vI q_), some (vI (M 88 k_)), some (vI i_), some (vI t2_), some (vI (costO (mvI t2_))), some (vI j_), none, none] [] (R_) := by
                    intro fuel_
                    induction fuel_ with
                    | zero => intro j_ R_ hfuel_ hj_ hR_; exfalso; omega
                    | succ fuel_ ih99 =>
                      intro j_ R_ hfuel_ hj_ hR_
                      have r89_ : R_ 89 = M 89 := by rw [hR_, zput_ne (by decide), zput_ne (by decide)]; exact hP1_ 89 (by decide) (by decide)
                      have zj_ := mvI_abs (k := j_) (by omega)
                      have zj2_ := zabs_cases (mvI j_)
                      refine z_iload_8 dX7_findSwarm_99 ?_
                      refine z_iconst dX7_findSwarm_101 ?_
                      refine z_iload_3 dX7_findSwarm_102 ?_
                      refine z_imul dX7_findSwarm_103 ?_
                      refine z_icmp_gt (tgt := 231) (by omega) (by omega) dX7_findSwarm_104 (by decide) (fun c104 => ?_) (fun c104 => ?_)
                      · refine z_iinc_6 rfl dX7_findSwarm_231 ?_
                        refine z_goto (tgt := 22) dX7_findSwarm_234 (by decide) ?_
                        refine z_drop_7 ?_
                        refine z_drop_8 ?_
                        exact ih22 _ _ (by omega) (by omega) (by intro c_ h1_ h2_; rw [hR_, zput_ne h2_, zput_ne h1_]; exact hP1_ c_ h1_ h2_) (by intro a_ t_ h1_ h2_ h3_ h4_; by_cases e_ : a_ = i_ ∧ t_ = t2_; (obtain ⟨rfl, rfl⟩ := e_; rw [hR_, zput_ne (by decide), zput_eq, zput_eq]; by_cases q1_ : a_ = (M 88 k_) - 1; (rw [if_pos q1_, show ((M 88 k_) - 1 - a_).toNat = 0 by omega]; exact ⟨rfl, fun h_ => by exfalso; omega⟩); (rw [if_neg q1_, show j_.toNat = (2 * q_ + 1).toNat by omega, show ((M 88 k_) - 1 - a_).toNat = ((M 88 k_) - 2 - a_).toNat + 1 by omega]; refine ⟨?_, fun _ => ?_⟩; (show _ = (swF _ _ (M 89 (40 * k_ + ((M 88 k_) - 2 - (((M 88 k_) - 2 - a_).toNat : Int))) + _ - M 89 (40 * k_ + ((M 88 k_) - 1 - (((M 88 k_) - 2 - a_).toNat : Int)))) _ _).1; rw [show (M 88 k_) - 2 - (((M 88 k_) - 2 - a_).toNat : Int) = a_ by omega, show (M 88 k_) - 1 - (((M 88 k_) - 2 - a_).toNat : Int) = a_ + 1 by omega]); (show _ = (swF _ _ (M 89 (40 * k_ + ((M 88 k_) - 2 - (((M 88 k_) - 2 - a_).toNat : Int))) + _ - M 89 (40 * k_ + ((M 88 k_) - 1 - (((M 88 k_) - 2 - a_).toNat : Int)))) _ _).2; rw [show (M 88 k_) - 2 - (((M 88 k_) - 2 - a_).toNat : Int) = a_ by omega, show (M 88 k_) - 1 - (((M 88 k_) - 2 - a_).toNat : Int) = a_ + 1 by omega]))); (have hne_ : 41 * a_ + t_ ≠ (41 * i_ + t2_) := (by omega); rw [hR_, zput_ne (by decide), zput_ne2 hne_, zput_ne2 hne_, zput_ne (by decide)]; exact hP2_ a_ t_ h1_ h2_ h3_ (by omega)))
                      · refine z_iload_5 dX7_findSwarm_107 ?_
                        refine z_iload_4 dX7_findSwarm_109 ?_
                        refine z_iconst dX7_findSwarm_111 ?_
                        refine z_isub dX7_findSwarm_112 ?_
                        refine z_icmp_ge (tgt := 231) (by omega) (by omega) dX7_findSwarm_113 (by decide) (fun c113 => ?_) (fun c113 => ?_)
                        · refine z_iinc_6 rfl dX7_findSwarm_231 ?_
                          refine z_goto (tgt := 22) dX7_findSwarm_234 (by decide) ?_
                          refine z_drop_7 ?_
                          refine z_drop_8 ?_
                          exact ih22 _ _ (by omega) (by omega) (by intro c_ h1_ h2_; rw [hR_, zput_ne h2_, zput_ne h1_]; exact hP1_ c_ h1_ h2_) (by intro a_ t_ h1_ h2_ h3_ h4_; by_cases e_ : a_ = i_ ∧ t_ = t2_; (obtain ⟨rfl, rfl⟩ := e_; rw [hR_, zput_ne (by decide), zput_eq, zput_eq]; by_cases q1_ : a_ = (M 88 k_) - 1; (rw [if_pos q1_, show ((M 88 k_) - 1 - a_).toNat = 0 by omega]; exact ⟨rfl, fun h_ => by exfalso; omega⟩); (rw [if_neg q1_, show j_.toNat = (2 * q_ + 1).toNat by omega, show ((M 88 k_) - 1 - a_).toNat = ((M 88 k_) - 2 - a_).toNat + 1 by omega]; refine ⟨?_, fun _ => ?_⟩; (show _ = (swF _ _ (M 89 (40 * k_ + ((M 88 k_) - 2 - (((M 88 k_) - 2 - a_).toNat : Int))) + _ - M 89 (40 * k_ + ((M 88 k_) - 1 - (((M 88 k_) - 2 - a_).toNat : Int)))) _ _).1; rw [show (M 88 k_) - 2 - (((M 88 k_) - 2 - a_).toNat : Int) = a_ by omega, show (M 88 k_) - 1 - (((M 88 k_) - 2 - a_).toNat : Int) = a_ + 1 by omega]); (show _ = (swF _ _ (M 89 (40 * k_ + ((M 88 k_) - 2 - (((M 88 k_) - 2 - a_).toNat : Int))) + _ - M 89 (40 * k_ + ((M 88 k_) - 1 - (((M 88 k_) - 2 - a_).toNat : Int)))) _ _).2; rw [show (M 88 k_) - 2 - (((M 88 k_) - 2 - a_).toNat : Int) = a_ by omega, show (M 88 k_) - 1 - (((M 88 k_) - 2 - a_).toNat : Int) = a_ + 1 by omega]))); (have hne_ : 41 * a_ + t_ ≠ (41 * i_ + t2_) := (by omega); rw [hR_, zput_ne (by decide), zput_ne2 hne_, zput_ne2 hne_, zput_ne (by decide)]; exact hP2_ a_ t_ h1_ h2_ h3_ (by omega)))
                        · have hh1_ := hH i_ (by omega) (by omega)
                          have hh2_ := hH (i_ + 1) (by omega) (by omega)
                          have hcr_ := swC_le (H := (fun j_ => M 89 (40 * k_ + j_))) (g := g_) (q := q_) (n := (M 88 k_)) hq ((M 88 k_) - 2 - i_).toNat (mvI j_) (by omega)
                          have hsl_ := (swF_le (own := costO (mvI t2_)) (g := g_) (x := (M 89 (40 * k_ + i_) + mvI t2_ - M 89 (40 * k_ + (i_ + 1)))) (nx := swC (fun j_ => M 89 (40 * k_ + j_)) g_ q_ (M 88 k_) ((M 88 k_) - 2 - i_).toNat) j_.toNat).1
                          have hza_ := zabs_cases (M 89 (40 * k_ + i_) + mvI t2_ - (M 89 (40 * k_ + (i_ + 1)) + mvI j_))
                          refine z_iload_7 dX7_findSwarm_116 ?_
                          refine z_aload_0 dX7_findSwarm_118 ?_
                          refine z_getR (r := 91) fl_X7_56 zk_75 rfl rfl dX7_findSwarm_119 ?_
                          refine z_bipush dX7_findSwarm_122 (by decide) ?_
                          refine z_iload_5 dX7_findSwarm_124 ?_
                          refine z_imul dX7_findSwarm_126 ?_
                          refine z_bipush dX7_findSwarm_127 (by decide) ?_
                          refine z_iadd dX7_findSwarm_129 ?_
                          refine z_iload_8 dX7_findSwarm_130 ?_
                          refine z_iadd dX7_findSwarm_132 ?_
                          refine z_ialdv (n := 492) (v := (swC (fun j_ => M 89 (40 * k_ + j_)) g_ q_ (M 88 k_) ((M 88 k_) - 2 - i_).toNat (mvI j_))) zk_91 rfl (by omega) (by rw [hR_, zput_ne (by decide), zput_ne2 (by omega)]; have h_ := (hP2_ (i_ + 1) j_ (by omega) (by omega) (by omega) (Or.inl (by omega))).1; rw [show 41 * i_ + 41 + j_ = 41 * (i_ + 1) + j_ by omega, h_, show ((M 88 k_) - 1 - (i_ + 1)).toNat = ((M 88 k_) - 2 - i_).toNat by omega]) dX7_findSwarm_133 ?_
                          refine z_iadd dX7_findSwarm_134 ?_
                          refine z_istore_9 rfl dX7_findSwarm_135 ?_
                          refine z_aload_0 dX7_findSwarm_137 ?_
                          refine z_iload_1 dX7_findSwarm_138 ?_
                          refine z_iload_5 dX7_findSwarm_139 ?_
                          refine z_iload_6 dX7_findSwarm_141 ?_
                          refine z_cVI yv_X7_heightOf ml_X7_308 (c_X7_heightOf (M := R_) (by omega) (by omega) (by omega)) zk_75 rfl rfl (by decide) (Nat.le_of_ble_eq_true rfl) dX7_findSwarm_143 ?_
                          rw [r89_]
                          refine z_aload_0 dX7_findSwarm_146 ?_
                          refine z_iload_1 dX7_findSwarm_147 ?_
                          refine z_iload_5 dX7_findSwarm_148 ?_
                          refine z_iconst dX7_findSwarm_150 ?_
                          refine z_iadd dX7_findSwarm_151 ?_
                          refine z_iload_8 dX7_findSwarm_152 ?_
                          refine z_cVI yv_X7_heightOf ml_X7_308 (c_X7_heightOf (M := R_) (by omega) (by omega) (by omega)) zk_75 rfl rfl (by decide) (Nat.le_of_ble_eq_true rfl) dX7_findSwarm_154 ?_
                          rw [r89_]
                          refine z_isub dX7_findSwarm_157 ?_
                          refine z_cSI ys_X7_size ml_X7_100 (c_X7_size (by omega)) rfl rfl (by decide) (Nat.le_of_ble_eq_true rfl) dX7_findSwarm_158 ?_
                          refine z_iload_2 dX7_findSwarm_161 ?_
                          refine z_icmp_lt (tgt := 169) (by omega) (by omega) dX7_findSwarm_162 (by decide) (fun c162 => ?_) (fun c162 => ?_)
                          · refine z_iconst dX7_findSwarm_169 ?_
                            refine z_istore_10 rfl dX7_findSwarm_170 ?_
                            have hsn_ : 0 ≤ (swF (costO (mvI t2_)) g_ (M 89 (40 * k_ + i_) + mvI t2_ - M 89 (40 * k_ + (i_ + 1))) (swC (fun j_ => M 89 (40 * k_ + j_)) g_ q_ (M 88 k_) ((M 88 k_) - 2 - i_).toNat) j_.toNat).1 := by
                              rcases swF_at (own := costO (mvI t2_)) (g := g_) (x := (M 89 (40 * k_ + i_) + mvI t2_ - M 89 (40 * k_ + (i_ + 1)))) (nx := swC (fun j_ => M 89 (40 * k_ + j_)) g_ q_ (M 88 k_) ((M 88 k_) - 2 - i_).toNat) j_.toNat with a_ | ⟨y_, b1_, b2_, b3_, b4_, b5_, b6_⟩
                              · omega
                              · have z_ := mvI_abs (k := (y_ : Int)) (by omega)
                                have z2_ := zabs_cases (mvI (y_ : Int))
                                have i2_ := swC_le (H := (fun j_ => M 89 (40 * k_ + j_))) (g := g_) (n := (M 88 k_)) hq ((M 88 k_) - 2 - i_).toNat (mvI (y_ : Int)) (by omega)
                                omega
                            have hap_ : zabs ((M 89 (40 * k_ + i_) + mvI t2_ - M 89 (40 * k_ + (i_ + 1))) - mvI j_) = zabs (M 89 (40 * k_ + i_) + mvI t2_ - (M 89 (40 * k_ + (i_ + 1)) + mvI j_)) := by rw [show (M 89 (40 * k_ + i_) + mvI t2_ - M 89 (40 * k_ + (i_ + 1))) - mvI j_ = M 89 (40 * k_ + i_) + mvI t2_ - (M 89 (40 * k_ + (i_ + 1)) + mvI j_) by omega]
                            have hA1_ : (g_ ≤ zabs (M 89 (40 * k_ + i_) + mvI t2_ - (M 89 (40 * k_ + (i_ + 1)) + mvI j_)) ∧ costO (mvI t2_) + swC (fun j_ => M 89 (40 * k_ + j_)) g_ q_ (M 88 k_) ((M 88 k_) - 2 - i_).toNat (mvI j_) < (swF (costO (mvI t2_)) g_ (M 89 (40 * k_ + i_) + mvI t2_ - M 89 (40 * k_ + (i_ + 1))) (swC (fun j_ => M 89 (40 * k_ + j_)) g_ q_ (M 88 k_) ((M 88 k_) - 2 - i_).toNat) j_.toNat).1) → (if i_ = (M 88 k_) - 1 then (costO (mvI t2_), -1) else swF (costO (mvI t2_)) g_ (M 89 (40 * k_ + i_) + mvI t2_ - M 89 (40 * k_ + (i_ + 1))) (swC (fun j_ => M 89 (40 * k_ + j_)) g_ q_ (M 88 k_) ((M 88 k_) - 2 - i_).toNat) (j_ + 1).toNat) = (costO (mvI t2_) + swC (fun j_ => M 89 (40 * k_ + j_)) g_ q_ (M 88 k_) ((M 88 k_) - 2 - i_).toNat (mvI j_), j_) := fun h_ => by
                              rw [if_neg (by omega), nat_1 hj_.1.1, swF, Int.toNat_of_nonneg hj_.1.1, if_pos (by rw [hap_]; exact h_)]
                            have hA0_ : ¬ (g_ ≤ zabs (M 89 (40 * k_ + i_) + mvI t2_ - (M 89 (40 * k_ + (i_ + 1)) + mvI j_)) ∧ costO (mvI t2_) + swC (fun j_ => M 89 (40 * k_ + j_)) g_ q_ (M 88 k_) ((M 88 k_) - 2 - i_).toNat (mvI j_) < (swF (costO (mvI t2_)) g_ (M 89 (40 * k_ + i_) + mvI t2_ - M 89 (40 * k_ + (i_ + 1))) (swC (fun j_ => M 89 (40 * k_ + j_)) g_ q_ (M 88 k_) ((M 88 k_) - 2 - i_).toNat) j_.toNat).1) → (if i_ = (M 88 k_) - 1 then (costO (mvI t2_), -1) else swF (costO (mvI t2_)) g_ (M 89 (40 * k_ + i_) + mvI t2_ - M 89 (40 * k_ + (i_ + 1))) (swC (fun j_ => M 89 (40 * k_ + j_)) g_ q_ (M 88 k_) ((M 88 k_) - 2 - i_).toNat) (j_ + 1).toNat) = (if i_ = (M 88 k_) - 1 then (costO (mvI t2_), -1) else swF (costO (mvI t2_)) g_ (M 89 (40 * k_ + i_) + mvI t2_ - M 89 (40 * k_ + (i_ + 1))) (swC (fun j_ => M 89 (40 * k_ + j_)) g_ q_ (M 88 k_) ((M 88 k_) - 2 - i_).toNat) j_.toNat) := fun h_ => by
                              rw [if_neg (by omega), if_neg (by omega), nat_1 hj_.1.1, swF, Int.toNat_of_nonneg hj_.1.1, if_neg (by rw [hap_]; exact h_)]
                            refine z_iload_10 dX7_findSwarm_172 ?_
                            refine z_if_eq (tgt := 225) (by decide) dX7_findSwarm_174 (by decide) (fun c174 => ?_) (fun c174 => ?_)
                            · refine z_iinc_8 rfl dX7_findSwarm_225 ?_
                              refine z_goto (tgt := 99) dX7_findSwarm_228 (by decide) ?_
                              refine z_drop_9 ?_
                              refine z_drop_10 ?_
                              exact ih99 _ _ (by omega) (by omega) (by rw [hR_]; first | (rw [hA1_ ⟨by first | assumption | omega, by omega⟩]; exact zput2_2) | (rw [hA0_ (fun h_ => by first | exact absurd h_.1 (by assumption) | (have h2_ := h_.1; have h3_ := h_.2; omega))]; done))
                            · skip
                              refine z_iload_9 dX7_findSwarm_177 ?_
                              refine z_aload_0 dX7_findSwarm_179 ?_
                              refine z_getR (r := 91) fl_X7_56 zk_75 rfl rfl dX7_findSwarm_180 ?_
                              refine z_bipush dX7_findSwarm_183 (by decide) ?_
                              refine z_iload_5 dX7_findSwarm_185 ?_
                              refine z_imul dX7_findSwarm_187 ?_
                              refine z_iload_6 dX7_findSwarm_188 ?_
                              refine z_iadd dX7_findSwarm_190 ?_
                              refine z_ialdv (n := 492) (v := (swF (costO (mvI t2_)) g_ (M 89 (40 * k_ + i_) + mvI t2_ - M 89 (40 * k_ + (i_ + 1))) (swC (fun j_ => M 89 (40 * k_ + j_)) g_ q_ (M 88 k_) ((M 88 k_) - 2 - i_).toNat) j_.toNat).1) zk_91 rfl (by omega) (by rw [hR_, zput_ne (by decide), zput_eq, if_neg (by omega)]) dX7_findSwarm_191 ?_
                              refine z_icmp_ge (tgt := 225) (by omega) (by omega) dX7_findSwarm_192 (by decide) (fun c192 => ?_) (fun c192 => ?_)
                              · refine z_iinc_8 rfl dX7_findSwarm_225 ?_
                                refine z_goto (tgt := 99) dX7_findSwarm_228 (by decide) ?_
                                refine z_drop_9 ?_
                                refine z_drop_10 ?_
                                exact ih99 _ _ (by omega) (by omega) (by rw [hR_]; first | (rw [hA1_ ⟨by first | assumption | omega, by omega⟩]; exact zput2_2) | (rw [hA0_ (fun h_ => by first | exact absurd h_.1 (by assumption) | (have h2_ := h_.1; have h3_ := h_.2; omega))]; done))
                              · refine z_aload_0 dX7_findSwarm_195 ?_
                                refine z_getR (r := 91) fl_X7_56 zk_75 rfl rfl dX7_findSwarm_196 ?_
                                refine z_bipush dX7_findSwarm_199 (by decide) ?_
                                refine z_iload_5 dX7_findSwarm_201 ?_
                                refine z_imul dX7_findSwarm_203 ?_
                                refine z_iload_6 dX7_findSwarm_204 ?_
                                refine z_iadd dX7_findSwarm_206 ?_
                                refine z_iload_9 dX7_findSwarm_207 ?_
                                refine z_iast (n := 492) zk_91 rfl (by omega) dX7_findSwarm_209 ?_
                                refine z_aload_0 dX7_findSwarm_210 ?_
                                refine z_getR (r := 92) fl_X7_59 zk_75 rfl rfl dX7_findSwarm_211 ?_
                                refine z_bipush dX7_findSwarm_214 (by decide) ?_
                                refine z_iload_5 dX7_findSwarm_216 ?_
                                refine z_imul dX7_findSwarm_218 ?_
                                refine z_iload_6 dX7_findSwarm_219 ?_
                                refine z_iadd dX7_findSwarm_221 ?_
                                refine z_iload_8 dX7_findSwarm_222 ?_
                                refine z_iast (n := 492) zk_92 rfl (by omega) dX7_findSwarm_224 ?_
                                refine z_iinc_8 rfl dX7_findSwarm_225 ?_
                                refine z_goto (tgt := 99) dX7_findSwarm_228 (by decide) ?_
                                refine z_drop_9 ?_
                                refine z_drop_10 ?_
                                exact ih99 _ _ (by omega) (by omega) (by rw [hR_]; first | (rw [hA1_ ⟨by first | assumption | omega, by omega⟩]; exact zput2_2) | (rw [hA0_ (fun h_ => by first | exact absurd h_.1 (by assumption) | (have h2_ := h_.1; have h3_ := h_.2; omega))]; done))
                          · refine z_iconst dX7_findSwarm_165 ?_
                            refine z_goto (tgt := 170) dX7_findSwarm_166 (by decide) ?_
                            refine z_istore_10 rfl dX7_findSwarm_170 ?_
                            have hsn_ : 0 ≤ (swF (costO (mvI t2_)) g_ (M 89 (40 * k_ + i_) + mvI t2_ - M 89 (40 * k_ + (i_ + 1))) (swC (fun j_ => M 89 (40 * k_ + j_)) g_ q_ (M 88 k_) ((M 88 k_) - 2 - i_).toNat) j_.toNat).1 := by
                              rcases swF_at (own := costO (mvI t2_)) (g := g_) (x := (M 89 (40 * k_ + i_) + mvI t2_ - M 89 (40 * k_ + (i_ + 1)))) (nx := swC (fun j_ => M 89 (40 * k_ + j_)) g_ q_ (M 88 k_) ((M 88 k_) - 2 - i_).toNat) j_.toNat with a_ | ⟨y_, b1_, b2_, b3_, b4_, b5_, b6_⟩
                              · omega
                              · have z_ := mvI_abs (k := (y_ : Int)) (by omega)
                                have z2_ := zabs_cases (mvI (y_ : Int))
                                have i2_ := swC_le (H := (fun j_ => M 89 (40 * k_ + j_))) (g := g_) (n := (M 88 k_)) hq ((M 88 k_) - 2 - i_).toNat (mvI (y_ : Int)) (by omega)
                                omega
                            have hap_ : zabs ((M 89 (40 * k_ + i_) + mvI t2_ - M 89 (40 * k_ + (i_ + 1))) - mvI j_) = zabs (M 89 (40 * k_ + i_) + mvI t2_ - (M 89 (40 * k_ + (i_ + 1)) + mvI j_)) := by rw [show (M 89 (40 * k_ + i_) + mvI t2_ - M 89 (40 * k_ + (i_ + 1))) - mvI j_ = M 89 (40 * k_ + i_) + mvI t2_ - (M 89 (40 * k_ + (i_ + 1)) + mvI j_) by omega]
                            have hA1_ : (g_ ≤ zabs (M 89 (40 * k_ + i_) + mvI t2_ - (M 89 (40 * k_ + (i_ + 1)) + mvI j_)) ∧ costO (mvI t2_) + swC (fun j_ => M 89 (40 * k_ + j_)) g_ q_ (M 88 k_) ((M 88 k_) - 2 - i_).toNat (mvI j_) < (swF (costO (mvI t2_)) g_ (M 89 (40 * k_ + i_) + mvI t2_ - M 89 (40 * k_ + (i_ + 1))) (swC (fun j_ => M 89 (40 * k_ + j_)) g_ q_ (M 88 k_) ((M 88 k_) - 2 - i_).toNat) j_.toNat).1) → (if i_ = (M 88 k_) - 1 then (costO (mvI t2_), -1) else swF (costO (mvI t2_)) g_ (M 89 (40 * k_ + i_) + mvI t2_ - M 89 (40 * k_ + (i_ + 1))) (swC (fun j_ => M 89 (40 * k_ + j_)) g_ q_ (M 88 k_) ((M 88 k_) - 2 - i_).toNat) (j_ + 1).toNat) = (costO (mvI t2_) + swC (fun j_ => M 89 (40 * k_ + j_)) g_ q_ (M 88 k_) ((M 88 k_) - 2 - i_).toNat (mvI j_), j_) := fun h_ => by
                              rw [if_neg (by omega), nat_1 hj_.1.1, swF, Int.toNat_of_nonneg hj_.1.1, if_pos (by rw [hap_]; exact h_)]
                            have hA0_ : ¬ (g_ ≤ zabs (M 89 (40 * k_ + i_) + mvI t2_ - (M 89 (40 * k_ + (i_ + 1)) + mvI j_)) ∧ costO (mvI t2_) + swC (fun j_ => M 89 (40 * k_ + j_)) g_ q_ (M 88 k_) ((M 88 k_) - 2 - i_).toNat (mvI j_) < (swF (costO (mvI t2_)) g_ (M 89 (40 * k_ + i_) + mvI t2_ - M 89 (40 * k_ + (i_ + 1))) (swC (fun j_ => M 89 (40 * k_ + j_)) g_ q_ (M 88 k_) ((M 88 k_) - 2 - i_).toNat) j_.toNat).1) → (if i_ = (M 88 k_) - 1 then (costO (mvI t2_), -1) else swF (costO (mvI t2_)) g_ (M 89 (40 * k_ + i_) + mvI t2_ - M 89 (40 * k_ + (i_ + 1))) (swC (fun j_ => M 89 (40 * k_ + j_)) g_ q_ (M 88 k_) ((M 88 k_) - 2 - i_).toNat) (j_ + 1).toNat) = (if i_ = (M 88 k_) - 1 then (costO (mvI t2_), -1) else swF (costO (mvI t2_)) g_ (M 89 (40 * k_ + i_) + mvI t2_ - M 89 (40 * k_ + (i_ + 1))) (swC (fun j_ => M 89 (40 * k_ + j_)) g_ q_ (M 88 k_) ((M 88 k_) - 2 - i_).toNat) j_.toNat) := fun h_ => by
                              rw [if_neg (by omega), if_neg (by omega), nat_1 hj_.1.1, swF, Int.toNat_of_nonneg hj_.1.1, if_neg (by rw [hap_]; exact h_)]
                            refine z_iload_10 dX7_findSwarm_172 ?_
                            refine z_if_eq (tgt := 225) (by decide) dX7_findSwarm_174 (by decide) (fun c174 => ?_) (fun c174 => ?_)
                            · refine z_iinc_8 rfl dX7_findSwarm_225 ?_
                              refine z_goto (tgt := 99) dX7_findSwarm_228 (by decide) ?_
                              refine z_drop_9 ?_
                              refine z_drop_10 ?_
                              exact ih99 _ _ (by omega) (by omega) (by rw [hR_]; first | (rw [hA1_ ⟨by first | assumption | omega, by omega⟩]; exact zput2_2) | (rw [hA0_ (fun h_ => by first | exact absurd h_.1 (by assumption) | (have h2_ := h_.1; have h3_ := h_.2; omega))]; done))
                            · skip
                              refine z_iload_9 dX7_findSwarm_177 ?_
                              refine z_aload_0 dX7_findSwarm_179 ?_
                              refine z_getR (r := 91) fl_X7_56 zk_75 rfl rfl dX7_findSwarm_180 ?_
                              refine z_bipush dX7_findSwarm_183 (by decide) ?_
                              refine z_iload_5 dX7_findSwarm_185 ?_
                              refine z_imul dX7_findSwarm_187 ?_
                              refine z_iload_6 dX7_findSwarm_188 ?_
                              refine z_iadd dX7_findSwarm_190 ?_
                              refine z_ialdv (n := 492) (v := (swF (costO (mvI t2_)) g_ (M 89 (40 * k_ + i_) + mvI t2_ - M 89 (40 * k_ + (i_ + 1))) (swC (fun j_ => M 89 (40 * k_ + j_)) g_ q_ (M 88 k_) ((M 88 k_) - 2 - i_).toNat) j_.toNat).1) zk_91 rfl (by omega) (by rw [hR_, zput_ne (by decide), zput_eq, if_neg (by omega)]) dX7_findSwarm_191 ?_
                              refine z_icmp_ge (tgt := 225) (by omega) (by omega) dX7_findSwarm_192 (by decide) (fun c192 => ?_) (fun c192 => ?_)
                              · refine z_iinc_8 rfl dX7_findSwarm_225 ?_
                                refine z_goto (tgt := 99) dX7_findSwarm_228 (by decide) ?_
                                refine z_drop_9 ?_
                                refine z_drop_10 ?_
                                exact ih99 _ _ (by omega) (by omega) (by rw [hR_]; first | (rw [hA1_ ⟨by first | assumption | omega, by omega⟩]; exact zput2_2) | (rw [hA0_ (fun h_ => by first | exact absurd h_.1 (by assumption) | (have h2_ := h_.1; have h3_ := h_.2; omega))]; done))
                              · refine z_aload_0 dX7_findSwarm_195 ?_
                                refine z_getR (r := 91) fl_X7_56 zk_75 rfl rfl dX7_findSwarm_196 ?_
                                refine z_bipush dX7_findSwarm_199 (by decide) ?_
                                refine z_iload_5 dX7_findSwarm_201 ?_
                                refine z_imul dX7_findSwarm_203 ?_
                                refine z_iload_6 dX7_findSwarm_204 ?_
                                refine z_iadd dX7_findSwarm_206 ?_
                                refine z_iload_9 dX7_findSwarm_207 ?_
                                refine z_iast (n := 492) zk_91 rfl (by omega) dX7_findSwarm_209 ?_
                                refine z_aload_0 dX7_findSwarm_210 ?_
                                refine z_getR (r := 92) fl_X7_59 zk_75 rfl rfl dX7_findSwarm_211 ?_
                                refine z_bipush dX7_findSwarm_214 (by decide) ?_
                                refine z_iload_5 dX7_findSwarm_216 ?_
                                refine z_imul dX7_findSwarm_218 ?_
                                refine z_iload_6 dX7_findSwarm_219 ?_
                                refine z_iadd dX7_findSwarm_221 ?_
                                refine z_iload_8 dX7_findSwarm_222 ?_
                                refine z_iast (n := 492) zk_92 rfl (by omega) dX7_findSwarm_224 ?_
                                refine z_iinc_8 rfl dX7_findSwarm_225 ?_
                                refine z_goto (tgt := 99) dX7_findSwarm_228 (by decide) ?_
                                refine z_drop_9 ?_
                                refine z_drop_10 ?_
                                exact ih99 _ _ (by omega) (by omega) (by rw [hR_]; first | (rw [hA1_ ⟨by first | assumption | omega, by omega⟩]; exact zput2_2) | (rw [hA0_ (fun h_ => by first | exact absurd h_.1 (by assumption) | (have h2_ := h_.1; have h3_ := h_.2; omega))]; done))
                  have L99 : ∀ (j_ : Int) (R_ : zM), ((0 ≤ j_ ∧ j_ ≤ 2 * q_ + 1) ∧ (i_ = (M 88 k_) - 1 → j_ = 0)) → (R_ = (zput (zput P_ 91 (41 * i_ + t2_) (if i_ = (M 88 k_) - 1 then (costO (mvI t2_), -1) else swF (costO (mvI t2_)) g_ (M 89 (40 * k_ + i_) + mvI t2_ - M 89 (40 * k_ + (i_ + 1))) (swC (fun j_ => M 89 (40 * k_ + j_)) g_ q_ (M 88 k_) ((M 88 k_) - 2 - i_).toNat) j_.toNat).1) 92 (41 * i_ + t2_) (if i_ = (M 88 k_) - 1 then (costO (mvI t2_), -1) else swF (costO (mvI t2_)) g_ (M 89 (40 * k_ + i_) + mvI t2_ - M 89 (40 * k_ + (i_ + 1))) (swC (fun j_ => M 89 (40 * k_ + j_)) g_ q_ (M 88 k_) ((M 88 k_) - 2 - i_).toNat) j_.toNat).2)) → Z RX7 cX7_findSwarm 11 none 3 (zQ (RN (fun N => (∀ c_ : Nat, c_ ≠ 91 → c_ ≠ 92 → N c_ = M c_) ∧ (∀ a_ t_ : Int, 0 ≤ a_ → a_ < (M 88 k_) → 0 ≤ t_ ∧ t_ ≤ 2 * q_ → True → N 91 (41 * a_ + t_) = (swC (fun j_ => M 89 (40 * k_ + j_)) g_ q_ (M 88 k_) ((M 88 k_) - 1 - a_).toNat (mvI t_)) ∧ (a_ < (M 88 k_) - 1 → N 92 (41 * a_ + t_) = (swNx (fun j_ => M 89 (40 * k_ + j_)) g_ q_ (M 88 k_) ((M 88 k_) - 2 - a_).toNat (mvI t_))))))) 99 [some (vR 75), some (vI k_), some (vI g_), some (vI q_), some (vI (M 88 k_)), some (vI i_), some (vI t2_), some (vI (costO (mvI t2_))), some (vI j_), none, none] [] (R_) := fun j_ R_ hj_ hR_ => K99 ((2 * q_ + 1 - j_).toNat + 1) j_ R_ (by omega) hj_ hR_
                  exact L99 _ _ (by omega) (by show zput (zput P_ 91 (41 * i_ + t2_) v_) 92 (41 * i_ + t2_) (-1) = (zput (zput P_ 91 (41 * i_ + t2_) (if i_ = (M 88 k_) - 1 then (costO (mvI t2_), -1) else swF (costO (mvI t2_)) g_ (M 89 (40 * k_ + i_) + mvI t2_ - M 89 (40 * k_ + (i_ + 1))) (swC (fun j_ => M 89 (40 * k_ + j_)) g_ q_ (M 88 k_) ((M 88 k_) - 2 - i_).toNat) 0).1) 92 (41 * i_ + t2_) (if i_ = (M 88 k_) - 1 then (costO (mvI t2_), -1) else swF (costO (mvI t2_)) g_ (M 89 (40 * k_ + i_) + mvI t2_ - M 89 (40 * k_ + (i_ + 1))) (swC (fun j_ => M 89 (40 * k_ + j_)) g_ q_ (M 88 k_) ((M 88 k_) - 2 - i_).toNat) 0).2); rw [← hv_, show (if i_ = (M 88 k_) - 1 then (costO (mvI t2_), -1) else swF (costO (mvI t2_)) g_ (M 89 (40 * k_ + i_) + mvI t2_ - M 89 (40 * k_ + (i_ + 1))) (swC (fun j_ => M 89 (40 * k_ + j_)) g_ q_ (M 88 k_) ((M 88 k_) - 2 - i_).toNat) 0).2 = -1 by split <;> rfl])
                refine z_iload_5 dX7_findSwarm_65 ?_
                refine z_iload_4 dX7_findSwarm_67 ?_
                refine z_iconst dX7_findSwarm_69 ?_
                refine z_isub dX7_findSwarm_70 ?_
                refine z_icmp_ne (tgt := 79) (by omega) (by omega) dX7_findSwarm_71 (by decide) (fun c71 => ?_) (fun c71 => ?_)
                · refine z_ldc (n := 1000000) kc_X7_160 (by decide) dX7_findSwarm_79 ?_
                  exact J81 _ (by first | (rw [if_pos (by omega)]; done) | (rw [if_neg (by omega)]; rfl))
                · refine z_iload_7 dX7_findSwarm_74 ?_
                  refine z_goto (tgt := 81) dX7_findSwarm_76 (by decide) ?_
                  exact J81 _ (by first | (rw [if_pos (by omega)]; done) | (rw [if_neg (by omega)]; rfl))
              refine z_iload_6 dX7_findSwarm_30 ?_
              refine z_if_ne (tgt := 39) (by omega) dX7_findSwarm_32 (by decide) (fun c32 => ?_) (fun c32 => ?_)
              · refine z_sipush dX7_findSwarm_39 (by decide) ?_
                refine z_iload_6 dX7_findSwarm_42 ?_
                refine z_cSI ys_X7_moveAt ml_X7_262 (c_X7_moveAt (by omega)) rfl rfl (by decide) (Nat.le_of_ble_eq_true rfl) dX7_findSwarm_44 ?_
                refine z_topI (show _ = mvI t2_ from rfl) ?_
                refine z_cSI ys_X7_size ml_X7_100 (c_X7_size (by omega)) rfl rfl (by decide) (Nat.le_of_ble_eq_true rfl) dX7_findSwarm_47 ?_
                refine z_iadd dX7_findSwarm_50 ?_
                exact z_topI (by unfold costO; first | (rw [if_pos (by rw [show t2_ = 0 by omega]; rfl)]; done) | (rw [if_neg (by omega)]; done)) (J51  )
              · refine z_iconst dX7_findSwarm_35 ?_
                refine z_goto (tgt := 51) dX7_findSwarm_36 (by decide) ?_
                exact z_topI (by unfold costO; first | (rw [if_pos (by rw [show t2_ = 0 by omega]; rfl)]; done) | (rw [if_neg (by omega)]; done)) (J51  )
        have L22 : ∀ (t2_ : Int) (P_ : zM), (0 ≤ t2_ ∧ t2_ ≤ 2 * q_ + 1) → (∀ c_ : Nat, c_ ≠ 91 → c_ ≠ 92 → P_ c_ = M c_) → (∀ a_ t_ : Int, 0 ≤ a_ → a_ < (M 88 k_) → 0 ≤ t_ ∧ t_ ≤ 2 * q_ → (i_ < a_ ∨ a_ = i_ ∧ t_ < t2_) → P_ 91 (41 * a_ + t_) = (swC (fun j_ => M 89 (40 * k_ + j_)) g_ q_ (M 88 k_) ((M 88 k_) - 1 - a_).toNat (mvI t_)) ∧ (a_ < (M 88 k_) - 1 → P_ 92 (41 * a_ + t_) = (swNx (fun j_ => M 89 (40 * k_ + j_)) g_ q_ (M 88 k_) ((M 88 k_) - 2 - a_).toNat (mvI t_)))) → Z RX7 cX7_findSwarm 11 none 3 (zQ (RN (fun N => (∀ c_ : Nat, c_ ≠ 91 → c_ ≠ 92 → N c_ = M c_) ∧ (∀ a_ t_ : Int, 0 ≤ a_ → a_ < (M 88 k_) → 0 ≤ t_ ∧ t_ ≤ 2 * q_ → True → N 91 (41 * a_ + t_) = (swC (fun j_ => M 89 (40 * k_ + j_)) g_ q_ (M 88 k_) ((M 88 k_) - 1 - a_).toNat (mvI t_)) ∧ (a_ < (M 88 k_) - 1 → N 92 (41 * a_ + t_) = (swNx (fun j_ => M 89 (40 * k_ + j_)) g_ q_ (M 88 k_) ((M 88 k_) - 2 - a_).toNat (mvI t_))))))) 22 [some (vR 75), some (vI k_), some (vI g_), some (vI q_), some (vI (M 88 k_)), some (vI i_), some (vI t2_), none, none, none, none] [] (P_) := fun t2_ P_ ht_ hP1_ hP2_ => K22 ((2 * q_ + 1 - t2_).toNat + 1) t2_ P_ (by omega) ht_ hP1_ hP2_
        exact L22 _ _ (by omega) (by exact hN1_) (by intro a_ t_ h1_ h2_ h3_ h4_; exact hN2_ a_ t_ h1_ h2_ h3_ (by omega))
  have L14 : ∀ (i_ : Int) (N_ : zM), (-1 ≤ i_ ∧ i_ ≤ (M 88 k_) - 1) → (∀ c_ : Nat, c_ ≠ 91 → c_ ≠ 92 → N_ c_ = M c_) → (∀ a_ t_ : Int, 0 ≤ a_ → a_ < (M 88 k_) → 0 ≤ t_ ∧ t_ ≤ 2 * q_ → i_ < a_ → N_ 91 (41 * a_ + t_) = (swC (fun j_ => M 89 (40 * k_ + j_)) g_ q_ (M 88 k_) ((M 88 k_) - 1 - a_).toNat (mvI t_)) ∧ (a_ < (M 88 k_) - 1 → N_ 92 (41 * a_ + t_) = (swNx (fun j_ => M 89 (40 * k_ + j_)) g_ q_ (M 88 k_) ((M 88 k_) - 2 - a_).toNat (mvI t_)))) → Z RX7 cX7_findSwarm 11 none 3 (zQ (RN (fun N => (∀ c_ : Nat, c_ ≠ 91 → c_ ≠ 92 → N c_ = M c_) ∧ (∀ a_ t_ : Int, 0 ≤ a_ → a_ < (M 88 k_) → 0 ≤ t_ ∧ t_ ≤ 2 * q_ → True → N 91 (41 * a_ + t_) = (swC (fun j_ => M 89 (40 * k_ + j_)) g_ q_ (M 88 k_) ((M 88 k_) - 1 - a_).toNat (mvI t_)) ∧ (a_ < (M 88 k_) - 1 → N 92 (41 * a_ + t_) = (swNx (fun j_ => M 89 (40 * k_ + j_)) g_ q_ (M 88 k_) ((M 88 k_) - 2 - a_).toNat (mvI t_))))))) 14 [some (vR 75), some (vI k_), some (vI g_), some (vI q_), some (vI (M 88 k_)), some (vI i_), none, none, none, none, none] [] (N_) := fun i_ N_ hi_ hN1_ hN2_ => K14 ((i_ + 1).toNat + 1) i_ N_ (by omega) hi_ hN1_ hN2_
  exact L14 _ _ (by omega) (by intro c_ _ _; rfl) (by intro a_ t_ h1_ h2_ h3_ h4_; exfalso; omega)
