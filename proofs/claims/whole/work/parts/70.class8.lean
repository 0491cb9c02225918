def SwI (M : zM) : Prop := (∀ j : Int, 0 ≤ j → j < 12 → -1000000 ≤ M 70 j ∧ M 70 j ≤ 1000000) ∧ swOK M ∧ (∀ j : Int, 0 ≤ j → j < 12 → -20 ≤ M 74 j ∧ M 74 j ≤ 20)
def out74 (N M : zM) : Prop := ∀ k : Nat, k ≠ 9 → k ≠ 70 → k ≠ 71 → k ≠ 72 → k ≠ 73 → k ≠ 74 → N k = M k
theorem out74_rf {M : zM} : out74 M M := fun _ _ _ _ _ _ _ => rfl
theorem loaM_p {M : zM} {i_ : Nat} {g_ q_ : Int} (hz : 2 ≤ (M (56 + i_) 1) ∧ (M (56 + i_) 1) ≤ 12) (hg : 0 ≤ g_ ∧ g_ ≤ 50) (hq : 0 ≤ q_ ∧ q_ ≤ 20) (hv : ∀ j : Int, 0 ≤ j → j < (M (56 + i_) 1) → -1000000 ≤ M (60 + i_) j ∧ M (60 + i_) j ≤ 1000000) (hI : SwI M) :
    loaM M i_ g_ q_ 9 8 = swT (M (60 + i_)) g_ q_ (M (56 + i_) 1) ∧ out74 (loaM M i_ g_ q_) M ∧ SwI (loaM M i_ g_ q_) ∧ (swT (M (60 + i_)) g_ q_ (M (56 + i_) 1) < 1000000 → loaM M i_ g_ q_ 9 9 = swT (M (60 + i_)) g_ q_ (M (56 + i_) 1) / 1000 ∧ loaM M i_ g_ q_ 9 10 = swT (M (60 + i_)) g_ q_ (M (56 + i_) 1) % 1000 ∧ ∀ j : Int, 0 ≤ j → j < (M (56 + i_) 1) → loaM M i_ g_ q_ 74 j = mvI (swK (M (60 + i_)) g_ q_ (M (56 + i_) 1) j.toNat)) ∧ 0 ≤ swT (M (60 + i_)) g_ q_ (M (56 + i_) 1) ∧ swT (M (60 + i_)) g_ q_ (M (56 + i_) 1) ≤ 1000000 := by
  obtain ⟨hH, hok, hV⟩ := hI
  have h70 : ∀ j : Int, 0 ≤ j → j < (M (56 + i_) 1) → loa2 M i_ g_ q_ (M (56 + i_) 1) 70 j = M (60 + i_) j := fun j a b => by
    unfold loa2
    rw [zrow_eq]
    unfold zfillA
    rw [if_pos (by omega)]
  have l5 : loa2 M i_ g_ q_ (M (56 + i_) 1) 9 5 = (M (56 + i_) 1) := loa2_5 hz.2
  have l6 : loa2 M i_ g_ q_ (M (56 + i_) 1) 9 6 = g_ := loa2_6
  have l7 : loa2 M i_ g_ q_ (M (56 + i_) 1) 9 7 = q_ := loa2_7 hq.2
  have ok2 : swOK (loa2 M i_ g_ q_ (M (56 + i_) 1)) := by unfold swOK; rw [loa2_out (by decide) (by decide), loa2_out (by decide) (by decide), loa2_out (by decide) (by decide)]; exact hok
  have ok3 : swOK (swe (loa2 M i_ g_ q_ (M (56 + i_) 1)) (M (56 + i_) 1).toNat) := swe_ok (by rw [l5]; omega) (by rw [l7]; exact hq) ok2 _ (by rw [l5]; omega)
  have cg := swA_congr (g := g_) (q := q_) (n := (M (56 + i_) 1)) (a := 0) hq.1 (by omega) (by omega) h70
  have t := swe_T l5 l6 l7 (by omega) hg.1 hq
  rw [cg.2] at t
  have row := swe_row l5 l6 l7 (by omega) hg.1 hq (M (56 + i_) 1).toNat (by omega) (by omega)
  rw [show (M (56 + i_) 1) - ((M (56 + i_) 1).toNat : Int) = 0 by omega] at row
  have tr := ok3.2.2 0 (by decide) (by decide)
  rw [t] at tr
  have e3 : ∀ k : Nat, k ≠ 9 → loa3 M i_ g_ q_ k = swe (loa2 M i_ g_ q_ (M (56 + i_) 1)) (M (56 + i_) 1).toNat k := fun k h => by unfold loa3; rw [zput_ne h]
  have e9 : ∀ j : Int, j ≠ 8 → loa3 M i_ g_ q_ 9 j = loa2 M i_ g_ q_ (M (56 + i_) 1) 9 j := fun j h => by unfold loa3; rw [zput_ne2 h, swe_out (by decide) (by decide) (by decide)]
  have e8 : loa3 M i_ g_ q_ 9 8 = swT (M (60 + i_)) g_ q_ (M (56 + i_) 1) := by unfold loa3; rw [zput_eq, t]
  have e70 : loa3 M i_ g_ q_ 70 = loa2 M i_ g_ q_ (M (56 + i_) 1) 70 := by rw [e3 _ (by decide), swe_out (by decide) (by decide) (by decide)]
  have e74 : loa3 M i_ g_ q_ 74 = M 74 := by rw [e3 _ (by decide), swe_out (by decide) (by decide) (by decide), loa2_out (by decide) (by decide)]
  have o3 : out74 (loa3 M i_ g_ q_) M := fun k h1 h2 h3 h4 h5 h6 => by rw [e3 k h1, swe_out h3 h4 h5, loa2_out h1 h2]
  have ok4 : swOK (loa3 M i_ g_ q_) := by unfold swOK; rw [e3 71 (by decide), e3 72 (by decide), e3 73 (by decide)]; exact ok3
  unfold loaM
  rw [e8]
  by_cases hT : swT (M (60 + i_)) g_ q_ (M (56 + i_) 1) < 1000000
  · rw [if_pos hT]
    have q7 : 0 ≤ loa3 M i_ g_ q_ 9 7 ∧ loa3 M i_ g_ q_ 9 7 ≤ 20 := by rw [e9 7 (by decide), l7]; exact hq
    have fp := fol_p (L := loa3 M i_ g_ q_) (H := loa2 M i_ g_ q_ (M (56 + i_) 1) 70) (n := (M (56 + i_) 1)) (g := g_) (q := q_) (by rw [e9 5 (by decide), l5]) (by rw [e9 6 (by decide), l6]) (by rw [e9 7 (by decide), l7]) (by rw [e8, cg.2]) e70 hz.1 hq (by rw [cg.2]; exact hT) (fun a x a1 a2 a3 a4 => by rw [e3 71 (by decide)]; exact row.1 a x a1 a2 a3 a4) (M (56 + i_) 1).toNat (by omega)
    obtain ⟨f1, f2, f3, f4, f5, f6⟩ := fp
    rw [if_neg (by omega)] at f1
    rw [f1, cg.2] at f3
    refine ⟨by rw [folM_9 (by decide) (by decide), e8], fun k h1 h2 h3 h4 h5 h6 => by rw [folM_out h1 h6]; exact o3 k h1 h2 h3 h4 h5 h6, ⟨by rw [folM_out (by decide) (by decide), e70]; exact loa2_70 hv hH, ?_, folM_74 q7 (by rw [e74]; exact hV) _⟩, fun _ => ⟨by omega, by omega, fun j a b => ?_⟩, tr⟩
    · unfold swOK
      rw [folM_out (by decide) (by decide), folM_out (by decide) (by decide), folM_out (by decide) (by decide)]
      exact ok4
    · rw [f2 j a (by omega), swK_congr hq.1 (by omega) h70 j.toNat (by omega)]
  · rw [if_neg hT]
    exact ⟨e8, o3, ⟨by rw [e70]; exact loa2_70 hv hH, ok4, by rw [e74]; exact hV⟩, fun h => absurd h hT, tr⟩
theorem out74_f {N M : zM} {j : Int} (h : out74 N M) : out74 (fnd6 N j) (fnd6 M j) := by
  intro k h1 h2 h3 h4 h5 h6
  have e6 := h 6 (by decide) (by decide) (by decide) (by decide) (by decide) (by decide)
  unfold fnd6
  rw [e6]
  by_cases e : k = 6
  · rw [e, zput_at, zput_at, e6]
  · rw [zput_ne e, zput_ne e, h k h1 h2 h3 h4 h5 h6]
theorem SwI_congr {N M : zM} (h : SwI M) (h70 : N 70 = M 70) (h71 : N 71 = M 71) (h72 : N 72 = M 72) (h73 : N 73 = M 73) (h74 : N 74 = M 74) : SwI N := by
  unfold SwI swOK
  rw [h70, h71, h72, h73, h74]
  exact h
theorem SwI_f {M : zM} {j : Int} (h : SwI M) : SwI (fnd6 M j) := SwI_congr h (zput_ne (by decide)) (zput_ne (by decide)) (zput_ne (by decide)) (zput_ne (by decide)) (zput_ne (by decide))
theorem c_X6_swarm {M : zM} {k_ g_ q_ a_ : Int} (hS : SH6 M) (hI : SwI M) (hk : -2147483648 ≤ k_ ∧ k_ < 2147483648) (hg : -2147483648 ≤ g_ ∧ g_ < 2147483648) (hq : -2147483648 ≤ q_ ∧ q_ < 2147483648) (ha : -2147483648 ≤ a_ ∧ a_ < 2147483648) : Call yX6_swarm cX6_swarm 6 (some .int) 5 [vR 0, vI k_, vI g_, vI q_, vI a_] (M) (RI (if ¬ ((0 ≤ k_ ∧ k_ ≤ 3) ∧ (0 ≤ g_ ∧ g_ ≤ 50) ∧ (0 ≤ q_ ∧ q_ ≤ 20) ∧ (0 ≤ a_ ∧ a_ ≤ 13)) then -1000000001 else if (if M (56 + k_.toNat) 0 = 0 then -1000000006 else if ¬ (2 ≤ (M (56 + k_.toNat) 1) ∧ (M (56 + k_.toNat) 1) ≤ 12) then -1000000007 else if inAll (M (60 + k_.toNat)) 100 (M (56 + k_.toNat) 1).toNat = true then 0 else -1000000003) ≠ 0 then (if M (56 + k_.toNat) 0 = 0 then -1000000006 else if ¬ (2 ≤ (M (56 + k_.toNat) 1) ∧ (M (56 + k_.toNat) 1) ≤ 12) then -1000000007 else if inAll (M (60 + k_.toNat)) 100 (M (56 + k_.toNat) 1).toNat = true then 0 else -1000000003) else if (1000000 ≤ (swT (M (60 + k_.toNat)) g_ q_ (M (56 + k_.toNat) 1)) ∨ (M (56 + k_.toNat) 1) ≤ a_ - 2) then -1000000004 else swA (M (60 + k_.toNat)) g_ q_ (M (56 + k_.toNat) 1) a_) (fun N => out74 N (if ¬ ((0 ≤ k_ ∧ k_ ≤ 3) ∧ (0 ≤ g_ ∧ g_ ≤ 50) ∧ (0 ≤ q_ ∧ q_ ≤ 20) ∧ (0 ≤ a_ ∧ a_ ≤ 13)) then fnd6 M 0 else if (if M (56 + k_.toNat) 0 = 0 then -1000000006 else if ¬ (2 ≤ (M (56 + k_.toNat) 1) ∧ (M (56 + k_.toNat) 1) ≤ 12) then -1000000007 else if inAll (M (60 + k_.toNat)) 100 (M (56 + k_.toNat) 1).toNat = true then 0 else -1000000003) ≠ 0 then fnd6 M (-1000000001 - (if M (56 + k_.toNat) 0 = 0 then -1000000006 else if ¬ (2 ≤ (M (56 + k_.toNat) 1) ∧ (M (56 + k_.toNat) 1) ≤ 12) then -1000000007 else if inAll (M (60 + k_.toNat)) 100 (M (56 + k_.toNat) 1).toNat = true then 0 else -1000000003)) else if (1000000 ≤ (swT (M (60 + k_.toNat)) g_ q_ (M (56 + k_.toNat) 1)) ∨ (M (56 + k_.toNat) 1) ≤ a_ - 2) then fnd6 M 3 else M) ∧ SwI N)) := by
  refine Call.of2 (own := RX6) (lv0 := [some (vR 0), some (vI k_), some (vI g_), some (vI q_), some (vI a_), none]) rfl (by decide) rfl (Nat.le_of_ble_eq_true rfl) ?_
  refine z_iload_1 dX6_swarm_0 ?_
  refine z_cSI ys_X6_isNoSheet ml_X6_261 (c_X6_isNoSheet (by omega)) rfl rfl (by decide) (Nat.le_of_ble_eq_true rfl) dX6_swarm_1 ?_
  refine z_ifb_ne (tgt := 38) dX6_swarm_4 (by decide) (fun c4 => ?_) (fun c4 => ?_)
  · refine z_aload_0 dX6_swarm_38 ?_
    refine z_ldc (n := -1000000001) kc_X6_79 (by decide) dX6_swarm_39 ?_
    refine z_cVI yv_X6_finding ml_X6_80 (c_X6_finding (by omega)) zk_0 rfl rfl (by decide) (Nat.le_of_ble_eq_true rfl) dX6_swarm_41 ?_
    exact z_iret dX6_swarm_44 (zRI (by rw [if_pos (by omega)] <;> rfl) (by rw [if_pos (by omega)]; exact ⟨out74_rf, SwI_f hI⟩))
  · refine z_iload_2 dX6_swarm_7 ?_
    refine z_iconst dX6_swarm_8 ?_
    refine z_bipush dX6_swarm_9 (by decide) ?_
    refine z_cSI ys_X6_isOutside ml_X6_69 (c_X6_isOutside (by omega) (by omega) (by omega)) rfl rfl (by decide) (Nat.le_of_ble_eq_true rfl) dX6_swarm_11 ?_
    refine z_ifb_ne (tgt := 38) dX6_swarm_14 (by decide) (fun c14 => ?_) (fun c14 => ?_)
    · refine z_aload_0 dX6_swarm_38 ?_
      refine z_ldc (n := -1000000001) kc_X6_79 (by decide) dX6_swarm_39 ?_
      refine z_cVI yv_X6_finding ml_X6_80 (c_X6_finding (by omega)) zk_0 rfl rfl (by decide) (Nat.le_of_ble_eq_true rfl) dX6_swarm_41 ?_
      exact z_iret dX6_swarm_44 (zRI (by rw [if_pos (by omega)] <;> rfl) (by rw [if_pos (by omega)]; exact ⟨out74_rf, SwI_f hI⟩))
    · refine z_iload_3 dX6_swarm_17 ?_
      refine z_iconst dX6_swarm_18 ?_
      refine z_bipush dX6_swarm_19 (by decide) ?_
      refine z_cSI ys_X6_isOutside ml_X6_69 (c_X6_isOutside (by omega) (by omega) (by omega)) rfl rfl (by decide) (Nat.le_of_ble_eq_true rfl) dX6_swarm_21 ?_
      refine z_ifb_ne (tgt := 38) dX6_swarm_24 (by decide) (fun c24 => ?_) (fun c24 => ?_)
      · refine z_aload_0 dX6_swarm_38 ?_
        refine z_ldc (n := -1000000001) kc_X6_79 (by decide) dX6_swarm_39 ?_
        refine z_cVI yv_X6_finding ml_X6_80 (c_X6_finding (by omega)) zk_0 rfl rfl (by decide) (Nat.le_of_ble_eq_true rfl) dX6_swarm_41 ?_
        exact z_iret dX6_swarm_44 (zRI (by rw [if_pos (by omega)] <;> rfl) (by rw [if_pos (by omega)]; exact ⟨out74_rf, SwI_f hI⟩))
      · refine z_iload_4 dX6_swarm_27 ?_
        refine z_iconst dX6_swarm_29 ?_
        refine z_bipush dX6_swarm_30 (by decide) ?_
        refine z_cSI ys_X6_isOutside ml_X6_69 (c_X6_isOutside (by omega) (by omega) (by omega)) rfl rfl (by decide) (Nat.le_of_ble_eq_true rfl) dX6_swarm_32 ?_
        refine z_ifb_eq (tgt := 45) dX6_swarm_35 (by decide) (fun c35 => ?_) (fun c35 => ?_)
        · have hs_ := hS k_.toNat (by omega)
          refine z_aload_0 dX6_swarm_45 ?_
          refine z_getR (r := 5) fl_X6_36 zk_0 rfl rfl dX6_swarm_46 ?_
          refine z_iload_1 dX6_swarm_49 ?_
          refine z_aald11 (n := 4) (r := (56 + k_.toNat)) zk_5 rfl (by omega) (zsh_A (by omega)) dX6_swarm_50 ?_
          refine z_cSI ys_X6_findingOfRow ml_X6_264 (c_X6_findingOfRow (by omega) hS) rfl rfl (by decide) (Nat.le_of_ble_eq_true rfl) dX6_swarm_51 ?_
          generalize hf_ : (if M (56 + k_.toNat) 0 = 0 then (-1000000006 : Int) else if ¬ (2 ≤ (M (56 + k_.toNat) 1) ∧ (M (56 + k_.toNat) 1) ≤ 12) then -1000000007 else if inAll (M (60 + k_.toNat)) 100 (M (56 + k_.toNat) 1).toNat = true then 0 else -1000000003) = f_
          have hf2_ : (f_ = 0 ∧ (2 ≤ (M (56 + k_.toNat) 1) ∧ (M (56 + k_.toNat) 1) ≤ 12) ∧ inAll (M (60 + k_.toNat)) 100 (M (56 + k_.toNat) 1).toNat = true) ∨ (-1000000007 ≤ f_ ∧ f_ ≤ -1000000001) := by
            rw [← hf_]
            split
            · omega
            · split
              · omega
              · split
                · rename_i h1_ h2_ h3_; exact Or.inl ⟨rfl, by omega, h3_⟩
                · omega
          refine z_istore_5 rfl dX6_swarm_54 ?_
          refine z_iload_5 dX6_swarm_56 ?_
          refine z_if_eq (tgt := 68) (by omega) dX6_swarm_58 (by decide) (fun c58 => ?_) (fun c58 => ?_)
          · have hf3_ : (2 ≤ (M (56 + k_.toNat) 1) ∧ (M (56 + k_.toNat) 1) ≤ 12) ∧ inAll (M (60 + k_.toNat)) 100 (M (56 + k_.toNat) 1).toNat = true := by rcases hf2_ with h_ | h_; (exact h_.2); (exfalso; omega)
            have hv_ : ∀ j : Int, 0 ≤ j → j < (M (56 + k_.toNat) 1) → -1000000 ≤ M (60 + k_.toNat) j ∧ M (60 + k_.toNat) j ≤ 1000000 := fun j a b => by have := inAll_all _ hf3_.2 j a (by omega); omega
            obtain ⟨p8_, po_, pI_, pT_, pr_⟩ := loaM_p (M := M) (i_ := k_.toNat) (g_ := g_) (q_ := q_) hf3_.1 (by omega) (by omega) hv_ hI
            have p5_ : (loaM M k_.toNat g_ q_) (56 + k_.toNat) = M (56 + k_.toNat) := po_ _ (by omega) (by omega) (by omega) (by omega) (by omega) (by omega)
            obtain ⟨hz_, hin_⟩ := hf3_
            refine z_aload_0 dX6_swarm_68 ?_
            refine z_getR (r := 9) fl_X6_61 zk_0 rfl rfl dX6_swarm_69 ?_
            refine z_aload_0 dX6_swarm_72 ?_
            refine z_getR (r := 5) fl_X6_36 zk_0 rfl rfl dX6_swarm_73 ?_
            refine z_iload_1 dX6_swarm_76 ?_
            refine z_aald11 (n := 4) (r := (56 + k_.toNat)) zk_5 rfl (by omega) (zsh_A (by omega)) dX6_swarm_77 ?_
            refine z_iload_2 dX6_swarm_78 ?_
            refine z_iload_3 dX6_swarm_79 ?_
            refine z_cVN yv_X3_load ml_X6_268 (c_X3_load (by omega) hz_ (by omega) (by omega) hv_ hI.1 hI.2.1 hI.2.2) zk_9 rfl rfl (by decide) (Nat.le_of_ble_eq_true rfl) dX6_swarm_80 ?_
            refine z_aload_0 dX6_swarm_83 ?_
            refine z_getR (r := 9) fl_X6_61 zk_0 rfl rfl dX6_swarm_84 ?_
            refine z_cVI yv_X3_canBe ml_X6_272 (c_X3_canBe (M := (loaM M k_.toNat g_ q_)) (by rw [p8_]; omega)) zk_9 rfl rfl (by decide) (Nat.le_of_ble_eq_true rfl) dX6_swarm_87 ?_
            rw [p8_]
            refine z_ifb_eq (tgt := 109) dX6_swarm_90 (by decide) (fun c90 => ?_) (fun c90 => ?_)
            · refine z_aload_0 dX6_swarm_109 ?_
              refine z_ldc (n := -1000000004) kc_X6_227 (by decide) dX6_swarm_110 ?_
              refine z_cVI yv_X6_finding ml_X6_80 (c_X6_finding (by omega)) zk_0 rfl rfl (by decide) (Nat.le_of_ble_eq_true rfl) dX6_swarm_112 ?_
              exact z_iret dX6_swarm_115 (zRI (by rw [if_neg (by omega), if_neg (by omega), if_pos (by omega)] <;> rfl) (by rw [if_neg (by omega), if_neg (by omega), if_pos (by omega)]; exact ⟨out74_f po_, SwI_f pI_⟩))
            · refine z_iload_4 dX6_swarm_93 ?_
              refine z_iconst dX6_swarm_95 ?_
              refine z_isub dX6_swarm_96 ?_
              refine z_aload_0 dX6_swarm_97 ?_
              refine z_getR (r := 5) fl_X6_36 zk_0 rfl rfl dX6_swarm_98 ?_
              refine z_iload_1 dX6_swarm_101 ?_
              refine z_aald11 (n := 4) (r := (56 + k_.toNat)) zk_5 rfl (by omega) (zsh_A (by omega)) dX6_swarm_102 ?_
              refine z_getIv (v := (M (56 + k_.toNat) 1)) fl_X6_275 (zsh_k (by omega)) rfl (by rw [p5_]) dX6_swarm_103 ?_
              refine z_icmp_lt (tgt := 116) (by omega) (by omega) dX6_swarm_106 (by decide) (fun c106 => ?_) (fun c106 => ?_)
              · refine z_iload_4 dX6_swarm_116 ?_
                rcases (show (a_ ≠ 0 ∧ a_ ≠ 1) ∨ a_ = 0 ∨ a_ = 1 from by omega) with c118 | c118 | c118
                · refine z_lookup (off := 42) (tgt := 160) (by omega) dX6_swarm_118 (by decide) (by simp [Op.lookupswitch.offset] <;> (repeat rw [if_neg (by omega)])) (by decide) ?_
                  refine z_aload_0 dX6_swarm_160 ?_
                  refine z_getR (r := 9) fl_X6_61 zk_0 rfl rfl dX6_swarm_161 ?_
                  refine z_getR (r := 74) fl_X6_280 zk_9 rfl rfl dX6_swarm_164 ?_
                  refine z_iload_4 dX6_swarm_167 ?_
                  refine z_iconst dX6_swarm_169 ?_
                  refine z_isub dX6_swarm_170 ?_
                  refine z_ialdv (n := 12) (v := (mvI (swK (M (60 + k_.toNat)) g_ q_ (M (56 + k_.toNat) 1) (a_ - 2).toNat))) zk_74 rfl (by omega) ((pT_ c90).2.2 (a_ - 2) (by omega) (by omega)) dX6_swarm_171 ?_
                  exact z_iret dX6_swarm_172 (zRI (by rw [if_neg (by omega), if_neg (by omega), if_neg (by omega)]; unfold swA; first | (rw [if_pos (by omega)]; done) | (rw [if_neg (by omega), if_pos (by omega)]; done) | (rw [if_neg (by omega), if_neg (by omega)]; done)) (by rw [if_neg (by omega), if_neg (by omega), if_neg (by omega)]; exact ⟨po_, pI_⟩))
                · refine z_lookup (off := 26) (tgt := 144) (by omega) dX6_swarm_118 (by decide) (by rw [c118]; rfl) (by decide) ?_
                  refine z_aload_0 dX6_swarm_144 ?_
                  refine z_getR (r := 9) fl_X6_61 zk_0 rfl rfl dX6_swarm_145 ?_
                  refine z_getIv (v := ((swT (M (60 + k_.toNat)) g_ q_ (M (56 + k_.toNat) 1)) / 1000)) fl_X6_278 zk_9 rfl ((pT_ c90).1) dX6_swarm_148 ?_
                  exact z_iret dX6_swarm_151 (zRI (by rw [if_neg (by omega), if_neg (by omega), if_neg (by omega)]; unfold swA; first | (rw [if_pos (by omega)]; done) | (rw [if_neg (by omega), if_pos (by omega)]; done) | (rw [if_neg (by omega), if_neg (by omega)]; done)) (by rw [if_neg (by omega), if_neg (by omega), if_neg (by omega)]; exact ⟨po_, pI_⟩))
                · refine z_lookup (off := 34) (tgt := 152) (by omega) dX6_swarm_118 (by decide) (by rw [c118]; rfl) (by decide) ?_
                  refine z_aload_0 dX6_swarm_152 ?_
                  refine z_getR (r := 9) fl_X6_61 zk_0 rfl rfl dX6_swarm_153 ?_
                  refine z_getIv (v := ((swT (M (60 + k_.toNat)) g_ q_ (M (56 + k_.toNat) 1)) % 1000)) fl_X6_279 zk_9 rfl ((pT_ c90).2.1) dX6_swarm_156 ?_
                  exact z_iret dX6_swarm_159 (zRI (by rw [if_neg (by omega), if_neg (by omega), if_neg (by omega)]; unfold swA; first | (rw [if_pos (by omega)]; done) | (rw [if_neg (by omega), if_pos (by omega)]; done) | (rw [if_neg (by omega), if_neg (by omega)]; done)) (by rw [if_neg (by omega), if_neg (by omega), if_neg (by omega)]; exact ⟨po_, pI_⟩))
              · refine z_aload_0 dX6_swarm_109 ?_
                refine z_ldc (n := -1000000004) kc_X6_227 (by decide) dX6_swarm_110 ?_
                refine z_cVI yv_X6_finding ml_X6_80 (c_X6_finding (by omega)) zk_0 rfl rfl (by decide) (Nat.le_of_ble_eq_true rfl) dX6_swarm_112 ?_
                exact z_iret dX6_swarm_115 (zRI (by rw [if_neg (by omega), if_neg (by omega), if_pos (by omega)] <;> rfl) (by rw [if_neg (by omega), if_neg (by omega), if_pos (by omega)]; exact ⟨out74_f po_, SwI_f pI_⟩))
          · refine z_aload_0 dX6_swarm_61 ?_
            refine z_iload_5 dX6_swarm_62 ?_
            refine z_cVI yv_X6_finding ml_X6_80 (c_X6_finding (by omega)) zk_0 rfl rfl (by decide) (Nat.le_of_ble_eq_true rfl) dX6_swarm_64 ?_
            exact z_iret dX6_swarm_67 (zRI (by rw [if_neg (by omega), if_pos (by omega)] <;> rfl) (by rw [if_neg (by omega), if_pos (by omega)]; exact ⟨out74_rf, SwI_f hI⟩))
        · refine z_aload_0 dX6_swarm_38 ?_
          refine z_ldc (n := -1000000001) kc_X6_79 (by decide) dX6_swarm_39 ?_
          refine z_cVI yv_X6_finding ml_X6_80 (c_X6_finding (by omega)) zk_0 rfl rfl (by decide) (Nat.le_of_ble_eq_true rfl) dX6_swarm_41 ?_
          exact z_iret dX6_swarm_44 (zRI (by rw [if_pos (by omega)] <;> rfl) (by rw [if_pos (by omega)]; exact ⟨out74_rf, SwI_f hI⟩))
