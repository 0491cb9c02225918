theorem upd1_2 {M : zM} {G : Nat → Int → Int} {a p l to m x y z : Int} {k : Nat} : zput (zput (zput (upd1 M G a k p l to m) 83 to x) 84 to y) 85 to z = zput (zput (zput M 83 to x) 84 to y) 85 to z := by
  unfold upd1
  funext c j
  unfold zput
  by_cases h : j = to
  · by_cases h3 : c = 83
    · simp [h, h3]
    · by_cases h4 : c = 84
      · simp [h, h4]
      · by_cases h5 : c = 85
        · simp [h, h5]
        · simp [h, h3, h4, h5]
  · simp [h]
theorem c_X7_place {M : zM} {e_ h_ f_ : Int} : Call yX7_place cX7_place 3 (some .int) 0 [vI e_, vI h_, vI f_] (M) (PI (1525 * e_ + 61 * (h_ + 12) + f_) M) := by
  refine Call.of2 (own := RX7) (lv0 := [some (vI e_), some (vI h_), some (vI f_)]) rfl (by decide) rfl (Nat.le_of_ble_eq_true rfl) ?_
  refine z_sipush dX7_place_0 (by decide) ?_
  refine z_iload_0 dX7_place_3 ?_
  refine z_imul dX7_place_4 ?_
  refine z_bipush dX7_place_5 (by decide) ?_
  refine z_iload_1 dX7_place_7 ?_
  refine z_bipush dX7_place_8 (by decide) ?_
  refine z_iadd dX7_place_10 ?_
  refine z_imul dX7_place_11 ?_
  refine z_iadd dX7_place_12 ?_
  refine z_iload_2 dX7_place_13 ?_
  refine z_iadd dX7_place_14 ?_
  exact z_iret dX7_place_15 (⟨rfl, rfl⟩)

theorem c_X7_findOne {M : zM} {e_ h_ f_ : Int} {G : Nat → Int → Int} (hG : ∀ (k : Nat) (p : Int), 0 ≤ p ∧ p ≤ 24 → -100000000 ≤ G k p ∧ G k p ≤ 100000000) (hp : pOK (pS (M 76))) (he : 1 ≤ e_ ∧ e_ ≤ 8) (hh : -12 ≤ h_ ∧ h_ ≤ 12) (hf : 0 ≤ f_ ∧ f_ ≤ 60) (hD : ∀ x_ : Int, 0 ≤ x_ ∧ x_ ≤ 24 → M 86 x_ = G (e_.toNat - 1) x_) (hR : RfL M G (pS (M 76)) e_ 0) : Call yX7_findOne cX7_findOne 13 none 3 [vR 75, vI e_, vI h_, vI f_] (M) (PN (upd1 M G (M 76 2) (e_.toNat - 1) (h_ + 12) (lefF (pS (M 76)) f_) (1525 * e_ + 61 * (h_ + 12) + f_) (bM G (e_.toNat - 1) (h_ + 12) (lefF (pS (M 76)) f_)))) := by
  refine Call.of2 (own := RX7) (lv0 := [some (vR 75), some (vI e_), some (vI h_), some (vI f_), none, none, none, none, none, none, none, none, none]) rfl (by decide) rfl (Nat.le_of_ble_eq_true rfl) ?_
  obtain ⟨⟨p00, p01⟩, ⟨p10, p11⟩, ⟨p20, p21⟩, ⟨p30, p31⟩, ⟨p40, p41⟩, ⟨p50, p51⟩⟩ := pOK_s hp
  have hL_ := lefF_le hp hf
  refine z_iload_1 dX7_findOne_0 ?_
  refine z_iload_2 dX7_findOne_1 ?_
  refine z_iload_3 dX7_findOne_2 ?_
  refine z_cSI ys_X7_place ml_X7_259 c_X7_place rfl rfl (by decide) (Nat.le_of_ble_eq_true rfl) dX7_findOne_3 ?_
  refine z_istore_4 rfl dX7_findOne_6 ?_
  refine z_iconst dX7_findOne_8 ?_
  refine z_istore_5 rfl dX7_findOne_9 ?_
  refine z_iconst dX7_findOne_11 ?_
  refine z_istore_6 rfl dX7_findOne_12 ?_
  have K14 : ∀ (fuel_ : Nat) (b_ : Int) (k_ : Int) (N_ : zM), 49 - k_ < (fuel_ : Int) → (0 ≤ k_ ∧ k_ ≤ 49) → ((k_ = 0 ∧ b_ = 0 ∧ N_ = M) ∨ (1 ≤ k_ ∧ b_ = 1 ∧ N_ = (upd1 M G (M 76 2) (e_.toNat - 1) (h_ + 12) (lefF (pS (M 76)) f_) (1525 * e_ + 61 * (h_ + 12) + f_) (bF (G (e_.toNat - 1)) (bE G (e_.toNat - 1)) (h_ + 12) (lefF (pS (M 76)) f_) (k_ - 1).toNat).2))) → Z RX7 cX7_findOne 13 none 3 (zQ (PN (upd1 M G (M 76 2) (e_.toNat - 1) (h_ + 12) (lefF (pS (M 76)) f_) (1525 * e_ + 61 * (h_ + 12) + f_) (bM G (e_.toNat - 1) (h_ + 12) (lefF (pS (M 76)) f_))))) 14 [some (vR 75), some (vI e_), some (vI h_), some (vI f_), some (vI (1525 * e_ + 61 * (h_ + 12) + f_)), some (vI b_), some (vI k_), none, none, none, none, none, none] [] (N_) := by
    intro fuel_
    induction fuel_ with
    | zero => intro b_ k_ N_ hfuel_ hk_ hI_; exfalso; omega
    | succ fuel_ ih14 =>
      intro b_ k_ N_ hfuel_ hk_ hI_
      have hb01_ : (k_ = 0 ∧ b_ = 0) ∨ (1 ≤ k_ ∧ b_ = 1) := by rcases hI_ with ⟨q1_, q2_, _⟩ | ⟨q1_, q2_, _⟩ <;> omega
      have no_ : ∀ c_ : Nat, c_ ≠ 83 → c_ ≠ 84 → c_ ≠ 85 → N_ c_ = M c_ := fun c_ h1_ h2_ h3_ => by
        rcases hI_ with ⟨_, _, e1_⟩ | ⟨_, _, e1_⟩
        · rw [e1_]
        · rw [e1_]; unfold upd1; rw [zput_ne h3_, zput_ne h2_, zput_ne h1_]
      have nt_ : ∀ (j_ : Int), j_ ≠ (1525 * e_ + 61 * (h_ + 12) + f_) → N_ 83 j_ = M 83 j_ ∧ N_ 84 j_ = M 84 j_ := fun j_ h1_ => by
        rcases hI_ with ⟨_, _, e1_⟩ | ⟨_, _, e1_⟩
        · rw [e1_]; exact ⟨rfl, rfl⟩
        · rw [e1_]; unfold upd1; rw [zput_ne (by decide), zput_ne (by decide), zput_ne2 h1_, zput_ne (by decide), zput_ne2 h1_, zput_ne (by decide)]; exact ⟨rfl, rfl⟩
      have nb_ : 1 ≤ k_ → N_ 83 (1525 * e_ + 61 * (h_ + 12) + f_) = vVs G (e_.toNat - 1) (h_ + 12) (lefF (pS (M 76)) f_) (bF (G (e_.toNat - 1)) (bE G (e_.toNat - 1)) (h_ + 12) (lefF (pS (M 76)) f_) (k_ - 1).toNat).2 ∧ N_ 84 (1525 * e_ + 61 * (h_ + 12) + f_) = M 76 2 * sSs G (e_.toNat - 1) (h_ + 12) (lefF (pS (M 76)) f_) (bF (G (e_.toNat - 1)) (bE G (e_.toNat - 1)) (h_ + 12) (lefF (pS (M 76)) f_) (k_ - 1).toNat).2 := fun h1_ => by
        rcases hI_ with ⟨h2_, _, _⟩ | ⟨_, _, e1_⟩
        · exfalso; omega
        · rw [e1_]; unfold upd1; rw [zput_ne (by decide), zput_ne (by decide), zput_eq, zput_ne (by decide), zput_eq]; exact ⟨rfl, rfl⟩
      have ob_ := bF_at (G := G (e_.toNat - 1)) (E := bE G (e_.toNat - 1)) (p := h_ + 12) (l := (lefF (pS (M 76)) f_)) (by omega) hL_.1 (k_ - 1).toNat
      have vb_ := vVs_le (k := (e_.toNat - 1)) hG (by omega) ob_.1
      have sb_ := sSs_le (G := G) (k := (e_.toNat - 1)) ob_.1
      have tb_ := mul_box (a := M 76 2) (b := sSs G (e_.toNat - 1) (h_ + 12) (lefF (pS (M 76)) f_) (bF (G (e_.toNat - 1)) (bE G (e_.toNat - 1)) (h_ + 12) (lefF (pS (M 76)) f_) (k_ - 1).toNat).2) (by omega) p01 sb_.1 (show _ ≤ 60 by omega)
      have no76_ : N_ 76 = M 76 := no_ 76 (by decide) (by decide) (by decide)
      refine z_iload_6 dX7_findOne_14 ?_
      refine z_bipush dX7_findOne_16 (by decide) ?_
      refine z_icmp_ge (tgt := 202) (by omega) (by decide) dX7_findOne_18 (by decide) (fun c18 => ?_) (fun c18 => ?_)
      · exact z_vret dX7_findOne_202 (zPN (by rcases hI_ with ⟨_, _, _⟩ | ⟨_, _, e1_⟩; (exfalso; omega); (rw [e1_, show (k_ - 1).toNat = 48 by omega]; rfl)))
      · refine z_iload_6 dX7_findOne_21 ?_
        refine z_cSI ys_X7_moveAt ml_X7_262 (c_X7_moveAt (by omega)) rfl rfl (by decide) (Nat.le_of_ble_eq_true rfl) dX7_findOne_23 ?_
        refine z_topI (show _ = mvI k_ from rfl) ?_
        refine z_istore_7 rfl dX7_findOne_26 ?_
        refine z_aload_0 dX7_findOne_28 ?_
        refine z_iload_2 dX7_findOne_29 ?_
        refine z_iload_3 dX7_findOne_30 ?_
        refine z_iload_7 dX7_findOne_31 ?_
        refine z_cVI yv_X7_can ml_X7_118 (c_X7_can (M := N_) (by rw [no76_]; exact hp) hh (by omega) (by have := mvI_abs (k := k_) (by omega); have := zabs_cases (mvI k_); omega)) zk_75 rfl rfl (by decide) (Nat.le_of_ble_eq_true rfl) dX7_findOne_33 ?_
        rw [no76_]
        refine z_ifb_ne (tgt := 42) dX7_findOne_36 (by decide) (fun c36 => ?_) (fun c36 => ?_)
        · have om_ : (okM (h_ + 12) (lefF (pS (M 76)) f_) (mvI k_)) := (can_ok hp hh hf).mp c36
          have lf_ := lef_sub hp hh hf om_
          have vm_ := vVs_le (k := (e_.toNat - 1)) hG (by omega) om_
          have sm_ := sSs_le (G := G) (k := (e_.toNat - 1)) om_
          have tm_ := mul_box (a := M 76 2) (b := sSs G (e_.toNat - 1) (h_ + 12) (lefF (pS (M 76)) f_) (mvI k_)) (by omega) p01 sm_.1 (show _ ≤ 60 by omega)
          have zm_ := zabs_cases (mvI k_)
          have cm_ := cmp_vs (G := G) (k := (e_.toNat - 1)) (a := M 76 2) (m := (bF (G (e_.toNat - 1)) (bE G (e_.toNat - 1)) (h_ + 12) (lefF (pS (M 76)) f_) (k_ - 1).toNat).2) (m2 := (mvI k_)) hL_.2 (by omega) ob_.1 om_
          rw [← ob_.2] at cm_
          obtain ⟨lfa_, lfb_⟩ := lf_
          have lfb2_ : 0 ≤ f_ - M 76 2 * zabs (mvI k_) ∧ f_ - M 76 2 * zabs (mvI k_) ≤ 60 := lfb_
          have lfa2_ : lefF (pS (M 76)) (f_ - M 76 2 * zabs (mvI k_)) = (lefF (pS (M 76)) f_) - zabs (mvI k_) := lfa_
          refine z_aload_0 dX7_findOne_42 ?_
          refine z_iconst dX7_findOne_43 ?_
          refine z_cVI yv_X7_its ml_X7_71 (c_X7_its (by omega)) zk_75 rfl rfl (by decide) (Nat.le_of_ble_eq_true rfl) dX7_findOne_44 ?_
          rw [no76_]
          refine z_iload_7 dX7_findOne_47 ?_
          refine z_cSI ys_X7_size ml_X7_100 (c_X7_size (by omega)) rfl rfl (by decide) (Nat.le_of_ble_eq_true rfl) dX7_findOne_49 ?_
          refine z_imul dX7_findOne_52 ?_
          refine z_istore_8 rfl dX7_findOne_53 ?_
          refine z_iload_1 dX7_findOne_55 ?_
          refine z_iconst dX7_findOne_56 ?_
          refine z_isub dX7_findOne_57 ?_
          refine z_iload_2 dX7_findOne_58 ?_
          refine z_iload_7 dX7_findOne_59 ?_
          refine z_iadd dX7_findOne_61 ?_
          refine z_iload_3 dX7_findOne_62 ?_
          refine z_iload_8 dX7_findOne_63 ?_
          refine z_isub dX7_findOne_65 ?_
          refine z_cSI ys_X7_place ml_X7_259 c_X7_place rfl rfl (by decide) (Nat.le_of_ble_eq_true rfl) dX7_findOne_66 ?_
          refine z_istore_9 rfl dX7_findOne_69 ?_
          refine z_aload_0 dX7_findOne_71 ?_
          refine z_getR (r := 86) fl_X7_41 zk_75 rfl rfl dX7_findOne_72 ?_
          refine z_iload_2 dX7_findOne_75 ?_
          refine z_iload_7 dX7_findOne_76 ?_
          refine z_iadd dX7_findOne_78 ?_
          refine z_bipush dX7_findOne_79 (by decide) ?_
          refine z_iadd dX7_findOne_81 ?_
          refine z_laldv (n := 25) (v := (G (e_.toNat - 1) (h_ + (mvI k_) + 12))) zk_86 rfl (by omega) (by rw [no_ 86 (by decide) (by decide) (by decide)]; exact hD _ (by omega)) dX7_findOne_82 ?_
          have J99 : ∀ (v_ : Int), (v_ = (bst G (e_.toNat - 1) (h_ + (mvI k_) + 12) ((lefF (pS (M 76)) f_) - zabs (mvI k_))).1) → Z RX7 cX7_findOne 13 none 3 (zQ (PN (upd1 M G (M 76 2) (e_.toNat - 1) (h_ + 12) (lefF (pS (M 76)) f_) (1525 * e_ + 61 * (h_ + 12) + f_) (bM G (e_.toNat - 1) (h_ + 12) (lefF (pS (M 76)) f_))))) 99 [some (vR 75), some (vI e_), some (vI h_), some (vI f_), some (vI (1525 * e_ + 61 * (h_ + 12) + f_)), some (vI b_), some (vI k_), some (vI (mvI k_)), some (vI ((M 76 2) * (zabs (mvI k_)))), some (vI (1525 * (e_ - 1) + 61 * ((h_ + (mvI k_)) + 12) + (f_ - ((M 76 2) * (zabs (mvI k_)))))), none, none, none] [vJ v_, vJ (G (e_.toNat - 1) (h_ + (mvI k_) + 12))] (N_) := by
            intro v_ hv_
            refine z_ladd dX7_findOne_99 ?_
            refine z_topJ (show _ = (vVs G (e_.toNat - 1) (h_ + 12) (lefF (pS (M 76)) f_) (mvI k_)) by rw [hv_]; unfold vVs; rw [show h_ + 12 + (mvI k_) = h_ + (mvI k_) + 12 by omega]) ?_
            refine z_lstore_10 rfl dX7_findOne_100 ?_
            refine z_iload_8 dX7_findOne_102 ?_
            have J120 : ∀ (t_ : Int), (t_ = M 76 2 * (bst G (e_.toNat - 1) (h_ + (mvI k_) + 12) ((lefF (pS (M 76)) f_) - zabs (mvI k_))).2) → Z RX7 cX7_findOne 13 none 3 (zQ (PN (upd1 M G (M 76 2) (e_.toNat - 1) (h_ + 12) (lefF (pS (M 76)) f_) (1525 * e_ + 61 * (h_ + 12) + f_) (bM G (e_.toNat - 1) (h_ + 12) (lefF (pS (M 76)) f_))))) 120 [some (vR 75), some (vI e_), some (vI h_), some (vI f_), some (vI (1525 * e_ + 61 * (h_ + 12) + f_)), some (vI b_), some (vI k_), some (vI (mvI k_)), some (vI ((M 76 2) * (zabs (mvI k_)))), some (vI (1525 * (e_ - 1) + 61 * ((h_ + (mvI k_)) + 12) + (f_ - ((M 76 2) * (zabs (mvI k_)))))), some (vJ (vVs G (e_.toNat - 1) (h_ + 12) (lefF (pS (M 76)) f_) (mvI k_))), none, none] [vI t_, vI (M 76 2 * zabs (mvI k_))] (N_) := by
              intro t_ ht_
              refine z_iadd dX7_findOne_120 ?_
              refine z_topI (show _ = (M 76 2 * sSs G (e_.toNat - 1) (h_ + 12) (lefF (pS (M 76)) f_) (mvI k_)) by rw [ht_]; unfold sSs; rw [show h_ + 12 + (mvI k_) = h_ + (mvI k_) + 12 by omega, Int.mul_add]) ?_
              refine z_istore_12 rfl dX7_findOne_121 ?_
              refine z_iload_5 dX7_findOne_123 ?_
              refine z_if_eq (tgt := 166) (by omega) dX7_findOne_125 (by decide) (fun c125 => ?_) (fun c125 => ?_)
              · refine z_iconst dX7_findOne_166 ?_
                refine z_istore_5 rfl dX7_findOne_167 ?_
                refine z_aload_0 dX7_findOne_169 ?_
                refine z_getR (r := 83) fl_X7_32 zk_75 rfl rfl dX7_findOne_170 ?_
                refine z_iload_4 dX7_findOne_173 ?_
                refine z_lload_10 dX7_findOne_175 ?_
                refine z_last (n := 13725) zk_83 rfl (by omega) dX7_findOne_177 ?_
                refine z_aload_0 dX7_findOne_178 ?_
                refine z_getR (r := 84) fl_X7_35 zk_75 rfl rfl dX7_findOne_179 ?_
                refine z_iload_4 dX7_findOne_182 ?_
                refine z_iload_12 dX7_findOne_184 ?_
                refine z_iast (n := 13725) zk_84 rfl (by omega) dX7_findOne_186 ?_
                refine z_aload_0 dX7_findOne_187 ?_
                refine z_getR (r := 85) fl_X7_38 zk_75 rfl rfl dX7_findOne_188 ?_
                refine z_iload_4 dX7_findOne_191 ?_
                refine z_iload_7 dX7_findOne_193 ?_
                refine z_iast (n := 13725) zk_85 rfl (by omega) dX7_findOne_195 ?_
                refine z_iinc_6 rfl dX7_findOne_196 ?_
                refine z_goto (tgt := 14) dX7_findOne_199 (by decide) ?_
                refine z_drop_7 ?_
                refine z_drop_8 ?_
                refine z_drop_9 ?_
                refine z_drop_10 ?_
                refine z_drop_12 ?_
                exact ih14 _ _ _ (by omega) (by omega) (by first | exact Or.inr ⟨by omega, rfl, by by_cases h0_ : k_ = 0; (rcases hI_ with ⟨_, _, e1_⟩ | ⟨_, _, _⟩; (rw [e1_, h0_]; rfl); (exfalso; omega)); rw [show (k_ + 1 - 1).toNat = (k_ - 1).toNat + 1 by omega, bF, show (((k_ - 1).toNat + 1 : Nat) : Int) = k_ by omega, if_pos ⟨om_, cm_.mp (by have := nb_ (by omega); omega)⟩]; rcases hI_ with ⟨_, _, _⟩ | ⟨_, _, e1_⟩; (exfalso; omega); (rw [e1_]; exact upd1_2)⟩ | exact Or.inr ⟨by omega, by omega, by rcases hI_ with ⟨_, _, _⟩ | ⟨_, _, e1_⟩; (exfalso; omega); (rw [e1_, show (k_ + 1 - 1).toNat = (k_ - 1).toNat + 1 by omega, bF, show (((k_ - 1).toNat + 1 : Nat) : Int) = k_ by omega, if_neg (fun q_ => by have h1_ := nb_ (by omega); have h2_ := cm_.mpr q_.2; omega)])⟩ | exact Or.inr ⟨by omega, (by rcases hb01_ with q_ | q_; (exfalso; exact c36 (Or.inl (by rw [q_.1]; rfl))); exact q_.2), by rcases hI_ with ⟨h0_, _, _⟩ | ⟨_, _, e1_⟩; (exfalso; exact c36 (Or.inl (by rw [h0_]; rfl))); (rw [e1_, show (k_ + 1 - 1).toNat = (k_ - 1).toNat + 1 by omega, bF, show (((k_ - 1).toNat + 1 : Nat) : Int) = k_ by omega, if_neg (fun q_ => c36 ((can_ok hp hh hf).mpr q_.1))])⟩)
              · refine z_lload_10 dX7_findOne_128 ?_
                refine z_aload_0 dX7_findOne_130 ?_
                refine z_getR (r := 83) fl_X7_32 zk_75 rfl rfl dX7_findOne_131 ?_
                refine z_iload_4 dX7_findOne_134 ?_
                refine z_lald (n := 13725) zk_83 rfl (by omega) dX7_findOne_136 ?_
                refine z_lcmp_gt (tgt := 166) (by omega) (by omega) dX7_findOne_137 dX7_findOne_138 (by decide) (fun c137 => ?_) (fun c137 => ?_)
                · refine z_iconst dX7_findOne_166 ?_
                  refine z_istore_5 rfl dX7_findOne_167 ?_
                  refine z_aload_0 dX7_findOne_169 ?_
                  refine z_getR (r := 83) fl_X7_32 zk_75 rfl rfl dX7_findOne_170 ?_
                  refine z_iload_4 dX7_findOne_173 ?_
                  refine z_lload_10 dX7_findOne_175 ?_
                  refine z_last (n := 13725) zk_83 rfl (by omega) dX7_findOne_177 ?_
                  refine z_aload_0 dX7_findOne_178 ?_
                  refine z_getR (r := 84) fl_X7_35 zk_75 rfl rfl dX7_findOne_179 ?_
                  refine z_iload_4 dX7_findOne_182 ?_
                  refine z_iload_12 dX7_findOne_184 ?_
                  refine z_iast (n := 13725) zk_84 rfl (by omega) dX7_findOne_186 ?_
                  refine z_aload_0 dX7_findOne_187 ?_
                  refine z_getR (r := 85) fl_X7_38 zk_75 rfl rfl dX7_findOne_188 ?_
                  refine z_iload_4 dX7_findOne_191 ?_
                  refine z_iload_7 dX7_findOne_193 ?_
                  refine z_iast (n := 13725) zk_85 rfl (by omega) dX7_findOne_195 ?_
                  refine z_iinc_6 rfl dX7_findOne_196 ?_
                  refine z_goto (tgt := 14) dX7_findOne_199 (by decide) ?_
                  refine z_drop_7 ?_
                  refine z_drop_8 ?_
                  refine z_drop_9 ?_
                  refine z_drop_10 ?_
                  refine z_drop_12 ?_
                  exact ih14 _ _ _ (by omega) (by omega) (by first | exact Or.inr ⟨by omega, rfl, by by_cases h0_ : k_ = 0; (rcases hI_ with ⟨_, _, e1_⟩ | ⟨_, _, _⟩; (rw [e1_, h0_]; rfl); (exfalso; omega)); rw [show (k_ + 1 - 1).toNat = (k_ - 1).toNat + 1 by omega, bF, show (((k_ - 1).toNat + 1 : Nat) : Int) = k_ by omega, if_pos ⟨om_, cm_.mp (by have := nb_ (by omega); omega)⟩]; rcases hI_ with ⟨_, _, _⟩ | ⟨_, _, e1_⟩; (exfalso; omega); (rw [e1_]; exact upd1_2)⟩ | exact Or.inr ⟨by omega, by omega, by rcases hI_ with ⟨_, _, _⟩ | ⟨_, _, e1_⟩; (exfalso; omega); (rw [e1_, show (k_ + 1 - 1).toNat = (k_ - 1).toNat + 1 by omega, bF, show (((k_ - 1).toNat + 1 : Nat) : Int) = k_ by omega, if_neg (fun q_ => by have h1_ := nb_ (by omega); have h2_ := cm_.mpr q_.2; omega)])⟩ | exact Or.inr ⟨by omega, (by rcases hb01_ with q_ | q_; (exfalso; exact c36 (Or.inl (by rw [q_.1]; rfl))); exact q_.2), by rcases hI_ with ⟨h0_, _, _⟩ | ⟨_, _, e1_⟩; (exfalso; exact c36 (Or.inl (by rw [h0_]; rfl))); (rw [e1_, show (k_ + 1 - 1).toNat = (k_ - 1).toNat + 1 by omega, bF, show (((k_ - 1).toNat + 1 : Nat) : Int) = k_ by omega, if_neg (fun q_ => c36 ((can_ok hp hh hf).mpr q_.1))])⟩)
                · refine z_lload_10 dX7_findOne_141 ?_
                  refine z_aload_0 dX7_findOne_143 ?_
                  refine z_getR (r := 83) fl_X7_32 zk_75 rfl rfl dX7_findOne_144 ?_
                  refine z_iload_4 dX7_findOne_147 ?_
                  refine z_lald (n := 13725) zk_83 rfl (by omega) dX7_findOne_149 ?_
                  refine z_lcmp_ne (tgt := 196) (by omega) (by omega) dX7_findOne_150 dX7_findOne_151 (by decide) (fun c150 => ?_) (fun c150 => ?_)
                  · refine z_iinc_6 rfl dX7_findOne_196 ?_
                    refine z_goto (tgt := 14) dX7_findOne_199 (by decide) ?_
                    refine z_drop_7 ?_
                    refine z_drop_8 ?_
                    refine z_drop_9 ?_
                    refine z_drop_10 ?_
                    refine z_drop_12 ?_
                    exact ih14 _ _ _ (by omega) (by omega) (by first | exact Or.inr ⟨by omega, rfl, by by_cases h0_ : k_ = 0; (rcases hI_ with ⟨_, _, e1_⟩ | ⟨_, _, _⟩; (rw [e1_, h0_]; rfl); (exfalso; omega)); rw [show (k_ + 1 - 1).toNat = (k_ - 1).toNat + 1 by omega, bF, show (((k_ - 1).toNat + 1 : Nat) : Int) = k_ by omega, if_pos ⟨om_, cm_.mp (by have := nb_ (by omega); omega)⟩]; rcases hI_ with ⟨_, _, _⟩ | ⟨_, _, e1_⟩; (exfalso; omega); (rw [e1_]; exact upd1_2)⟩ | exact Or.inr ⟨by omega, by omega, by rcases hI_ with ⟨_, _, _⟩ | ⟨_, _, e1_⟩; (exfalso; omega); (rw [e1_, show (k_ + 1 - 1).toNat = (k_ - 1).toNat + 1 by omega, bF, show (((k_ - 1).toNat + 1 : Nat) : Int) = k_ by omega, if_neg (fun q_ => by have h1_ := nb_ (by omega); have h2_ := cm_.mpr q_.2; omega)])⟩ | exact Or.inr ⟨by omega, (by rcases hb01_ with q_ | q_; (exfalso; exact c36 (Or.inl (by rw [q_.1]; rfl))); exact q_.2), by rcases hI_ with ⟨h0_, _, _⟩ | ⟨_, _, e1_⟩; (exfalso; exact c36 (Or.inl (by rw [h0_]; rfl))); (rw [e1_, show (k_ + 1 - 1).toNat = (k_ - 1).toNat + 1 by omega, bF, show (((k_ - 1).toNat + 1 : Nat) : Int) = k_ by omega, if_neg (fun q_ => c36 ((can_ok hp hh hf).mpr q_.1))])⟩)
                  · refine z_iload_12 dX7_findOne_154 ?_
                    refine z_aload_0 dX7_findOne_156 ?_
                    refine z_getR (r := 84) fl_X7_35 zk_75 rfl rfl dX7_findOne_157 ?_
                    refine z_iload_4 dX7_findOne_160 ?_
                    refine z_iald (n := 13725) zk_84 rfl (by omega) dX7_findOne_162 ?_
                    refine z_icmp_ge (tgt := 196) (by omega) (by omega) dX7_findOne_163 (by decide) (fun c163 => ?_) (fun c163 => ?_)
                    · refine z_iinc_6 rfl dX7_findOne_196 ?_
                      refine z_goto (tgt := 14) dX7_findOne_199 (by decide) ?_
                      refine z_drop_7 ?_
                      refine z_drop_8 ?_
                      refine z_drop_9 ?_
                      refine z_drop_10 ?_
                      refine z_drop_12 ?_
                      exact ih14 _ _ _ (by omega) (by omega) (by first | exact Or.inr ⟨by omega, rfl, by by_cases h0_ : k_ = 0; (rcases hI_ with ⟨_, _, e1_⟩ | ⟨_, _, _⟩; (rw [e1_, h0_]; rfl); (exfalso; omega)); rw [show (k_ + 1 - 1).toNat = (k_ - 1).toNat + 1 by omega, bF, show (((k_ - 1).toNat + 1 : Nat) : Int) = k_ by omega, if_pos ⟨om_, cm_.mp (by have := nb_ (by omega); omega)⟩]; rcases hI_ with ⟨_, _, _⟩ | ⟨_, _, e1_⟩; (exfalso; omega); (rw [e1_]; exact upd1_2)⟩ | exact Or.inr ⟨by omega, by omega, by rcases hI_ with ⟨_, _, _⟩ | ⟨_, _, e1_⟩; (exfalso; omega); (rw [e1_, show (k_ + 1 - 1).toNat = (k_ - 1).toNat + 1 by omega, bF, show (((k_ - 1).toNat + 1 : Nat) : Int) = k_ by omega, if_neg (fun q_ => by have h1_ := nb_ (by omega); have h2_ := cm_.mpr q_.2; omega)])⟩ | exact Or.inr ⟨by omega, (by rcases hb01_ with q_ | q_; (exfalso; exact c36 (Or.inl (by rw [q_.1]; rfl))); exact q_.2), by rcases hI_ with ⟨h0_, _, _⟩ | ⟨_, _, e1_⟩; (exfalso; exact c36 (Or.inl (by rw [h0_]; rfl))); (rw [e1_, show (k_ + 1 - 1).toNat = (k_ - 1).toNat + 1 by omega, bF, show (((k_ - 1).toNat + 1 : Nat) : Int) = k_ by omega, if_neg (fun q_ => c36 ((can_ok hp hh hf).mpr q_.1))])⟩)
                    · refine z_iconst dX7_findOne_166 ?_
                      refine z_istore_5 rfl dX7_findOne_167 ?_
                      refine z_aload_0 dX7_findOne_169 ?_
                      refine z_getR (r := 83) fl_X7_32 zk_75 rfl rfl dX7_findOne_170 ?_
                      refine z_iload_4 dX7_findOne_173 ?_
                      refine z_lload_10 dX7_findOne_175 ?_
                      refine z_last (n := 13725) zk_83 rfl (by omega) dX7_findOne_177 ?_
                      refine z_aload_0 dX7_findOne_178 ?_
                      refine z_getR (r := 84) fl_X7_35 zk_75 rfl rfl dX7_findOne_179 ?_
                      refine z_iload_4 dX7_findOne_182 ?_
                      refine z_iload_12 dX7_findOne_184 ?_
                      refine z_iast (n := 13725) zk_84 rfl (by omega) dX7_findOne_186 ?_
                      refine z_aload_0 dX7_findOne_187 ?_
                      refine z_getR (r := 85) fl_X7_38 zk_75 rfl rfl dX7_findOne_188 ?_
                      refine z_iload_4 dX7_findOne_191 ?_
                      refine z_iload_7 dX7_findOne_193 ?_
                      refine z_iast (n := 13725) zk_85 rfl (by omega) dX7_findOne_195 ?_
                      refine z_iinc_6 rfl dX7_findOne_196 ?_
                      refine z_goto (tgt := 14) dX7_findOne_199 (by decide) ?_
                      refine z_drop_7 ?_
                      refine z_drop_8 ?_
                      refine z_drop_9 ?_
                      refine z_drop_10 ?_
                      refine z_drop_12 ?_
                      exact ih14 _ _ _ (by omega) (by omega) (by first | exact Or.inr ⟨by omega, rfl, by by_cases h0_ : k_ = 0; (rcases hI_ with ⟨_, _, e1_⟩ | ⟨_, _, _⟩; (rw [e1_, h0_]; rfl); (exfalso; omega)); rw [show (k_ + 1 - 1).toNat = (k_ - 1).toNat + 1 by omega, bF, show (((k_ - 1).toNat + 1 : Nat) : Int) = k_ by omega, if_pos ⟨om_, cm_.mp (by have := nb_ (by omega); omega)⟩]; rcases hI_ with ⟨_, _, _⟩ | ⟨_, _, e1_⟩; (exfalso; omega); (rw [e1_]; exact upd1_2)⟩ | exact Or.inr ⟨by omega, by omega, by rcases hI_ with ⟨_, _, _⟩ | ⟨_, _, e1_⟩; (exfalso; omega); (rw [e1_, show (k_ + 1 - 1).toNat = (k_ - 1).toNat + 1 by omega, bF, show (((k_ - 1).toNat + 1 : Nat) : Int) = k_ by omega, if_neg (fun q_ => by have h1_ := nb_ (by omega); have h2_ := cm_.mpr q_.2; omega)])⟩ | exact Or.inr ⟨by omega, (by rcases hb01_ with q_ | q_; (exfalso; exact c36 (Or.inl (by rw [q_.1]; rfl))); exact q_.2), by rcases hI_ with ⟨h0_, _, _⟩ | ⟨_, _, e1_⟩; (exfalso; exact c36 (Or.inl (by rw [h0_]; rfl))); (rw [e1_, show (k_ + 1 - 1).toNat = (k_ - 1).toNat + 1 by omega, bF, show (((k_ - 1).toNat + 1 : Nat) : Int) = k_ by omega, if_neg (fun q_ => c36 ((can_ok hp hh hf).mpr q_.1))])⟩)
            refine z_iload_1 dX7_findOne_104 ?_
            refine z_iconst dX7_findOne_105 ?_
            refine z_icmp_ne (tgt := 113) (by omega) (by decide) dX7_findOne_106 (by decide) (fun c106 => ?_) (fun c106 => ?_)
            · refine z_aload_0 dX7_findOne_113 ?_
              refine z_getR (r := 84) fl_X7_35 zk_75 rfl rfl dX7_findOne_114 ?_
              refine z_iload_9 dX7_findOne_117 ?_
              refine z_iald (n := 13725) zk_84 rfl (by omega) dX7_findOne_119 ?_
              exact J120 _ (by first | (rw [show e_.toNat - 1 = 0 by omega]; show (0 : Int) = M 76 2 * 0; omega) | (have h1_ := (hR (e_ - 1) (h_ + (mvI k_)) (f_ - M 76 2 * zabs (mvI k_)) (by omega) (Or.inl (by omega)) (by omega) lfb2_).2.1; have h2_ := (nt_ (1525 * (e_ - 1) + 61 * (h_ + (mvI k_) + 12) + (f_ - M 76 2 * zabs (mvI k_))) (by omega)).2; rw [h2_, h1_, lfa2_, show (e_ - 1).toNat = e_.toNat - 1 by omega] <;> rfl))
            · refine z_iconst dX7_findOne_109 ?_
              refine z_goto (tgt := 120) dX7_findOne_110 (by decide) ?_
              exact J120 _ (by first | (rw [show e_.toNat - 1 = 0 by omega]; show (0 : Int) = M 76 2 * 0; omega) | (have h1_ := (hR (e_ - 1) (h_ + (mvI k_)) (f_ - M 76 2 * zabs (mvI k_)) (by omega) (Or.inl (by omega)) (by omega) lfb2_).2.1; have h2_ := (nt_ (1525 * (e_ - 1) + 61 * (h_ + (mvI k_) + 12) + (f_ - M 76 2 * zabs (mvI k_))) (by omega)).2; rw [h2_, h1_, lfa2_, show (e_ - 1).toNat = e_.toNat - 1 by omega] <;> rfl))
          refine z_iload_1 dX7_findOne_83 ?_
          refine z_iconst dX7_findOne_84 ?_
          refine z_icmp_ne (tgt := 92) (by omega) (by decide) dX7_findOne_85 (by decide) (fun c85 => ?_) (fun c85 => ?_)
          · refine z_aload_0 dX7_findOne_92 ?_
            refine z_getR (r := 83) fl_X7_32 zk_75 rfl rfl dX7_findOne_93 ?_
            refine z_iload_9 dX7_findOne_96 ?_
            refine z_lald (n := 13725) zk_83 rfl (by omega) dX7_findOne_98 ?_
            exact J99 _ (by first | (rw [show e_.toNat - 1 = 0 by omega]; rfl) | (have h1_ := (hR (e_ - 1) (h_ + (mvI k_)) (f_ - M 76 2 * zabs (mvI k_)) (by omega) (Or.inl (by omega)) (by omega) lfb2_).1; have h2_ := (nt_ (1525 * (e_ - 1) + 61 * (h_ + (mvI k_) + 12) + (f_ - M 76 2 * zabs (mvI k_))) (by omega)).1; rw [h2_, h1_, lfa2_, show (e_ - 1).toNat = e_.toNat - 1 by omega]))
          · refine z_lconst0 dX7_findOne_88 ?_
            refine z_goto (tgt := 99) dX7_findOne_89 (by decide) ?_
            exact J99 _ (by first | (rw [show e_.toNat - 1 = 0 by omega]; rfl) | (have h1_ := (hR (e_ - 1) (h_ + (mvI k_)) (f_ - M 76 2 * zabs (mvI k_)) (by omega) (Or.inl (by omega)) (by omega) lfb2_).1; have h2_ := (nt_ (1525 * (e_ - 1) + 61 * (h_ + (mvI k_) + 12) + (f_ - M 76 2 * zabs (mvI k_))) (by omega)).1; rw [h2_, h1_, lfa2_, show (e_ - 1).toNat = e_.toNat - 1 by omega]))
        · refine z_goto (tgt := 196) dX7_findOne_39 (by decide) ?_
          refine z_iinc_6 rfl dX7_findOne_196 ?_
          refine z_goto (tgt := 14) dX7_findOne_199 (by decide) ?_
          refine z_drop_7 ?_
          exact ih14 _ _ _ (by omega) (by omega) (by first | exact Or.inr ⟨by omega, rfl, by by_cases h0_ : k_ = 0; (rcases hI_ with ⟨_, _, e1_⟩ | ⟨_, _, _⟩; (rw [e1_, h0_]; rfl); (exfalso; omega)); rw [show (k_ + 1 - 1).toNat = (k_ - 1).toNat + 1 by omega, bF, show (((k_ - 1).toNat + 1 : Nat) : Int) = k_ by omega, if_pos ⟨om_, cm_.mp (by have := nb_ (by omega); omega)⟩]; rcases hI_ with ⟨_, _, _⟩ | ⟨_, _, e1_⟩; (exfalso; omega); (rw [e1_]; exact upd1_2)⟩ | exact Or.inr ⟨by omega, by omega, by rcases hI_ with ⟨_, _, _⟩ | ⟨_, _, e1_⟩; (exfalso; omega); (rw [e1_, show (k_ + 1 - 1).toNat = (k_ - 1).toNat + 1 by omega, bF, show (((k_ - 1).toNat + 1 : Nat) : Int) = k_ by omega, if_neg (fun q_ => by have h1_ := nb_ (by omega); have h2_ := cm_.mpr q_.2; omega)])⟩ | exact Or.inr ⟨by omega, (by rcases hb01_ with q_ | q_; (exfalso; exact c36 (Or.inl (by rw [q_.1]; rfl))); exact q_.2), by rcases hI_ with ⟨h0_, _, _⟩ | ⟨_, _, e1_⟩; (exfalso; exact c36 (Or.inl (by rw [h0_]; rfl))); (rw [e1_, show (k_ + 1 - 1).toNat = (k_ - 1).toNat + 1 by omega, bF, show (((k_ - 1).toNat + 1 : Nat) : Int) = k_ by omega, if_neg (fun q_ => c36 ((can_ok hp hh hf).mpr q_.1))])⟩)
  have L14 : ∀ (b_ : Int) (k_ : Int) (N_ : zM), (0 ≤ k_ ∧ k_ ≤ 49) → ((k_ = 0 ∧ b_ = 0 ∧ N_ = M) ∨ (1 ≤ k_ ∧ b_ = 1 ∧ N_ = (upd1 M G (M 76 2) (e_.toNat - 1) (h_ + 12) (lefF (pS (M 76)) f_) (1525 * e_ + 61 * (h_ + 12) + f_) (bF (G (e_.toNat - 1)) (bE G (e_.toNat - 1)) (h_ + 12) (lefF (pS (M 76)) f_) (k_ - 1).toNat).2))) → Z RX7 cX7_findOne 13 none 3 (zQ (PN (upd1 M G (M 76 2) (e_.toNat - 1) (h_ + 12) (lefF (pS (M 76)) f_) (1525 * e_ + 61 * (h_ + 12) + f_) (bM G (e_.toNat - 1) (h_ + 12) (lefF (pS (M 76)) f_))))) 14 [some (vR 75), some (vI e_), some (vI h_), some (vI f_), some (vI (1525 * e_ + 61 * (h_ + 12) + f_)), some (vI b_), some (vI k_), none, none, none, none, none, none] [] (N_) := fun b_ k_ N_ hk_ hI_ => K14 ((49 - k_).toNat + 1) b_ k_ N_ (by omega) hk_ hI_
  exact L14 _ _ _ (by omega) (by exact Or.inl ⟨rfl, rfl, rfl⟩)
