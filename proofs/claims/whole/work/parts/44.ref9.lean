theorem mostV_le {f : Int → Int} (h : ∀ j : Int, 0 ≤ j → j < 8 → -1000000 ≤ f j ∧ f j ≤ 1000000) : ∀ n : Nat, n ≤ 4 → -2000000 ≤ mostV f n ∧ mostV f n ≤ 2000000
  | 0, _ => by
    have h1 := h 0 (by omega) (by omega)
    have h2 := h 4 (by omega) (by omega)
    unfold mostV; omega
  | n + 1, hn => by
    have i := mostV_le h n (by omega)
    have h1 := h n (by omega) (by omega)
    have h2 := h (4 + n) (by omega) (by omega)
    unfold mostV
    split <;> omega
theorem bestV_le {f : Int → Int} (h : ∀ j : Int, 0 ≤ j → j < 8 → -1000000 ≤ f j ∧ f j ≤ 1000000) : ∀ n : Nat, n ≤ 4 → -2000000 ≤ bestV f n ∧ bestV f n ≤ 2000000
  | 0, _ => by simp [bestV]
  | n + 1, hn => by
    have i := bestV_le h n (by omega)
    have h1 := h n (by omega) (by omega)
    have h2 := h (4 + n) (by omega) (by omega)
    unfold bestV
    split <;> omega
theorem c_X7_both {M : zM} {k_ b_ : Int} (hS : SH7 M) (hk : -2147483648 ≤ k_ ∧ k_ < 2147483648) (hb : -2147483648 ≤ b_ ∧ b_ < 2147483648) : Call yX7_both cX7_both 12 (some .int) 3 [vR 75, vI k_, vI b_] (M) (PI (if 0 ≤ (if ¬ (0 ≤ b_ ∧ b_ ≤ 1) then 0 else hindS M k_ 8 8 1000000) then -1000000001 - (if ¬ (0 ≤ b_ ∧ b_ ≤ 1) then 0 else hindS M k_ 8 8 1000000) else if b_ = 0 then mostV (fun j_ => M 89 (40 * k_ + j_)) 4 else if hasV (fun j_ => M 89 (40 * k_ + j_)) 4 = 0 then -1000000004 else mostV (fun j_ => M 89 (40 * k_ + j_)) 4 - bestV (fun j_ => M 89 (40 * k_ + j_)) 4) (if 0 ≤ (if ¬ (0 ≤ b_ ∧ b_ ≤ 1) then 0 else hindS M k_ 8 8 1000000) then fnd7 M (if ¬ (0 ≤ b_ ∧ b_ ≤ 1) then 0 else hindS M k_ 8 8 1000000) else if b_ = 0 then M else if hasV (fun j_ => M 89 (40 * k_ + j_)) 4 = 0 then fnd7 M 3 else M)) := by
  refine Call.of2 (own := RX7) (lv0 := [some (vR 75), some (vI k_), some (vI b_), none, none, none, none, none, none, none, none, none]) rfl (by decide) rfl (Nat.le_of_ble_eq_true rfl) ?_
  have J33 : ∀ (q_ : Int), (q_ = (if ¬ (0 ≤ b_ ∧ b_ ≤ 1) then 0 else hindS M k_ 8 8 1000000)) → (q_ = 0 ∨ q_ = 5 ∨ q_ = 6 ∨ q_ = -1 ∨ q_ = 2) → (q_ = -1 → hindS M k_ 8 8 1000000 < 0) → Z RX7 cX7_both 12 (some .int) 3 (zQ (PI (if 0 ≤ (if ¬ (0 ≤ b_ ∧ b_ ≤ 1) then 0 else hindS M k_ 8 8 1000000) then -1000000001 - (if ¬ (0 ≤ b_ ∧ b_ ≤ 1) then 0 else hindS M k_ 8 8 1000000) else if b_ = 0 then mostV (fun j_ => M 89 (40 * k_ + j_)) 4 else if hasV (fun j_ => M 89 (40 * k_ + j_)) 4 = 0 then -1000000004 else mostV (fun j_ => M 89 (40 * k_ + j_)) 4 - bestV (fun j_ => M 89 (40 * k_ + j_)) 4) (if 0 ≤ (if ¬ (0 ≤ b_ ∧ b_ ≤ 1) then 0 else hindS M k_ 8 8 1000000) then fnd7 M (if ¬ (0 ≤ b_ ∧ b_ ≤ 1) then 0 else hindS M k_ 8 8 1000000) else if b_ = 0 then M else if hasV (fun j_ => M 89 (40 * k_ + j_)) 4 = 0 then fnd7 M 3 else M))) 33 [some (vR 75), some (vI k_), some (vI b_), none, none, none, none, none, none, none, none, none] [vI q_] (M) := by
    intro q_ hq_ hq3_ hq4_
    refine z_istore_3 rfl dX7_both_33 ?_
    refine z_iload_3 dX7_both_34 ?_
    refine z_if_lt (tgt := 44) (by omega) dX7_both_35 (by decide) (fun c35 => ?_) (fun c35 => ?_)
    · have hk0_ := (hind_k (hq4_ (by omega)))
      have hv8_ : ∀ j : Int, 0 ≤ j → j < 8 → -1000000 ≤ (fun j_ => M 89 (40 * k_ + j_)) j ∧ (fun j_ => M 89 (40 * k_ + j_)) j ≤ 1000000 := fun j_ h1_ h2_ => inAll_all _ hk0_.2.2.2 j_ h1_ (by omega)
      have hk1_ := hk0_.1
      refine z_iconst dX7_both_44 ?_
      refine z_istore_4 rfl dX7_both_45 ?_
      refine z_lconst0 dX7_both_47 ?_
      refine z_lstore_5 rfl dX7_both_48 ?_
      refine z_aload_0 dX7_both_50 ?_
      refine z_iload_1 dX7_both_51 ?_
      refine z_iconst dX7_both_52 ?_
      refine z_cVJ yv_X7_numberOf ml_X7_298 (c_X7_numberOf (by omega) (by omega)) zk_75 rfl rfl (by decide) (Nat.le_of_ble_eq_true rfl) dX7_both_53 ?_
      refine z_aload_0 dX7_both_56 ?_
      refine z_iload_1 dX7_both_57 ?_
      refine z_iconst dX7_both_58 ?_
      refine z_cVJ yv_X7_numberOf ml_X7_298 (c_X7_numberOf (by omega) (by omega)) zk_75 rfl rfl (by decide) (Nat.le_of_ble_eq_true rfl) dX7_both_59 ?_
      refine z_ladd dX7_both_62 ?_
      refine z_lstore_7 rfl dX7_both_63 ?_
      refine z_iconst dX7_both_65 ?_
      refine z_istore_9 rfl dX7_both_66 ?_
      have K68 : ∀ (fuel_ : Nat) (h_ : Int) (z_ : Int) (m_ : Int) (f_ : Int), 4 - f_ < (fuel_ : Int) → (0 ≤ f_ ∧ f_ ≤ 4) → (h_ = hasV (fun j_ => M 89 (40 * k_ + j_)) f_.toNat) → (z_ = bestV (fun j_ => M 89 (40 * k_ + j_)) f_.toNat) → (m_ = mostV (fun j_ => M 89 (40 * k_ + j_)) f_.toNat) → Z RX7 cX7_both 12 (some .int) 3 (zQ (PI (if 0 ≤ (if ¬ (0 ≤ b_ ∧ b_ ≤ 1) then 0 else hindS M k_ 8 8 1000000) then -1000000001 - (if ¬ (0 ≤ b_ ∧ b_ ≤ 1) then 0 else hindS M k_ 8 8 1000000) else if b_ = 0 then mostV (fun j_ => M 89 (40 * k_ + j_)) 4 else if hasV (fun j_ => M 89 (40 * k_ + j_)) 4 = 0 then -1000000004 else mostV (fun j_ => M 89 (40 * k_ + j_)) 4 - bestV (fun j_ => M 89 (40 * k_ + j_)) 4) (if 0 ≤ (if ¬ (0 ≤ b_ ∧ b_ ≤ 1) then 0 else hindS M k_ 8 8 1000000) then fnd7 M (if ¬ (0 ≤ b_ ∧ b_ ≤ 1) then 0 else hindS M k_ 8 8 1000000) else if b_ = 0 then M else if hasV (fun j_ => M 89 (40 * k_ + j_)) 4 = 0 then fnd7 M 3 else M))) 68 [some (vR 75), some (vI k_), some (vI b_), some (vI q_), some (vI h_), some (vJ z_), none, some (vJ m_), none, some (vI f_), none, none] [] (M) := by
        intro fuel_
        induction fuel_ with
        | zero => intro h_ z_ m_ f_ hfuel_ hf_ hh_ hz_ hm_; exfalso; omega
        | succ fuel_ ih68 =>
          intro h_ z_ m_ f_ hfuel_ hf_ hh_ hz_ hm_
          refine z_iload_9 dX7_both_68 ?_
          refine z_iconst dX7_both_70 ?_
          refine z_icmp_ge (tgt := 146) (by omega) (by decide) dX7_both_71 (by decide) (fun c71 => ?_) (fun c71 => ?_)
          · have hh4_ : h_ = hasV (fun j_ => M 89 (40 * k_ + j_)) 4 := by rw [hh_, show f_ = 4 by omega]; rfl
            have hz4_ : z_ = bestV (fun j_ => M 89 (40 * k_ + j_)) 4 := by rw [hz_, show f_ = 4 by omega]; rfl
            have hm4_ : m_ = mostV (fun j_ => M 89 (40 * k_ + j_)) 4 := by rw [hm_, show f_ = 4 by omega]; rfl
            have h01_ := hasV_01 (f := (fun j_ => M 89 (40 * k_ + j_))) 4
            refine z_iload_2 dX7_both_146 ?_
            refine z_if_ne (tgt := 154) (by omega) dX7_both_147 (by decide) (fun c147 => ?_) (fun c147 => ?_)
            · refine z_iload_4 dX7_both_154 ?_
              refine z_if_eq (tgt := 168) (by omega) dX7_both_156 (by decide) (fun c156 => ?_) (fun c156 => ?_)
              · refine z_aload_0 dX7_both_168 ?_
                refine z_iconst dX7_both_169 ?_
                refine z_cVI yv_X7_finding ml_X7_93 (c_X7_finding (by omega)) zk_75 rfl rfl (by decide) (Nat.le_of_ble_eq_true rfl) dX7_both_170 ?_
                exact z_iret dX7_both_173 (zPI (by rw [← hq_, if_neg (by omega), if_neg (by omega), ← hh4_, ← hz4_, ← hm4_]; first | exact (if_pos (by omega)).symm | exact (if_neg (by omega)).symm) (by rw [← hq_, if_neg (by omega), if_neg (by omega), ← hh4_]; first | exact (if_pos (by omega)).symm | exact (if_neg (by omega)).symm))
              · refine z_lload_7 dX7_both_159 ?_
                refine z_lload_5 dX7_both_161 ?_
                refine z_lsub dX7_both_163 ?_
                refine z_l2i dX7_both_164 ?_
                refine z_goto (tgt := 173) dX7_both_165 (by decide) ?_
                exact z_iret dX7_both_173 (zPI (by rw [← hq_, if_neg (by omega), if_neg (by omega), ← hh4_, ← hz4_, ← hm4_]; first | exact (if_pos (by omega)).symm | exact (if_neg (by omega)).symm) (by rw [← hq_, if_neg (by omega), if_neg (by omega), ← hh4_]; first | exact (if_pos (by omega)).symm | exact (if_neg (by omega)).symm))
            · refine z_lload_7 dX7_both_150 ?_
              refine z_l2i dX7_both_152 ?_
              exact z_iret dX7_both_153 (zPI (by rw [← hq_, if_neg (by omega), if_pos (by omega), hm4_]) (by rw [← hq_, if_neg (by omega), if_pos (by omega)]))
          · refine z_aload_0 dX7_both_74 ?_
            have hl1_ := mostV_le hv8_ f_.toNat (by omega)
            have hl2_ := bestV_le hv8_ f_.toNat (by omega)
            have v1_ : -1000000 ≤ M 89 (40 * k_ + f_) ∧ M 89 (40 * k_ + f_) ≤ 1000000 := hv8_ f_ (by omega) (by omega)
            have v2_ : -1000000 ≤ M 89 (40 * k_ + (4 + f_)) ∧ M 89 (40 * k_ + (4 + f_)) ≤ 1000000 := hv8_ (4 + f_) (by omega) (by omega)
            have h01_ := hasV_01 (f := (fun j_ => M 89 (40 * k_ + j_))) f_.toNat
            refine z_iload_1 dX7_both_75 ?_
            refine z_iload_9 dX7_both_76 ?_
            refine z_cVJ yv_X7_numberOf ml_X7_298 (c_X7_numberOf (by omega) (by omega)) zk_75 rfl rfl (by decide) (Nat.le_of_ble_eq_true rfl) dX7_both_78 ?_
            refine z_aload_0 dX7_both_81 ?_
            refine z_iload_1 dX7_both_82 ?_
            refine z_iconst dX7_both_83 ?_
            refine z_iload_9 dX7_both_84 ?_
            refine z_iadd dX7_both_86 ?_
            refine z_cVJ yv_X7_numberOf ml_X7_298 (c_X7_numberOf (by omega) (by omega)) zk_75 rfl rfl (by decide) (Nat.le_of_ble_eq_true rfl) dX7_both_87 ?_
            refine z_ladd dX7_both_90 ?_
            refine z_lstore_10 rfl dX7_both_91 ?_
            have J108 : ∀ (m2_ : Int), (m2_ = mostV (fun j_ => M 89 (40 * k_ + j_)) (f_ + 1).toNat) → Z RX7 cX7_both 12 (some .int) 3 (zQ (PI (if 0 ≤ (if ¬ (0 ≤ b_ ∧ b_ ≤ 1) then 0 else hindS M k_ 8 8 1000000) then -1000000001 - (if ¬ (0 ≤ b_ ∧ b_ ≤ 1) then 0 else hindS M k_ 8 8 1000000) else if b_ = 0 then mostV (fun j_ => M 89 (40 * k_ + j_)) 4 else if hasV (fun j_ => M 89 (40 * k_ + j_)) 4 = 0 then -1000000004 else mostV (fun j_ => M 89 (40 * k_ + j_)) 4 - bestV (fun j_ => M 89 (40 * k_ + j_)) 4) (if 0 ≤ (if ¬ (0 ≤ b_ ∧ b_ ≤ 1) then 0 else hindS M k_ 8 8 1000000) then fnd7 M (if ¬ (0 ≤ b_ ∧ b_ ≤ 1) then 0 else hindS M k_ 8 8 1000000) else if b_ = 0 then M else if hasV (fun j_ => M 89 (40 * k_ + j_)) 4 = 0 then fnd7 M 3 else M))) 108 [some (vR 75), some (vI k_), some (vI b_), some (vI q_), some (vI h_), some (vJ z_), none, some (vJ m_), none, some (vI f_), some (vJ ((M 89 (40 * k_ + f_)) + (M 89 (40 * k_ + (4 + f_))))), none] [vJ m2_] (M) := by
              intro m2_ hm2_
              refine z_lstore_7 rfl dX7_both_108 ?_
              have J140 : ∀ (h2_ : Int) (z2_ : Int), (h2_ = hasV (fun j_ => M 89 (40 * k_ + j_)) (f_ + 1).toNat) → (z2_ = bestV (fun j_ => M 89 (40 * k_ + j_)) (f_ + 1).toNat) → Z RX7 cX7_both 12 (some .int) 3 (zQ (PI (if 0 ≤ (if ¬ (0 ≤ b_ ∧ b_ ≤ 1) then 0 else hindS M k_ 8 8 1000000) then -1000000001 - (if ¬ (0 ≤ b_ ∧ b_ ≤ 1) then 0 else hindS M k_ 8 8 1000000) else if b_ = 0 then mostV (fun j_ => M 89 (40 * k_ + j_)) 4 else if hasV (fun j_ => M 89 (40 * k_ + j_)) 4 = 0 then -1000000004 else mostV (fun j_ => M 89 (40 * k_ + j_)) 4 - bestV (fun j_ => M 89 (40 * k_ + j_)) 4) (if 0 ≤ (if ¬ (0 ≤ b_ ∧ b_ ≤ 1) then 0 else hindS M k_ 8 8 1000000) then fnd7 M (if ¬ (0 ≤ b_ ∧ b_ ≤ 1) then 0 else hindS M k_ 8 8 1000000) else if b_ = 0 then M else if hasV (fun j_ => M 89 (40 * k_ + j_)) 4 = 0 then fnd7 M 3 else M))) 140 [some (vR 75), some (vI k_), some (vI b_), some (vI q_), some (vI h2_), some (vJ z2_), none, some (vJ m2_), none, some (vI f_), some (vJ ((M 89 (40 * k_ + f_)) + (M 89 (40 * k_ + (4 + f_))))), none] [] (M) := by
                intro h2_ z2_ hh2_ hz2_
                refine z_iinc_9 rfl dX7_both_140 ?_
                refine z_goto (tgt := 68) dX7_both_143 (by decide) ?_
                refine z_drop_10 ?_
                exact ih68 _ _ _ _ (by omega) (by omega) (by exact hh2_) (by exact hz2_) (by exact hm2_)
              refine z_aload_0 dX7_both_110 ?_
              refine z_iload_1 dX7_both_111 ?_
              refine z_iload_9 dX7_both_112 ?_
              refine z_cVI yv_X7_isRest ml_X7_305 (c_X7_isRest hS (by omega) (by omega)) zk_75 rfl rfl (by decide) (Nat.le_of_ble_eq_true rfl) dX7_both_114 ?_
              refine z_ifb_eq (tgt := 140) dX7_both_117 (by decide) (fun c117 => ?_) (fun c117 => ?_)
              · exact J140 _ _ (by first | (rw [nat_1 hf_.1, hasV, Int.toNat_of_nonneg hf_.1]; first | exact (if_pos c117).symm | (rw [if_neg c117]; exact hh_) | (rw [if_pos c117]; omega)) | (rw [nat_1 hf_.1, bestV, Int.toNat_of_nonneg hf_.1, ← hh_, ← hz_]; first | exact (if_pos ⟨c117, by show h_ = 0 ∨ z_ < (M 89 (40 * k_ + f_) + M 89 (40 * k_ + (4 + f_))); omega⟩).symm | exact (if_neg (fun x_ => c117 x_.1)).symm | exact (if_neg (fun x_ => by have x2_ : h_ = 0 ∨ z_ < (M 89 (40 * k_ + f_) + M 89 (40 * k_ + (4 + f_))) := x_.2; omega)).symm)) (by first | (rw [nat_1 hf_.1, hasV, Int.toNat_of_nonneg hf_.1]; first | exact (if_pos c117).symm | (rw [if_neg c117]; exact hh_) | (rw [if_pos c117]; omega)) | (rw [nat_1 hf_.1, bestV, Int.toNat_of_nonneg hf_.1, ← hh_, ← hz_]; first | exact (if_pos ⟨c117, by show h_ = 0 ∨ z_ < (M 89 (40 * k_ + f_) + M 89 (40 * k_ + (4 + f_))); omega⟩).symm | exact (if_neg (fun x_ => c117 x_.1)).symm | exact (if_neg (fun x_ => by have x2_ : h_ = 0 ∨ z_ < (M 89 (40 * k_ + f_) + M 89 (40 * k_ + (4 + f_))) := x_.2; omega)).symm))
              · refine z_iload_4 dX7_both_120 ?_
                refine z_if_eq (tgt := 133) (by omega) dX7_both_122 (by decide) (fun c122 => ?_) (fun c122 => ?_)
                · refine z_iconst dX7_both_133 ?_
                  refine z_istore_4 rfl dX7_both_134 ?_
                  refine z_lload_10 dX7_both_136 ?_
                  refine z_lstore_5 rfl dX7_both_138 ?_
                  exact J140 _ _ (by first | (rw [nat_1 hf_.1, hasV, Int.toNat_of_nonneg hf_.1]; first | exact (if_pos c117).symm | (rw [if_neg c117]; exact hh_) | (rw [if_pos c117]; omega)) | (rw [nat_1 hf_.1, bestV, Int.toNat_of_nonneg hf_.1, ← hh_, ← hz_]; first | exact (if_pos ⟨c117, by show h_ = 0 ∨ z_ < (M 89 (40 * k_ + f_) + M 89 (40 * k_ + (4 + f_))); omega⟩).symm | exact (if_neg (fun x_ => c117 x_.1)).symm | exact (if_neg (fun x_ => by have x2_ : h_ = 0 ∨ z_ < (M 89 (40 * k_ + f_) + M 89 (40 * k_ + (4 + f_))) := x_.2; omega)).symm)) (by first | (rw [nat_1 hf_.1, hasV, Int.toNat_of_nonneg hf_.1]; first | exact (if_pos c117).symm | (rw [if_neg c117]; exact hh_) | (rw [if_pos c117]; omega)) | (rw [nat_1 hf_.1, bestV, Int.toNat_of_nonneg hf_.1, ← hh_, ← hz_]; first | exact (if_pos ⟨c117, by show h_ = 0 ∨ z_ < (M 89 (40 * k_ + f_) + M 89 (40 * k_ + (4 + f_))); omega⟩).symm | exact (if_neg (fun x_ => c117 x_.1)).symm | exact (if_neg (fun x_ => by have x2_ : h_ = 0 ∨ z_ < (M 89 (40 * k_ + f_) + M 89 (40 * k_ + (4 + f_))) := x_.2; omega)).symm))
                · refine z_lload_10 dX7_both_125 ?_
                  refine z_lload_5 dX7_both_127 ?_
                  refine z_lcmp_le (tgt := 140) (by omega) (by omega) dX7_both_129 dX7_both_130 (by decide) (fun c129 => ?_) (fun c129 => ?_)
                  · exact J140 _ _ (by first | (rw [nat_1 hf_.1, hasV, Int.toNat_of_nonneg hf_.1]; first | exact (if_pos c117).symm | (rw [if_neg c117]; exact hh_) | (rw [if_pos c117]; omega)) | (rw [nat_1 hf_.1, bestV, Int.toNat_of_nonneg hf_.1, ← hh_, ← hz_]; first | exact (if_pos ⟨c117, by show h_ = 0 ∨ z_ < (M 89 (40 * k_ + f_) + M 89 (40 * k_ + (4 + f_))); omega⟩).symm | exact (if_neg (fun x_ => c117 x_.1)).symm | exact (if_neg (fun x_ => by have x2_ : h_ = 0 ∨ z_ < (M 89 (40 * k_ + f_) + M 89 (40 * k_ + (4 + f_))) := x_.2; omega)).symm)) (by first | (rw [nat_1 hf_.1, hasV, Int.toNat_of_nonneg hf_.1]; first | exact (if_pos c117).symm | (rw [if_neg c117]; exact hh_) | (rw [if_pos c117]; omega)) | (rw [nat_1 hf_.1, bestV, Int.toNat_of_nonneg hf_.1, ← hh_, ← hz_]; first | exact (if_pos ⟨c117, by show h_ = 0 ∨ z_ < (M 89 (40 * k_ + f_) + M 89 (40 * k_ + (4 + f_))); omega⟩).symm | exact (if_neg (fun x_ => c117 x_.1)).symm | exact (if_neg (fun x_ => by have x2_ : h_ = 0 ∨ z_ < (M 89 (40 * k_ + f_) + M 89 (40 * k_ + (4 + f_))) := x_.2; omega)).symm))
                  · refine z_iconst dX7_both_133 ?_
                    refine z_istore_4 rfl dX7_both_134 ?_
                    refine z_lload_10 dX7_both_136 ?_
                    refine z_lstore_5 rfl dX7_both_138 ?_
                    exact J140 _ _ (by first | (rw [nat_1 hf_.1, hasV, Int.toNat_of_nonneg hf_.1]; first | exact (if_pos c117).symm | (rw [if_neg c117]; exact hh_) | (rw [if_pos c117]; omega)) | (rw [nat_1 hf_.1, bestV, Int.toNat_of_nonneg hf_.1, ← hh_, ← hz_]; first | exact (if_pos ⟨c117, by show h_ = 0 ∨ z_ < (M 89 (40 * k_ + f_) + M 89 (40 * k_ + (4 + f_))); omega⟩).symm | exact (if_neg (fun x_ => c117 x_.1)).symm | exact (if_neg (fun x_ => by have x2_ : h_ = 0 ∨ z_ < (M 89 (40 * k_ + f_) + M 89 (40 * k_ + (4 + f_))) := x_.2; omega)).symm)) (by first | (rw [nat_1 hf_.1, hasV, Int.toNat_of_nonneg hf_.1]; first | exact (if_pos c117).symm | (rw [if_neg c117]; exact hh_) | (rw [if_pos c117]; omega)) | (rw [nat_1 hf_.1, bestV, Int.toNat_of_nonneg hf_.1, ← hh_, ← hz_]; first | exact (if_pos ⟨c117, by show h_ = 0 ∨ z_ < (M 89 (40 * k_ + f_) + M 89 (40 * k_ + (4 + f_))); omega⟩).symm | exact (if_neg (fun x_ => c117 x_.1)).symm | exact (if_neg (fun x_ => by have x2_ : h_ = 0 ∨ z_ < (M 89 (40 * k_ + f_) + M 89 (40 * k_ + (4 + f_))) := x_.2; omega)).symm))
            refine z_lload_10 dX7_both_93 ?_
            refine z_lload_7 dX7_both_95 ?_
            refine z_lcmp_le (tgt := 106) (by omega) (by omega) dX7_both_97 dX7_both_98 (by decide) (fun c97 => ?_) (fun c97 => ?_)
            · refine z_lload_7 dX7_both_106 ?_
              exact J108 _ (by rw [nat_1 hf_.1, mostV, Int.toNat_of_nonneg hf_.1, ← hm_]; first | exact (if_pos (by show m_ < M 89 (40 * k_ + f_) + M 89 (40 * k_ + (4 + f_)); omega)).symm | exact (if_neg (by show ¬ m_ < M 89 (40 * k_ + f_) + M 89 (40 * k_ + (4 + f_)); omega)).symm)
            · refine z_lload_10 dX7_both_101 ?_
              refine z_goto (tgt := 108) dX7_both_103 (by decide) ?_
              exact J108 _ (by rw [nat_1 hf_.1, mostV, Int.toNat_of_nonneg hf_.1, ← hm_]; first | exact (if_pos (by show m_ < M 89 (40 * k_ + f_) + M 89 (40 * k_ + (4 + f_)); omega)).symm | exact (if_neg (by show ¬ m_ < M 89 (40 * k_ + f_) + M 89 (40 * k_ + (4 + f_)); omega)).symm)
      have L68 : ∀ (h_ : Int) (z_ : Int) (m_ : Int) (f_ : Int), (0 ≤ f_ ∧ f_ ≤ 4) → (h_ = hasV (fun j_ => M 89 (40 * k_ + j_)) f_.toNat) → (z_ = bestV (fun j_ => M 89 (40 * k_ + j_)) f_.toNat) → (m_ = mostV (fun j_ => M 89 (40 * k_ + j_)) f_.toNat) → Z RX7 cX7_both 12 (some .int) 3 (zQ (PI (if 0 ≤ (if ¬ (0 ≤ b_ ∧ b_ ≤ 1) then 0 else hindS M k_ 8 8 1000000) then -1000000001 - (if ¬ (0 ≤ b_ ∧ b_ ≤ 1) then 0 else hindS M k_ 8 8 1000000) else if b_ = 0 then mostV (fun j_ => M 89 (40 * k_ + j_)) 4 else if hasV (fun j_ => M 89 (40 * k_ + j_)) 4 = 0 then -1000000004 else mostV (fun j_ => M 89 (40 * k_ + j_)) 4 - bestV (fun j_ => M 89 (40 * k_ + j_)) 4) (if 0 ≤ (if ¬ (0 ≤ b_ ∧ b_ ≤ 1) then 0 else hindS M k_ 8 8 1000000) then fnd7 M (if ¬ (0 ≤ b_ ∧ b_ ≤ 1) then 0 else hindS M k_ 8 8 1000000) else if b_ = 0 then M else if hasV (fun j_ => M 89 (40 * k_ + j_)) 4 = 0 then fnd7 M 3 else M))) 68 [some (vR 75), some (vI k_), some (vI b_), some (vI q_), some (vI h_), some (vJ z_), none, some (vJ m_), none, some (vI f_), none, none] [] (M) := fun h_ z_ m_ f_ hf_ hh_ hz_ hm_ => K68 ((4 - f_).toNat + 1) h_ z_ m_ f_ (by omega) hf_ hh_ hz_ hm_
      exact L68 _ _ _ _ (by omega) (by rfl) (by rfl) (by rfl)
    · refine z_aload_0 dX7_both_38 ?_
      refine z_iload_3 dX7_both_39 ?_
      refine z_cVI yv_X7_finding ml_X7_93 (c_X7_finding (by omega)) zk_75 rfl rfl (by decide) (Nat.le_of_ble_eq_true rfl) dX7_both_40 ?_
      exact z_iret dX7_both_43 (zPI (by rw [← hq_, if_pos (by omega)]) (by rw [← hq_, if_pos (by omega)]))
  have J17 : (¬ (0 ≤ k_ ∧ k_ ≤ 3) ∨ ¬ (0 ≤ b_ ∧ b_ ≤ 1)) → Z RX7 cX7_both 12 (some .int) 3 (zQ (PI (if 0 ≤ (if ¬ (0 ≤ b_ ∧ b_ ≤ 1) then 0 else hindS M k_ 8 8 1000000) then -1000000001 - (if ¬ (0 ≤ b_ ∧ b_ ≤ 1) then 0 else hindS M k_ 8 8 1000000) else if b_ = 0 then mostV (fun j_ => M 89 (40 * k_ + j_)) 4 else if hasV (fun j_ => M 89 (40 * k_ + j_)) 4 = 0 then -1000000004 else mostV (fun j_ => M 89 (40 * k_ + j_)) 4 - bestV (fun j_ => M 89 (40 * k_ + j_)) 4) (if 0 ≤ (if ¬ (0 ≤ b_ ∧ b_ ≤ 1) then 0 else hindS M k_ 8 8 1000000) then fnd7 M (if ¬ (0 ≤ b_ ∧ b_ ≤ 1) then 0 else hindS M k_ 8 8 1000000) else if b_ = 0 then M else if hasV (fun j_ => M 89 (40 * k_ + j_)) 4 = 0 then fnd7 M 3 else M))) 17 [some (vR 75), some (vI k_), some (vI b_), none, none, none, none, none, none, none, none, none] [] (M) := by
    intro hz_
    refine z_iconst dX7_both_17 ?_
    refine z_goto (tgt := 33) dX7_both_18 (by decide) ?_
    exact J33 _ (by first | omega | exact (if_pos (by omega)).symm | exact (if_neg (by omega)).symm | (refine (Eq.trans ?_ (ite_self _).symm); rfl) | (unfold hindS; split <;> simp [*] <;> omega)) (by first | omega | exact (if_pos (by omega)).symm | exact (if_neg (by omega)).symm | (refine (Eq.trans ?_ (ite_self _).symm); rfl) | (unfold hindS; split <;> simp [*] <;> omega)) (by first | omega | exact (if_pos (by omega)).symm | exact (if_neg (by omega)).symm | (refine (Eq.trans ?_ (ite_self _).symm); rfl) | (unfold hindS; split <;> simp [*] <;> omega))
  refine z_iload_1 dX7_both_0 ?_
  refine z_cSI ys_X7_isSheet ml_X7_295 (c_X7_isSheet (by omega)) rfl rfl (by decide) (Nat.le_of_ble_eq_true rfl) dX7_both_1 ?_
  refine z_ifb_eq (tgt := 17) dX7_both_4 (by decide) (fun c4 => ?_) (fun c4 => ?_)
  · exact J17  (by omega)
  · refine z_iload_2 dX7_both_7 ?_
    refine z_i2l (by omega) dX7_both_8 ?_
    refine z_lconst0 dX7_both_9 ?_
    refine z_lconst1 dX7_both_10 ?_
    refine z_cSI ys_X7_in ml_X7_85 (c_X7_in (by omega) (by decide) (by decide)) rfl rfl (by decide) (Nat.le_of_ble_eq_true rfl) dX7_both_11 ?_
    refine z_ifb_ne (tgt := 21) dX7_both_14 (by decide) (fun c14 => ?_) (fun c14 => ?_)
    · refine z_aload_0 dX7_both_21 ?_
      refine z_iload_1 dX7_both_22 ?_
      refine z_bipush dX7_both_23 (by decide) ?_
      refine z_bipush dX7_both_25 (by decide) ?_
      refine z_ldc2 (n := 1000000) kl_X7_66 (by decide) dX7_both_27 ?_
      refine z_cVI yv_X7_hinders ml_X7_301 (c_X7_hinders hS hk (by decide) (by decide) (by decide)) zk_75 rfl rfl (by decide) (Nat.le_of_ble_eq_true rfl) dX7_both_30 ?_
      have hh_ : hindS M k_ 8 8 1000000 = 0 ∨ hindS M k_ 8 8 1000000 = 5 ∨ hindS M k_ 8 8 1000000 = 6 ∨ hindS M k_ 8 8 1000000 = -1 ∨ hindS M k_ 8 8 1000000 = 2 := by unfold hindS; split <;> (try split) <;> (try split) <;> (try split) <;> simp
      exact J33 _ (by first | omega | exact (if_pos (by omega)).symm | exact (if_neg (by omega)).symm | (refine (Eq.trans ?_ (ite_self _).symm); rfl) | (unfold hindS; split <;> simp [*] <;> omega)) (by first | omega | exact (if_pos (by omega)).symm | exact (if_neg (by omega)).symm | (refine (Eq.trans ?_ (ite_self _).symm); rfl) | (unfold hindS; split <;> simp [*] <;> omega)) (by first | omega | exact (if_pos (by omega)).symm | exact (if_neg (by omega)).symm | (refine (Eq.trans ?_ (ite_self _).symm); rfl) | (unfold hindS; split <;> simp [*] <;> omega))
    · exact J17  (by omega)
