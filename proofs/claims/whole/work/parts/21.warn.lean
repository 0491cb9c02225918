theorem c_X4_strikeAt {M : zM} {k : Nat} {h : Int} (hk : zKT k 4) (hw : wOK (M k)) (hh : -12 ≤ h ∧ h ≤ 12) : Call yX4_strikeAt cX4_strikeAt 9 (some .int) 0 [vR k, vI h] (M) (PI (strikeG (M k) h) M) := by
  refine Call.of2 (own := RX4) (lv0 := [some (vR k), some (vI h), none, none, none, none, none, none, none]) rfl (by decide) rfl (Nat.le_of_ble_eq_true rfl) ?_
  obtain ⟨⟨hk0, hk1⟩, ⟨hd0, hd1⟩, ⟨ha0, ha1⟩, ⟨hw0, hw1⟩, ⟨hc0, hc1⟩, ⟨hl0, hl1⟩⟩ := id hw
  have J23 : ∀ (d_ : Int), (d_ = zabs (h - M k 2)) → Z RX4 cX4_strikeAt 9 (some .int) 0 (zQ (PI (strikeG (M k) h) M)) 23 [some (vR k), some (vI h), none, none, none, none, none, none, none] [vI d_] (M) := by
    intro d_ hd_
    have hd2_ := zabs_cases (h - M k 2)
    refine z_istore_2 rfl dX4_strikeAt_23 ?_
    have J45 : Z RX4 cX4_strikeAt 9 (some .int) 0 (zQ (PI (strikeG (M k) h) M)) 45 [some (vR k), some (vI h), some (vI d_), none, none, none, none, none, none] [vI (zb (M k 0 = 2 ∨ M k 0 = 4))] (M) := by
      refine z_istore_3 rfl dX4_strikeAt_45 ?_
      have J75 : ∀ (f_ : Int), (f_ = farS (M k 0) d_) → Z RX4 cX4_strikeAt 9 (some .int) 0 (zQ (PI (strikeG (M k) h) M)) 75 [some (vR k), some (vI h), some (vI d_), some (vI (zb (M k 0 = 2 ∨ M k 0 = 4))), none, none, none, none, none] [vI f_] (M) := by
        intro f_ hf_
        have hf2_ := farS_le (k := M k 0) (d := d_) (by omega)
        refine z_istore_4 rfl dX4_strikeAt_75 ?_
        refine z_aload_0 dX4_strikeAt_77 ?_
        refine z_getI fl_X4_21 hk rfl dX4_strikeAt_78 ?_
        refine z_iconst dX4_strikeAt_81 ?_
        refine z_iadd dX4_strikeAt_82 ?_
        refine z_istore_5 rfl dX4_strikeAt_83 ?_
        have J115 : ∀ (p_ : Int), (p_ = plainS (M k 4) (M k 3) f_) → Z RX4 cX4_strikeAt 9 (some .int) 0 (zQ (PI (strikeG (M k) h) M)) 115 [some (vR k), some (vI h), some (vI d_), some (vI (zb (M k 0 = 2 ∨ M k 0 = 4))), some (vI f_), some (vI ((M k 3) + 1)), none, none, none] [vI p_] (M) := by
          intro p_ hp_
          have hp2_ := plainS_le (c := M k 4) (w := M k 3) (d := f_) ⟨hc0, hc1⟩ hw0 (by omega)
          refine z_istore_6 rfl dX4_strikeAt_115 ?_
          refine z_iload_6 dX4_strikeAt_117 ?_
          refine z_iload_6 dX4_strikeAt_119 ?_
          refine z_iconst dX4_strikeAt_121 ?_
          refine z_idivp (by omega) (by decide) dX4_strikeAt_122 ?_
          refine z_iadd dX4_strikeAt_123 ?_
          refine z_istore_7 rfl dX4_strikeAt_124 ?_
          have J140 : ∀ (e_ : Int), (e_ = closeS p_) → Z RX4 cX4_strikeAt 9 (some .int) 0 (zQ (PI (strikeG (M k) h) M)) 140 [some (vR k), some (vI h), some (vI d_), some (vI (zb (M k 0 = 2 ∨ M k 0 = 4))), some (vI f_), some (vI ((M k 3) + 1)), some (vI p_), some (vI (p_ + (p_ / 2))), none] [vI e_] (M) := by
            intro e_ he_
            have he2_ := closeS_le (v := p_) (by omega)
            refine z_istore_8 rfl dX4_strikeAt_140 ?_
            refine z_aload_0 dX4_strikeAt_142 ?_
            refine z_getI fl_X4_11 hk rfl dX4_strikeAt_143 ?_
            rcases (show ((M k 0) < 1 ∨ 5 < (M k 0)) ∨ (M k 0) = 1 ∨ (M k 0) = 2 ∨ (M k 0) = 3 ∨ (M k 0) = 4 ∨ (M k 0) = 5 from by omega) with c146 | c146 | c146 | c146 | c146 | c146
            · refine z_tsOut (tgt := 193) (by omega) dX4_strikeAt_146 c146 (by decide) ?_
              refine z_iload_6 dX4_strikeAt_193 ?_
              exact z_iret dX4_strikeAt_195 (zPI (by subst he_ hp_ hf_ hd_; unfold strikeG strike; (repeat (first | rw [if_pos (by omega)] | rw [if_neg (by omega)]))) rfl)
            · refine z_tsIn (off := 34) (tgt := 180) (by omega) dX4_strikeAt_146 (by omega) (by omega) (by rw [c146]; rfl) (by decide) ?_
              refine z_iload_8 dX4_strikeAt_180 ?_
              exact z_iret dX4_strikeAt_182 (zPI (by subst he_ hp_ hf_ hd_; unfold strikeG strike; (repeat (first | rw [if_pos (by omega)] | rw [if_neg (by omega)]))) rfl)
            · refine z_tsIn (off := 47) (tgt := 193) (by omega) dX4_strikeAt_146 (by omega) (by omega) (by rw [c146]; rfl) (by decide) ?_
              refine z_iload_6 dX4_strikeAt_193 ?_
              exact z_iret dX4_strikeAt_195 (zPI (by subst he_ hp_ hf_ hd_; unfold strikeG strike; (repeat (first | rw [if_pos (by omega)] | rw [if_neg (by omega)]))) rfl)
            · refine z_tsIn (off := 47) (tgt := 193) (by omega) dX4_strikeAt_146 (by omega) (by omega) (by rw [c146]; rfl) (by decide) ?_
              refine z_iload_6 dX4_strikeAt_193 ?_
              exact z_iret dX4_strikeAt_195 (zPI (by subst he_ hp_ hf_ hd_; unfold strikeG strike; (repeat (first | rw [if_pos (by omega)] | rw [if_neg (by omega)]))) rfl)
            · refine z_tsIn (off := 37) (tgt := 183) (by omega) dX4_strikeAt_146 (by omega) (by omega) (by rw [c146]; rfl) (by decide) ?_
              refine z_iload_6 dX4_strikeAt_183 ?_
              refine z_iconst dX4_strikeAt_185 ?_
              refine z_idivp (by omega) (by decide) dX4_strikeAt_186 ?_
              exact z_iret dX4_strikeAt_187 (zPI (by subst he_ hp_ hf_ hd_; unfold strikeG strike; (repeat (first | rw [if_pos (by omega)] | rw [if_neg (by omega)]))) rfl)
            · refine z_tsIn (off := 42) (tgt := 188) (by omega) dX4_strikeAt_146 (by omega) (by omega) (by rw [c146]; rfl) (by decide) ?_
              refine z_iload_8 dX4_strikeAt_188 ?_
              refine z_iconst dX4_strikeAt_190 ?_
              refine z_idivp (by omega) (by decide) dX4_strikeAt_191 ?_
              exact z_iret dX4_strikeAt_192 (zPI (by subst he_ hp_ hf_ hd_; unfold strikeG strike; (repeat (first | rw [if_pos (by omega)] | rw [if_neg (by omega)]))) rfl)
          refine z_iload_7 dX4_strikeAt_126 ?_
          refine z_ldc (n := 1000000) kc_X4_38 (by decide) dX4_strikeAt_128 ?_
          refine z_icmp_le (tgt := 138) (by omega) (by decide) dX4_strikeAt_130 (by decide) (fun c130 => ?_) (fun c130 => ?_)
          · refine z_iload_7 dX4_strikeAt_138 ?_
            exact J140 _ (by unfold closeS; first | (rw [if_pos (by omega)]; done) | (rw [if_neg (by omega)]; done))
          · refine z_ldc (n := 1000000) kc_X4_38 (by decide) dX4_strikeAt_133 ?_
            refine z_goto (tgt := 140) dX4_strikeAt_135 (by decide) ?_
            exact J140 _ (by unfold closeS; first | (rw [if_pos (by omega)]; done) | (rw [if_neg (by omega)]; done))
        refine z_iload_5 dX4_strikeAt_85 ?_
        refine z_iconst dX4_strikeAt_87 ?_
        refine z_icmp_lt (tgt := 98) (by omega) (by decide) dX4_strikeAt_88 (by decide) (fun c88 => ?_) (fun c88 => ?_)
        · refine z_iconst dX4_strikeAt_98 ?_
          refine z_goto (tgt := 115) dX4_strikeAt_99 (by decide) ?_
          exact J115 _ (by unfold plainS; first | (rw [if_pos (by omega)]; done) | (rw [if_neg (by omega)]; done))
        · refine z_iload_4 dX4_strikeAt_91 ?_
          refine z_iload_5 dX4_strikeAt_93 ?_
          refine z_icmp_lt (tgt := 102) (by omega) (by omega) dX4_strikeAt_95 (by decide) (fun c95 => ?_) (fun c95 => ?_)
          · refine z_aload_0 dX4_strikeAt_102 ?_
            refine z_getI fl_X4_24 hk rfl dX4_strikeAt_103 ?_
            refine z_iload_5 dX4_strikeAt_106 ?_
            refine z_iload_4 dX4_strikeAt_108 ?_
            refine z_isub dX4_strikeAt_110 ?_
            refine z_imul dX4_strikeAt_111 ?_
            have hm_ := mul_box (a := M k 4) (b := M k 3 + 1 - f_) hc0 hc1 (by omega) (show _ ≤ 10 by omega)
            refine z_iload_5 dX4_strikeAt_112 ?_
            refine z_idivp (by omega) (by omega) dX4_strikeAt_114 ?_
            exact J115 _ (by unfold plainS; first | (rw [if_pos (by omega)]; done) | (rw [if_neg (by omega)]; done))
          · refine z_iconst dX4_strikeAt_98 ?_
            refine z_goto (tgt := 115) dX4_strikeAt_99 (by decide) ?_
            exact J115 _ (by unfold plainS; first | (rw [if_pos (by omega)]; done) | (rw [if_neg (by omega)]; done))
      refine z_aload_0 dX4_strikeAt_46 ?_
      refine z_getI fl_X4_11 hk rfl dX4_strikeAt_47 ?_
      refine z_iconst dX4_strikeAt_50 ?_
      refine z_icmp_ne (tgt := 60) (by omega) (by decide) dX4_strikeAt_51 (by decide) (fun c51 => ?_) (fun c51 => ?_)
      · refine z_iload_3 dX4_strikeAt_60 ?_
        refine z_ifb_eq (tgt := 74) dX4_strikeAt_61 (by decide) (fun c61 => ?_) (fun c61 => ?_)
        · refine z_iload_2 dX4_strikeAt_74 ?_
          exact J75 _ (by unfold farS; simp [*] <;> omega)
        · refine z_iload_2 dX4_strikeAt_64 ?_
          refine z_if_le (tgt := 74) (by omega) dX4_strikeAt_65 (by decide) (fun c65 => ?_) (fun c65 => ?_)
          · refine z_iload_2 dX4_strikeAt_74 ?_
            exact J75 _ (by unfold farS; simp [*] <;> omega)
          · refine z_iload_2 dX4_strikeAt_68 ?_
            refine z_iconst dX4_strikeAt_69 ?_
            refine z_iadd dX4_strikeAt_70 ?_
            refine z_goto (tgt := 75) dX4_strikeAt_71 (by decide) ?_
            exact J75 _ (by unfold farS; simp [*] <;> omega)
      · refine z_iload_2 dX4_strikeAt_54 ?_
        refine z_iconst dX4_strikeAt_55 ?_
        refine z_idivp (by omega) (by decide) dX4_strikeAt_56 ?_
        refine z_goto (tgt := 75) dX4_strikeAt_57 (by decide) ?_
        exact J75 _ (by unfold farS; simp [*] <;> omega)
    refine z_aload_0 dX4_strikeAt_24 ?_
    refine z_getI fl_X4_11 hk rfl dX4_strikeAt_25 ?_
    refine z_iconst dX4_strikeAt_28 ?_
    refine z_icmp_eq (tgt := 40) (by omega) (by decide) dX4_strikeAt_29 (by decide) (fun c29 => ?_) (fun c29 => ?_)
    · refine z_iconst dX4_strikeAt_40 ?_
      refine z_goto (tgt := 45) dX4_strikeAt_41 (by decide) ?_
      exact z_topI (by first | exact (zb_t (by omega)).symm | exact (zb_f (by omega)).symm) (J45  )
    · refine z_aload_0 dX4_strikeAt_32 ?_
      refine z_getI fl_X4_11 hk rfl dX4_strikeAt_33 ?_
      refine z_iconst dX4_strikeAt_36 ?_
      refine z_icmp_ne (tgt := 44) (by omega) (by decide) dX4_strikeAt_37 (by decide) (fun c37 => ?_) (fun c37 => ?_)
      · refine z_iconst dX4_strikeAt_44 ?_
        exact z_topI (by first | exact (zb_t (by omega)).symm | exact (zb_f (by omega)).symm) (J45  )
      · refine z_iconst dX4_strikeAt_40 ?_
        refine z_goto (tgt := 45) dX4_strikeAt_41 (by decide) ?_
        exact z_topI (by first | exact (zb_t (by omega)).symm | exact (zb_f (by omega)).symm) (J45  )
  refine z_iload_1 dX4_strikeAt_0 ?_
  refine z_aload_0 dX4_strikeAt_1 ?_
  refine z_getI fl_X4_18 hk rfl dX4_strikeAt_2 ?_
  refine z_icmp_le (tgt := 17) (by omega) (by omega) dX4_strikeAt_5 (by decide) (fun c5 => ?_) (fun c5 => ?_)
  · refine z_aload_0 dX4_strikeAt_17 ?_
    refine z_getI fl_X4_18 hk rfl dX4_strikeAt_18 ?_
    refine z_iload_1 dX4_strikeAt_21 ?_
    refine z_isub dX4_strikeAt_22 ?_
    exact J23 _ (by unfold zabs; split <;> omega)
  · refine z_iload_1 dX4_strikeAt_8 ?_
    refine z_aload_0 dX4_strikeAt_9 ?_
    refine z_getI fl_X4_18 hk rfl dX4_strikeAt_10 ?_
    refine z_isub dX4_strikeAt_13 ?_
    refine z_goto (tgt := 23) dX4_strikeAt_14 (by decide) ?_
    exact J23 _ (by unfold zabs; split <;> omega)
