def nearC (ht : Int) (n : Nat) : Int := ht + (if n % 2 = 0 then -((n / 2 : Nat) + 1 : Int) else ((n / 2 : Nat) + 1 : Int))
def nearM (dg : Int → Int) (ht : Int) : Nat → Int
  | 0 => ht
  | n + 1 => if (-12 ≤ nearC ht n ∧ nearC ht n ≤ 12) ∧ dg (nearC ht n) < dg (nearM dg ht n) then nearC ht n else nearM dg ht n
theorem nearM_1 {dg : Int → Int} {ht s d c : Int} (hd : 1 ≤ d) (hs : s = -1 ∨ s = 1) (hc : c = ht + s * d) : nearM dg ht (2 * (d - 1) + (s + 2 + 1) / 2).toNat = if (-12 ≤ c ∧ c ≤ 12) ∧ dg c < dg (nearM dg ht (2 * (d - 1) + (s + 1) / 2).toNat) then c else nearM dg ht (2 * (d - 1) + (s + 1) / 2).toNat := by
  rw [show (2 * (d - 1) + (s + 2 + 1) / 2).toNat = (2 * (d - 1) + (s + 1) / 2).toNat + 1 by omega]
  generalize hn : (2 * (d - 1) + (s + 1) / 2).toNat = n
  have e : nearC ht n = c := by
    unfold nearC
    rcases hs with h | h
    · subst h
      rw [if_pos (by omega), hc]; omega
    · subst h
      rw [if_neg (by omega), hc]; omega
  rw [nearM, e]
theorem nearM_le {dg : Int → Int} {ht : Int} (h : -12 ≤ ht ∧ ht ≤ 12) : ∀ n : Nat, -12 ≤ nearM dg ht n ∧ nearM dg ht n ≤ 12
  | 0 => h
  | n + 1 => by
    have i := nearM_le (dg := dg) h n
    unfold nearM
    by_cases h2 : (-12 ≤ nearC ht n ∧ nearC ht n ≤ 12) ∧ dg (nearC ht n) < dg (nearM dg ht n)
    · rw [if_pos h2]; exact h2.1
    · rw [if_neg h2]; exact i
def calmF (dg : Int → Int) (c n : Int) : Nat → Int → Int → Int
  | 0, _, _ => 0
  | f + 1, s, d => if d ≤ 40 + n ∧ s ≤ 40 then (if c < dg d then calmF dg c n f (d + 1) (d + 1) else if d - s = n then s else calmF dg c n f s (d + 1)) else 0
theorem calmF_le {dg : Int → Int} {c n : Int} : ∀ (f : Nat) (s d : Int), 0 ≤ s → 0 ≤ d → 0 ≤ calmF dg c n f s d ∧ calmF dg c n f s d ≤ 40
  | 0, _, _, _, _ => by simp [calmF]
  | f + 1, s, d, hs, hd => by
    have i1 := calmF_le (dg := dg) (c := c) (n := n) f (d + 1) (d + 1) (by omega) (by omega)
    have i2 := calmF_le (dg := dg) (c := c) (n := n) f s (d + 1) (by omega) (by omega)
    unfold calmF
    split
    · split
      · exact i1
      · split
        · omega
        · exact i2
    · omega
def mostW (A : Int → Int) (m : Int) : Nat → Int
  | 0 => -2000000
  | n + 1 => if zand (zshr m n) 1 = 1 then (if A n + A (4 + n) < mostW A m n then mostW A m n else A n + A (4 + n)) else mostW A m n
theorem mostW_le {A : Int → Int} {m : Int} (h : ∀ j : Int, 0 ≤ j → j < 8 → -1000000 ≤ A j ∧ A j ≤ 1000000) : ∀ n : Nat, n ≤ 4 → -2000000 ≤ mostW A m n ∧ mostW A m n ≤ 2000000
  | 0, _ => by simp [mostW]
  | n + 1, hn => by
    have i := mostW_le (m := m) h n (by omega)
    have h1 := h n (by omega) (by omega)
    have h2 := h (4 + n) (by omega) (by omega)
    unfold mostW
    split <;> (try split) <;> omega
theorem c_X6_safest {M : zM} {a_ : Int} (hO : WOK M 1) (ha : -2147483648 ≤ a_ ∧ a_ < 2147483648) : Call yX6_safest cX6_safest 7 (some .int) 3 [vR 0, vI a_] (M) (PI (if 0 ≤ a_ ∧ a_ ≤ 999 then nearM (fun h_ => danger (M 1 6).toNat (gW M 1) a_ h_) (M 1 1) 48 else -1000000001) (if 0 ≤ a_ ∧ a_ ≤ 999 then M else fnd6 M 0)) := by
  refine Call.of2 (own := RX6) (lv0 := [some (vR 0), some (vI a_), none, none, none, none, none]) rfl (by decide) rfl (Nat.le_of_ble_eq_true rfl) ?_
  obtain ⟨⟨t0_, t1_⟩, ⟨h0_, h1_⟩, hn, hp⟩ := id hO
  obtain ⟨n0_, n1_⟩ := hn.1
  refine z_iload_1 dX6_safest_0 ?_
  refine z_iconst dX6_safest_1 ?_
  refine z_sipush dX6_safest_2 (by decide) ?_
  refine z_cSI ys_X6_isOutside ml_X6_69 (c_X6_isOutside (by omega) (by omega) (by omega)) rfl rfl (by decide) (Nat.le_of_ble_eq_true rfl) dX6_safest_5 ?_
  refine z_ifb_eq (tgt := 18) dX6_safest_8 (by decide) (fun c8 => ?_) (fun c8 => ?_)
  · refine z_aload_0 dX6_safest_18 ?_
    refine z_getR (r := 1) fl_X6_10 zk_0 rfl rfl dX6_safest_19 ?_
    refine z_getI fl_X6_99 (zw_k isW1) rfl dX6_safest_22 ?_
    refine z_istore_2 rfl dX6_safest_25 ?_
    refine z_aload_0 dX6_safest_26 ?_
    refine z_getR (r := 1) fl_X6_10 zk_0 rfl rfl dX6_safest_27 ?_
    refine z_iload_1 dX6_safest_30 ?_
    refine z_iload_2 dX6_safest_31 ?_
    refine z_cVI yv_X5_dangerOn ml_X6_176 (c_X5_dangerOn isW1 hn (by omega) (by omega)) (zw_k isW1) rfl rfl (by decide) (Nat.le_of_ble_eq_true rfl) dX6_safest_32 ?_
    refine z_istore_3 rfl dX6_safest_35 ?_
    refine z_iconst dX6_safest_36 ?_
    refine z_istore_4 rfl dX6_safest_37 ?_
    have K39 : ∀ (fuel_ : Nat) (b_ : Int) (v_ : Int) (d_ : Int), 25 - d_ < (fuel_ : Int) → (1 ≤ d_ ∧ d_ ≤ 25) → (b_ = nearM (fun h_ => danger (M 1 6).toNat (gW M 1) a_ h_) (M 1 1) (2 * (d_ - 1)).toNat) → (v_ = danger (M 1 6).toNat (gW M 1) a_ b_) → Z RX6 cX6_safest 7 (some .int) 3 (zQ (PI (if 0 ≤ a_ ∧ a_ ≤ 999 then nearM (fun h_ => danger (M 1 6).toNat (gW M 1) a_ h_) (M 1 1) 48 else -1000000001) (if 0 ≤ a_ ∧ a_ ≤ 999 then M else fnd6 M 0))) 39 [some (vR 0), some (vI a_), some (vI b_), some (vI v_), some (vI d_), none, none] [] (M) := by
      intro fuel_
      induction fuel_ with
      | zero => intro b_ v_ d_ hfuel_ hd_ hb_ hv_; exfalso; omega
      | succ fuel_ ih39 =>
        intro b_ v_ d_ hfuel_ hd_ hb_ hv_
        refine z_iload_4 dX6_safest_39 ?_
        refine z_bipush dX6_safest_41 (by decide) ?_
        refine z_icmp_ge (tgt := 118) (by omega) (by decide) dX6_safest_43 (by decide) (fun c43 => ?_) (fun c43 => ?_)
        · refine z_iload_2 dX6_safest_118 ?_
          exact z_iret dX6_safest_119 (zPI (by rw [if_pos (by omega), hb_, show d_ = 25 by omega]; rfl) (by rw [if_pos (by omega)]))
        · refine z_iconst dX6_safest_46 ?_
          refine z_istore_5 rfl dX6_safest_47 ?_
          have K49 : ∀ (fuel_ : Nat) (b_ : Int) (v_ : Int) (s_ : Int), 3 - s_ < (fuel_ : Int) → (s_ = -1 ∨ s_ = 1 ∨ s_ = 3) → (b_ = nearM (fun h_ => danger (M 1 6).toNat (gW M 1) a_ h_) (M 1 1) (2 * (d_ - 1) + (s_ + 1) / 2).toNat) → (v_ = danger (M 1 6).toNat (gW M 1) a_ b_) → Z RX6 cX6_safest 7 (some .int) 3 (zQ (PI (if 0 ≤ a_ ∧ a_ ≤ 999 then nearM (fun h_ => danger (M 1 6).toNat (gW M 1) a_ h_) (M 1 1) 48 else -1000000001) (if 0 ≤ a_ ∧ a_ ≤ 999 then M else fnd6 M 0))) 49 [some (vR 0), some (vI a_), some (vI b_), some (vI v_), some (vI d_), some (vI s_), none] [] (M) := by
            intro fuel_
            induction fuel_ with
            | zero => intro b_ v_ s_ hfuel_ hs_ hb_ hv_; exfalso; omega
            | succ fuel_ ih49 =>
              intro b_ v_ s_ hfuel_ hs_ hb_ hv_
              refine z_iload_5 dX6_safest_49 ?_
              refine z_iconst dX6_safest_51 ?_
              refine z_icmp_gt (tgt := 112) (by omega) (by decide) dX6_safest_52 (by decide) (fun c52 => ?_) (fun c52 => ?_)
              · refine z_iinc_4 rfl dX6_safest_112 ?_
                refine z_goto (tgt := 39) dX6_safest_115 (by decide) ?_
                refine z_drop_5 ?_
                exact ih39 _ _ _ (by omega) (by omega) (by rw [hb_, show (2 * (d_ - 1) + (s_ + 1) / 2).toNat = (2 * (d_ + 1 - 1)).toNat by omega]) (by exact hv_)
              · have hsd_ : s_ * d_ = d_ ∨ s_ * d_ = -d_ := by rcases hs_ with h_ | h_ | h_ <;> first | (rw [h_]; omega) | (exfalso; omega)
                have hdl_ := danger_le (day := a_) (h := M 1 1 + s_ * d_) (WN_all hn)
                have hdl2_ := danger_le (day := a_) (h := b_) (WN_all hn)
                refine z_aload_0 dX6_safest_55 ?_
                refine z_getR (r := 1) fl_X6_10 zk_0 rfl rfl dX6_safest_56 ?_
                refine z_getI fl_X6_99 (zw_k isW1) rfl dX6_safest_59 ?_
                refine z_iload_5 dX6_safest_62 ?_
                refine z_iload_4 dX6_safest_64 ?_
                refine z_imul dX6_safest_66 ?_
                refine z_iadd dX6_safest_67 ?_
                refine z_istore_6 rfl dX6_safest_68 ?_
                refine z_iload_6 dX6_safest_70 ?_
                refine z_cSI ys_X6_isNoHeight ml_X6_121 (c_X6_isNoHeight (by omega)) rfl rfl (by decide) (Nat.le_of_ble_eq_true rfl) dX6_safest_72 ?_
                refine z_ifb_ne (tgt := 106) dX6_safest_75 (by decide) (fun c75 => ?_) (fun c75 => ?_)
                · refine z_iinc_5 rfl dX6_safest_106 ?_
                  refine z_goto (tgt := 49) dX6_safest_109 (by decide) ?_
                  refine z_drop_6 ?_
                  exact ih49 _ _ _ (by omega) (by omega) (by rw [nearM_1 (c := M 1 1 + s_ * d_) (by omega) (by omega) rfl, ← hb_]; first | exact (if_pos ⟨⟨by omega, by omega⟩, by show danger _ _ _ _ < danger _ _ _ _; omega⟩).symm | exact (if_neg (fun h_ => by have h2_ := h_.1; have h3_ : danger (M 1 6).toNat (gW M 1) a_ (M 1 1 + s_ * d_) < danger (M 1 6).toNat (gW M 1) a_ b_ := h_.2; omega)).symm) (by first | rfl | exact hv_)
                · refine z_aload_0 dX6_safest_78 ?_
                  refine z_getR (r := 1) fl_X6_10 zk_0 rfl rfl dX6_safest_79 ?_
                  refine z_iload_1 dX6_safest_82 ?_
                  refine z_iload_6 dX6_safest_83 ?_
                  refine z_cVI yv_X5_dangerOn ml_X6_176 (c_X5_dangerOn isW1 hn (by omega) (by omega)) (zw_k isW1) rfl rfl (by decide) (Nat.le_of_ble_eq_true rfl) dX6_safest_85 ?_
                  refine z_iload_3 dX6_safest_88 ?_
                  refine z_icmp_ge (tgt := 106) (by omega) (by omega) dX6_safest_89 (by decide) (fun c89 => ?_) (fun c89 => ?_)
                  · refine z_iinc_5 rfl dX6_safest_106 ?_
                    refine z_goto (tgt := 49) dX6_safest_109 (by decide) ?_
                    refine z_drop_6 ?_
                    exact ih49 _ _ _ (by omega) (by omega) (by rw [nearM_1 (c := M 1 1 + s_ * d_) (by omega) (by omega) rfl, ← hb_]; first | exact (if_pos ⟨⟨by omega, by omega⟩, by show danger _ _ _ _ < danger _ _ _ _; omega⟩).symm | exact (if_neg (fun h_ => by have h2_ := h_.1; have h3_ : danger (M 1 6).toNat (gW M 1) a_ (M 1 1 + s_ * d_) < danger (M 1 6).toNat (gW M 1) a_ b_ := h_.2; omega)).symm) (by first | rfl | exact hv_)
                  · refine z_iload_6 dX6_safest_92 ?_
                    refine z_istore_2 rfl dX6_safest_94 ?_
                    refine z_aload_0 dX6_safest_95 ?_
                    refine z_getR (r := 1) fl_X6_10 zk_0 rfl rfl dX6_safest_96 ?_
                    refine z_iload_1 dX6_safest_99 ?_
                    refine z_iload_6 dX6_safest_100 ?_
                    refine z_cVI yv_X5_dangerOn ml_X6_176 (c_X5_dangerOn isW1 hn (by omega) (by omega)) (zw_k isW1) rfl rfl (by decide) (Nat.le_of_ble_eq_true rfl) dX6_safest_102 ?_
                    refine z_istore_3 rfl dX6_safest_105 ?_
                    refine z_iinc_5 rfl dX6_safest_106 ?_
                    refine z_goto (tgt := 49) dX6_safest_109 (by decide) ?_
                    refine z_drop_6 ?_
                    exact ih49 _ _ _ (by omega) (by omega) (by rw [nearM_1 (c := M 1 1 + s_ * d_) (by omega) (by omega) rfl, ← hb_]; first | exact (if_pos ⟨⟨by omega, by omega⟩, by show danger _ _ _ _ < danger _ _ _ _; omega⟩).symm | exact (if_neg (fun h_ => by have h2_ := h_.1; have h3_ : danger (M 1 6).toNat (gW M 1) a_ (M 1 1 + s_ * d_) < danger (M 1 6).toNat (gW M 1) a_ b_ := h_.2; omega)).symm) (by first | rfl | exact hv_)
          have L49 : ∀ (b_ : Int) (v_ : Int) (s_ : Int), (s_ = -1 ∨ s_ = 1 ∨ s_ = 3) → (b_ = nearM (fun h_ => danger (M 1 6).toNat (gW M 1) a_ h_) (M 1 1) (2 * (d_ - 1) + (s_ + 1) / 2).toNat) → (v_ = danger (M 1 6).toNat (gW M 1) a_ b_) → Z RX6 cX6_safest 7 (some .int) 3 (zQ (PI (if 0 ≤ a_ ∧ a_ ≤ 999 then nearM (fun h_ => danger (M 1 6).toNat (gW M 1) a_ h_) (M 1 1) 48 else -1000000001) (if 0 ≤ a_ ∧ a_ ≤ 999 then M else fnd6 M 0))) 49 [some (vR 0), some (vI a_), some (vI b_), some (vI v_), some (vI d_), some (vI s_), none] [] (M) := fun b_ v_ s_ hs_ hb_ hv_ => K49 ((3 - s_).toNat + 1) b_ v_ s_ (by omega) hs_ hb_ hv_
          exact L49 _ _ _ (by omega) (by rw [hb_, show (2 * (d_ - 1) + (-1 + 1) / 2) = 2 * (d_ - 1) by omega]) (by exact hv_)
    have L39 : ∀ (b_ : Int) (v_ : Int) (d_ : Int), (1 ≤ d_ ∧ d_ ≤ 25) → (b_ = nearM (fun h_ => danger (M 1 6).toNat (gW M 1) a_ h_) (M 1 1) (2 * (d_ - 1)).toNat) → (v_ = danger (M 1 6).toNat (gW M 1) a_ b_) → Z RX6 cX6_safest 7 (some .int) 3 (zQ (PI (if 0 ≤ a_ ∧ a_ ≤ 999 then nearM (fun h_ => danger (M 1 6).toNat (gW M 1) a_ h_) (M 1 1) 48 else -1000000001) (if 0 ≤ a_ ∧ a_ ≤ 999 then M else fnd6 M 0))) 39 [some (vR 0), some (vI a_), some (vI b_), some (vI v_), some (vI d_), none, none] [] (M) := fun b_ v_ d_ hd_ hb_ hv_ => K39 ((25 - d_).toNat + 1) b_ v_ d_ (by omega) hd_ hb_ hv_
    exact L39 _ _ _ (by omega) (by rfl) (by rfl)
  · refine z_aload_0 dX6_safest_11 ?_
    refine z_ldc (n := -1000000001) kc_X6_79 (by decide) dX6_safest_12 ?_
    refine z_cVI yv_X6_finding ml_X6_80 (c_X6_finding (by omega)) zk_0 rfl rfl (by decide) (Nat.le_of_ble_eq_true rfl) dX6_safest_14 ?_
    exact z_iret dX6_safest_17 (zPI (by (repeat (first | rw [if_pos (by omega)] | rw [if_neg (by omega)])) <;> rfl) (by (repeat (first | rw [if_pos (by omega)] | rw [if_neg (by omega)])) <;> rfl))

theorem c_X6_firstCalm {M : zM} {c_ n_ : Int} (hO : WOK M 1) (hc : 0 ≤ c_ ∧ c_ ≤ 1000000) (hn0 : 0 ≤ n_ ∧ n_ ≤ 20) : Call yX6_firstCalm cX6_firstCalm 5 (some .int) 2 [vR 0, vI c_, vI n_] (M) (PI (calmF (fun d_ => danger (M 1 6).toNat (gW M 1) (M 1 0 + d_) 0) c_ n_ 61 1 1) M) := by
  refine Call.of2 (own := RX6) (lv0 := [some (vR 0), some (vI c_), some (vI n_), none, none]) rfl (by decide) rfl (Nat.le_of_ble_eq_true rfl) ?_
  obtain ⟨⟨t0_, t1_⟩, ⟨h0_, h1_⟩, hn, hp⟩ := id hO
  obtain ⟨n0_, n1_⟩ := hn.1
  refine z_iconst dX6_firstCalm_0 ?_
  refine z_istore_3 rfl dX6_firstCalm_1 ?_
  refine z_iconst dX6_firstCalm_2 ?_
  refine z_istore_4 rfl dX6_firstCalm_3 ?_
  have K5 : ∀ (fuel_ : Nat) (s_ : Int) (e_ : Int), 61 - e_ < (fuel_ : Int) → (1 ≤ e_ ∧ e_ ≤ 61) → (1 ≤ s_ ∧ s_ ≤ e_) → (calmF (fun d_ => danger (M 1 6).toNat (gW M 1) (M 1 0 + d_) 0) c_ n_ (62 - e_).toNat s_ e_ = calmF (fun d_ => danger (M 1 6).toNat (gW M 1) (M 1 0 + d_) 0) c_ n_ 61 1 1) → Z RX6 cX6_firstCalm 5 (some .int) 2 (zQ (PI (calmF (fun d_ => danger (M 1 6).toNat (gW M 1) (M 1 0 + d_) 0) c_ n_ 61 1 1) M)) 5 [some (vR 0), some (vI c_), some (vI n_), some (vI s_), some (vI e_)] [] (M) := by
    intro fuel_
    induction fuel_ with
    | zero => intro s_ e_ hfuel_ he_ hs_ hr_; exfalso; omega
    | succ fuel_ ih5 =>
      intro s_ e_ hfuel_ he_ hs_ hr_
      have J66 : (calmF (fun d_ => danger (M 1 6).toNat (gW M 1) (M 1 0 + d_) 0) c_ n_ 61 1 1 = 0) → Z RX6 cX6_firstCalm 5 (some .int) 2 (zQ (PI (calmF (fun d_ => danger (M 1 6).toNat (gW M 1) (M 1 0 + d_) 0) c_ n_ 61 1 1) M)) 66 [some (vR 0), some (vI c_), some (vI n_), some (vI s_), some (vI e_)] [] (M) := by
        intro hr2_
        refine z_iconst dX6_firstCalm_66 ?_
        exact z_iret dX6_firstCalm_67 (zPI hr2_.symm rfl)
      refine z_iload_4 dX6_firstCalm_5 ?_
      refine z_bipush dX6_firstCalm_7 (by decide) ?_
      refine z_iload_2 dX6_firstCalm_9 ?_
      refine z_iadd dX6_firstCalm_10 ?_
      refine z_icmp_gt (tgt := 66) (by omega) (by omega) dX6_firstCalm_11 (by decide) (fun c11 => ?_) (fun c11 => ?_)
      · exact J66  (by rw [← hr_, show (62 - e_).toNat = (61 - e_).toNat + 1 by omega, calmF, if_neg (by omega)])
      · have J60 : ∀ (s2_ : Int), (1 ≤ s2_ ∧ s2_ ≤ e_ + 1) → (calmF (fun d_ => danger (M 1 6).toNat (gW M 1) (M 1 0 + d_) 0) c_ n_ (61 - e_).toNat s2_ (e_ + 1) = calmF (fun d_ => danger (M 1 6).toNat (gW M 1) (M 1 0 + d_) 0) c_ n_ 61 1 1) → Z RX6 cX6_firstCalm 5 (some .int) 2 (zQ (PI (calmF (fun d_ => danger (M 1 6).toNat (gW M 1) (M 1 0 + d_) 0) c_ n_ 61 1 1) M)) 60 [some (vR 0), some (vI c_), some (vI n_), some (vI s2_), some (vI e_)] [] (M) := by
          intro s2_ hs2_ hr3_
          refine z_iinc_4 rfl dX6_firstCalm_60 ?_
          refine z_goto (tgt := 5) dX6_firstCalm_63 (by decide) ?_
          exact ih5 _ _ (by omega) (by omega) (by omega) (by rw [← hr3_, show (62 - (e_ + 1)).toNat = (61 - e_).toNat by omega])
        refine z_iload_3 dX6_firstCalm_14 ?_
        refine z_bipush dX6_firstCalm_15 (by decide) ?_
        refine z_icmp_gt (tgt := 66) (by omega) (by decide) dX6_firstCalm_17 (by decide) (fun c17 => ?_) (fun c17 => ?_)
        · exact J66  (by rw [← hr_, show (62 - e_).toNat = (61 - e_).toNat + 1 by omega, calmF, if_neg (by omega)])
        · have hdl_ := danger_le (day := M 1 0 + e_) (h := 0) (WN_all hn)
          refine z_aload_0 dX6_firstCalm_20 ?_
          refine z_getR (r := 1) fl_X6_10 zk_0 rfl rfl dX6_firstCalm_21 ?_
          refine z_aload_0 dX6_firstCalm_24 ?_
          refine z_getR (r := 1) fl_X6_10 zk_0 rfl rfl dX6_firstCalm_25 ?_
          refine z_getI fl_X6_102 (zw_k isW1) rfl dX6_firstCalm_28 ?_
          refine z_iload_4 dX6_firstCalm_31 ?_
          refine z_iadd dX6_firstCalm_33 ?_
          refine z_iconst dX6_firstCalm_34 ?_
          refine z_cVI yv_X5_dangerOn ml_X6_176 (c_X5_dangerOn isW1 hn (by omega) (by omega)) (zw_k isW1) rfl rfl (by decide) (Nat.le_of_ble_eq_true rfl) dX6_firstCalm_35 ?_
          refine z_iload_1 dX6_firstCalm_38 ?_
          refine z_icmp_le (tgt := 50) (by omega) (by omega) dX6_firstCalm_39 (by decide) (fun c39 => ?_) (fun c39 => ?_)
          · refine z_iload_4 dX6_firstCalm_50 ?_
            refine z_iload_3 dX6_firstCalm_52 ?_
            refine z_isub dX6_firstCalm_53 ?_
            refine z_iload_2 dX6_firstCalm_54 ?_
            refine z_icmp_ne (tgt := 60) (by omega) (by omega) dX6_firstCalm_55 (by decide) (fun c55 => ?_) (fun c55 => ?_)
            · exact J60 _ (by first | omega | (rw [← hr_, show (62 - e_).toNat = (61 - e_).toNat + 1 by omega]; refine Eq.symm ?_; rw [calmF, if_pos (by omega)]; first | exact if_pos (by show c_ < danger _ _ _ _; omega) | (rw [if_neg (show ¬ c_ < danger (M 1 6).toNat (gW M 1) (M 1 0 + e_) 0 by omega), if_neg (by omega)]))) (by first | omega | (rw [← hr_, show (62 - e_).toNat = (61 - e_).toNat + 1 by omega]; refine Eq.symm ?_; rw [calmF, if_pos (by omega)]; first | exact if_pos (by show c_ < danger _ _ _ _; omega) | (rw [if_neg (show ¬ c_ < danger (M 1 6).toNat (gW M 1) (M 1 0 + e_) 0 by omega), if_neg (by omega)])))
            · refine z_iload_3 dX6_firstCalm_58 ?_
              exact z_iret dX6_firstCalm_59 (zPI (by rw [← hr_, show (62 - e_).toNat = (61 - e_).toNat + 1 by omega, calmF, if_pos (by omega), if_neg (show ¬ c_ < danger (M 1 6).toNat (gW M 1) (M 1 0 + e_) 0 by omega), if_pos (by omega)]) rfl)
          · refine z_iload_4 dX6_firstCalm_42 ?_
            refine z_iconst dX6_firstCalm_44 ?_
            refine z_iadd dX6_firstCalm_45 ?_
            refine z_istore_3 rfl dX6_firstCalm_46 ?_
            refine z_goto (tgt := 60) dX6_firstCalm_47 (by decide) ?_
            exact J60 _ (by first | omega | (rw [← hr_, show (62 - e_).toNat = (61 - e_).toNat + 1 by omega]; refine Eq.symm ?_; rw [calmF, if_pos (by omega)]; first | exact if_pos (by show c_ < danger _ _ _ _; omega) | (rw [if_neg (show ¬ c_ < danger (M 1 6).toNat (gW M 1) (M 1 0 + e_) 0 by omega), if_neg (by omega)]))) (by first | omega | (rw [← hr_, show (62 - e_).toNat = (61 - e_).toNat + 1 by omega]; refine Eq.symm ?_; rw [calmF, if_pos (by omega)]; first | exact if_pos (by show c_ < danger _ _ _ _; omega) | (rw [if_neg (show ¬ c_ < danger (M 1 6).toNat (gW M 1) (M 1 0 + e_) 0 by omega), if_neg (by omega)])))
  have L5 : ∀ (s_ : Int) (e_ : Int), (1 ≤ e_ ∧ e_ ≤ 61) → (1 ≤ s_ ∧ s_ ≤ e_) → (calmF (fun d_ => danger (M 1 6).toNat (gW M 1) (M 1 0 + d_) 0) c_ n_ (62 - e_).toNat s_ e_ = calmF (fun d_ => danger (M 1 6).toNat (gW M 1) (M 1 0 + d_) 0) c_ n_ 61 1 1) → Z RX6 cX6_firstCalm 5 (some .int) 2 (zQ (PI (calmF (fun d_ => danger (M 1 6).toNat (gW M 1) (M 1 0 + d_) 0) c_ n_ 61 1 1) M)) 5 [some (vR 0), some (vI c_), some (vI n_), some (vI s_), some (vI e_)] [] (M) := fun s_ e_ he_ hs_ hr_ => K5 ((61 - e_).toNat + 1) s_ e_ (by omega) he_ hs_ hr_
  exact L5 _ _ (by omega) (by omega) (by rfl)

theorem c_X6_home {M : zM} {c_ n_ : Int} (hO : WOK M 1) (hc : -2147483648 ≤ c_ ∧ c_ < 2147483648) (hn : -2147483648 ≤ n_ ∧ n_ < 2147483648) : Call yX6_home cX6_home 4 (some .int) 3 [vR 0, vI c_, vI n_] (M) (PI (if ¬ ((0 ≤ c_ ∧ c_ ≤ 1000000) ∧ (0 ≤ n_ ∧ n_ ≤ 20)) then -1000000001 else if M 1 1 = 0 then -1000000005 else if canS (M (10 + 1)) (M 1 1) (-M 1 1) ∧ calmF (fun d_ => danger (M 1 6).toNat (gW M 1) (M 1 0 + d_) 0) c_ n_ 61 1 1 ≠ 0 then calmF (fun d_ => danger (M 1 6).toNat (gW M 1) (M 1 0 + d_) 0) c_ n_ 61 1 1 else -1000000004) (if ¬ ((0 ≤ c_ ∧ c_ ≤ 1000000) ∧ (0 ≤ n_ ∧ n_ ≤ 20)) then fnd6 M 0 else if M 1 1 = 0 then fnd6 M 4 else if canS (M (10 + 1)) (M 1 1) (-M 1 1) ∧ calmF (fun d_ => danger (M 1 6).toNat (gW M 1) (M 1 0 + d_) 0) c_ n_ 61 1 1 ≠ 0 then M else fnd6 M 3)) := by
  refine Call.of2 (own := RX6) (lv0 := [some (vR 0), some (vI c_), some (vI n_), none]) rfl (by decide) rfl (Nat.le_of_ble_eq_true rfl) ?_
  obtain ⟨⟨t0_, t1_⟩, ⟨h0_, h1_⟩, hn, hp⟩ := id hO
  obtain ⟨n0_, n1_⟩ := hn.1
  have J20 : (¬ ((0 ≤ c_ ∧ c_ ≤ 1000000) ∧ (0 ≤ n_ ∧ n_ ≤ 20))) → Z RX6 cX6_home 4 (some .int) 3 (zQ (PI (if ¬ ((0 ≤ c_ ∧ c_ ≤ 1000000) ∧ (0 ≤ n_ ∧ n_ ≤ 20)) then -1000000001 else if M 1 1 = 0 then -1000000005 else if canS (M (10 + 1)) (M 1 1) (-M 1 1) ∧ calmF (fun d_ => danger (M 1 6).toNat (gW M 1) (M 1 0 + d_) 0) c_ n_ 61 1 1 ≠ 0 then calmF (fun d_ => danger (M 1 6).toNat (gW M 1) (M 1 0 + d_) 0) c_ n_ 61 1 1 else -1000000004) (if ¬ ((0 ≤ c_ ∧ c_ ≤ 1000000) ∧ (0 ≤ n_ ∧ n_ ≤ 20)) then fnd6 M 0 else if M 1 1 = 0 then fnd6 M 4 else if canS (M (10 + 1)) (M 1 1) (-M 1 1) ∧ calmF (fun d_ => danger (M 1 6).toNat (gW M 1) (M 1 0 + d_) 0) c_ n_ 61 1 1 ≠ 0 then M else fnd6 M 3))) 20 [some (vR 0), some (vI c_), some (vI n_), none] [] (M) := by
    intro hz_
    refine z_aload_0 dX6_home_20 ?_
    refine z_ldc (n := -1000000001) kc_X6_79 (by decide) dX6_home_21 ?_
    refine z_cVI yv_X6_finding ml_X6_80 (c_X6_finding (by omega)) zk_0 rfl rfl (by decide) (Nat.le_of_ble_eq_true rfl) dX6_home_23 ?_
    exact z_iret dX6_home_26 (zPI (by rw [if_pos hz_]) (by rw [if_pos hz_] <;> rfl))
  refine z_iload_1 dX6_home_0 ?_
  refine z_iconst dX6_home_1 ?_
  refine z_ldc (n := 1000000) kc_X6_124 (by decide) dX6_home_2 ?_
  refine z_cSI ys_X6_isOutside ml_X6_69 (c_X6_isOutside (by omega) (by omega) (by omega)) rfl rfl (by decide) (Nat.le_of_ble_eq_true rfl) dX6_home_4 ?_
  refine z_ifb_ne (tgt := 20) dX6_home_7 (by decide) (fun c7 => ?_) (fun c7 => ?_)
  · exact J20  (by omega)
  · refine z_iload_2 dX6_home_10 ?_
    refine z_iconst dX6_home_11 ?_
    refine z_bipush dX6_home_12 (by decide) ?_
    refine z_cSI ys_X6_isOutside ml_X6_69 (c_X6_isOutside (by omega) (by omega) (by omega)) rfl rfl (by decide) (Nat.le_of_ble_eq_true rfl) dX6_home_14 ?_
    refine z_ifb_eq (tgt := 27) dX6_home_17 (by decide) (fun c17 => ?_) (fun c17 => ?_)
    · refine z_aload_0 dX6_home_27 ?_
      have hcl_ := calmF_le (dg := (fun d_ => danger (M 1 6).toNat (gW M 1) (M 1 0 + d_) 0)) (c := c_) (n := n_) 61 1 1 (by decide) (by decide)
      refine z_getR (r := 1) fl_X6_10 zk_0 rfl rfl dX6_home_28 ?_
      refine z_getI fl_X6_99 (zw_k isW1) rfl dX6_home_31 ?_
      refine z_if_ne (tgt := 44) (by omega) dX6_home_34 (by decide) (fun c34 => ?_) (fun c34 => ?_)
      · have J72 : ∀ (t_ : Int), ((canS (M (10 + 1)) (M 1 1) (-M 1 1) ∧ t_ = calmF (fun d_ => danger (M 1 6).toNat (gW M 1) (M 1 0 + d_) 0) c_ n_ 61 1 1) ∨ (¬ canS (M (10 + 1)) (M 1 1) (-M 1 1) ∧ t_ = 0)) → Z RX6 cX6_home 4 (some .int) 3 (zQ (PI (if ¬ ((0 ≤ c_ ∧ c_ ≤ 1000000) ∧ (0 ≤ n_ ∧ n_ ≤ 20)) then -1000000001 else if M 1 1 = 0 then -1000000005 else if canS (M (10 + 1)) (M 1 1) (-M 1 1) ∧ calmF (fun d_ => danger (M 1 6).toNat (gW M 1) (M 1 0 + d_) 0) c_ n_ 61 1 1 ≠ 0 then calmF (fun d_ => danger (M 1 6).toNat (gW M 1) (M 1 0 + d_) 0) c_ n_ 61 1 1 else -1000000004) (if ¬ ((0 ≤ c_ ∧ c_ ≤ 1000000) ∧ (0 ≤ n_ ∧ n_ ≤ 20)) then fnd6 M 0 else if M 1 1 = 0 then fnd6 M 4 else if canS (M (10 + 1)) (M 1 1) (-M 1 1) ∧ calmF (fun d_ => danger (M 1 6).toNat (gW M 1) (M 1 0 + d_) 0) c_ n_ 61 1 1 ≠ 0 then M else fnd6 M 3))) 72 [some (vR 0), some (vI c_), some (vI n_), none] [vI t_] (M) := by
          intro t_ ht_
          refine z_istore_3 rfl dX6_home_72 ?_
          refine z_iload_3 dX6_home_73 ?_
          refine z_if_ne (tgt := 86) (by omega) dX6_home_74 (by decide) (fun c74 => ?_) (fun c74 => ?_)
          · refine z_iload_3 dX6_home_86 ?_
            exact z_iret dX6_home_87 (zPI (by rcases ht_ with ⟨k1_, k2_⟩ | ⟨k1_, k2_⟩ <;> first | (exfalso; omega) | (rw [if_neg (by omega), if_neg (by omega), if_pos ⟨k1_, by omega⟩, k2_]; done) | (rw [if_neg (by omega), if_neg (by omega), if_neg (fun h_ => h_.2 (by omega))] <;> rfl) | (rw [if_neg (by omega), if_neg (by omega), if_neg (fun h_ => k1_ h_.1)] <;> rfl) | (rw [if_neg (by omega), if_neg (by omega), if_pos ⟨k1_, by omega⟩])) (by rcases ht_ with ⟨k1_, k2_⟩ | ⟨k1_, k2_⟩ <;> first | (exfalso; omega) | (rw [if_neg (by omega), if_neg (by omega), if_pos ⟨k1_, by omega⟩, k2_]; done) | (rw [if_neg (by omega), if_neg (by omega), if_neg (fun h_ => h_.2 (by omega))] <;> rfl) | (rw [if_neg (by omega), if_neg (by omega), if_neg (fun h_ => k1_ h_.1)] <;> rfl) | (rw [if_neg (by omega), if_neg (by omega), if_pos ⟨k1_, by omega⟩])))
          · refine z_aload_0 dX6_home_77 ?_
            refine z_ldc (n := -1000000004) kc_X6_227 (by decide) dX6_home_78 ?_
            refine z_cVI yv_X6_finding ml_X6_80 (c_X6_finding (by omega)) zk_0 rfl rfl (by decide) (Nat.le_of_ble_eq_true rfl) dX6_home_80 ?_
            refine z_goto (tgt := 87) dX6_home_83 (by decide) ?_
            exact z_iret dX6_home_87 (zPI (by rcases ht_ with ⟨k1_, k2_⟩ | ⟨k1_, k2_⟩ <;> first | (exfalso; omega) | (rw [if_neg (by omega), if_neg (by omega), if_pos ⟨k1_, by omega⟩, k2_]; done) | (rw [if_neg (by omega), if_neg (by omega), if_neg (fun h_ => h_.2 (by omega))] <;> rfl) | (rw [if_neg (by omega), if_neg (by omega), if_neg (fun h_ => k1_ h_.1)] <;> rfl) | (rw [if_neg (by omega), if_neg (by omega), if_pos ⟨k1_, by omega⟩])) (by rcases ht_ with ⟨k1_, k2_⟩ | ⟨k1_, k2_⟩ <;> first | (exfalso; omega) | (rw [if_neg (by omega), if_neg (by omega), if_pos ⟨k1_, by omega⟩, k2_]; done) | (rw [if_neg (by omega), if_neg (by omega), if_neg (fun h_ => h_.2 (by omega))] <;> rfl) | (rw [if_neg (by omega), if_neg (by omega), if_neg (fun h_ => k1_ h_.1)] <;> rfl) | (rw [if_neg (by omega), if_neg (by omega), if_pos ⟨k1_, by omega⟩])))
        refine z_aload_0 dX6_home_44 ?_
        refine z_getR (r := 1) fl_X6_10 zk_0 rfl rfl dX6_home_45 ?_
        refine z_aload_0 dX6_home_48 ?_
        refine z_getR (r := 1) fl_X6_10 zk_0 rfl rfl dX6_home_49 ?_
        refine z_getI fl_X6_99 (zw_k isW1) rfl dX6_home_52 ?_
        refine z_ineg dX6_home_55 ?_
        refine z_cVI yv_X5_canShift ml_X6_91 (c_X5_canShift isW1 hp ⟨h0_, h1_⟩ (by omega)) (zw_k isW1) rfl rfl (by decide) (Nat.le_of_ble_eq_true rfl) dX6_home_56 ?_
        refine z_ifb_eq (tgt := 71) dX6_home_59 (by decide) (fun c59 => ?_) (fun c59 => ?_)
        · refine z_iconst dX6_home_71 ?_
          exact J72 _ (by first | exact Or.inl ⟨by assumption, rfl⟩ | exact Or.inr ⟨by assumption, rfl⟩)
        · refine z_aload_0 dX6_home_62 ?_
          refine z_iload_1 dX6_home_63 ?_
          refine z_iload_2 dX6_home_64 ?_
          refine z_cVI yv_X6_firstCalm ml_X6_224 (c_X6_firstCalm hO (by omega) (by omega)) zk_0 rfl rfl (by decide) (Nat.le_of_ble_eq_true rfl) dX6_home_65 ?_
          refine z_goto (tgt := 72) dX6_home_68 (by decide) ?_
          exact J72 _ (by first | exact Or.inl ⟨by assumption, rfl⟩ | exact Or.inr ⟨by assumption, rfl⟩)
      · refine z_aload_0 dX6_home_37 ?_
        refine z_ldc (n := -1000000005) kc_X6_94 (by decide) dX6_home_38 ?_
        refine z_cVI yv_X6_finding ml_X6_80 (c_X6_finding (by omega)) zk_0 rfl rfl (by decide) (Nat.le_of_ble_eq_true rfl) dX6_home_40 ?_
        exact z_iret dX6_home_43 (zPI (by (repeat (first | rw [if_pos (by omega)] | rw [if_neg (by omega)])) <;> rfl) (by (repeat (first | rw [if_pos (by omega)] | rw [if_neg (by omega)])) <;> rfl))
    · exact J20  (by omega)

theorem c_X6_mostTogether {M : zM} {i_ : Nat} {m_ : Int} (hi : i_ < 4) (hv : ∀ j : Int, 0 ≤ j → j < 8 → -1000000 ≤ M (60 + i_) j ∧ M (60 + i_) j ≤ 1000000) (hm : -2147483648 ≤ m_ ∧ m_ < 2147483648) : Call yX6_mostTogether cX6_mostTogether 5 (some .int) 1 [vR (60 + i_), vI m_] (M) (PI (mostW (M (60 + i_)) m_ 4) M) := by
  refine Call.of2 (own := RX6) (lv0 := [some (vR (60 + i_)), some (vI m_), none, none, none]) rfl (by decide) rfl (Nat.le_of_ble_eq_true rfl) ?_
  refine z_ldc2 (n := -2000000) kl_X6_321 (by decide) dX6_mostTogether_0 ?_
  refine z_lstore_2 rfl dX6_mostTogether_3 ?_
  refine z_iconst dX6_mostTogether_4 ?_
  refine z_istore_4 rfl dX6_mostTogether_5 ?_
  have K7 : ∀ (fuel_ : Nat) (t_ : Int) (f_ : Int), 4 - f_ < (fuel_ : Int) → (0 ≤ f_ ∧ f_ ≤ 4) → (t_ = mostW (M (60 + i_)) m_ f_.toNat) → Z RX6 cX6_mostTogether 5 (some .int) 1 (zQ (PI (mostW (M (60 + i_)) m_ 4) M)) 7 [some (vR (60 + i_)), some (vI m_), some (vJ t_), none, some (vI f_)] [] (M) := by
    intro fuel_
    induction fuel_ with
    | zero => intro t_ f_ hfuel_ hf_ ha_; exfalso; omega
    | succ fuel_ ih7 =>
      intro t_ f_ hfuel_ hf_ ha_
      refine z_iload_4 dX6_mostTogether_7 ?_
      refine z_iconst dX6_mostTogether_9 ?_
      refine z_icmp_ge (tgt := 45) (by omega) (by decide) dX6_mostTogether_10 (by decide) (fun c10 => ?_) (fun c10 => ?_)
      · refine z_lload_2 dX6_mostTogether_45 ?_
        refine z_l2i dX6_mostTogether_46 ?_
        exact z_iret dX6_mostTogether_47 (zPI (by rw [ha_, show f_ = 4 by omega]; rfl) rfl)
      · have J39 : ∀ (t2_ : Int), (t2_ = mostW (M (60 + i_)) m_ (f_ + 1).toNat) → Z RX6 cX6_mostTogether 5 (some .int) 1 (zQ (PI (mostW (M (60 + i_)) m_ 4) M)) 39 [some (vR (60 + i_)), some (vI m_), some (vJ t2_), none, some (vI f_)] [] (M) := by
          intro t2_ ht2_
          refine z_iinc_4 rfl dX6_mostTogether_39 ?_
          refine z_goto (tgt := 7) dX6_mostTogether_42 (by decide) ?_
          exact ih7 _ _ (by omega) (by omega) (by exact ht2_)
        refine z_iload_1 dX6_mostTogether_13 ?_
        refine z_iload_4 dX6_mostTogether_14 ?_
        have hza_ : -2147483648 ≤ zand (zshr m_ f_) 1 ∧ zand (zshr m_ f_) 1 < 2147483648 := ⟨Int32.le_toInt _, Int32.toInt_lt _⟩
        have hl_ := mostW_le (m := m_) hv f_.toNat (by omega)
        have v1_ := hv f_ (by omega) (by omega)
        have v2_ := hv (4 + f_) (by omega) (by omega)
        refine z_ishr dX6_mostTogether_16 ?_
        refine z_iconst dX6_mostTogether_17 ?_
        refine z_iand dX6_mostTogether_18 ?_
        refine z_iconst dX6_mostTogether_19 ?_
        refine z_icmp_ne (tgt := 39) (by omega) (by decide) dX6_mostTogether_20 (by decide) (fun c20 => ?_) (fun c20 => ?_)
        · exact J39 _ (by rw [nat_1 hf_.1, mostW, Int.toNat_of_nonneg hf_.1, ← ha_]; first | exact (if_pos c20).symm | exact (if_neg c20).symm)
        · refine z_lload_2 dX6_mostTogether_23 ?_
          refine z_aload_0 dX6_mostTogether_24 ?_
          refine z_iload_4 dX6_mostTogether_25 ?_
          refine z_lald (n := 40) (zsh_n hi) (zsh_N hi) (by omega) dX6_mostTogether_27 ?_
          refine z_aload_0 dX6_mostTogether_28 ?_
          refine z_iconst dX6_mostTogether_29 ?_
          refine z_iload_4 dX6_mostTogether_30 ?_
          refine z_iadd dX6_mostTogether_32 ?_
          refine z_lald (n := 40) (zsh_n hi) (zsh_N hi) (by omega) dX6_mostTogether_33 ?_
          refine z_ladd dX6_mostTogether_34 ?_
          refine z_mmaxl ml_X6_323 (by decide) (Nat.le_of_ble_eq_true rfl) (by omega) (by omega) dX6_mostTogether_35 ?_
          refine z_lstore_2 rfl dX6_mostTogether_38 ?_
          exact J39 _ (by rw [nat_1 hf_.1, mostW, Int.toNat_of_nonneg hf_.1, ← ha_]; first | exact (if_pos c20).symm | exact (if_neg c20).symm)
  have L7 : ∀ (t_ : Int) (f_ : Int), (0 ≤ f_ ∧ f_ ≤ 4) → (t_ = mostW (M (60 + i_)) m_ f_.toNat) → Z RX6 cX6_mostTogether 5 (some .int) 1 (zQ (PI (mostW (M (60 + i_)) m_ 4) M)) 7 [some (vR (60 + i_)), some (vI m_), some (vJ t_), none, some (vI f_)] [] (M) := fun t_ f_ hf_ ha_ => K7 ((4 - f_).toNat + 1) t_ f_ (by omega) hf_ ha_
  exact L7 _ _ (by omega) (by rfl)
