def StkR (a b : Int → Int) : List (Int × Int) → Prop
  | [] => True
  | e :: r => a (r.length : Int) = e.1 ∧ b (r.length : Int) = e.2 ∧ StkR a b r
theorem StkR_congr {a b a2 b2 : Int → Int} : ∀ st : List (Int × Int), (∀ j : Int, 0 ≤ j → j < st.length → a2 j = a j ∧ b2 j = b j) → StkR a b st → StkR a2 b2 st
  | [], _, _ => trivial
  | e :: r, h, hs => ⟨by rw [(h r.length (by omega) (by rw [List.length_cons]; omega)).1]; exact hs.1, by rw [(h r.length (by omega) (by rw [List.length_cons]; omega)).2]; exact hs.2.1, StkR_congr r (fun j x y => h j x (by rw [List.length_cons]; omega)) hs.2.2⟩
def stOK (st : List (Int × Int)) : Prop := st.length ≤ 5 ∧ ∀ e ∈ st, -1 ≤ e.2 ∧ e.2 ≤ 1
def RepO (M : zM) (o : aO) : Prop := M 7 2 = o.1 ∧ M 7 11 = o.2.1 ∧ M 7 12 = o.2.2.1 ∧ M 7 13 = o.2.2.2.1 ∧ M 7 14 = o.2.2.2.2.1 ∧ M 7 15 = o.2.2.2.2.2 ∧ (0 ≤ o.1 ∧ o.1 ≤ 3) ∧ (-128 ≤ o.2.2.1 ∧ o.2.2.1 < 128) ∧ (o.2.2.2.1 = 0 ∨ o.2.2.2.1 = 1) ∧ (o.2.2.2.2.1 = 0 ∨ o.2.2.2.2.1 = 1)
def RepS (M : zM) (su sg : Int) (st : List (Int × Int)) : Prop := M 7 6 = su ∧ M 7 7 = sg ∧ M 7 10 = (st.length : Int) ∧ StkR (M 65) (M 66) st ∧ stOK st ∧ (-1 ≤ sg ∧ sg ≤ 1)
def Rep (M : zM) (s : aK × aO) : Prop := (M 7 3 = s.1.1 ∧ (0 < s.1.2.2.1 → M 7 4 = s.1.2.1) ∧ M 7 5 = s.1.2.2.1 ∧ (s.1.1 = 0 ∨ s.1.1 = 1) ∧ (0 ≤ s.1.2.2.1 ∧ s.1.2.2.1 ≤ 7)) ∧ RepS M s.1.2.2.2.1 s.1.2.2.2.2.1 s.1.2.2.2.2.2 ∧ RepO M s.2
def outR (N M : zM) : Prop := (∀ k : Nat, k ≠ 7 → k ≠ 65 → k ≠ 66 → N k = M k) ∧ N 7 1 = M 7 1
theorem outR_rf {M : zM} : outR M M := ⟨fun _ _ _ _ => rfl, rfl⟩
theorem outR_tr {K N M : zM} (h : outR N M) (h2 : outR K N) : outR K M := ⟨fun k a b c => (h2.1 k a b c).trans (h.1 k a b c), h2.2.trans h.2⟩
theorem outR_p {M : zM} {j v : Int} (h : j ≠ 1) : outR (zput M 7 j v) M := ⟨fun k a b c => zput_ne a, zput_ne2 (by omega)⟩
theorem RepO_p {M : zM} {o : aO} {j v : Int} (h : RepO M o) (hj : j ≠ 2 ∧ j ≠ 11 ∧ j ≠ 12 ∧ j ≠ 13 ∧ j ≠ 14 ∧ j ≠ 15) : RepO (zput M 7 j v) o := by
  unfold RepO
  rw [zput_ne2 (by omega), zput_ne2 (by omega), zput_ne2 (by omega), zput_ne2 (by omega), zput_ne2 (by omega), zput_ne2 (by omega)]
  exact h
theorem RepO_c {M N : zM} {o : aO} (h : RepO M o) (h7 : N 7 = M 7) : RepO N o := by
  unfold RepO
  rw [h7]
  exact h
theorem stOK_t {e : Int × Int} {r : List (Int × Int)} (h : stOK (e :: r)) : stOK r ∧ -1 ≤ e.2 ∧ e.2 ≤ 1 := ⟨⟨by have := h.1; rw [List.length_cons] at this; omega, fun x hx => h.2 x (List.mem_cons_of_mem _ hx)⟩, h.2 e List.mem_cons_self⟩
theorem ePop_ok : ∀ (st : List (Int × Int)) (v : Int), stOK st → stOK (ePop st v).1
  | [], v, h => h
  | e :: r, v, h => by
    unfold ePop
    split
    · exact ePop_ok r (-v) (stOK_t h).1
    · exact h
def exK (P : aK → Prop) : Prop := ∃ k, P k
def exO (P : aO → Prop) : Prop := ∃ o, P o
theorem cons_of {st : List (Int × Int)} (h : ¬ (st.length : Int) ≤ 0) : ∃ e r, st = e :: r := by
  match st, h with
  | e :: r, _ => exact ⟨e, r, rfl⟩
  | [], h => exact absurd (Int.le_refl 0) h
theorem nil_of {st : List (Int × Int)} (h : (st.length : Int) ≤ 0) : st = [] := by
  match st, h with
  | [], _ => rfl
  | e :: r, h => rw [List.length_cons] at h; omega
theorem c_X1_endPart {M : zM} {su_ sg_ v_ : Int} {st_ : List (Int × Int)} {o_ : aO} (h5 : M 7 5 = 0) (hS : RepS M su_ sg_ st_) (hO : RepO M o_) : Call yX1_endPart cX1_endPart 3 none 0 [vR 7, vI v_] (M) (RN (fun N => Rep N (kEnd (0, 0, 0, su_, sg_, st_) v_, o_) ∧ outR N M)) := by
  refine Call.of2 (own := RX1) (lv0 := [some (vR 7), some (vI v_), none]) rfl (by decide) rfl (Nat.le_of_ble_eq_true rfl) ?_
  have hl5_ := hS.2.2.2.2.1.1
  refine z_iload_1 dX1_endPart_0 ?_
  refine z_istore_2 rfl dX1_endPart_1 ?_
  have K2 : ∀ (fuel_ : Nat) (w_ : Int) (r_ : List (Int × Int)) (N_ : zM), (r_.length : Int) < (fuel_ : Int) → ((r_.length : Int) ≤ 5) → (N_ = zput M 7 10 (r_.length : Int)) → (StkR (M 65) (M 66) r_) → (stOK r_) → (ePop r_ w_ = ePop st_ v_) → Z RX1 cX1_endPart 3 none 0 (zQ (RN (fun N => Rep N (kEnd (0, 0, 0, su_, sg_, st_) v_, o_) ∧ outR N M))) 2 [some (vR 7), some (vI v_), some (vI w_)] [] (N_) := by
    intro fuel_
    induction fuel_ with
    | zero => intro w_ r_ N_ hfuel_ hl_ hN_ hs_ hok_ hp_; exfalso; omega
    | succ fuel_ ih2 =>
      intro w_ r_ N_ hfuel_ hl_ hN_ hs_ hok_ hp_
      have n10_ : N_ 7 10 = (r_.length : Int) := by rw [hN_, zput_eq]
      have n66_ : N_ 66 = M 66 := by rw [hN_, zput_ne (by decide)]
      refine z_aload_0 dX1_endPart_2 ?_
      refine z_getIv (v := (r_.length : Int)) fl_X1_44 zk_7 rfl (n10_) dX1_endPart_3 ?_
      refine z_if_le (tgt := 39) (by omega) dX1_endPart_6 (by decide) (fun c6 => ?_) (fun c6 => ?_)
      · refine z_aload_0 dX1_endPart_39 ?_
        refine z_dup rfl dX1_endPart_40 ?_
        refine z_getIv (v := su_) fl_X1_32 zk_7 rfl (by rw [hN_, zput_ne2 (by decide)]; exact hS.1) dX1_endPart_41 ?_
        refine z_aload_0 dX1_endPart_44 ?_
        refine z_getIv (v := sg_) fl_X1_35 zk_7 rfl (by rw [hN_, zput_ne2 (by decide)]; exact hS.2.1) dX1_endPart_45 ?_
        refine z_iload_2 dX1_endPart_48 ?_
        refine z_imul dX1_endPart_49 ?_
        refine z_iadd dX1_endPart_50 ?_
        refine z_putI fl_X1_32 zk_7 rfl dX1_endPart_51 ?_
        refine z_aload_0 dX1_endPart_54 ?_
        refine z_iconst dX1_endPart_55 ?_
        refine z_putZ (by first | omega | exact zb_01) fl_X1_22 zk_7 rfl dX1_endPart_56 ?_
        exact z_vret dX1_endPart_59 (zRN (by
            have he_ : ePop st_ v_ = (r_, w_) := by rw [← hp_]; first | (rw [nil_of c6]; rfl) | (rw [hr_]; unfold ePop; rw [if_neg c20])
            have e7_ : ∀ j_ : Int, j_ ≠ 3 → j_ ≠ 6 → j_ ≠ 10 → (zput (zput N_ 7 6 (su_ + sg_ * w_)) 7 3 0) 7 j_ = M 7 j_ := fun j_ a_ b_ c_ => by rw [zput_ne2 a_, zput_ne2 b_, hN_, zput_ne2 c_]
            refine ⟨?_, ⟨fun k_ a_ b_ c_ => by rw [zput_ne a_, zput_ne a_, hN_, zput_ne a_], e7_ 1 (by decide) (by decide) (by decide)⟩⟩
            unfold kEnd
            simp only [he_]
            refine ⟨⟨zput_eq, fun h_ => absurd h_ (show ¬ (0 : Int) < 0 by decide), by rw [e7_ 5 (by decide) (by decide) (by decide)]; exact h5, Or.inl rfl, (show (0 : Int) ≤ 0 ∧ (0 : Int) ≤ 7 by decide)⟩, ⟨by rw [zput_ne2 (by decide), zput_eq], by rw [e7_ 7 (by decide) (by decide) (by decide)]; exact hS.2.1, by rw [zput_ne2 (by decide), zput_ne2 (by decide), hN_, zput_eq], by rw [zput_ne (by decide), zput_ne (by decide), zput_ne (by decide), zput_ne (by decide), hN_, zput_ne (by decide), zput_ne (by decide)]; exact hs_, hok_, hS.2.2.2.2.2⟩, RepO_p (RepO_p (by rw [hN_]; exact RepO_p hO (by decide)) (by decide)) (by decide)⟩))
      · obtain ⟨e_, t_, hr_⟩ := cons_of c6
        have hlt_ : (r_.length : Int) = (t_.length : Int) + 1 := by rw [hr_, List.length_cons]; omega
        have her_ := (stOK_t (by rw [← hr_]; exact hok_)).2
        refine z_aload_0 dX1_endPart_9 ?_
        refine z_getR (r := 66) fl_X1_41 zk_7 rfl rfl dX1_endPart_10 ?_
        refine z_aload_0 dX1_endPart_13 ?_
        refine z_getIv (v := (r_.length : Int)) fl_X1_44 zk_7 rfl (n10_) dX1_endPart_14 ?_
        refine z_iconst dX1_endPart_17 ?_
        refine z_isub dX1_endPart_18 ?_
        refine z_ialdv (n := 5) (v := e_.2) zk_66 rfl (by omega) (by rw [n66_, show (r_.length : Int) - 1 = (t_.length : Int) by omega]; rw [hr_] at hs_; exact hs_.2.1) dX1_endPart_19 ?_
        refine z_if_ne (tgt := 39) (by omega) dX1_endPart_20 (by decide) (fun c20 => ?_) (fun c20 => ?_)
        · refine z_aload_0 dX1_endPart_39 ?_
          refine z_dup rfl dX1_endPart_40 ?_
          refine z_getIv (v := su_) fl_X1_32 zk_7 rfl (by rw [hN_, zput_ne2 (by decide)]; exact hS.1) dX1_endPart_41 ?_
          refine z_aload_0 dX1_endPart_44 ?_
          refine z_getIv (v := sg_) fl_X1_35 zk_7 rfl (by rw [hN_, zput_ne2 (by decide)]; exact hS.2.1) dX1_endPart_45 ?_
          refine z_iload_2 dX1_endPart_48 ?_
          refine z_imul dX1_endPart_49 ?_
          refine z_iadd dX1_endPart_50 ?_
          refine z_putI fl_X1_32 zk_7 rfl dX1_endPart_51 ?_
          refine z_aload_0 dX1_endPart_54 ?_
          refine z_iconst dX1_endPart_55 ?_
          refine z_putZ (by first | omega | exact zb_01) fl_X1_22 zk_7 rfl dX1_endPart_56 ?_
          exact z_vret dX1_endPart_59 (zRN (by
              have he_ : ePop st_ v_ = (r_, w_) := by rw [← hp_]; first | (rw [nil_of c6]; rfl) | (rw [hr_]; unfold ePop; rw [if_neg c20])
              have e7_ : ∀ j_ : Int, j_ ≠ 3 → j_ ≠ 6 → j_ ≠ 10 → (zput (zput N_ 7 6 (su_ + sg_ * w_)) 7 3 0) 7 j_ = M 7 j_ := fun j_ a_ b_ c_ => by rw [zput_ne2 a_, zput_ne2 b_, hN_, zput_ne2 c_]
              refine ⟨?_, ⟨fun k_ a_ b_ c_ => by rw [zput_ne a_, zput_ne a_, hN_, zput_ne a_], e7_ 1 (by decide) (by decide) (by decide)⟩⟩
              unfold kEnd
              simp only [he_]
              refine ⟨⟨zput_eq, fun h_ => absurd h_ (show ¬ (0 : Int) < 0 by decide), by rw [e7_ 5 (by decide) (by decide) (by decide)]; exact h5, Or.inl rfl, (show (0 : Int) ≤ 0 ∧ (0 : Int) ≤ 7 by decide)⟩, ⟨by rw [zput_ne2 (by decide), zput_eq], by rw [e7_ 7 (by decide) (by decide) (by decide)]; exact hS.2.1, by rw [zput_ne2 (by decide), zput_ne2 (by decide), hN_, zput_eq], by rw [zput_ne (by decide), zput_ne (by decide), zput_ne (by decide), zput_ne (by decide), hN_, zput_ne (by decide), zput_ne (by decide)]; exact hs_, hok_, hS.2.2.2.2.2⟩, RepO_p (RepO_p (by rw [hN_]; exact RepO_p hO (by decide)) (by decide)) (by decide)⟩))
        · refine z_iload_2 dX1_endPart_23 ?_
          refine z_ineg dX1_endPart_24 ?_
          refine z_istore_2 rfl dX1_endPart_25 ?_
          refine z_aload_0 dX1_endPart_26 ?_
          refine z_dup rfl dX1_endPart_27 ?_
          refine z_getIv (v := (r_.length : Int)) fl_X1_44 zk_7 rfl (n10_) dX1_endPart_28 ?_
          refine z_iconst dX1_endPart_31 ?_
          refine z_isub dX1_endPart_32 ?_
          refine z_putI fl_X1_44 zk_7 rfl dX1_endPart_33 ?_
          refine z_goto (tgt := 2) dX1_endPart_36 (by decide) ?_
          exact ih2 _ t_ _ (by omega) (by omega) (by rw [hN_, zput_put, show (r_.length : Int) - 1 = (t_.length : Int) by omega]) (by rw [hr_] at hs_; exact hs_.2.2) (by rw [hr_] at hok_; exact (stOK_t hok_).1) (by rw [← hp_, hr_]; show _ = (if e_.2 = 0 then ePop t_ (-w_) else _); rw [if_pos c20])
  have L2 : ∀ (w_ : Int) (r_ : List (Int × Int)) (N_ : zM), ((r_.length : Int) ≤ 5) → (N_ = zput M 7 10 (r_.length : Int)) → (StkR (M 65) (M 66) r_) → (stOK r_) → (ePop r_ w_ = ePop st_ v_) → Z RX1 cX1_endPart 3 none 0 (zQ (RN (fun N => Rep N (kEnd (0, 0, 0, su_, sg_, st_) v_, o_) ∧ outR N M))) 2 [some (vR 7), some (vI v_), some (vI w_)] [] (N_) := fun w_ r_ N_ hl_ hN_ hs_ hok_ hp_ => K2 (((r_.length : Int)).toNat + 1) w_ r_ N_ (by omega) hl_ hN_ hs_ hok_ hp_
  exact L2 _ st_ _ (by omega) (by rw [← hS.2.2.1, zput_self]) (by exact hS.2.2.2.1) (by exact hS.2.2.2.2.1) (by rfl)

theorem c_X1_endNumber {M : zM} {wp_ nu_ di_ su_ sg_ : Int} {st_ : List (Int × Int)} {o_ : aO} (hR : Rep M ((wp_, nu_, di_, su_, sg_, st_), o_)) : Call yX1_endNumber cX1_endNumber 1 none 1 [vR 7] (M) (RN (fun N => Rep N (kNum (wp_, nu_, di_, su_, sg_, st_), o_) ∧ outR N M)) := by
  refine Call.of2 (own := RX1) (lv0 := [some (vR 7)]) rfl (by decide) rfl (Nat.le_of_ble_eq_true rfl) ?_
  obtain ⟨⟨r3_, r4_, r5_, rw_, rd_⟩, hS, hO⟩ := id hR
  simp only [] at r3_ r4_ r5_ rw_ rd_ hS hO
  obtain ⟨s6_, s7_, s10_, sS_, sok_, sg2_⟩ := id hS
  obtain ⟨o2_, o11_, o12_, o13_, o14_, o15_, oa_, ob_, oc_, od_⟩ := id hO
  refine z_aload_0 dX1_endNumber_0 ?_
  refine z_getIv (v := di_) fl_X1_29 zk_7 rfl (r5_) dX1_endNumber_1 ?_
  refine z_if_le (tgt := 20) (by omega) dX1_endNumber_4 (by decide) (fun c4 => ?_) (fun c4 => ?_)
  · exact z_vret dX1_endNumber_20 (zRN (by unfold kNum; first | (rw [if_pos (show 0 < di_ by omega)]; exact ⟨hN_.1, outR_tr (outR_p (by decide)) hN_.2⟩) | (rw [if_neg (show ¬ 0 < di_ by omega)]; exact ⟨hR, outR_rf⟩)))
  · refine z_aload_0 dX1_endNumber_7 ?_
    refine z_iconst dX1_endNumber_8 ?_
    refine z_putI fl_X1_29 zk_7 rfl dX1_endNumber_9 ?_
    refine z_aload_0 dX1_endNumber_12 ?_
    refine z_aload_0 dX1_endNumber_13 ?_
    refine z_getIv (v := nu_) fl_X1_26 zk_7 rfl (by rw [zput_ne2 (by decide)]; exact r4_ (by omega)) dX1_endNumber_14 ?_
    refine z_rVN yv_X1_endPart ml_X1_123 (c_X1_endPart (M := zput M 7 5 0) (su_ := su_) (sg_ := sg_) (st_ := st_) (v_ := nu_) zput_eq ⟨by rw [zput_ne2 (by decide)]; exact s6_, by rw [zput_ne2 (by decide)]; exact s7_, by rw [zput_ne2 (by decide)]; exact s10_, by rw [zput_ne (by decide), zput_ne (by decide)]; exact sS_, sok_, sg2_⟩ (RepO_p hO (by decide))) zk_7 rfl rfl (by decide) (Nat.le_of_ble_eq_true rfl) dX1_endNumber_17 (fun N_ hN_ => ?_)
    exact z_vret dX1_endNumber_20 (zRN (by unfold kNum; first | (rw [if_pos (show 0 < di_ by omega)]; exact ⟨hN_.1, outR_tr (outR_p (by decide)) hN_.2⟩) | (rw [if_neg (show ¬ 0 < di_ by omega)]; exact ⟨hR, outR_rf⟩)))

theorem c_X1_takesDigit {M : zM} {d_ : Int} {wp_ nu_ di_ su_ sg_ : Int} {st_ : List (Int × Int)} {o_ : aO} (hR : Rep M ((wp_, nu_, di_, su_, sg_, st_), o_)) : Call yX1_takesDigit cX1_takesDigit 2 (some .boolean) 0 [vR 7, vI d_] (M) (BI (fun x N => (x = 1 ∧ ¬ (wp_ = 0 ∨ di_ = 7) ∧ Rep N ((wp_, (if di_ = 0 then d_ else 10 * nu_ + d_), di_ + 1, su_, sg_, st_), o_) ∧ outR N M) ∨ (x = 0 ∧ (wp_ = 0 ∨ di_ = 7) ∧ N = M))) := by
  refine Call.of2 (own := RX1) (lv0 := [some (vR 7), some (vI d_)]) rfl (by decide) rfl (Nat.le_of_ble_eq_true rfl) ?_
  obtain ⟨⟨r3_, r4_, r5_, rw_, rd_⟩, hS, hO⟩ := id hR
  simp only [] at r3_ r4_ r5_ rw_ rd_ hS hO
  obtain ⟨s6_, s7_, s10_, sS_, sok_, sg2_⟩ := id hS
  obtain ⟨o2_, o11_, o12_, o13_, o14_, o15_, oa_, ob_, oc_, od_⟩ := id hO
  refine z_aload_0 dX1_takesDigit_0 ?_
  refine z_getIv (v := wp_) fl_X1_22 zk_7 rfl (r3_) dX1_takesDigit_1 ?_
  refine z_if_eq (tgt := 16) (by omega) dX1_takesDigit_4 (by decide) (fun c4 => ?_) (fun c4 => ?_)
  · refine z_iconst dX1_takesDigit_16 ?_
    exact z_zret (by first | exact Or.inl rfl | exact Or.inr rfl | exact zb_01 | omega) dX1_takesDigit_17 (zBI (Or.inr ⟨rfl, by show wp_ = 0 ∨ di_ = 7; omega, rfl⟩))
  · refine z_aload_0 dX1_takesDigit_7 ?_
    refine z_getIv (v := di_) fl_X1_29 zk_7 rfl (r5_) dX1_takesDigit_8 ?_
    refine z_bipush dX1_takesDigit_11 (by decide) ?_
    refine z_icmp_ne (tgt := 18) (by omega) (by decide) dX1_takesDigit_13 (by decide) (fun c13 => ?_) (fun c13 => ?_)
    · refine z_aload_0 dX1_takesDigit_18 ?_
      have J39 : ∀ (v_ : Int), (v_ = if di_ = 0 then d_ else 10 * nu_ + d_) → Z RX1 cX1_takesDigit 2 (some .boolean) 0 (zQ (BI (fun x N => (x = 1 ∧ ¬ (wp_ = 0 ∨ di_ = 7) ∧ Rep N ((wp_, (if di_ = 0 then d_ else 10 * nu_ + d_), di_ + 1, su_, sg_, st_), o_) ∧ outR N M) ∨ (x = 0 ∧ (wp_ = 0 ∨ di_ = 7) ∧ N = M)))) 39 [some (vR 7), some (vI d_)] [vI v_, vR 7] (M) := by
        intro v_ hv_
        refine z_putI fl_X1_26 zk_7 rfl dX1_takesDigit_39 ?_
        refine z_aload_0 dX1_takesDigit_42 ?_
        refine z_dup rfl dX1_takesDigit_43 ?_
        refine z_getIv (v := di_) fl_X1_29 zk_7 rfl (by rw [zput_ne2 (by decide)]; exact r5_) dX1_takesDigit_44 ?_
        refine z_iconst dX1_takesDigit_47 ?_
        refine z_iadd dX1_takesDigit_48 ?_
        refine z_putI fl_X1_29 zk_7 rfl dX1_takesDigit_49 ?_
        refine z_iconst dX1_takesDigit_52 ?_
        exact z_zret (by first | exact Or.inl rfl | exact Or.inr rfl | exact zb_01 | omega) dX1_takesDigit_53 (zBI (Or.inl ⟨rfl, by show ¬ (wp_ = 0 ∨ di_ = 7); omega, ⟨⟨by rw [zput_ne2 (by decide), zput_ne2 (by decide)]; exact r3_, fun _ => by rw [zput_ne2 (by decide), zput_eq, hv_], zput_eq, rw_, by show 0 ≤ di_ + 1 ∧ di_ + 1 ≤ 7; omega⟩, ⟨by rw [zput_ne2 (by decide), zput_ne2 (by decide)]; exact s6_, by rw [zput_ne2 (by decide), zput_ne2 (by decide)]; exact s7_, by rw [zput_ne2 (by decide), zput_ne2 (by decide)]; exact s10_, by rw [zput_ne (by decide), zput_ne (by decide), zput_ne (by decide), zput_ne (by decide)]; exact sS_, sok_, sg2_⟩, RepO_p (RepO_p hO (by decide)) (by decide)⟩, outR_tr (outR_p (by decide)) (outR_p (by decide))⟩))
      refine z_aload_0 dX1_takesDigit_19 ?_
      refine z_getIv (v := di_) fl_X1_29 zk_7 rfl (r5_) dX1_takesDigit_20 ?_
      refine z_if_ne (tgt := 30) (by omega) dX1_takesDigit_23 (by decide) (fun c23 => ?_) (fun c23 => ?_)
      · refine z_bipush dX1_takesDigit_30 (by decide) ?_
        refine z_aload_0 dX1_takesDigit_32 ?_
        refine z_getIv (v := nu_) fl_X1_26 zk_7 rfl (r4_ (by omega)) dX1_takesDigit_33 ?_
        refine z_imul dX1_takesDigit_36 ?_
        refine z_iload_1 dX1_takesDigit_37 ?_
        refine z_iadd dX1_takesDigit_38 ?_
        exact J39 _ (by first | exact (if_pos (by omega)).symm | exact (if_neg (by omega)).symm)
      · refine z_iload_1 dX1_takesDigit_26 ?_
        refine z_goto (tgt := 39) dX1_takesDigit_27 (by decide) ?_
        exact J39 _ (by first | exact (if_pos (by omega)).symm | exact (if_neg (by omega)).symm)
    · refine z_iconst dX1_takesDigit_16 ?_
      exact z_zret (by first | exact Or.inl rfl | exact Or.inr rfl | exact zb_01 | omega) dX1_takesDigit_17 (zBI (Or.inr ⟨rfl, by show wp_ = 0 ∨ di_ = 7; omega, rfl⟩))

theorem c_X1_nameOf {M : zM} {c_ : Int} (hc : -128 ≤ c_ ∧ c_ ≤ 255) : Call yX1_nameOf cX1_nameOf 1 (some .int) 0 [vI c_] (M) (PI (nmI c_) M) := by
  refine Call.of2 (own := RX1) (lv0 := [some (vI c_)]) rfl (by decide) rfl (Nat.le_of_ble_eq_true rfl) ?_
  refine z_iload_0 dX1_nameOf_0 ?_
  rcases (show (c_ < 99 ∨ 116 < c_) ∨ c_ = 99 ∨ c_ = 100 ∨ c_ = 101 ∨ c_ = 102 ∨ c_ = 103 ∨ c_ = 104 ∨ c_ = 105 ∨ c_ = 106 ∨ c_ = 107 ∨ c_ = 108 ∨ c_ = 109 ∨ c_ = 110 ∨ c_ = 111 ∨ c_ = 112 ∨ c_ = 113 ∨ c_ = 114 ∨ c_ = 115 ∨ c_ = 116 from by omega) with c1 | c1 | c1 | c1 | c1 | c1 | c1 | c1 | c1 | c1 | c1 | c1 | c1 | c1 | c1 | c1 | c1 | c1 | c1
  · refine z_tsOut (tgt := 100) (by omega) dX1_nameOf_1 c1 (by decide) ?_
    refine z_iconst dX1_nameOf_100 ?_
    exact z_iret dX1_nameOf_101 (zPI (by unfold nmI; first | (rw [if_pos (by omega)]; done) | (rw [if_neg (by omega), if_pos (by omega)]; done) | (rw [if_neg (by omega), if_neg (by omega), if_pos (by omega)]; done) | (rw [if_neg (by omega), if_neg (by omega), if_neg (by omega), if_pos (by omega)]; done) | (rw [if_neg (by omega), if_neg (by omega), if_neg (by omega), if_neg (by omega), if_pos (by omega)]; done) | (rw [if_neg (by omega), if_neg (by omega), if_neg (by omega), if_neg (by omega), if_neg (by omega), if_pos (by omega)]; done) | (rw [if_neg (by omega), if_neg (by omega), if_neg (by omega), if_neg (by omega), if_neg (by omega), if_neg (by omega)]; done)) rfl)
  · refine z_tsIn (off := 87) (tgt := 88) (by omega) dX1_nameOf_1 (by omega) (by omega) (by rw [c1]; rfl) (by decide) ?_
    refine z_iconst dX1_nameOf_88 ?_
    exact z_iret dX1_nameOf_89 (zPI (by unfold nmI; first | (rw [if_pos (by omega)]; done) | (rw [if_neg (by omega), if_pos (by omega)]; done) | (rw [if_neg (by omega), if_neg (by omega), if_pos (by omega)]; done) | (rw [if_neg (by omega), if_neg (by omega), if_neg (by omega), if_pos (by omega)]; done) | (rw [if_neg (by omega), if_neg (by omega), if_neg (by omega), if_neg (by omega), if_pos (by omega)]; done) | (rw [if_neg (by omega), if_neg (by omega), if_neg (by omega), if_neg (by omega), if_neg (by omega), if_pos (by omega)]; done) | (rw [if_neg (by omega), if_neg (by omega), if_neg (by omega), if_neg (by omega), if_neg (by omega), if_neg (by omega)]; done)) rfl)
  · refine z_tsIn (off := 89) (tgt := 90) (by omega) dX1_nameOf_1 (by omega) (by omega) (by rw [c1]; rfl) (by decide) ?_
    refine z_iconst dX1_nameOf_90 ?_
    exact z_iret dX1_nameOf_91 (zPI (by unfold nmI; first | (rw [if_pos (by omega)]; done) | (rw [if_neg (by omega), if_pos (by omega)]; done) | (rw [if_neg (by omega), if_neg (by omega), if_pos (by omega)]; done) | (rw [if_neg (by omega), if_neg (by omega), if_neg (by omega), if_pos (by omega)]; done) | (rw [if_neg (by omega), if_neg (by omega), if_neg (by omega), if_neg (by omega), if_pos (by omega)]; done) | (rw [if_neg (by omega), if_neg (by omega), if_neg (by omega), if_neg (by omega), if_neg (by omega), if_pos (by omega)]; done) | (rw [if_neg (by omega), if_neg (by omega), if_neg (by omega), if_neg (by omega), if_neg (by omega), if_neg (by omega)]; done)) rfl)
  · refine z_tsIn (off := 99) (tgt := 100) (by omega) dX1_nameOf_1 (by omega) (by omega) (by rw [c1]; rfl) (by decide) ?_
    refine z_iconst dX1_nameOf_100 ?_
    exact z_iret dX1_nameOf_101 (zPI (by unfold nmI; first | (rw [if_pos (by omega)]; done) | (rw [if_neg (by omega), if_pos (by omega)]; done) | (rw [if_neg (by omega), if_neg (by omega), if_pos (by omega)]; done) | (rw [if_neg (by omega), if_neg (by omega), if_neg (by omega), if_pos (by omega)]; done) | (rw [if_neg (by omega), if_neg (by omega), if_neg (by omega), if_neg (by omega), if_pos (by omega)]; done) | (rw [if_neg (by omega), if_neg (by omega), if_neg (by omega), if_neg (by omega), if_neg (by omega), if_pos (by omega)]; done) | (rw [if_neg (by omega), if_neg (by omega), if_neg (by omega), if_neg (by omega), if_neg (by omega), if_neg (by omega)]; done)) rfl)
  · refine z_tsIn (off := 91) (tgt := 92) (by omega) dX1_nameOf_1 (by omega) (by omega) (by rw [c1]; rfl) (by decide) ?_
    refine z_iconst dX1_nameOf_92 ?_
    exact z_iret dX1_nameOf_93 (zPI (by unfold nmI; first | (rw [if_pos (by omega)]; done) | (rw [if_neg (by omega), if_pos (by omega)]; done) | (rw [if_neg (by omega), if_neg (by omega), if_pos (by omega)]; done) | (rw [if_neg (by omega), if_neg (by omega), if_neg (by omega), if_pos (by omega)]; done) | (rw [if_neg (by omega), if_neg (by omega), if_neg (by omega), if_neg (by omega), if_pos (by omega)]; done) | (rw [if_neg (by omega), if_neg (by omega), if_neg (by omega), if_neg (by omega), if_neg (by omega), if_pos (by omega)]; done) | (rw [if_neg (by omega), if_neg (by omega), if_neg (by omega), if_neg (by omega), if_neg (by omega), if_neg (by omega)]; done)) rfl)
  · refine z_tsIn (off := 99) (tgt := 100) (by omega) dX1_nameOf_1 (by omega) (by omega) (by rw [c1]; rfl) (by decide) ?_
    refine z_iconst dX1_nameOf_100 ?_
    exact z_iret dX1_nameOf_101 (zPI (by unfold nmI; first | (rw [if_pos (by omega)]; done) | (rw [if_neg (by omega), if_pos (by omega)]; done) | (rw [if_neg (by omega), if_neg (by omega), if_pos (by omega)]; done) | (rw [if_neg (by omega), if_neg (by omega), if_neg (by omega), if_pos (by omega)]; done) | (rw [if_neg (by omega), if_neg (by omega), if_neg (by omega), if_neg (by omega), if_pos (by omega)]; done) | (rw [if_neg (by omega), if_neg (by omega), if_neg (by omega), if_neg (by omega), if_neg (by omega), if_pos (by omega)]; done) | (rw [if_neg (by omega), if_neg (by omega), if_neg (by omega), if_neg (by omega), if_neg (by omega), if_neg (by omega)]; done)) rfl)
  · refine z_tsIn (off := 93) (tgt := 94) (by omega) dX1_nameOf_1 (by omega) (by omega) (by rw [c1]; rfl) (by decide) ?_
    refine z_iconst dX1_nameOf_94 ?_
    exact z_iret dX1_nameOf_95 (zPI (by unfold nmI; first | (rw [if_pos (by omega)]; done) | (rw [if_neg (by omega), if_pos (by omega)]; done) | (rw [if_neg (by omega), if_neg (by omega), if_pos (by omega)]; done) | (rw [if_neg (by omega), if_neg (by omega), if_neg (by omega), if_pos (by omega)]; done) | (rw [if_neg (by omega), if_neg (by omega), if_neg (by omega), if_neg (by omega), if_pos (by omega)]; done) | (rw [if_neg (by omega), if_neg (by omega), if_neg (by omega), if_neg (by omega), if_neg (by omega), if_pos (by omega)]; done) | (rw [if_neg (by omega), if_neg (by omega), if_neg (by omega), if_neg (by omega), if_neg (by omega), if_neg (by omega)]; done)) rfl)
  · refine z_tsIn (off := 99) (tgt := 100) (by omega) dX1_nameOf_1 (by omega) (by omega) (by rw [c1]; rfl) (by decide) ?_
    refine z_iconst dX1_nameOf_100 ?_
    exact z_iret dX1_nameOf_101 (zPI (by unfold nmI; first | (rw [if_pos (by omega)]; done) | (rw [if_neg (by omega), if_pos (by omega)]; done) | (rw [if_neg (by omega), if_neg (by omega), if_pos (by omega)]; done) | (rw [if_neg (by omega), if_neg (by omega), if_neg (by omega), if_pos (by omega)]; done) | (rw [if_neg (by omega), if_neg (by omega), if_neg (by omega), if_neg (by omega), if_pos (by omega)]; done) | (rw [if_neg (by omega), if_neg (by omega), if_neg (by omega), if_neg (by omega), if_neg (by omega), if_pos (by omega)]; done) | (rw [if_neg (by omega), if_neg (by omega), if_neg (by omega), if_neg (by omega), if_neg (by omega), if_neg (by omega)]; done)) rfl)
  · refine z_tsIn (off := 99) (tgt := 100) (by omega) dX1_nameOf_1 (by omega) (by omega) (by rw [c1]; rfl) (by decide) ?_
    refine z_iconst dX1_nameOf_100 ?_
    exact z_iret dX1_nameOf_101 (zPI (by unfold nmI; first | (rw [if_pos (by omega)]; done) | (rw [if_neg (by omega), if_pos (by omega)]; done) | (rw [if_neg (by omega), if_neg (by omega), if_pos (by omega)]; done) | (rw [if_neg (by omega), if_neg (by omega), if_neg (by omega), if_pos (by omega)]; done) | (rw [if_neg (by omega), if_neg (by omega), if_neg (by omega), if_neg (by omega), if_pos (by omega)]; done) | (rw [if_neg (by omega), if_neg (by omega), if_neg (by omega), if_neg (by omega), if_neg (by omega), if_pos (by omega)]; done) | (rw [if_neg (by omega), if_neg (by omega), if_neg (by omega), if_neg (by omega), if_neg (by omega), if_neg (by omega)]; done)) rfl)
  · refine z_tsIn (off := 99) (tgt := 100) (by omega) dX1_nameOf_1 (by omega) (by omega) (by rw [c1]; rfl) (by decide) ?_
    refine z_iconst dX1_nameOf_100 ?_
    exact z_iret dX1_nameOf_101 (zPI (by unfold nmI; first | (rw [if_pos (by omega)]; done) | (rw [if_neg (by omega), if_pos (by omega)]; done) | (rw [if_neg (by omega), if_neg (by omega), if_pos (by omega)]; done) | (rw [if_neg (by omega), if_neg (by omega), if_neg (by omega), if_pos (by omega)]; done) | (rw [if_neg (by omega), if_neg (by omega), if_neg (by omega), if_neg (by omega), if_pos (by omega)]; done) | (rw [if_neg (by omega), if_neg (by omega), if_neg (by omega), if_neg (by omega), if_neg (by omega), if_pos (by omega)]; done) | (rw [if_neg (by omega), if_neg (by omega), if_neg (by omega), if_neg (by omega), if_neg (by omega), if_neg (by omega)]; done)) rfl)
  · refine z_tsIn (off := 99) (tgt := 100) (by omega) dX1_nameOf_1 (by omega) (by omega) (by rw [c1]; rfl) (by decide) ?_
    refine z_iconst dX1_nameOf_100 ?_
    exact z_iret dX1_nameOf_101 (zPI (by unfold nmI; first | (rw [if_pos (by omega)]; done) | (rw [if_neg (by omega), if_pos (by omega)]; done) | (rw [if_neg (by omega), if_neg (by omega), if_pos (by omega)]; done) | (rw [if_neg (by omega), if_neg (by omega), if_neg (by omega), if_pos (by omega)]; done) | (rw [if_neg (by omega), if_neg (by omega), if_neg (by omega), if_neg (by omega), if_pos (by omega)]; done) | (rw [if_neg (by omega), if_neg (by omega), if_neg (by omega), if_neg (by omega), if_neg (by omega), if_pos (by omega)]; done) | (rw [if_neg (by omega), if_neg (by omega), if_neg (by omega), if_neg (by omega), if_neg (by omega), if_neg (by omega)]; done)) rfl)
  · refine z_tsIn (off := 99) (tgt := 100) (by omega) dX1_nameOf_1 (by omega) (by omega) (by rw [c1]; rfl) (by decide) ?_
    refine z_iconst dX1_nameOf_100 ?_
    exact z_iret dX1_nameOf_101 (zPI (by unfold nmI; first | (rw [if_pos (by omega)]; done) | (rw [if_neg (by omega), if_pos (by omega)]; done) | (rw [if_neg (by omega), if_neg (by omega), if_pos (by omega)]; done) | (rw [if_neg (by omega), if_neg (by omega), if_neg (by omega), if_pos (by omega)]; done) | (rw [if_neg (by omega), if_neg (by omega), if_neg (by omega), if_neg (by omega), if_pos (by omega)]; done) | (rw [if_neg (by omega), if_neg (by omega), if_neg (by omega), if_neg (by omega), if_neg (by omega), if_pos (by omega)]; done) | (rw [if_neg (by omega), if_neg (by omega), if_neg (by omega), if_neg (by omega), if_neg (by omega), if_neg (by omega)]; done)) rfl)
  · refine z_tsIn (off := 95) (tgt := 96) (by omega) dX1_nameOf_1 (by omega) (by omega) (by rw [c1]; rfl) (by decide) ?_
    refine z_iconst dX1_nameOf_96 ?_
    exact z_iret dX1_nameOf_97 (zPI (by unfold nmI; first | (rw [if_pos (by omega)]; done) | (rw [if_neg (by omega), if_pos (by omega)]; done) | (rw [if_neg (by omega), if_neg (by omega), if_pos (by omega)]; done) | (rw [if_neg (by omega), if_neg (by omega), if_neg (by omega), if_pos (by omega)]; done) | (rw [if_neg (by omega), if_neg (by omega), if_neg (by omega), if_neg (by omega), if_pos (by omega)]; done) | (rw [if_neg (by omega), if_neg (by omega), if_neg (by omega), if_neg (by omega), if_neg (by omega), if_pos (by omega)]; done) | (rw [if_neg (by omega), if_neg (by omega), if_neg (by omega), if_neg (by omega), if_neg (by omega), if_neg (by omega)]; done)) rfl)
  · refine z_tsIn (off := 99) (tgt := 100) (by omega) dX1_nameOf_1 (by omega) (by omega) (by rw [c1]; rfl) (by decide) ?_
    refine z_iconst dX1_nameOf_100 ?_
    exact z_iret dX1_nameOf_101 (zPI (by unfold nmI; first | (rw [if_pos (by omega)]; done) | (rw [if_neg (by omega), if_pos (by omega)]; done) | (rw [if_neg (by omega), if_neg (by omega), if_pos (by omega)]; done) | (rw [if_neg (by omega), if_neg (by omega), if_neg (by omega), if_pos (by omega)]; done) | (rw [if_neg (by omega), if_neg (by omega), if_neg (by omega), if_neg (by omega), if_pos (by omega)]; done) | (rw [if_neg (by omega), if_neg (by omega), if_neg (by omega), if_neg (by omega), if_neg (by omega), if_pos (by omega)]; done) | (rw [if_neg (by omega), if_neg (by omega), if_neg (by omega), if_neg (by omega), if_neg (by omega), if_neg (by omega)]; done)) rfl)
  · refine z_tsIn (off := 99) (tgt := 100) (by omega) dX1_nameOf_1 (by omega) (by omega) (by rw [c1]; rfl) (by decide) ?_
    refine z_iconst dX1_nameOf_100 ?_
    exact z_iret dX1_nameOf_101 (zPI (by unfold nmI; first | (rw [if_pos (by omega)]; done) | (rw [if_neg (by omega), if_pos (by omega)]; done) | (rw [if_neg (by omega), if_neg (by omega), if_pos (by omega)]; done) | (rw [if_neg (by omega), if_neg (by omega), if_neg (by omega), if_pos (by omega)]; done) | (rw [if_neg (by omega), if_neg (by omega), if_neg (by omega), if_neg (by omega), if_pos (by omega)]; done) | (rw [if_neg (by omega), if_neg (by omega), if_neg (by omega), if_neg (by omega), if_neg (by omega), if_pos (by omega)]; done) | (rw [if_neg (by omega), if_neg (by omega), if_neg (by omega), if_neg (by omega), if_neg (by omega), if_neg (by omega)]; done)) rfl)
  · refine z_tsIn (off := 99) (tgt := 100) (by omega) dX1_nameOf_1 (by omega) (by omega) (by rw [c1]; rfl) (by decide) ?_
    refine z_iconst dX1_nameOf_100 ?_
    exact z_iret dX1_nameOf_101 (zPI (by unfold nmI; first | (rw [if_pos (by omega)]; done) | (rw [if_neg (by omega), if_pos (by omega)]; done) | (rw [if_neg (by omega), if_neg (by omega), if_pos (by omega)]; done) | (rw [if_neg (by omega), if_neg (by omega), if_neg (by omega), if_pos (by omega)]; done) | (rw [if_neg (by omega), if_neg (by omega), if_neg (by omega), if_neg (by omega), if_pos (by omega)]; done) | (rw [if_neg (by omega), if_neg (by omega), if_neg (by omega), if_neg (by omega), if_neg (by omega), if_pos (by omega)]; done) | (rw [if_neg (by omega), if_neg (by omega), if_neg (by omega), if_neg (by omega), if_neg (by omega), if_neg (by omega)]; done)) rfl)
  · refine z_tsIn (off := 99) (tgt := 100) (by omega) dX1_nameOf_1 (by omega) (by omega) (by rw [c1]; rfl) (by decide) ?_
    refine z_iconst dX1_nameOf_100 ?_
    exact z_iret dX1_nameOf_101 (zPI (by unfold nmI; first | (rw [if_pos (by omega)]; done) | (rw [if_neg (by omega), if_pos (by omega)]; done) | (rw [if_neg (by omega), if_neg (by omega), if_pos (by omega)]; done) | (rw [if_neg (by omega), if_neg (by omega), if_neg (by omega), if_pos (by omega)]; done) | (rw [if_neg (by omega), if_neg (by omega), if_neg (by omega), if_neg (by omega), if_pos (by omega)]; done) | (rw [if_neg (by omega), if_neg (by omega), if_neg (by omega), if_neg (by omega), if_neg (by omega), if_pos (by omega)]; done) | (rw [if_neg (by omega), if_neg (by omega), if_neg (by omega), if_neg (by omega), if_neg (by omega), if_neg (by omega)]; done)) rfl)
  · refine z_tsIn (off := 99) (tgt := 100) (by omega) dX1_nameOf_1 (by omega) (by omega) (by rw [c1]; rfl) (by decide) ?_
    refine z_iconst dX1_nameOf_100 ?_
    exact z_iret dX1_nameOf_101 (zPI (by unfold nmI; first | (rw [if_pos (by omega)]; done) | (rw [if_neg (by omega), if_pos (by omega)]; done) | (rw [if_neg (by omega), if_neg (by omega), if_pos (by omega)]; done) | (rw [if_neg (by omega), if_neg (by omega), if_neg (by omega), if_pos (by omega)]; done) | (rw [if_neg (by omega), if_neg (by omega), if_neg (by omega), if_neg (by omega), if_pos (by omega)]; done) | (rw [if_neg (by omega), if_neg (by omega), if_neg (by omega), if_neg (by omega), if_neg (by omega), if_pos (by omega)]; done) | (rw [if_neg (by omega), if_neg (by omega), if_neg (by omega), if_neg (by omega), if_neg (by omega), if_neg (by omega)]; done)) rfl)
  · refine z_tsIn (off := 97) (tgt := 98) (by omega) dX1_nameOf_1 (by omega) (by omega) (by rw [c1]; rfl) (by decide) ?_
    refine z_iconst dX1_nameOf_98 ?_
    exact z_iret dX1_nameOf_99 (zPI (by unfold nmI; first | (rw [if_pos (by omega)]; done) | (rw [if_neg (by omega), if_pos (by omega)]; done) | (rw [if_neg (by omega), if_neg (by omega), if_pos (by omega)]; done) | (rw [if_neg (by omega), if_neg (by omega), if_neg (by omega), if_pos (by omega)]; done) | (rw [if_neg (by omega), if_neg (by omega), if_neg (by omega), if_neg (by omega), if_pos (by omega)]; done) | (rw [if_neg (by omega), if_neg (by omega), if_neg (by omega), if_neg (by omega), if_neg (by omega), if_pos (by omega)]; done) | (rw [if_neg (by omega), if_neg (by omega), if_neg (by omega), if_neg (by omega), if_neg (by omega), if_neg (by omega)]; done)) rfl)

theorem c_X1_beginSum {M : zM} {p_ : Int} : Call yX1_beginSum cX1_beginSum 2 none 0 [vR 7, vI p_] (M) (PN (zput (zput (zput (zput M 7 2 p_) 7 6 0) 7 7 1) 7 3 1)) := by
  refine Call.of2 (own := RX1) (lv0 := [some (vR 7), some (vI p_)]) rfl (by decide) rfl (Nat.le_of_ble_eq_true rfl) ?_
  refine z_aload_0 dX1_beginSum_0 ?_
  refine z_iload_1 dX1_beginSum_1 ?_
  refine z_putI fl_X1_19 zk_7 rfl dX1_beginSum_2 ?_
  refine z_aload_0 dX1_beginSum_5 ?_
  refine z_iconst dX1_beginSum_6 ?_
  refine z_putI fl_X1_32 zk_7 rfl dX1_beginSum_7 ?_
  refine z_aload_0 dX1_beginSum_10 ?_
  refine z_iconst dX1_beginSum_11 ?_
  refine z_putI fl_X1_35 zk_7 rfl dX1_beginSum_12 ?_
  refine z_aload_0 dX1_beginSum_15 ?_
  refine z_iconst dX1_beginSum_16 ?_
  refine z_putZ (by first | omega | exact zb_01) fl_X1_22 zk_7 rfl dX1_beginSum_17 ?_
  exact z_vret dX1_beginSum_20 (zPN rfl)

theorem c_X1_placeBehind {M : zM} {c_ : Int} {wp_ nu_ di_ su_ sg_ : Int} {st_ : List (Int × Int)} {o_ : aO} (hR : Rep M ((wp_, nu_, di_, su_, sg_, st_), o_)) (hc : -128 ≤ c_ ∧ c_ ≤ 255) : Call yX1_placeBehind cX1_placeBehind 2 (some .int) 0 [vR 7, vI c_] (M) (PI (plB o_.1 c_) M) := by
  refine Call.of2 (own := RX1) (lv0 := [some (vR 7), some (vI c_)]) rfl (by decide) rfl (Nat.le_of_ble_eq_true rfl) ?_
  obtain ⟨⟨r3_, r4_, r5_, rw_, rd_⟩, hS, hO⟩ := id hR
  simp only [] at r3_ r4_ r5_ rw_ rd_ hS hO
  obtain ⟨s6_, s7_, s10_, sS_, sok_, sg2_⟩ := id hS
  obtain ⟨o2_, o11_, o12_, o13_, o14_, o15_, oa_, ob_, oc_, od_⟩ := id hO
  refine z_iload_1 dX1_placeBehind_0 ?_
  rcases (show (c_ ≠ 38 ∧ c_ ≠ 58 ∧ c_ ≠ 60 ∧ c_ ≠ 61 ∧ c_ ≠ 62 ∧ c_ ≠ 63) ∨ c_ = 38 ∨ c_ = 58 ∨ c_ = 60 ∨ c_ = 61 ∨ c_ = 62 ∨ c_ = 63 from by omega) with c1 | c1 | c1 | c1 | c1 | c1 | c1
  · refine z_lookup (off := 122) (tgt := 123) (by omega) dX1_placeBehind_1 (by decide) (by simp [Op.lookupswitch.offset] <;> (repeat rw [if_neg (by omega)])) (by decide) ?_
    refine z_iconst dX1_placeBehind_123 ?_
    exact z_iret dX1_placeBehind_124 (zPI (by unfold plB; (repeat (first | rw [if_pos (by omega)] | rw [if_neg (by omega)]))) rfl)
  · refine z_lookup (off := 80) (tgt := 81) (by omega) dX1_placeBehind_1 (by decide) (by rw [c1]; rfl) (by decide) ?_
    refine z_aload_0 dX1_placeBehind_81 ?_
    refine z_getIv (v := o_.1) fl_X1_19 zk_7 rfl (o2_) dX1_placeBehind_82 ?_
    refine z_iconst dX1_placeBehind_85 ?_
    refine z_icmp_ne (tgt := 93) (by omega) (by decide) dX1_placeBehind_86 (by decide) (fun c86 => ?_) (fun c86 => ?_)
    · refine z_iconst dX1_placeBehind_93 ?_
      exact z_iret dX1_placeBehind_94 (zPI (by unfold plB; (repeat (first | rw [if_pos (by omega)] | rw [if_neg (by omega)]))) rfl)
    · refine z_iconst dX1_placeBehind_89 ?_
      refine z_goto (tgt := 94) dX1_placeBehind_90 (by decide) ?_
      exact z_iret dX1_placeBehind_94 (zPI (by unfold plB; (repeat (first | rw [if_pos (by omega)] | rw [if_neg (by omega)]))) rfl)
  · refine z_lookup (off := 108) (tgt := 109) (by omega) dX1_placeBehind_1 (by decide) (by rw [c1]; rfl) (by decide) ?_
    refine z_aload_0 dX1_placeBehind_109 ?_
    refine z_getIv (v := o_.1) fl_X1_19 zk_7 rfl (o2_) dX1_placeBehind_110 ?_
    refine z_iconst dX1_placeBehind_113 ?_
    refine z_icmp_ne (tgt := 121) (by omega) (by decide) dX1_placeBehind_114 (by decide) (fun c114 => ?_) (fun c114 => ?_)
    · refine z_iconst dX1_placeBehind_121 ?_
      exact z_iret dX1_placeBehind_122 (zPI (by unfold plB; (repeat (first | rw [if_pos (by omega)] | rw [if_neg (by omega)]))) rfl)
    · refine z_iconst dX1_placeBehind_117 ?_
      refine z_goto (tgt := 122) dX1_placeBehind_118 (by decide) ?_
      exact z_iret dX1_placeBehind_122 (zPI (by unfold plB; (repeat (first | rw [if_pos (by omega)] | rw [if_neg (by omega)]))) rfl)
  · refine z_lookup (off := 59) (tgt := 60) (by omega) dX1_placeBehind_1 (by decide) (by rw [c1]; rfl) (by decide) ?_
    refine z_aload_0 dX1_placeBehind_60 ?_
    refine z_getIv (v := o_.1) fl_X1_19 zk_7 rfl (o2_) dX1_placeBehind_61 ?_
    refine z_if_eq (tgt := 75) (by omega) dX1_placeBehind_64 (by decide) (fun c64 => ?_) (fun c64 => ?_)
    · refine z_iconst dX1_placeBehind_75 ?_
      refine z_goto (tgt := 80) dX1_placeBehind_76 (by decide) ?_
      exact z_iret dX1_placeBehind_80 (zPI (by unfold plB; (repeat (first | rw [if_pos (by omega)] | rw [if_neg (by omega)]))) rfl)
    · refine z_aload_0 dX1_placeBehind_67 ?_
      refine z_getIv (v := o_.1) fl_X1_19 zk_7 rfl (o2_) dX1_placeBehind_68 ?_
      refine z_iconst dX1_placeBehind_71 ?_
      refine z_icmp_ne (tgt := 79) (by omega) (by decide) dX1_placeBehind_72 (by decide) (fun c72 => ?_) (fun c72 => ?_)
      · refine z_iconst dX1_placeBehind_79 ?_
        exact z_iret dX1_placeBehind_80 (zPI (by unfold plB; (repeat (first | rw [if_pos (by omega)] | rw [if_neg (by omega)]))) rfl)
      · refine z_iconst dX1_placeBehind_75 ?_
        refine z_goto (tgt := 80) dX1_placeBehind_76 (by decide) ?_
        exact z_iret dX1_placeBehind_80 (zPI (by unfold plB; (repeat (first | rw [if_pos (by omega)] | rw [if_neg (by omega)]))) rfl)
  · refine z_lookup (off := 59) (tgt := 60) (by omega) dX1_placeBehind_1 (by decide) (by rw [c1]; rfl) (by decide) ?_
    refine z_aload_0 dX1_placeBehind_60 ?_
    refine z_getIv (v := o_.1) fl_X1_19 zk_7 rfl (o2_) dX1_placeBehind_61 ?_
    refine z_if_eq (tgt := 75) (by omega) dX1_placeBehind_64 (by decide) (fun c64 => ?_) (fun c64 => ?_)
    · refine z_iconst dX1_placeBehind_75 ?_
      refine z_goto (tgt := 80) dX1_placeBehind_76 (by decide) ?_
      exact z_iret dX1_placeBehind_80 (zPI (by unfold plB; (repeat (first | rw [if_pos (by omega)] | rw [if_neg (by omega)]))) rfl)
    · refine z_aload_0 dX1_placeBehind_67 ?_
      refine z_getIv (v := o_.1) fl_X1_19 zk_7 rfl (o2_) dX1_placeBehind_68 ?_
      refine z_iconst dX1_placeBehind_71 ?_
      refine z_icmp_ne (tgt := 79) (by omega) (by decide) dX1_placeBehind_72 (by decide) (fun c72 => ?_) (fun c72 => ?_)
      · refine z_iconst dX1_placeBehind_79 ?_
        exact z_iret dX1_placeBehind_80 (zPI (by unfold plB; (repeat (first | rw [if_pos (by omega)] | rw [if_neg (by omega)]))) rfl)
      · refine z_iconst dX1_placeBehind_75 ?_
        refine z_goto (tgt := 80) dX1_placeBehind_76 (by decide) ?_
        exact z_iret dX1_placeBehind_80 (zPI (by unfold plB; (repeat (first | rw [if_pos (by omega)] | rw [if_neg (by omega)]))) rfl)
  · refine z_lookup (off := 59) (tgt := 60) (by omega) dX1_placeBehind_1 (by decide) (by rw [c1]; rfl) (by decide) ?_
    refine z_aload_0 dX1_placeBehind_60 ?_
    refine z_getIv (v := o_.1) fl_X1_19 zk_7 rfl (o2_) dX1_placeBehind_61 ?_
    refine z_if_eq (tgt := 75) (by omega) dX1_placeBehind_64 (by decide) (fun c64 => ?_) (fun c64 => ?_)
    · refine z_iconst dX1_placeBehind_75 ?_
      refine z_goto (tgt := 80) dX1_placeBehind_76 (by decide) ?_
      exact z_iret dX1_placeBehind_80 (zPI (by unfold plB; (repeat (first | rw [if_pos (by omega)] | rw [if_neg (by omega)]))) rfl)
    · refine z_aload_0 dX1_placeBehind_67 ?_
      refine z_getIv (v := o_.1) fl_X1_19 zk_7 rfl (o2_) dX1_placeBehind_68 ?_
      refine z_iconst dX1_placeBehind_71 ?_
      refine z_icmp_ne (tgt := 79) (by omega) (by decide) dX1_placeBehind_72 (by decide) (fun c72 => ?_) (fun c72 => ?_)
      · refine z_iconst dX1_placeBehind_79 ?_
        exact z_iret dX1_placeBehind_80 (zPI (by unfold plB; (repeat (first | rw [if_pos (by omega)] | rw [if_neg (by omega)]))) rfl)
      · refine z_iconst dX1_placeBehind_75 ?_
        refine z_goto (tgt := 80) dX1_placeBehind_76 (by decide) ?_
        exact z_iret dX1_placeBehind_80 (zPI (by unfold plB; (repeat (first | rw [if_pos (by omega)] | rw [if_neg (by omega)]))) rfl)
  · refine z_lookup (off := 94) (tgt := 95) (by omega) dX1_placeBehind_1 (by decide) (by rw [c1]; rfl) (by decide) ?_
    refine z_aload_0 dX1_placeBehind_95 ?_
    refine z_getIv (v := o_.1) fl_X1_19 zk_7 rfl (o2_) dX1_placeBehind_96 ?_
    refine z_iconst dX1_placeBehind_99 ?_
    refine z_icmp_ne (tgt := 107) (by omega) (by decide) dX1_placeBehind_100 (by decide) (fun c100 => ?_) (fun c100 => ?_)
    · refine z_iconst dX1_placeBehind_107 ?_
      exact z_iret dX1_placeBehind_108 (zPI (by unfold plB; (repeat (first | rw [if_pos (by omega)] | rw [if_neg (by omega)]))) rfl)
    · refine z_iconst dX1_placeBehind_103 ?_
      refine z_goto (tgt := 108) dX1_placeBehind_104 (by decide) ?_
      exact z_iret dX1_placeBehind_108 (zPI (by unfold plB; (repeat (first | rw [if_pos (by omega)] | rw [if_neg (by omega)]))) rfl)

theorem c_X1_comparesRight {M : zM} {wp_ nu_ di_ su_ sg_ : Int} {st_ : List (Int × Int)} {o_ : aO} (hR : Rep M ((wp_, nu_, di_, su_, sg_, st_), o_)) : Call yX1_comparesRight cX1_comparesRight 1 (some .boolean) 0 [vR 7] (M) (PI (cpR o_.2.1 o_.2.2.1 su_) M) := by
  refine Call.of2 (own := RX1) (lv0 := [some (vR 7)]) rfl (by decide) rfl (Nat.le_of_ble_eq_true rfl) ?_
  obtain ⟨⟨r3_, r4_, r5_, rw_, rd_⟩, hS, hO⟩ := id hR
  simp only [] at r3_ r4_ r5_ rw_ rd_ hS hO
  obtain ⟨s6_, s7_, s10_, sS_, sok_, sg2_⟩ := id hS
  obtain ⟨o2_, o11_, o12_, o13_, o14_, o15_, oa_, ob_, oc_, od_⟩ := id hO
  have wa_ := zw_r o_.2.1
  have wb_ := zw_r su_
  refine z_aload_0 dX1_comparesRight_0 ?_
  refine z_getIv (v := o_.2.2.1) fl_X1_50 zk_7 rfl (o12_) dX1_comparesRight_1 ?_
  rcases (show (o_.2.2.1 ≠ 60 ∧ o_.2.2.1 ≠ 62) ∨ o_.2.2.1 = 60 ∨ o_.2.2.1 = 62 from by omega) with c4 | c4 | c4
  · refine z_lookup (off := 62) (tgt := 66) (by omega) dX1_comparesRight_4 (by decide) (by simp [Op.lookupswitch.offset] <;> (repeat rw [if_neg (by omega)])) (by decide) ?_
    refine z_aload_0 dX1_comparesRight_66 ?_
    refine z_getIv (v := o_.2.1) fl_X1_47 zk_7 rfl (o11_) dX1_comparesRight_67 ?_
    refine z_aload_0 dX1_comparesRight_70 ?_
    refine z_getIv (v := su_) fl_X1_32 zk_7 rfl (s6_) dX1_comparesRight_71 ?_
    refine z_wrap ?_
    refine z_wrap2 ?_
    refine z_icmp_ne (tgt := 81) (by omega) (by omega) dX1_comparesRight_74 (by decide) (fun c74 => ?_) (fun c74 => ?_)
    · refine z_iconst dX1_comparesRight_81 ?_
      exact z_zret (by first | exact Or.inl rfl | exact Or.inr rfl | exact zb_01 | omega) dX1_comparesRight_82 (zPI (by show _ = cpR o_.2.1 o_.2.2.1 su_; unfold cpR; first | (rw [if_pos (by omega)]; first | exact (zb_t (by omega)).symm | exact (zb_f (by omega)).symm) | (rw [if_neg (by omega), if_pos (by omega)]; first | exact (zb_t (by omega)).symm | exact (zb_f (by omega)).symm) | (rw [if_neg (by omega), if_neg (by omega)]; first | exact (zb_t (by omega)).symm | exact (zb_f (by omega)).symm)) rfl)
    · refine z_iconst dX1_comparesRight_77 ?_
      refine z_goto (tgt := 82) dX1_comparesRight_78 (by decide) ?_
      exact z_zret (by first | exact Or.inl rfl | exact Or.inr rfl | exact zb_01 | omega) dX1_comparesRight_82 (zPI (by show _ = cpR o_.2.1 o_.2.2.1 su_; unfold cpR; first | (rw [if_pos (by omega)]; first | exact (zb_t (by omega)).symm | exact (zb_f (by omega)).symm) | (rw [if_neg (by omega), if_pos (by omega)]; first | exact (zb_t (by omega)).symm | exact (zb_f (by omega)).symm) | (rw [if_neg (by omega), if_neg (by omega)]; first | exact (zb_t (by omega)).symm | exact (zb_f (by omega)).symm)) rfl)
  · refine z_lookup (off := 28) (tgt := 32) (by omega) dX1_comparesRight_4 (by decide) (by rw [c4]; rfl) (by decide) ?_
    refine z_aload_0 dX1_comparesRight_32 ?_
    refine z_getIv (v := o_.2.1) fl_X1_47 zk_7 rfl (o11_) dX1_comparesRight_33 ?_
    refine z_aload_0 dX1_comparesRight_36 ?_
    refine z_getIv (v := su_) fl_X1_32 zk_7 rfl (s6_) dX1_comparesRight_37 ?_
    refine z_wrap ?_
    refine z_wrap2 ?_
    refine z_icmp_ge (tgt := 47) (by omega) (by omega) dX1_comparesRight_40 (by decide) (fun c40 => ?_) (fun c40 => ?_)
    · refine z_iconst dX1_comparesRight_47 ?_
      exact z_zret (by first | exact Or.inl rfl | exact Or.inr rfl | exact zb_01 | omega) dX1_comparesRight_48 (zPI (by show _ = cpR o_.2.1 o_.2.2.1 su_; unfold cpR; first | (rw [if_pos (by omega)]; first | exact (zb_t (by omega)).symm | exact (zb_f (by omega)).symm) | (rw [if_neg (by omega), if_pos (by omega)]; first | exact (zb_t (by omega)).symm | exact (zb_f (by omega)).symm) | (rw [if_neg (by omega), if_neg (by omega)]; first | exact (zb_t (by omega)).symm | exact (zb_f (by omega)).symm)) rfl)
    · refine z_iconst dX1_comparesRight_43 ?_
      refine z_goto (tgt := 48) dX1_comparesRight_44 (by decide) ?_
      exact z_zret (by first | exact Or.inl rfl | exact Or.inr rfl | exact zb_01 | omega) dX1_comparesRight_48 (zPI (by show _ = cpR o_.2.1 o_.2.2.1 su_; unfold cpR; first | (rw [if_pos (by omega)]; first | exact (zb_t (by omega)).symm | exact (zb_f (by omega)).symm) | (rw [if_neg (by omega), if_pos (by omega)]; first | exact (zb_t (by omega)).symm | exact (zb_f (by omega)).symm) | (rw [if_neg (by omega), if_neg (by omega)]; first | exact (zb_t (by omega)).symm | exact (zb_f (by omega)).symm)) rfl)
  · refine z_lookup (off := 45) (tgt := 49) (by omega) dX1_comparesRight_4 (by decide) (by rw [c4]; rfl) (by decide) ?_
    refine z_aload_0 dX1_comparesRight_49 ?_
    refine z_getIv (v := o_.2.1) fl_X1_47 zk_7 rfl (o11_) dX1_comparesRight_50 ?_
    refine z_aload_0 dX1_comparesRight_53 ?_
    refine z_getIv (v := su_) fl_X1_32 zk_7 rfl (s6_) dX1_comparesRight_54 ?_
    refine z_wrap ?_
    refine z_wrap2 ?_
    refine z_icmp_le (tgt := 64) (by omega) (by omega) dX1_comparesRight_57 (by decide) (fun c57 => ?_) (fun c57 => ?_)
    · refine z_iconst dX1_comparesRight_64 ?_
      exact z_zret (by first | exact Or.inl rfl | exact Or.inr rfl | exact zb_01 | omega) dX1_comparesRight_65 (zPI (by show _ = cpR o_.2.1 o_.2.2.1 su_; unfold cpR; first | (rw [if_pos (by omega)]; first | exact (zb_t (by omega)).symm | exact (zb_f (by omega)).symm) | (rw [if_neg (by omega), if_pos (by omega)]; first | exact (zb_t (by omega)).symm | exact (zb_f (by omega)).symm) | (rw [if_neg (by omega), if_neg (by omega)]; first | exact (zb_t (by omega)).symm | exact (zb_f (by omega)).symm)) rfl)
    · refine z_iconst dX1_comparesRight_60 ?_
      refine z_goto (tgt := 65) dX1_comparesRight_61 (by decide) ?_
      exact z_zret (by first | exact Or.inl rfl | exact Or.inr rfl | exact zb_01 | omega) dX1_comparesRight_65 (zPI (by show _ = cpR o_.2.1 o_.2.2.1 su_; unfold cpR; first | (rw [if_pos (by omega)]; first | exact (zb_t (by omega)).symm | exact (zb_f (by omega)).symm) | (rw [if_neg (by omega), if_pos (by omega)]; first | exact (zb_t (by omega)).symm | exact (zb_f (by omega)).symm) | (rw [if_neg (by omega), if_neg (by omega)]; first | exact (zb_t (by omega)).symm | exact (zb_f (by omega)).symm)) rfl)
