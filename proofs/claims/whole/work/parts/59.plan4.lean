def PlOK (N : zM) (G : Nat → Int → Int) (n : Nat) (B : Int) : Prop := N 8 2 = (n : Int) ∧ N 8 3 = B ∧ (1 ≤ n ∧ n ≤ 8) ∧ (0 ≤ B ∧ B ≤ 60) ∧ (∀ d p : Int, 0 ≤ d → d < n → 0 ≤ p ∧ p ≤ 24 → N 67 (d * 25 + p) = G (n - 1 - d.toNat) p) ∧ (∀ d p l : Int, 0 ≤ d → d < n → 0 ≤ p ∧ p ≤ 24 → 0 ≤ l → l ≤ B → N 68 ((d * 25 + p) * 61 + l) = bE G (n - d.toNat) p l) ∧ (∀ (k : Nat) (p : Int), 0 ≤ p ∧ p ≤ 24 → -100000000 ≤ G k p ∧ G k p ≤ 100000000)
theorem PlOK_vF {N : zM} {G : Nat → Int → Int} {n : Nat} {B d p l : Int} (h : PlOK N G n B) (h0 : 0 ≤ d) (h1 : d < n) (hp : 0 ≤ p ∧ p ≤ 24) (hl : 0 ≤ l) (hB : l ≤ B) : vF N (d + 1) p l = bE G (n - 1 - d.toNat) p l := by
  unfold vF
  rw [h.1]
  by_cases e : d + 1 < n
  · rw [if_pos e, h.2.2.2.2.2.1 (d + 1) p l (by omega) e hp hl hB, show n - (d + 1).toNat = n - 1 - d.toNat by omega]
  · rw [if_neg e, show n - 1 - d.toNat = 0 by omega, bE_0]
theorem bE_r {G : Nat → Int → Int} {k : Nat} {p l : Int} (hG : ∀ (k : Nat) (p : Int), 0 ≤ p ∧ p ≤ 24 → -100000000 ≤ G k p ∧ G k p ≤ 100000000) (hk : k ≤ 8) (hp : 0 ≤ p ∧ p ≤ 24) (hl : 0 ≤ l ∧ l ≤ 60) : -60000000000 ≤ bE G k p l ∧ bE G k p l ≤ 60000000000 := by
  have h1 := bst_v (b := 100000000) hG k p l hp hl.1
  have h2 := bst_s (G := G) k p l hp hl.1
  unfold bE
  omega
theorem PlOK_congr {M N : zM} {G : Nat → Int → Int} {n : Nat} {B : Int} (h : PlOK M G n B) (h2 : N 8 2 = M 8 2) (h3 : N 8 3 = M 8 3) (h67 : N 67 = M 67) (h68 : N 68 = M 68) : PlOK N G n B := by
  unfold PlOK
  rw [h2, h3, h67, h68]
  exact h
theorem c_X0_keepsValue {M : zM} {d_ p_ l_ m_ : Int} {G : Nat → Int → Int} {n : Nat} {B : Int} (hP : PlOK M G n B) (hd : 0 ≤ d_ ∧ d_ < n) (hp : 0 ≤ p_ ∧ p_ ≤ 24) (hl : 0 ≤ l_ ∧ l_ ≤ B) (hm : zabs m_ ≤ l_) : Call yX0_keepsValue cX0_keepsValue 9 (some .boolean) 2 [vR 8, vI d_, vI p_, vI l_, vI m_] (M) (PI (zb ((0 ≤ p_ + m_ ∧ p_ + m_ ≤ 24) ∧ bC (G (n - 1 - d_.toNat)) (bE G (n - 1 - d_.toNat)) p_ l_ m_ = bE G ((n - 1 - d_.toNat) + 1) p_ l_)) M) := by
  refine Call.of2 (own := RX0) (lv0 := [some (vR 8), some (vI d_), some (vI p_), some (vI l_), some (vI m_), none, none, none, none]) rfl (by decide) rfl (Nat.le_of_ble_eq_true rfl) ?_
  obtain ⟨q2_, q3_, qn_, qB_, q67_, q68_, qG_⟩ := id hP
  have hz_ := zabs_cases m_
  refine z_iload_2 dX0_keepsValue_0 ?_
  refine z_iload_4 dX0_keepsValue_1 ?_
  refine z_iadd dX0_keepsValue_3 ?_
  refine z_istore_5 rfl dX0_keepsValue_4 ?_
  refine z_iload_5 dX0_keepsValue_6 ?_
  refine z_if_lt (tgt := 18) (by omega) dX0_keepsValue_8 (by decide) (fun c8 => ?_) (fun c8 => ?_)
  · refine z_iconst dX0_keepsValue_18 ?_
    exact z_zret (by first | exact Or.inl rfl | exact Or.inr rfl | exact zb_01 | omega) dX0_keepsValue_19 (zPI ((zb_f (fun h_ => by have h2_ := h_.1; omega)).symm) rfl)
  · refine z_iload_5 dX0_keepsValue_11 ?_
    refine z_bipush dX0_keepsValue_13 (by decide) ?_
    refine z_icmp_lt (tgt := 20) (by omega) (by decide) dX0_keepsValue_15 (by decide) (fun c15 => ?_) (fun c15 => ?_)
    · have r1_ := qG_ (n - 1 - d_.toNat) (p_ + m_) (by omega)
      have r2_ := bE_r (k := (n - 1 - d_.toNat)) (p := p_ + m_) (l := l_ - zabs m_) qG_ (by omega) (by omega) (by omega)
      have r3_ := bE_r (k := (n - 1 - d_.toNat) + 1) (p := p_) (l := l_) qG_ (by omega) hp (by omega)
      refine z_iload_4 dX0_keepsValue_20 ?_
      refine z_mabs ml_X0_85 (by decide) (Nat.le_of_ble_eq_true rfl) (by omega) dX0_keepsValue_22 ?_
      refine z_istore_6 rfl dX0_keepsValue_25 ?_
      refine z_aload_0 dX0_keepsValue_27 ?_
      refine z_getR (r := 67) fl_X0_9 zk_8 rfl rfl dX0_keepsValue_28 ?_
      refine z_iload_1 dX0_keepsValue_31 ?_
      refine z_bipush dX0_keepsValue_32 (by decide) ?_
      refine z_imul dX0_keepsValue_34 ?_
      refine z_iload_5 dX0_keepsValue_35 ?_
      refine z_iadd dX0_keepsValue_37 ?_
      refine z_laldv (n := 200) (v := (G (n - 1 - d_.toNat) (p_ + m_))) zk_67 rfl (by omega) (q67_ d_ (p_ + m_) hd.1 hd.2 (by omega)) dX0_keepsValue_38 ?_
      refine z_ldc2 (n := 64) kl_X0_76 (by decide) dX0_keepsValue_39 ?_
      refine z_lmul dX0_keepsValue_42 ?_
      refine z_aload_0 dX0_keepsValue_43 ?_
      refine z_iload_1 dX0_keepsValue_44 ?_
      refine z_iconst dX0_keepsValue_45 ?_
      refine z_iadd dX0_keepsValue_46 ?_
      refine z_iload_5 dX0_keepsValue_47 ?_
      refine z_iload_3 dX0_keepsValue_49 ?_
      refine z_iload_6 dX0_keepsValue_50 ?_
      refine z_isub dX0_keepsValue_52 ?_
      refine z_cVJ yv_X0_valueFrom ml_X0_93 (c_X0_valueFrom (by rw [q2_]; omega) (by omega) (by omega) (by omega)) zk_8 rfl rfl (by decide) (Nat.le_of_ble_eq_true rfl) dX0_keepsValue_53 ?_
      rw [PlOK_vF hP hd.1 hd.2 (by omega) (by omega) (by omega)]
      refine z_ladd dX0_keepsValue_56 ?_
      refine z_iload_6 dX0_keepsValue_57 ?_
      refine z_i2l (by omega) dX0_keepsValue_59 ?_
      refine z_lsub dX0_keepsValue_60 ?_
      refine z_lstore_7 rfl dX0_keepsValue_61 ?_
      refine z_lload_7 dX0_keepsValue_63 ?_
      refine z_aload_0 dX0_keepsValue_65 ?_
      refine z_getR (r := 68) fl_X0_15 zk_8 rfl rfl dX0_keepsValue_66 ?_
      refine z_iload_1 dX0_keepsValue_69 ?_
      refine z_iload_2 dX0_keepsValue_70 ?_
      refine z_iload_3 dX0_keepsValue_71 ?_
      refine z_cSI ys_X0_cell ml_X0_72 c_X0_cell rfl rfl (by decide) (Nat.le_of_ble_eq_true rfl) dX0_keepsValue_72 ?_
      refine z_laldv (n := 12200) (v := (bE G ((n - 1 - d_.toNat) + 1) p_ l_)) zk_68 rfl (by omega) (by rw [q68_ d_ p_ l_ hd.1 hd.2 hp hl.1 hl.2, show n - d_.toNat = (n - 1 - d_.toNat) + 1 by omega]) dX0_keepsValue_75 ?_
      refine z_lcmp_ne (tgt := 84) (by omega) (by omega) dX0_keepsValue_76 dX0_keepsValue_77 (by decide) (fun c76 => ?_) (fun c76 => ?_)
      · refine z_iconst dX0_keepsValue_84 ?_
        exact z_zret (by first | exact Or.inl rfl | exact Or.inr rfl | exact zb_01 | omega) dX0_keepsValue_85 (zPI (by first | exact (zb_t ⟨by omega, show G (n - 1 - d_.toNat) (p_ + m_) * 64 + bE G (n - 1 - d_.toNat) (p_ + m_) (l_ - zabs m_) - zabs m_ = _ by omega⟩).symm | exact (zb_f (fun h_ => by have h2_ : G (n - 1 - d_.toNat) (p_ + m_) * 64 + bE G (n - 1 - d_.toNat) (p_ + m_) (l_ - zabs m_) - zabs m_ = _ := h_.2; omega)).symm) rfl)
      · refine z_iconst dX0_keepsValue_80 ?_
        refine z_goto (tgt := 85) dX0_keepsValue_81 (by decide) ?_
        exact z_zret (by first | exact Or.inl rfl | exact Or.inr rfl | exact zb_01 | omega) dX0_keepsValue_85 (zPI (by first | exact (zb_t ⟨by omega, show G (n - 1 - d_.toNat) (p_ + m_) * 64 + bE G (n - 1 - d_.toNat) (p_ + m_) (l_ - zabs m_) - zabs m_ = _ by omega⟩).symm | exact (zb_f (fun h_ => by have h2_ : G (n - 1 - d_.toNat) (p_ + m_) * 64 + bE G (n - 1 - d_.toNat) (p_ + m_) (l_ - zabs m_) - zabs m_ = _ := h_.2; omega)).symm) rfl)
    · refine z_iconst dX0_keepsValue_18 ?_
      exact z_zret (by first | exact Or.inl rfl | exact Or.inr rfl | exact zb_01 | omega) dX0_keepsValue_19 (zPI ((zb_f (fun h_ => by have h2_ := h_.1; omega)).symm) rfl)

theorem c_X0_firstMove {M : zM} {d_ p_ l_ : Int} {G : Nat → Int → Int} {n : Nat} {B : Int} (hP : PlOK M G n B) (hd : 0 ≤ d_ ∧ d_ < n) (hp : 0 ≤ p_ ∧ p_ ≤ 24) (hl : 0 ≤ l_ ∧ l_ ≤ B) : Call yX0_firstMove cX0_firstMove 5 (some .int) 3 [vR 8, vI d_, vI p_, vI l_] (M) (PI (bM G (n - 1 - d_.toNat) p_ l_) M) := by
  refine Call.of2 (own := RX0) (lv0 := [some (vR 8), some (vI d_), some (vI p_), some (vI l_), none]) rfl (by decide) rfl (Nat.le_of_ble_eq_true rfl) ?_
  obtain ⟨q2_, q3_, qn_, qB_, q67_, q68_, qG_⟩ := id hP
  have hb_ : bE G ((n - 1 - d_.toNat) + 1) p_ l_ = (bF (G (n - 1 - d_.toNat)) (bE G (n - 1 - d_.toNat)) p_ l_ 48).1 := bE_1 hp hl.1
  refine z_iconst dX0_firstMove_0 ?_
  refine z_istore_4 rfl dX0_firstMove_1 ?_
  have K3 : ∀ (fuel_ : Nat) (f_ : Int), 25 - f_ < (fuel_ : Int) → ((0 ≤ f_ ∧ f_ ≤ 25) ∧ f_ ≤ l_ + 1) → (∀ m_ : Int, okM p_ l_ m_ → zabs m_ < f_ → bC (G (n - 1 - d_.toNat)) (bE G (n - 1 - d_.toNat)) p_ l_ m_ ≠ (bF (G (n - 1 - d_.toNat)) (bE G (n - 1 - d_.toNat)) p_ l_ 48).1) → Z RX0 cX0_firstMove 5 (some .int) 3 (zQ (PI (bM G (n - 1 - d_.toNat) p_ l_) M)) 3 [some (vR 8), some (vI d_), some (vI p_), some (vI l_), some (vI f_)] [] (M) := by
    intro fuel_
    induction fuel_ with
    | zero => intro f_ hfuel_ hf_ hr_; exfalso; omega
    | succ fuel_ ih3 =>
      intro f_ hfuel_ hf_ hr_
      have zf_ := zabs_cases f_
      have zg_ := zabs_cases (-f_)
      refine z_iload_4 dX0_firstMove_3 ?_
      refine z_iload_3 dX0_firstMove_5 ?_
      refine z_icmp_gt (tgt := 54) (by omega) (by omega) dX0_firstMove_6 (by decide) (fun c6 => ?_) (fun c6 => ?_)
      · refine z_iconst dX0_firstMove_54 ?_
        exact z_iret dX0_firstMove_55 (zPI (absurd (bF_at hp hl.1 48).2.symm (hr_ _ (bM_ok hp hl.1) (by have h1_ := (bM_ok (G := G) (k := (n - 1 - d_.toNat)) hp hl.1).2; have h2_ := bF_2 (G := G (n - 1 - d_.toNat)) (E := bE G (n - 1 - d_.toNat)) hp hl.1; unfold bM at h1_; omega))) rfl)
      · refine z_iload_4 dX0_firstMove_9 ?_
        refine z_bipush dX0_firstMove_11 (by decide) ?_
        refine z_icmp_ge (tgt := 54) (by omega) (by decide) dX0_firstMove_13 (by decide) (fun c13 => ?_) (fun c13 => ?_)
        · refine z_iconst dX0_firstMove_54 ?_
          exact z_iret dX0_firstMove_55 (zPI (absurd (bF_at hp hl.1 48).2.symm (hr_ _ (bM_ok hp hl.1) (by have h1_ := (bM_ok (G := G) (k := (n - 1 - d_.toNat)) hp hl.1).2; have h2_ := bF_2 (G := G (n - 1 - d_.toNat)) (E := bE G (n - 1 - d_.toNat)) hp hl.1; unfold bM at h1_; omega))) rfl)
        · refine z_aload_0 dX0_firstMove_16 ?_
          refine z_iload_1 dX0_firstMove_17 ?_
          refine z_iload_2 dX0_firstMove_18 ?_
          refine z_iload_3 dX0_firstMove_19 ?_
          refine z_iload_4 dX0_firstMove_20 ?_
          refine z_ineg dX0_firstMove_22 ?_
          refine z_cVI yv_X0_keepsValue ml_X0_89 (c_X0_keepsValue hP hd hp hl (by omega)) zk_8 rfl rfl (by decide) (Nat.le_of_ble_eq_true rfl) dX0_firstMove_23 ?_
          refine z_ifb_eq (tgt := 33) dX0_firstMove_26 (by decide) (fun c26 => ?_) (fun c26 => ?_)
          · refine z_aload_0 dX0_firstMove_33 ?_
            refine z_iload_1 dX0_firstMove_34 ?_
            refine z_iload_2 dX0_firstMove_35 ?_
            refine z_iload_3 dX0_firstMove_36 ?_
            refine z_iload_4 dX0_firstMove_37 ?_
            refine z_cVI yv_X0_keepsValue ml_X0_89 (c_X0_keepsValue hP hd hp hl (by omega)) zk_8 rfl rfl (by decide) (Nat.le_of_ble_eq_true rfl) dX0_firstMove_39 ?_
            refine z_ifb_eq (tgt := 48) dX0_firstMove_42 (by decide) (fun c42 => ?_) (fun c42 => ?_)
            · refine z_iinc_4 rfl dX0_firstMove_48 ?_
              refine z_goto (tgt := 3) dX0_firstMove_51 (by decide) ?_
              exact ih3 _ (by omega) (by omega) (by intro m_ o_ h_ e_; have z_ := zabs_cases m_; by_cases q_ : zabs m_ < f_; (exact hr_ m_ o_ q_ e_); by_cases s_ : m_ < 0; (exact c26 (by rw [show -f_ = m_ by omega]; exact ⟨o_.1, by rw [hb_]; exact e_⟩)); exact c42 (by rw [show f_ = m_ by omega]; exact ⟨o_.1, by rw [hb_]; exact e_⟩))
            · refine z_iload_4 dX0_firstMove_45 ?_
              exact z_iret dX0_firstMove_47 (zPI (bF_un hp hl.1 ⟨c42.1, by omega⟩ (by rw [← hb_]; exact c42.2) (fun m2_ o_ h_ => hr_ m2_ o_ (by omega)) (fun h_ o_ e_ => c26 ⟨o_.1, by rw [hb_]; exact e_⟩)) rfl)
          · refine z_iload_4 dX0_firstMove_29 ?_
            refine z_ineg dX0_firstMove_31 ?_
            exact z_iret dX0_firstMove_32 (zPI (bF_un hp hl.1 ⟨c26.1, by omega⟩ (by rw [← hb_]; exact c26.2) (fun m2_ o_ h_ => hr_ m2_ o_ (by omega)) (fun h_ => by exfalso; omega)) rfl)
  have L3 : ∀ (f_ : Int), ((0 ≤ f_ ∧ f_ ≤ 25) ∧ f_ ≤ l_ + 1) → (∀ m_ : Int, okM p_ l_ m_ → zabs m_ < f_ → bC (G (n - 1 - d_.toNat)) (bE G (n - 1 - d_.toNat)) p_ l_ m_ ≠ (bF (G (n - 1 - d_.toNat)) (bE G (n - 1 - d_.toNat)) p_ l_ 48).1) → Z RX0 cX0_firstMove 5 (some .int) 3 (zQ (PI (bM G (n - 1 - d_.toNat) p_ l_) M)) 3 [some (vR 8), some (vI d_), some (vI p_), some (vI l_), some (vI f_)] [] (M) := fun f_ hf_ hr_ => K3 ((25 - f_).toNat + 1) f_ (by omega) hf_ hr_
  exact L3 _ (by omega) (by intro m_ _ h_; have := zabs_le (x := m_); exfalso; omega)

theorem c_X0_follow {M : zM} {s_ : Int} {G : Nat → Int → Int} {n : Nat} {B : Int} (hP : PlOK M G n B) (hs : 0 ≤ s_ ∧ s_ ≤ 24) : Call yX0_follow cX0_follow 6 none 4 [vR 8, vI s_] (M) (RN (fun N => (∀ k_ : Nat, k_ ≠ 8 → k_ ≠ 69 → N k_ = M k_) ∧ N 8 5 = (bst G n s_ B).1 ∧ N 8 6 = (bst G n s_ B).2 ∧ N 8 7 = pmc G n s_ B n ∧ (∀ j_ : Int, 0 ≤ j_ → j_ < n → N 69 j_ = pmv G n s_ B j_.toNat))) := by
  refine Call.of2 (own := RX0) (lv0 := [some (vR 8), some (vI s_), none, none, none, none]) rfl (by decide) rfl (Nat.le_of_ble_eq_true rfl) ?_
  obtain ⟨q2_, q3_, qn_, qB_, q67_, q68_, qG_⟩ := id hP
  
  refine z_iload_1 dX0_follow_0 ?_
  refine z_istore_2 rfl dX0_follow_1 ?_
  refine z_aload_0 dX0_follow_2 ?_
  refine z_getI fl_X0_22 zk_8 rfl dX0_follow_3 ?_
  refine z_istore_3 rfl dX0_follow_6 ?_
  refine z_aload_0 dX0_follow_7 ?_
  refine z_lconst0 dX0_follow_8 ?_
  refine z_putJ fl_X0_29 zk_8 rfl dX0_follow_9 ?_
  refine z_aload_0 dX0_follow_12 ?_
  refine z_iconst dX0_follow_13 ?_
  refine z_putI fl_X0_36 zk_8 rfl dX0_follow_14 ?_
  refine z_iconst dX0_follow_17 ?_
  refine z_istore_4 rfl dX0_follow_18 ?_
  have K20 : ∀ (fuel_ : Nat) (a_ : Int) (l_ : Int) (i_ : Int) (N_ : zM), (n : Int) - i_ < (fuel_ : Int) → (0 ≤ i_ ∧ i_ ≤ n) → (a_ = (pth G n s_ B i_.toNat).1) → (l_ = (pth G n s_ B i_.toNat).2) → (B - l_ = (bst G n s_ B).2 - (bst G (n - i_.toNat) a_ l_).2) → ((∀ k_ : Nat, k_ ≠ 8 → k_ ≠ 69 → N_ k_ = M k_) ∧ (∀ j_ : Int, j_ ≠ 5 → j_ ≠ 7 → N_ 8 j_ = M 8 j_) ∧ N_ 8 5 = (bst G n s_ B).1 - (bst G (n - i_.toNat) a_ l_).1 ∧ N_ 8 7 = pmc G n s_ B i_.toNat ∧ (∀ j_ : Int, 0 ≤ j_ → j_ < i_ → N_ 69 j_ = pmv G n s_ B j_.toNat)) → Z RX0 cX0_follow 6 none 4 (zQ (RN (fun N => (∀ k_ : Nat, k_ ≠ 8 → k_ ≠ 69 → N k_ = M k_) ∧ N 8 5 = (bst G n s_ B).1 ∧ N 8 6 = (bst G n s_ B).2 ∧ N 8 7 = pmc G n s_ B n ∧ (∀ j_ : Int, 0 ≤ j_ → j_ < n → N 69 j_ = pmv G n s_ B j_.toNat)))) 20 [some (vR 8), some (vI s_), some (vI a_), some (vI l_), some (vI i_), none] [] (N_) := by
    intro fuel_
    induction fuel_ with
    | zero => intro a_ l_ i_ N_ hfuel_ hi_ ha_ hl_ hst_ hN_; exfalso; omega
    | succ fuel_ ih20 =>
      intro a_ l_ i_ N_ hfuel_ hi_ ha_ hl_ hst_ hN_
      have hpo_ := pth_ok (G := G) (n := n) hs qB_.1 i_.toNat
      rw [← ha_, ← hl_] at hpo_
      have hPN_ : PlOK N_ G n B := PlOK_congr hP (hN_.2.1 2 (by decide) (by decide)) (hN_.2.1 3 (by decide) (by decide)) (hN_.1 67 (by decide) (by decide)) (hN_.1 68 (by decide) (by decide))
      refine z_iload_4 dX0_follow_20 ?_
      refine z_aload_0 dX0_follow_22 ?_
      refine z_getIv (v := (n : Int)) fl_X0_18 zk_8 rfl (by rw [hPN_.1]) dX0_follow_23 ?_
      refine z_icmp_ge (tgt := 107) (by omega) (by omega) dX0_follow_26 (by decide) (fun c26 => ?_) (fun c26 => ?_)
      · refine z_aload_0 dX0_follow_107 ?_
        refine z_aload_0 dX0_follow_108 ?_
        refine z_getIv (v := B) fl_X0_22 zk_8 rfl (hPN_.2.1) dX0_follow_109 ?_
        refine z_iload_3 dX0_follow_112 ?_
        refine z_isub dX0_follow_113 ?_
        refine z_putI fl_X0_33 zk_8 rfl dX0_follow_114 ?_
        exact z_vret dX0_follow_117 (zRN (by
            have e0_ : i_.toNat = n := by omega
            rw [e0_, Nat.sub_self] at hst_ hN_
            have z1_ : (bst G 0 a_ l_).1 = 0 := rfl
            have z2_ : (bst G 0 a_ l_).2 = 0 := rfl
            exact ⟨fun k_ h1_ h2_ => by rw [zput_ne h1_]; exact hN_.1 k_ h1_ h2_, by rw [zput_ne2 (by decide), hN_.2.2.1]; omega, by rw [zput_eq]; omega, by rw [zput_ne2 (by decide)]; exact hN_.2.2.2.1, fun j_ h1_ h2_ => by rw [zput_ne (by decide)]; exact hN_.2.2.2.2 j_ h1_ (by omega)⟩))
      · refine z_aload_0 dX0_follow_29 ?_
        refine z_iload_4 dX0_follow_30 ?_
        refine z_iload_2 dX0_follow_32 ?_
        refine z_iload_3 dX0_follow_33 ?_
        refine z_cVI yv_X0_firstMove ml_X0_82 (c_X0_firstMove hPN_ (by omega) hpo_.1 hpo_.2) zk_8 rfl rfl (by decide) (Nat.le_of_ble_eq_true rfl) dX0_follow_34 ?_
        rw [show bM G (n - 1 - i_.toNat) a_ l_ = (pmv G n s_ B i_.toNat) by rw [ha_, hl_]; rfl]
        have hmo_ : okM a_ l_ (pmv G n s_ B i_.toNat) := by have := bM_ok (G := G) (k := n - 1 - i_.toNat) hpo_.1 hpo_.2.1; rw [show (pmv G n s_ B i_.toNat) = bM G (n - 1 - i_.toNat) a_ l_ by rw [ha_, hl_]; rfl]; exact this
        have hza_ := zabs_cases (pmv G n s_ B i_.toNat)
        refine z_istore_5 rfl dX0_follow_37 ?_
        have hm1_ : (pth G n s_ B (i_.toNat + 1)).1 = a_ + (pmv G n s_ B i_.toNat) := by rw [ha_]; rfl
        have hm2_ : (pth G n s_ B (i_.toNat + 1)).2 = l_ - zabs (pmv G n s_ B i_.toNat) := by rw [hl_]; rfl
        have hsm_ := pth_sum (G := G) (n := n) (p := s_) (l := B) (i := i_.toNat) (by omega)
        rw [hm1_, hm2_, ← ha_, ← hl_] at hsm_
        have hs1_ := congrArg Prod.fst hsm_
        have hs2_ := congrArg Prod.snd hsm_
        simp only [] at hs1_ hs2_
        refine z_aload_0 dX0_follow_39 ?_
        refine z_getR (r := 69) fl_X0_25 zk_8 rfl rfl dX0_follow_40 ?_
        refine z_iload_4 dX0_follow_43 ?_
        refine z_iload_5 dX0_follow_45 ?_
        refine z_iast (n := 8) zk_69 rfl (by omega) dX0_follow_47 ?_
        refine z_iload_2 dX0_follow_48 ?_
        refine z_iload_5 dX0_follow_49 ?_
        refine z_iadd dX0_follow_51 ?_
        refine z_istore_2 rfl dX0_follow_52 ?_
        refine z_iload_3 dX0_follow_53 ?_
        refine z_iload_5 dX0_follow_54 ?_
        refine z_mabs ml_X0_85 (by decide) (Nat.le_of_ble_eq_true rfl) (by omega) dX0_follow_56 ?_
        refine z_isub dX0_follow_59 ?_
        refine z_istore_3 rfl dX0_follow_60 ?_
        refine z_aload_0 dX0_follow_61 ?_
        refine z_dup rfl dX0_follow_62 ?_
        refine z_getJv (v := (N_ 8 5)) fl_X0_29 zk_8 rfl (by rw [zput_ne (by decide)]) dX0_follow_63 ?_
        refine z_aload_0 dX0_follow_66 ?_
        refine z_getR (r := 67) fl_X0_9 zk_8 rfl rfl dX0_follow_67 ?_
        refine z_iload_4 dX0_follow_70 ?_
        refine z_bipush dX0_follow_72 (by decide) ?_
        refine z_imul dX0_follow_74 ?_
        refine z_iload_2 dX0_follow_75 ?_
        refine z_iadd dX0_follow_76 ?_
        refine z_laldv (n := 200) (v := (G (n - 1 - i_.toNat) (a_ + (pmv G n s_ B i_.toNat)))) zk_67 rfl (by omega) (by rw [zput_ne (by decide)]; exact hPN_.2.2.2.2.1 i_ _ hi_.1 (by omega) hmo_.1) dX0_follow_77 ?_
        refine z_ladd dX0_follow_78 ?_
        refine z_putJ fl_X0_29 zk_8 rfl dX0_follow_79 ?_
        have J97 : ∀ (u_ : Int), (u_ = if (pmv G n s_ B i_.toNat) = 0 then 0 else 1) → Z RX0 cX0_follow 6 none 4 (zQ (RN (fun N => (∀ k_ : Nat, k_ ≠ 8 → k_ ≠ 69 → N k_ = M k_) ∧ N 8 5 = (bst G n s_ B).1 ∧ N 8 6 = (bst G n s_ B).2 ∧ N 8 7 = pmc G n s_ B n ∧ (∀ j_ : Int, 0 ≤ j_ → j_ < n → N 69 j_ = pmv G n s_ B j_.toNat)))) 97 [some (vR 8), some (vI s_), some (vI (a_ + (pmv G n s_ B i_.toNat))), some (vI (l_ - (zabs (pmv G n s_ B i_.toNat)))), some (vI i_), some (vI (pmv G n s_ B i_.toNat))] [vI u_, vI (N_ 8 7), vR 8] ((zput (zput N_ 69 i_ (pmv G n s_ B i_.toNat)) 8 5 ((N_ 8 5) + (G (n - 1 - i_.toNat) (a_ + (pmv G n s_ B i_.toNat)))))) := by
          intro u_ hu_
          refine z_iadd dX0_follow_97 ?_
          refine z_putI fl_X0_36 zk_8 rfl dX0_follow_98 ?_
          refine z_iinc_4 rfl dX0_follow_101 ?_
          refine z_goto (tgt := 20) dX0_follow_104 (by decide) ?_
          refine z_drop_5 ?_
          exact ih20 _ _ _ _ (by omega) (by omega) (by rw [nat_1 hi_.1]; exact hm1_.symm) (by rw [nat_1 hi_.1]; exact hm2_.symm) (by rw [nat_1 hi_.1]; omega) (by rw [nat_1 hi_.1]; refine ⟨fun k_ h1_ h2_ => by rw [zput_ne h1_, zput_ne h1_, zput_ne h2_]; exact hN_.1 k_ h1_ h2_, fun j_ h1_ h2_ => by rw [zput_ne2 h2_, zput_ne2 h1_, zput_ne (by decide)]; exact hN_.2.1 j_ h1_ h2_, by rw [zput_ne2 (by decide), zput_eq, hN_.2.2.1]; omega, by rw [zput_eq, hN_.2.2.2.1, pmc, hu_], fun j_ h1_ h2_ => ?_⟩; rw [zput_ne (by decide), zput_ne (by decide)]; by_cases e_ : j_ = i_; (rw [e_, zput_eq]); (rw [zput_ne2 e_]; exact hN_.2.2.2.2 j_ h1_ (by omega)))
        refine z_aload_0 dX0_follow_82 ?_
        refine z_dup rfl dX0_follow_83 ?_
        refine z_getIv (v := (N_ 8 7)) fl_X0_36 zk_8 rfl (by rw [zput_ne2 (by decide), zput_ne (by decide)]) dX0_follow_84 ?_
        refine z_iload_5 dX0_follow_87 ?_
        refine z_if_ne (tgt := 96) (by omega) dX0_follow_89 (by decide) (fun c89 => ?_) (fun c89 => ?_)
        · refine z_iconst dX0_follow_96 ?_
          exact J97 _ (by first | exact (if_pos (by omega)).symm | exact (if_neg (by omega)).symm)
        · refine z_iconst dX0_follow_92 ?_
          refine z_goto (tgt := 97) dX0_follow_93 (by decide) ?_
          exact J97 _ (by first | exact (if_pos (by omega)).symm | exact (if_neg (by omega)).symm)
  have L20 : ∀ (a_ : Int) (l_ : Int) (i_ : Int) (N_ : zM), (0 ≤ i_ ∧ i_ ≤ n) → (a_ = (pth G n s_ B i_.toNat).1) → (l_ = (pth G n s_ B i_.toNat).2) → (B - l_ = (bst G n s_ B).2 - (bst G (n - i_.toNat) a_ l_).2) → ((∀ k_ : Nat, k_ ≠ 8 → k_ ≠ 69 → N_ k_ = M k_) ∧ (∀ j_ : Int, j_ ≠ 5 → j_ ≠ 7 → N_ 8 j_ = M 8 j_) ∧ N_ 8 5 = (bst G n s_ B).1 - (bst G (n - i_.toNat) a_ l_).1 ∧ N_ 8 7 = pmc G n s_ B i_.toNat ∧ (∀ j_ : Int, 0 ≤ j_ → j_ < i_ → N_ 69 j_ = pmv G n s_ B j_.toNat)) → Z RX0 cX0_follow 6 none 4 (zQ (RN (fun N => (∀ k_ : Nat, k_ ≠ 8 → k_ ≠ 69 → N k_ = M k_) ∧ N 8 5 = (bst G n s_ B).1 ∧ N 8 6 = (bst G n s_ B).2 ∧ N 8 7 = pmc G n s_ B n ∧ (∀ j_ : Int, 0 ≤ j_ → j_ < n → N 69 j_ = pmv G n s_ B j_.toNat)))) 20 [some (vR 8), some (vI s_), some (vI a_), some (vI l_), some (vI i_), none] [] (N_) := fun a_ l_ i_ N_ hi_ ha_ hl_ hst_ hN_ => K20 (((n : Int) - i_).toNat + 1) a_ l_ i_ N_ (by omega) hi_ ha_ hl_ hst_ hN_
  exact L20 _ _ _ _ (by omega) (by rfl) (by exact q3_) (by rw [q3_]; show B - B = (bst G n s_ B).2 - (bst G n s_ B).2; omega) (by rw [q3_]; exact ⟨fun k_ h1_ h2_ => by rw [zput_ne h1_, zput_ne h1_], fun j_ h1_ h2_ => by rw [zput_ne2 h2_, zput_ne2 h1_], by rw [zput_ne2 (by decide), zput_eq]; show (0 : Int) = (bst G n s_ B).1 - (bst G n s_ B).1; omega, by rw [zput_eq]; rfl, fun j_ h1_ h2_ => by exfalso; omega⟩)

theorem c_X0_make {M : zM} {n_ : Int} {w : Nat} (hw : isW w) (hO : WOK M w) (hn_ : 1 ≤ n_ ∧ n_ ≤ 8) : Call yX0_make cX0_make 4 (some .long) 5 [vR 8, vR w, vI n_] (M) (RJ (bst (GW (M (10 + w)) (M w 6).toNat (gW M w) (M w 0 + n_)) n_.toNat (M w 1 + 12) (leftS (M (10 + w)))).1 (fun N => (∀ k_ : Nat, k_ ≠ 8 → k_ ≠ 67 → k_ ≠ 68 → k_ ≠ 69 → N k_ = M k_) ∧ N 8 5 = (bst (GW (M (10 + w)) (M w 6).toNat (gW M w) (M w 0 + n_)) n_.toNat (M w 1 + 12) (leftS (M (10 + w)))).1 ∧ N 8 6 = (bst (GW (M (10 + w)) (M w 6).toNat (gW M w) (M w 0 + n_)) n_.toNat (M w 1 + 12) (leftS (M (10 + w)))).2 ∧ N 8 7 = pmc (GW (M (10 + w)) (M w 6).toNat (gW M w) (M w 0 + n_)) n_.toNat (M w 1 + 12) (leftS (M (10 + w))) n_.toNat ∧ (∀ j_ : Int, 0 ≤ j_ → j_ < n_ → N 69 j_ = pmv (GW (M (10 + w)) (M w 6).toNat (gW M w) (M w 0 + n_)) n_.toNat (M w 1 + 12) (leftS (M (10 + w))) j_.toNat))) := by
  refine Call.of2 (own := RX0) (lv0 := [some (vR 8), some (vR w), some (vI n_), none]) rfl (by decide) rfl (Nat.le_of_ble_eq_true rfl) ?_
  have hw3_ : 1 ≤ w ∧ w ≤ 3 := by rcases hw with rfl | rfl | rfl <;> decide
  obtain ⟨ht, hh, hn, hp⟩ := id hO
  have hB_ := leftS_le hp
  have hGr_ : ∀ (k : Nat) (p : Int), 0 ≤ p ∧ p ≤ 24 → -100000000 ≤ (GW (M (10 + w)) (M w 6).toNat (gW M w) (M w 0 + n_)) k p ∧ (GW (M (10 + w)) (M w 6).toNat (gW M w) (M w 0 + n_)) k p ≤ 100000000 := fun k p _ => worthS_le hp (WN_all hn)
  
  refine z_aload_0 dX0_make_0 ?_
  refine z_iload_2 dX0_make_1 ?_
  refine z_bipush dX0_make_2 (by decide) ?_
  refine z_mmin ml_X0_39 (by decide) (Nat.le_of_ble_eq_true rfl) (by omega) (by decide) dX0_make_4 ?_
  refine z_topI (show (if 8 < n_ then 8 else n_) = n_ from if_neg (by omega)) ?_
  refine z_putI fl_X0_18 zk_8 rfl dX0_make_7 ?_
  refine z_aload_0 dX0_make_10 ?_
  refine z_aload_1 dX0_make_11 ?_
  refine z_cVI yv_X5_stepsLeft ml_X0_45 (c_X5_stepsLeft hw (by rw [zput_ne (by omega)]; exact hp)) (zw_k hw) rfl rfl (by decide) (Nat.le_of_ble_eq_true rfl) dX0_make_12 ?_
  rw [zput_ne (show 10 + w ≠ 8 by omega)]
  refine z_bipush dX0_make_15 (by decide) ?_
  refine z_mmin ml_X0_39 (by decide) (Nat.le_of_ble_eq_true rfl) (by omega) (by decide) dX0_make_17 ?_
  refine z_topI (show (if 60 < (leftS (M (10 + w))) then 60 else (leftS (M (10 + w)))) = (leftS (M (10 + w))) from if_neg (by omega)) ?_
  refine z_putI fl_X0_22 zk_8 rfl dX0_make_20 ?_
  refine z_aload_0 dX0_make_23 ?_
  refine z_getIv (v := n_) fl_X0_18 zk_8 rfl (by rw [zput_ne2 (by decide), zput_eq]) dX0_make_24 ?_
  refine z_iconst dX0_make_27 ?_
  refine z_isub dX0_make_28 ?_
  refine z_istore_3 rfl dX0_make_29 ?_
  have K30 : ∀ (fuel_ : Nat) (d_ : Int) (N_ : zM), d_ + 1 < (fuel_ : Int) → (-1 ≤ d_ ∧ d_ ≤ n_ - 1) → ((∀ k_ : Nat, k_ ≠ 8 → k_ ≠ 67 → k_ ≠ 68 → N_ k_ = M k_) ∧ N_ 8 2 = n_ ∧ N_ 8 3 = (leftS (M (10 + w)))) → (∀ e_ p_ : Int, d_ < e_ → e_ < n_ → 0 ≤ p_ ∧ p_ ≤ 24 → N_ 67 (e_ * 25 + p_) = (GW (M (10 + w)) (M w 6).toNat (gW M w) (M w 0 + n_)) (n_.toNat - 1 - e_.toNat) p_) → (∀ e_ p_ l_ : Int, d_ < e_ → e_ < n_ → 0 ≤ p_ ∧ p_ ≤ 24 → 0 ≤ l_ → l_ ≤ (leftS (M (10 + w))) → N_ 68 ((e_ * 25 + p_) * 61 + l_) = bE (GW (M (10 + w)) (M w 6).toNat (gW M w) (M w 0 + n_)) (n_.toNat - e_.toNat) p_ l_) → Z RX0 cX0_make 4 (some .long) 5 (zQ (RJ (bst (GW (M (10 + w)) (M w 6).toNat (gW M w) (M w 0 + n_)) n_.toNat (M w 1 + 12) (leftS (M (10 + w)))).1 (fun N => (∀ k_ : Nat, k_ ≠ 8 → k_ ≠ 67 → k_ ≠ 68 → k_ ≠ 69 → N k_ = M k_) ∧ N 8 5 = (bst (GW (M (10 + w)) (M w 6).toNat (gW M w) (M w 0 + n_)) n_.toNat (M w 1 + 12) (leftS (M (10 + w)))).1 ∧ N 8 6 = (bst (GW (M (10 + w)) (M w 6).toNat (gW M w) (M w 0 + n_)) n_.toNat (M w 1 + 12) (leftS (M (10 + w)))).2 ∧ N 8 7 = pmc (GW (M (10 + w)) (M w 6).toNat (gW M w) (M w 0 + n_)) n_.toNat (M w 1 + 12) (leftS (M (10 + w))) n_.toNat ∧ (∀ j_ : Int, 0 ≤ j_ → j_ < n_ → N 69 j_ = pmv (GW (M (10 + w)) (M w 6).toNat (gW M w) (M w 0 + n_)) n_.toNat (M w 1 + 12) (leftS (M (10 + w))) j_.toNat)))) 30 [some (vR 8), some (vR w), some (vI n_), some (vI d_)] [] (N_) := by
    intro fuel_
    induction fuel_ with
    | zero => intro d_ N_ hfuel_ hd_ hN_ hNG_ hNV_; exfalso; omega
    | succ fuel_ ih30 =>
      intro d_ N_ hfuel_ hd_ hN_ hNG_ hNV_
      have nk_ : ∀ k_ : Nat, k_ ≠ 8 → k_ ≤ 55 → N_ k_ = M k_ := fun k_ h0_ h_ => hN_.1 k_ h0_ (by omega) (by omega)
      have nw_ : N_ w = M w := nk_ w (by omega) (by omega)
      have nwn_ : WN N_ w := by
        refine ⟨by rw [nw_]; exact hn.1, fun i_ hi_ => ?_⟩
        rw [nw_] at hi_
        have h12_ := hn.1
        rw [nk_ _ (by omega) (by omega)]
        exact hn.2 i_ hi_
      have nws_ : ∀ day_ h_ : Int, worthS (N_ (10 + w)) (N_ w 6).toNat (gW N_ w) day_ h_ = worthS (M (10 + w)) (M w 6).toNat (gW M w) day_ h_ := fun day_ h_ => by
        have h12_ := hn.1
        unfold worthS
        rw [nk_ (10 + w) (by omega) (by omega), nw_, danger_congr (g2 := gW M w) (fun i hi f _ _ => by
          show N_ (12 * w + 8 + i) f = M (12 * w + 8 + i) f
          rw [nk_ _ (by omega) (by omega)])]
      obtain ⟨n2a_, n2b_⟩ := hN_.2
      refine z_iload_3 dX0_make_30 ?_
      refine z_if_lt (tgt := 51) (by omega) dX0_make_31 (by decide) (fun c31 => ?_) (fun c31 => ?_)
      · have hPl_ : PlOK N_ (GW (M (10 + w)) (M w 6).toNat (gW M w) (M w 0 + n_)) n_.toNat (leftS (M (10 + w))) := ⟨by omega, n2b_, by omega, hB_, fun e_ p_ h0_ h1_ h2_ => hNG_ e_ p_ (by omega) (by omega) h2_, fun e_ p_ l_ h0_ h1_ h2_ h3_ h4_ => hNV_ e_ p_ l_ (by omega) (by omega) h2_ h3_ h4_, hGr_⟩
        refine z_aload_0 dX0_make_51 ?_
        refine z_aload_1 dX0_make_52 ?_
        refine z_getIv (v := (M w 1)) fl_X0_59 (zw_k hw) rfl (by rw [nw_]) dX0_make_53 ?_
        refine z_bipush dX0_make_56 (by decide) ?_
        refine z_iadd dX0_make_58 ?_
        refine z_rVN yv_X0_follow ml_X0_62 (c_X0_follow (M := N_) (G := (GW (M (10 + w)) (M w 6).toNat (gW M w) (M w 0 + n_))) (n := n_.toNat) (B := (leftS (M (10 + w)))) hPl_ (by omega)) zk_8 rfl rfl (by decide) (Nat.le_of_ble_eq_true rfl) dX0_make_59 (fun F_ hF_ => ?_)
        refine z_aload_0 dX0_make_62 ?_
        refine z_getJv (v := (bst (GW (M (10 + w)) (M w 6).toNat (gW M w) (M w 0 + n_)) n_.toNat (M w 1 + 12) (leftS (M (10 + w)))).1) fl_X0_29 zk_8 rfl (hF_.2.1) dX0_make_63 ?_
        exact z_lret dX0_make_66 (zRJ rfl ⟨fun k_ h0_ h1_ h2_ h3_ => by rw [hF_.1 k_ h0_ h3_]; exact hN_.1 k_ h0_ h1_ h2_, hF_.2.1, hF_.2.2.1, hF_.2.2.2.1, fun j_ h1_ h2_ => hF_.2.2.2.2 j_ h1_ (by omega)⟩)
      · refine z_aload_0 dX0_make_34 ?_
        refine z_aload_1 dX0_make_35 ?_
        refine z_iload_3 dX0_make_36 ?_
        refine z_rVN yv_X0_stay ml_X0_51 (c_X0_stay (M := N_) hw nwn_ (by rw [nk_ _ (by omega) (by omega)]; exact hp) (by rw [nw_]; exact ht) (by omega) (by omega) (by omega)) zk_8 rfl rfl (by decide) (Nat.le_of_ble_eq_true rfl) dX0_make_37 (fun S_ hs_ => ?_)
        obtain ⟨s1_, s2_, s3_, s4_⟩ := hs_
        have s8_ : S_ 8 = N_ 8 := s1_ 8 (by decide) (by decide)
        have hkd_ : n_.toNat - d_.toNat = (n_.toNat - 1 - d_.toNat) + 1 := by omega
        have s3b_ : ∀ p_ l_ : Int, 0 ≤ p_ ∧ p_ ≤ 24 → 0 ≤ l_ → l_ ≤ (leftS (M (10 + w))) → S_ 68 (ixP d_ p_ l_) = (GW (M (10 + w)) (M w 6).toNat (gW M w) (M w 0 + n_)) (n_.toNat - 1 - d_.toNat) p_ * 64 + bE (GW (M (10 + w)) (M w 6).toNat (gW M w) (M w 0 + n_)) (n_.toNat - 1 - d_.toNat) p_ l_ := fun p_ l_ h1_ h2_ h3_ => by
          show S_ 68 ((d_ * 25 + p_) * 61 + l_) = _
          rw [s3_ p_ l_ (by omega) h2_ (by rw [hN_.2.2]; exact h3_), nws_, nw_, show M w 0 + 1 + d_ = M w 0 + n_ - ((n_.toNat - 1 - d_.toNat : Nat) : Int) by omega]
          congr 1
          unfold vF
          rw [hN_.2.1]
          by_cases e_ : d_ + 1 < n_
          · rw [if_pos e_, hNV_ (d_ + 1) p_ l_ (by omega) e_ h1_ h2_ h3_, show n_.toNat - (d_ + 1).toNat = n_.toNat - 1 - d_.toNat by omega]
          · rw [if_neg e_, show n_.toNat - 1 - d_.toNat = 0 by omega, bE_0]
        have srg_ : rngV (S_ 68) d_ (S_ 8 3) := by
          intro p_ l_ h1_ h2_ h3_
          rw [s8_, hN_.2.2] at h3_
          rw [s3b_ p_ l_ h1_ h2_ h3_]
          have r1_ := hGr_ (n_.toNat - 1 - d_.toNat) p_ h1_
          have r2_ := bE_r (k := n_.toNat - 1 - d_.toNat) (p := p_) (l := l_) hGr_ (by omega) h1_ (by omega)
          omega
        refine z_aload_0 dX0_make_40 ?_
        refine z_iload_3 dX0_make_41 ?_
        refine z_cVN yv_X0_spread ml_X0_55 (c_X0_spread (M := S_) (by omega) (by rw [s8_]; omega) srg_) zk_8 rfl rfl (by decide) (Nat.le_of_ble_eq_true rfl) dX0_make_42 ?_
        refine z_iinc_3 rfl dX0_make_45 ?_
        refine z_goto (tgt := 30) dX0_make_48 (by decide) ?_
        exact ih30 _ _ (by omega) (by omega) (by rw [s8_, hN_.2.2]; exact ⟨fun k_ h0_ h1_ h2_ => by rw [zrow_ne h2_, s1_ k_ h1_ h2_]; exact hN_.1 k_ h0_ h1_ h2_, by rw [zrow_ne (by decide), s8_]; exact hN_.2.1, by rw [zrow_ne (by decide), s8_]; exact hN_.2.2⟩) (by intro e_ p_ h1_ h2_ h3_; rw [zrow_ne (by decide), s2_]; unfold zfillA; by_cases q_ : e_ = d_; (subst q_; rw [if_pos (by omega)]; dsimp only; rw [nws_, show e_ * 25 + p_ - e_ * 25 = p_ by omega, nw_]; show worthS _ _ _ (M w 0 + 1 + e_) _ = worthS _ _ _ (M w 0 + n_ - ((n_.toNat - 1 - e_.toNat : Nat) : Int)) _; rw [show M w 0 + 1 + e_ = M w 0 + n_ - ((n_.toNat - 1 - e_.toNat : Nat) : Int) by omega]); (rw [if_neg (by omega)]; exact hNG_ e_ p_ (by omega) h2_ h3_)) (by intro e_ p_ l_ h1_ h2_ h3_ h4_ h5_; rw [zrow_eq]; by_cases q_ : e_ = d_; (subst q_; rw [hkd_, s8_, hN_.2.2]; exact sprR_bE (by omega) s3b_ p_ l_ h3_ h4_ h5_); (unfold sprR; rw [spD_far (by rw [s8_, hN_.2.2]; omega) (by omega) 24 (by decide), spU_far (by rw [s8_, hN_.2.2]; omega) (by omega) 24 (by decide), s4_ _ (by omega)]; exact hNV_ e_ p_ l_ (by omega) h2_ h3_ h4_ h5_))
  have L30 : ∀ (d_ : Int) (N_ : zM), (-1 ≤ d_ ∧ d_ ≤ n_ - 1) → ((∀ k_ : Nat, k_ ≠ 8 → k_ ≠ 67 → k_ ≠ 68 → N_ k_ = M k_) ∧ N_ 8 2 = n_ ∧ N_ 8 3 = (leftS (M (10 + w)))) → (∀ e_ p_ : Int, d_ < e_ → e_ < n_ → 0 ≤ p_ ∧ p_ ≤ 24 → N_ 67 (e_ * 25 + p_) = (GW (M (10 + w)) (M w 6).toNat (gW M w) (M w 0 + n_)) (n_.toNat - 1 - e_.toNat) p_) → (∀ e_ p_ l_ : Int, d_ < e_ → e_ < n_ → 0 ≤ p_ ∧ p_ ≤ 24 → 0 ≤ l_ → l_ ≤ (leftS (M (10 + w))) → N_ 68 ((e_ * 25 + p_) * 61 + l_) = bE (GW (M (10 + w)) (M w 6).toNat (gW M w) (M w 0 + n_)) (n_.toNat - e_.toNat) p_ l_) → Z RX0 cX0_make 4 (some .long) 5 (zQ (RJ (bst (GW (M (10 + w)) (M w 6).toNat (gW M w) (M w 0 + n_)) n_.toNat (M w 1 + 12) (leftS (M (10 + w)))).1 (fun N => (∀ k_ : Nat, k_ ≠ 8 → k_ ≠ 67 → k_ ≠ 68 → k_ ≠ 69 → N k_ = M k_) ∧ N 8 5 = (bst (GW (M (10 + w)) (M w 6).toNat (gW M w) (M w 0 + n_)) n_.toNat (M w 1 + 12) (leftS (M (10 + w)))).1 ∧ N 8 6 = (bst (GW (M (10 + w)) (M w 6).toNat (gW M w) (M w 0 + n_)) n_.toNat (M w 1 + 12) (leftS (M (10 + w)))).2 ∧ N 8 7 = pmc (GW (M (10 + w)) (M w 6).toNat (gW M w) (M w 0 + n_)) n_.toNat (M w 1 + 12) (leftS (M (10 + w))) n_.toNat ∧ (∀ j_ : Int, 0 ≤ j_ → j_ < n_ → N 69 j_ = pmv (GW (M (10 + w)) (M w 6).toNat (gW M w) (M w 0 + n_)) n_.toNat (M w 1 + 12) (leftS (M (10 + w))) j_.toNat)))) 30 [some (vR 8), some (vR w), some (vI n_), some (vI d_)] [] (N_) := fun d_ N_ hd_ hN_ hNG_ hNV_ => K30 ((d_ + 1).toNat + 1) d_ N_ (by omega) hd_ hN_ hNG_ hNV_
  exact L30 _ _ (by omega) (by exact ⟨fun k_ h0_ h1_ h2_ => by rw [zput_ne h0_, zput_ne h0_], by rw [zput_ne2 (by decide), zput_eq], zput_eq⟩) (by intro e_ p_ h1_ h2_ h3_; exfalso; omega) (by intro e_ p_ l_ h1_ h2_ h3_; exfalso; omega)
