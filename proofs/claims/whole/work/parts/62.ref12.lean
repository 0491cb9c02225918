theorem RfL_weak {N : zM} {G : Nat → Int → Int} {p : Int → Int} {left c c2 : Int} (h : RfL N G p left c) (hc : c2 ≤ c) : RfL N G p left c2 := by
  intro e h_ f h1 h2 h3 h4
  refine h e h_ f h1 ?_ h3 h4
  rcases h2 with h2 | h2
  · exact Or.inl h2
  · exact Or.inr ⟨h2.1, by omega⟩
theorem out86_76 {N M : zM} (h : out86 N M) : N 76 = M 76 := h 76 (by decide) (by decide) (by decide) (by decide)
theorem out86_rf {M : zM} : out86 M M := fun _ _ _ _ _ => rfl
def chgG (g : Nat → Int → Int) (w : Nat) (c : Int) : Nat → Int → Int := fun i f => if i = w ∧ f = 4 then c else g i f
def chI (c s r : Int) : Int := if behindS c s r < 0 then c else behindS c s r
theorem chI_le {c s r : Int} (hc : 0 ≤ c ∧ c ≤ 1000000) (hs : 0 ≤ s ∧ s ≤ 100) : 0 ≤ chI c s r ∧ chI c s r ≤ 1000000 := by
  have := behindS_le (r := r) hc hs
  unfold chI
  split <;> omega
def knowA (p : Int → Int) (nW : Nat) (g : Nat → Int → Int) (t : Int) (n : Nat) (x l : Int) (w : Nat) (sr : Int) : Int := Int.tdiv ((bst (GW p nW (chgG g w (chI (g w 4) sr 1)) t) n x l).1 * tellS (g w 4) sr + (bst (GW p nW (chgG g w (chI (g w 4) sr 0)) t) n x l).1 * (1000000 - tellS (g w 4) sr)) 1000000 - (bst (GW p nW g t) n x l).1
theorem GW_congr {p p2 : Int → Int} {nW : Nat} {g g2 : Nat → Int → Int} {t : Int} (hp : ∀ j : Int, 0 ≤ j → j ≤ 5 → p j = p2 j) (hg : ∀ i, i < nW → ∀ f, 0 ≤ f → f ≤ 5 → g i f = g2 i f) : GW p nW g t = GW p2 nW g2 t := by
  funext k x
  unfold GW worthS useS
  rw [danger_congr hg, hp 1 (by decide) (by decide), hp 2 (by decide) (by decide), hp 3 (by decide) (by decide)]
theorem GW_le {p : Int → Int} {nW : Nat} {g : Nat → Int → Int} {t : Int} (hp : pOK p) (hg : ∀ i, i < nW → wOK (g i)) : ∀ (k : Nat) (x : Int), 0 ≤ x ∧ x ≤ 24 → -100000000 ≤ GW p nW g t k x ∧ GW p nW g t k x ≤ 100000000 := fun _ _ _ => worthS_le hp hg
theorem gS_chg {s : Int → Int} {w v : Int} (hw : 0 ≤ w) : ∀ i : Nat, ∀ f, 0 ≤ f → f ≤ 5 → gS (zup s (12 + 6 * w + 4) v) i f = chgG (gS s) w.toNat v i f := by
  intro i f h0 h5
  show zup s (12 + 6 * w + 4) v (12 + 6 * (i : Int) + f) = if i = w.toNat ∧ f = 4 then v else s (12 + 6 * (i : Int) + f)
  unfold zup
  by_cases h : i = w.toNat ∧ f = 4
  · rw [if_pos h, if_pos (by omega)]
  · rw [if_neg h, if_neg (by omega)]
theorem SN_chg {s : Int → Int} {w v : Int} (h : SN s) (hw : 0 ≤ w ∧ w ≤ 11) (hv : 0 ≤ v ∧ v ≤ 1000000) : SN (zup s (12 + 6 * w + 4) v) := by
  refine ⟨by rw [zup_ne (by omega)]; exact h.1, fun i hi => ?_⟩
  rw [zup_ne (by omega)] at hi
  have h2 := h.2 i hi
  unfold wOK at h2 ⊢
  have e := gS_chg (s := s) (v := v) hw.1 i
  rw [e 0 (by decide) (by decide), e 1 (by decide) (by decide), e 2 (by decide) (by decide), e 3 (by decide) (by decide), e 4 (by decide) (by decide), e 5 (by decide) (by decide)]
  unfold chgG
  rw [if_neg (show ¬ (i = w.toNat ∧ (0 : Int) = 4) by omega), if_neg (show ¬ (i = w.toNat ∧ (1 : Int) = 4) by omega), if_neg (show ¬ (i = w.toNat ∧ (2 : Int) = 4) by omega), if_neg (show ¬ (i = w.toNat ∧ (3 : Int) = 4) by omega), if_neg (show ¬ (i = w.toNat ∧ (5 : Int) = 4) by omega)]
  refine ⟨h2.1, h2.2.1, h2.2.2.1, h2.2.2.2.1, ?_, h2.2.2.2.2.2⟩
  split
  · exact hv
  · exact h2.2.2.2.2.1
theorem pOK_far {s : Int → Int} {j v : Int} (hj : 7 < j) (h : pOK (pS s)) : pOK (pS (zup s j v)) := pOK_zup (Or.inr hj) h
theorem c_X7_findBest {M : zM} {n_ : Int} (hn : SN (M 76)) (hp : pOK (pS (M 76))) (ht : 0 ≤ M 76 0 ∧ M 76 0 ≤ 2000) (hn_ : 1 ≤ n_ ∧ n_ ≤ 8) : Call yX7_findBest cX7_findBest 5 none 5 [vR 75, vI n_] (M) (RN (fun N => out86 N M ∧ RfL N (GW (pS (M 76)) (M 76 10).toNat (gS (M 76)) (M 76 0 + n_)) (pS (M 76)) (n_ + 1) 0)) := by
  refine Call.of2 (own := RX7) (lv0 := [some (vR 75), some (vI n_), none, none, none]) rfl (by decide) rfl (Nat.le_of_ble_eq_true rfl) ?_
  obtain ⟨⟨p00, p01⟩, ⟨p10, p11⟩, ⟨p20, p21⟩, ⟨p30, p31⟩, ⟨p40, p41⟩, ⟨p50, p51⟩⟩ := pOK_s hp
  obtain ⟨⟨hn0_, hn1_⟩, hn2_⟩ := id hn
  have hGr_ : ∀ (k : Nat) (p : Int), 0 ≤ p ∧ p ≤ 24 → -100000000 ≤ (GW (pS (M 76)) (M 76 10).toNat (gS (M 76)) (M 76 0 + n_)) k p ∧ (GW (pS (M 76)) (M 76 10).toNat (gS (M 76)) (M 76 0 + n_)) k p ≤ 100000000 := GW_le hp (SN_all hn)
  refine z_iconst dX7_findBest_0 ?_
  refine z_istore_2 rfl dX7_findBest_1 ?_
  have K2 : ∀ (fuel_ : Nat) (e_ : Int) (N_ : zM), n_ + 1 - e_ < (fuel_ : Int) → (1 ≤ e_ ∧ e_ ≤ n_ + 1) → (out86 N_ M) → (RfL N_ (GW (pS (M 76)) (M 76 10).toNat (gS (M 76)) (M 76 0 + n_)) (pS (M 76)) e_ 0) → Z RX7 cX7_findBest 5 none 5 (zQ (RN (fun N => out86 N M ∧ RfL N (GW (pS (M 76)) (M 76 10).toNat (gS (M 76)) (M 76 0 + n_)) (pS (M 76)) (n_ + 1) 0))) 2 [some (vR 75), some (vI n_), some (vI e_), none, none] [] (N_) := by
    intro fuel_
    induction fuel_ with
    | zero => intro e_ N_ hfuel_ he_ hO_ hR_; exfalso; omega
    | succ fuel_ ih2 =>
      intro e_ N_ hfuel_ he_ hO_ hR_
      refine z_iload_2 dX7_findBest_2 ?_
      refine z_iload_1 dX7_findBest_3 ?_
      refine z_icmp_gt (tgt := 91) (by omega) (by omega) dX7_findBest_4 (by decide) (fun c4 => ?_) (fun c4 => ?_)
      · exact z_vret dX7_findBest_91 (zRN ⟨hO_, by rw [show n_ + 1 = e_ by omega]; exact hR_⟩)
      · refine z_bipush dX7_findBest_7 (by decide) ?_
        refine z_istore_3 rfl dX7_findBest_9 ?_
        have K10 : ∀ (fuel_ : Nat) (h_ : Int) (P_ : zM), 13 - h_ < (fuel_ : Int) → (-12 ≤ h_ ∧ h_ ≤ 13) → (P_ = zrow N_ 86 (zfillA ((GW (pS (M 76)) (M 76 10).toNat (gS (M 76)) (M 76 0 + n_)) (e_.toNat - 1)) (N_ 86) 0 (h_ + 12))) → Z RX7 cX7_findBest 5 none 5 (zQ (RN (fun N => out86 N M ∧ RfL N (GW (pS (M 76)) (M 76 10).toNat (gS (M 76)) (M 76 0 + n_)) (pS (M 76)) (n_ + 1) 0))) 10 [some (vR 75), some (vI n_), some (vI e_), some (vI h_), none] [] (P_) := by
          intro fuel_
          induction fuel_ with
          | zero => intro h_ P_ hfuel_ hh_ hP_; exfalso; omega
          | succ fuel_ ih10 =>
            intro h_ P_ hfuel_ hh_ hP_
            have t76_ : P_ 76 = M 76 := by rw [hP_, zrow_ne (by decide)]; exact out86_76 hO_
            refine z_iload_3 dX7_findBest_10 ?_
            refine z_bipush dX7_findBest_11 (by decide) ?_
            refine z_icmp_gt (tgt := 46) (by omega) (by decide) dX7_findBest_13 (by decide) (fun c13 => ?_) (fun c13 => ?_)
            · refine z_bipush dX7_findBest_46 (by decide) ?_
              refine z_istore_3 rfl dX7_findBest_48 ?_
              have K49 : ∀ (fuel_ : Nat) (h_ : Int) (R_ : zM), 13 - h_ < (fuel_ : Int) → (-12 ≤ h_ ∧ h_ ≤ 13) → (out86 R_ M) → (RfL R_ (GW (pS (M 76)) (M 76 10).toNat (gS (M 76)) (M 76 0 + n_)) (pS (M 76)) e_ (61 * (h_ + 12))) → (∀ x_ : Int, 0 ≤ x_ ∧ x_ ≤ 24 → R_ 86 x_ = ((GW (pS (M 76)) (M 76 10).toNat (gS (M 76)) (M 76 0 + n_)) (e_.toNat - 1)) x_) → Z RX7 cX7_findBest 5 none 5 (zQ (RN (fun N => out86 N M ∧ RfL N (GW (pS (M 76)) (M 76 10).toNat (gS (M 76)) (M 76 0 + n_)) (pS (M 76)) (n_ + 1) 0))) 49 [some (vR 75), some (vI n_), some (vI e_), some (vI h_), none] [] (R_) := by
                intro fuel_
                induction fuel_ with
                | zero => intro h_ R_ hfuel_ hh_ hO2_ hR2_ hD_; exfalso; omega
                | succ fuel_ ih49 =>
                  intro h_ R_ hfuel_ hh_ hO2_ hR2_ hD_
                  refine z_iload_3 dX7_findBest_49 ?_
                  refine z_bipush dX7_findBest_50 (by decide) ?_
                  refine z_icmp_gt (tgt := 85) (by omega) (by decide) dX7_findBest_52 (by decide) (fun c52 => ?_) (fun c52 => ?_)
                  · refine z_iinc_2 rfl dX7_findBest_85 ?_
                    refine z_goto (tgt := 2) dX7_findBest_88 (by decide) ?_
                    refine z_drop_3 ?_
                    exact ih2 _ _ (by omega) (by omega) (by exact hO2_) (by exact RfL_up (RfL_weak hR2_ (by omega)))
                  · refine z_iconst dX7_findBest_55 ?_
                    refine z_istore_4 rfl dX7_findBest_56 ?_
                    have K58 : ∀ (fuel_ : Nat) (f_ : Int) (T_ : zM), 61 - f_ < (fuel_ : Int) → (0 ≤ f_ ∧ f_ ≤ 61) → (out86 T_ M) → (RfL T_ (GW (pS (M 76)) (M 76 10).toNat (gS (M 76)) (M 76 0 + n_)) (pS (M 76)) e_ (61 * (h_ + 12) + f_)) → (∀ x_ : Int, 0 ≤ x_ ∧ x_ ≤ 24 → T_ 86 x_ = ((GW (pS (M 76)) (M 76 10).toNat (gS (M 76)) (M 76 0 + n_)) (e_.toNat - 1)) x_) → Z RX7 cX7_findBest 5 none 5 (zQ (RN (fun N => out86 N M ∧ RfL N (GW (pS (M 76)) (M 76 10).toNat (gS (M 76)) (M 76 0 + n_)) (pS (M 76)) (n_ + 1) 0))) 58 [some (vR 75), some (vI n_), some (vI e_), some (vI h_), some (vI f_)] [] (T_) := by
                      intro fuel_
                      induction fuel_ with
                      | zero => intro f_ T_ hfuel_ hf_ hO3_ hR3_ hD2_; exfalso; omega
                      | succ fuel_ ih58 =>
                        intro f_ T_ hfuel_ hf_ hO3_ hR3_ hD2_
                        have t76_ : T_ 76 = M 76 := out86_76 hO3_
                        refine z_iload_4 dX7_findBest_58 ?_
                        refine z_bipush dX7_findBest_60 (by decide) ?_
                        refine z_icmp_gt (tgt := 79) (by omega) (by decide) dX7_findBest_62 (by decide) (fun c62 => ?_) (fun c62 => ?_)
                        · refine z_iinc_3 rfl dX7_findBest_79 ?_
                          refine z_goto (tgt := 49) dX7_findBest_82 (by decide) ?_
                          refine z_drop_4 ?_
                          exact ih49 _ _ (by omega) (by omega) (by exact hO3_) (by exact RfL_weak hR3_ (by omega)) (by exact hD2_)
                        · refine z_aload_0 dX7_findBest_65 ?_
                          refine z_iload_2 dX7_findBest_66 ?_
                          refine z_iload_3 dX7_findBest_67 ?_
                          refine z_iload_4 dX7_findBest_68 ?_
                          refine z_cVN yv_X7_findOne ml_X7_255 (c_X7_findOne (M := T_) (G := (GW (pS (M 76)) (M 76 10).toNat (gS (M 76)) (M 76 0 + n_))) hGr_ (by rw [t76_]; exact hp) (by omega) (by omega) (by omega) hD2_ (by rw [t76_]; exact RfL_weak hR3_ (by omega))) zk_75 rfl rfl (by decide) (Nat.le_of_ble_eq_true rfl) dX7_findBest_70 ?_
                          rw [t76_]
                          refine z_iinc_4 rfl dX7_findBest_73 ?_
                          refine z_goto (tgt := 58) dX7_findBest_76 (by decide) ?_
                          exact ih58 _ _ (by omega) (by omega) (by intro k_ h1_ h2_ h3_ h4_; unfold upd1; rw [zput_ne h3_, zput_ne h2_, zput_ne h1_]; exact hO3_ k_ h1_ h2_ h3_ h4_) (by exact RfL_one (p := pS (M 76)) (by omega) (by omega) (by omega) hR3_) (by intro x_ hx_; unfold upd1; rw [zput_ne (by decide), zput_ne (by decide), zput_ne (by decide)]; exact hD2_ x_ hx_)
                    have L58 : ∀ (f_ : Int) (T_ : zM), (0 ≤ f_ ∧ f_ ≤ 61) → (out86 T_ M) → (RfL T_ (GW (pS (M 76)) (M 76 10).toNat (gS (M 76)) (M 76 0 + n_)) (pS (M 76)) e_ (61 * (h_ + 12) + f_)) → (∀ x_ : Int, 0 ≤ x_ ∧ x_ ≤ 24 → T_ 86 x_ = ((GW (pS (M 76)) (M 76 10).toNat (gS (M 76)) (M 76 0 + n_)) (e_.toNat - 1)) x_) → Z RX7 cX7_findBest 5 none 5 (zQ (RN (fun N => out86 N M ∧ RfL N (GW (pS (M 76)) (M 76 10).toNat (gS (M 76)) (M 76 0 + n_)) (pS (M 76)) (n_ + 1) 0))) 58 [some (vR 75), some (vI n_), some (vI e_), some (vI h_), some (vI f_)] [] (T_) := fun f_ T_ hf_ hO3_ hR3_ hD2_ => K58 ((61 - f_).toNat + 1) f_ T_ (by omega) hf_ hO3_ hR3_ hD2_
                    exact L58 _ _ (by omega) (by exact hO2_) (by rw [Int.add_zero]; exact hR2_) (by exact hD_)
              have L49 : ∀ (h_ : Int) (R_ : zM), (-12 ≤ h_ ∧ h_ ≤ 13) → (out86 R_ M) → (RfL R_ (GW (pS (M 76)) (M 76 10).toNat (gS (M 76)) (M 76 0 + n_)) (pS (M 76)) e_ (61 * (h_ + 12))) → (∀ x_ : Int, 0 ≤ x_ ∧ x_ ≤ 24 → R_ 86 x_ = ((GW (pS (M 76)) (M 76 10).toNat (gS (M 76)) (M 76 0 + n_)) (e_.toNat - 1)) x_) → Z RX7 cX7_findBest 5 none 5 (zQ (RN (fun N => out86 N M ∧ RfL N (GW (pS (M 76)) (M 76 10).toNat (gS (M 76)) (M 76 0 + n_)) (pS (M 76)) (n_ + 1) 0))) 49 [some (vR 75), some (vI n_), some (vI e_), some (vI h_), none] [] (R_) := fun h_ R_ hh_ hO2_ hR2_ hD_ => K49 ((13 - h_).toNat + 1) h_ R_ (by omega) hh_ hO2_ hR2_ hD_
              exact L49 _ _ (by omega) (by intro k_ h1_ h2_ h3_ h4_; rw [hP_, zrow_ne h4_]; exact hO_ k_ h1_ h2_ h3_ h4_) (by show RfL P_ (GW (pS (M 76)) (M 76 10).toNat (gS (M 76)) (M 76 0 + n_)) (pS (M 76)) e_ 0; exact RfL_congr hR_ (by rw [hP_, zrow_ne (by decide)]) (by rw [hP_, zrow_ne (by decide)]) (by rw [hP_, zrow_ne (by decide)])) (by intro x_ hx_; rw [hP_, zrow_eq]; unfold zfillA; rw [if_pos (by omega)])
            · refine z_aload_0 dX7_findBest_16 ?_
              refine z_getR (r := 86) fl_X7_41 zk_75 rfl rfl dX7_findBest_17 ?_
              refine z_iload_3 dX7_findBest_20 ?_
              refine z_bipush dX7_findBest_21 (by decide) ?_
              refine z_iadd dX7_findBest_23 ?_
              refine z_aload_0 dX7_findBest_24 ?_
              refine z_aload_0 dX7_findBest_25 ?_
              refine z_cVI yv_X7_today ml_X7_129 c_X7_today zk_75 rfl rfl (by decide) (Nat.le_of_ble_eq_true rfl) dX7_findBest_26 ?_
              rw [t76_]
              refine z_iload_1 dX7_findBest_29 ?_
              refine z_iadd dX7_findBest_30 ?_
              refine z_iload_2 dX7_findBest_31 ?_
              refine z_isub dX7_findBest_32 ?_
              refine z_iconst dX7_findBest_33 ?_
              refine z_iadd dX7_findBest_34 ?_
              refine z_iload_3 dX7_findBest_35 ?_
              refine z_cVJ yv_X7_dayWorth ml_X7_251 (c_X7_dayWorth (M := P_) (by rw [t76_]; exact hn) (by rw [t76_]; exact hp) (by omega) (by omega)) zk_75 rfl rfl (by decide) (Nat.le_of_ble_eq_true rfl) dX7_findBest_36 ?_
              rw [t76_]
              refine z_last (n := 25) zk_86 rfl (by omega) dX7_findBest_39 ?_
              refine z_iinc_3 rfl dX7_findBest_40 ?_
              refine z_goto (tgt := 10) dX7_findBest_43 (by decide) ?_
              exact ih10 _ _ (by omega) (by omega) (by rw [hP_, show h_ + 1 + 12 = h_ + 12 + 1 by omega]; refine Eq.trans ?_ (zfillA_10 (f := ((GW (pS (M 76)) (M 76 10).toNat (gS (M 76)) (M 76 0 + n_)) (e_.toNat - 1))) (by omega)); show _ = zput _ _ _ (worthS _ _ _ (M 76 0 + n_ - ((e_.toNat - 1 : Nat) : Int)) (h_ + 12 - 12)); rw [show M 76 0 + n_ - ((e_.toNat - 1 : Nat) : Int) = M 76 0 + n_ - e_ + 1 by omega, show h_ + 12 - 12 = h_ by omega])
        have L10 : ∀ (h_ : Int) (P_ : zM), (-12 ≤ h_ ∧ h_ ≤ 13) → (P_ = zrow N_ 86 (zfillA ((GW (pS (M 76)) (M 76 10).toNat (gS (M 76)) (M 76 0 + n_)) (e_.toNat - 1)) (N_ 86) 0 (h_ + 12))) → Z RX7 cX7_findBest 5 none 5 (zQ (RN (fun N => out86 N M ∧ RfL N (GW (pS (M 76)) (M 76 10).toNat (gS (M 76)) (M 76 0 + n_)) (pS (M 76)) (n_ + 1) 0))) 10 [some (vR 75), some (vI n_), some (vI e_), some (vI h_), none] [] (P_) := fun h_ P_ hh_ hP_ => K10 ((13 - h_).toNat + 1) h_ P_ (by omega) hh_ hP_
        exact L10 _ _ (by omega) (by show N_ = zrow N_ 86 (zfillA _ (N_ 86) 0 0); exact zfillA_0M)
  have L2 : ∀ (e_ : Int) (N_ : zM), (1 ≤ e_ ∧ e_ ≤ n_ + 1) → (out86 N_ M) → (RfL N_ (GW (pS (M 76)) (M 76 10).toNat (gS (M 76)) (M 76 0 + n_)) (pS (M 76)) e_ 0) → Z RX7 cX7_findBest 5 none 5 (zQ (RN (fun N => out86 N M ∧ RfL N (GW (pS (M 76)) (M 76 10).toNat (gS (M 76)) (M 76 0 + n_)) (pS (M 76)) (n_ + 1) 0))) 2 [some (vR 75), some (vI n_), some (vI e_), none, none] [] (N_) := fun e_ N_ he_ hO_ hR_ => K2 ((n_ + 1 - e_).toNat + 1) e_ N_ (by omega) he_ hO_ hR_
  exact L2 _ _ (by omega) (by exact out86_rf) (by intro a_ b_ c_ h1_ h2_ h3_ h4_; exfalso; omega)

theorem c_X7_bestWorth {M : zM} {n_ : Int} (hn : SN (M 76)) (hp : pOK (pS (M 76))) (hh : -12 ≤ M 76 1 ∧ M 76 1 ≤ 12) (ht : 0 ≤ M 76 0 ∧ M 76 0 ≤ 2000) (hn_ : 1 ≤ n_ ∧ n_ ≤ 8) : Call yX7_bestWorth cX7_bestWorth 2 (some .long) 6 [vR 75, vI n_] (M) (RJ (bst (GW (pS (M 76)) (M 76 10).toNat (gS (M 76)) (M 76 0 + n_)) n_.toNat (M 76 1 + 12) (lefF (pS (M 76)) (M 76 7))).1 (fun N => out86 N M ∧ RfL N (GW (pS (M 76)) (M 76 10).toNat (gS (M 76)) (M 76 0 + n_)) (pS (M 76)) (n_ + 1) 0)) := by
  refine Call.of2 (own := RX7) (lv0 := [some (vR 75), some (vI n_)]) rfl (by decide) rfl (Nat.le_of_ble_eq_true rfl) ?_
  obtain ⟨⟨p00, p01⟩, ⟨p10, p11⟩, ⟨p20, p21⟩, ⟨p30, p31⟩, ⟨p40, p41⟩, ⟨p50, p51⟩⟩ := pOK_s hp
  refine z_aload_0 dX7_bestWorth_0 ?_
  refine z_iload_1 dX7_bestWorth_1 ?_
  refine z_rVN yv_X7_findBest ml_X7_265 (c_X7_findBest hn hp ht (by omega)) zk_75 rfl rfl (by decide) (Nat.le_of_ble_eq_true rfl) dX7_bestWorth_2 (fun N_ hN_ => ?_)
  have t76_ : N_ 76 = M 76 := out86_76 hN_.1
  have hx_ := hN_.2 n_ (M 76 1) (M 76 7) (by omega) (Or.inl (by omega)) (by omega) (by omega)
  refine z_aload_0 dX7_bestWorth_5 ?_
  refine z_getR (r := 83) fl_X7_32 zk_75 rfl rfl dX7_bestWorth_6 ?_
  refine z_iload_1 dX7_bestWorth_9 ?_
  refine z_aload_0 dX7_bestWorth_10 ?_
  refine z_cVI yv_X7_height ml_X7_111 c_X7_height zk_75 rfl rfl (by decide) (Nat.le_of_ble_eq_true rfl) dX7_bestWorth_11 ?_
  rw [t76_]
  refine z_aload_0 dX7_bestWorth_14 ?_
  refine z_cVI yv_X7_fuel ml_X7_115 c_X7_fuel zk_75 rfl rfl (by decide) (Nat.le_of_ble_eq_true rfl) dX7_bestWorth_15 ?_
  rw [t76_]
  refine z_cSI ys_X7_place ml_X7_259 c_X7_place rfl rfl (by decide) (Nat.le_of_ble_eq_true rfl) dX7_bestWorth_18 ?_
  refine z_laldv (n := 13725) (v := (bst (GW (pS (M 76)) (M 76 10).toNat (gS (M 76)) (M 76 0 + n_)) n_.toNat (M 76 1 + 12) (lefF (pS (M 76)) (M 76 7))).1) zk_83 rfl (by omega) (hx_.1) dX7_bestWorth_21 ?_
  exact z_lret dX7_bestWorth_22 (zRJ rfl hN_)

theorem c_X7_moveOf {M : zM} {n_ i_ : Int} {G : Nat → Int → Int} (hp : pOK (pS (M 76))) (hh : -12 ≤ M 76 1 ∧ M 76 1 ≤ 12) (hn_ : 1 ≤ n_ ∧ n_ ≤ 8) (hi_ : 0 ≤ i_ ∧ i_ < n_) (hR : RfL M G (pS (M 76)) (n_ + 1) 0) : Call yX7_moveOf cX7_moveOf 7 (some .int) 2 [vR 75, vI n_, vI i_] (M) (PI (pmv G n_.toNat (M 76 1 + 12) (lefF (pS (M 76)) (M 76 7)) i_.toNat) M) := by
  refine Call.of2 (own := RX7) (lv0 := [some (vR 75), some (vI n_), some (vI i_), none, none, none, none]) rfl (by decide) rfl (Nat.le_of_ble_eq_true rfl) ?_
  obtain ⟨⟨p00, p01⟩, ⟨p10, p11⟩, ⟨p20, p21⟩, ⟨p30, p31⟩, ⟨p40, p41⟩, ⟨p50, p51⟩⟩ := pOK_s hp
  have hB_ := lefF_le (f := M 76 7) hp (by omega)
  refine z_aload_0 dX7_moveOf_0 ?_
  refine z_cVI yv_X7_height ml_X7_111 c_X7_height zk_75 rfl rfl (by decide) (Nat.le_of_ble_eq_true rfl) dX7_moveOf_1 ?_
  refine z_istore_3 rfl dX7_moveOf_4 ?_
  refine z_aload_0 dX7_moveOf_5 ?_
  refine z_cVI yv_X7_fuel ml_X7_115 c_X7_fuel zk_75 rfl rfl (by decide) (Nat.le_of_ble_eq_true rfl) dX7_moveOf_6 ?_
  refine z_istore_4 rfl dX7_moveOf_9 ?_
  refine z_iconst dX7_moveOf_11 ?_
  refine z_istore_5 rfl dX7_moveOf_12 ?_
  refine z_iconst dX7_moveOf_14 ?_
  refine z_istore_6 rfl dX7_moveOf_15 ?_
  have K17 : ∀ (fuel_ : Nat) (h_ : Int) (f_ : Int) (m_ : Int) (k_ : Int), i_ + 1 - k_ < (fuel_ : Int) → (0 ≤ k_ ∧ k_ ≤ i_ + 1) → (h_ + 12 = (pth G n_.toNat (M 76 1 + 12) (lefF (pS (M 76)) (M 76 7)) k_.toNat).1) → (lefF (pS (M 76)) f_ = (pth G n_.toNat (M 76 1 + 12) (lefF (pS (M 76)) (M 76 7)) k_.toNat).2) → (0 ≤ f_ ∧ f_ ≤ 60) → (1 ≤ k_ → m_ = (pmv G n_.toNat (M 76 1 + 12) (lefF (pS (M 76)) (M 76 7)) (k_ - 1).toNat)) → Z RX7 cX7_moveOf 7 (some .int) 2 (zQ (PI (pmv G n_.toNat (M 76 1 + 12) (lefF (pS (M 76)) (M 76 7)) i_.toNat) M)) 17 [some (vR 75), some (vI n_), some (vI i_), some (vI h_), some (vI f_), some (vI m_), some (vI k_)] [] (M) := by
    intro fuel_
    induction fuel_ with
    | zero => intro h_ f_ m_ k_ hfuel_ hk_ hh_ hf_ hr_ hm_; exfalso; omega
    | succ fuel_ ih17 =>
      intro h_ f_ m_ k_ hfuel_ hk_ hh_ hf_ hr_ hm_
      have hpo_ := pth_ok (G := G) (n := n_.toNat) (p := (M 76 1 + 12)) (l := (lefF (pS (M 76)) (M 76 7))) (by omega) hB_.1 k_.toNat
      rw [← hh_, ← hf_] at hpo_
      refine z_iload_6 dX7_moveOf_17 ?_
      refine z_iload_2 dX7_moveOf_19 ?_
      refine z_icmp_gt (tgt := 67) (by omega) (by omega) dX7_moveOf_20 (by decide) (fun c20 => ?_) (fun c20 => ?_)
      · refine z_iload_5 dX7_moveOf_67 ?_
        exact z_iret dX7_moveOf_69 (zPI (by rw [hm_ (by omega), show k_ - 1 = i_ by omega]) rfl)
      · refine z_aload_0 dX7_moveOf_23 ?_
        refine z_getR (r := 85) fl_X7_38 zk_75 rfl rfl dX7_moveOf_24 ?_
        refine z_iload_1 dX7_moveOf_27 ?_
        refine z_iload_6 dX7_moveOf_28 ?_
        refine z_isub dX7_moveOf_30 ?_
        refine z_iload_3 dX7_moveOf_31 ?_
        refine z_iload_4 dX7_moveOf_32 ?_
        refine z_cSI ys_X7_place ml_X7_259 c_X7_place rfl rfl (by decide) (Nat.le_of_ble_eq_true rfl) dX7_moveOf_34 ?_
        refine z_ialdv (n := 13725) (v := (pmv G n_.toNat (M 76 1 + 12) (lefF (pS (M 76)) (M 76 7)) k_.toNat)) zk_85 rfl (by omega) (by have e_ := (hR (n_ - k_) h_ f_ (by omega) (Or.inl (by omega)) (by omega) hr_).2.2; rw [e_, hh_, hf_, show (n_ - k_).toNat - 1 = n_.toNat - 1 - k_.toNat by omega]; rfl) dX7_moveOf_37 ?_
        have hmo_ : okM (h_ + 12) (lefF (pS (M 76)) f_) (pmv G n_.toNat (M 76 1 + 12) (lefF (pS (M 76)) (M 76 7)) k_.toNat) := by have := bM_ok (G := G) (k := n_.toNat - 1 - k_.toNat) hpo_.1 hpo_.2.1; rw [show (pmv G n_.toNat (M 76 1 + 12) (lefF (pS (M 76)) (M 76 7)) k_.toNat) = bM G (n_.toNat - 1 - k_.toNat) (h_ + 12) (lefF (pS (M 76)) f_) by rw [hh_, hf_]; rfl]; exact this
        have hlf_ : lefF (pS (M 76)) (f_ - M 76 2 * zabs (pmv G n_.toNat (M 76 1 + 12) (lefF (pS (M 76)) (M 76 7)) k_.toNat)) = lefF (pS (M 76)) f_ - zabs (pmv G n_.toNat (M 76 1 + 12) (lefF (pS (M 76)) (M 76 7)) k_.toNat) ∧ 0 ≤ f_ - M 76 2 * zabs (pmv G n_.toNat (M 76 1 + 12) (lefF (pS (M 76)) (M 76 7)) k_.toNat) ∧ f_ - M 76 2 * zabs (pmv G n_.toNat (M 76 1 + 12) (lefF (pS (M 76)) (M 76 7)) k_.toNat) ≤ 60 := lef_sub hp (by omega) hr_ hmo_
        obtain ⟨hmo1_, hmo2_⟩ := id hmo_
        refine z_istore_5 rfl dX7_moveOf_38 ?_
        refine z_iload_3 dX7_moveOf_40 ?_
        refine z_iload_5 dX7_moveOf_41 ?_
        refine z_iadd dX7_moveOf_43 ?_
        refine z_istore_3 rfl dX7_moveOf_44 ?_
        refine z_iload_4 dX7_moveOf_45 ?_
        refine z_aload_0 dX7_moveOf_47 ?_
        refine z_iconst dX7_moveOf_48 ?_
        refine z_cVI yv_X7_its ml_X7_71 (c_X7_its (by omega)) zk_75 rfl rfl (by decide) (Nat.le_of_ble_eq_true rfl) dX7_moveOf_49 ?_
        refine z_iload_5 dX7_moveOf_52 ?_
        refine z_cSI ys_X7_size ml_X7_100 (c_X7_size (by omega)) rfl rfl (by decide) (Nat.le_of_ble_eq_true rfl) dX7_moveOf_54 ?_
        refine z_imul dX7_moveOf_57 ?_
        refine z_isub dX7_moveOf_58 ?_
        refine z_istore_4 rfl dX7_moveOf_59 ?_
        refine z_iinc_6 rfl dX7_moveOf_61 ?_
        refine z_goto (tgt := 17) dX7_moveOf_64 (by decide) ?_
        exact ih17 _ _ _ _ (by omega) (by omega) (by rw [nat_1 hk_.1]; show _ = (pth G n_.toNat (M 76 1 + 12) (lefF (pS (M 76)) (M 76 7)) k_.toNat).1 + (pmv G n_.toNat (M 76 1 + 12) (lefF (pS (M 76)) (M 76 7)) k_.toNat); rw [← hh_]; omega) (by rw [nat_1 hk_.1]; show _ = (pth G n_.toNat (M 76 1 + 12) (lefF (pS (M 76)) (M 76 7)) k_.toNat).2 - zabs (pmv G n_.toNat (M 76 1 + 12) (lefF (pS (M 76)) (M 76 7)) k_.toNat); rw [← hf_]; exact hlf_.1) (by exact hlf_.2) (by intro _; rw [show k_ + 1 - 1 = k_ by omega])
  have L17 : ∀ (h_ : Int) (f_ : Int) (m_ : Int) (k_ : Int), (0 ≤ k_ ∧ k_ ≤ i_ + 1) → (h_ + 12 = (pth G n_.toNat (M 76 1 + 12) (lefF (pS (M 76)) (M 76 7)) k_.toNat).1) → (lefF (pS (M 76)) f_ = (pth G n_.toNat (M 76 1 + 12) (lefF (pS (M 76)) (M 76 7)) k_.toNat).2) → (0 ≤ f_ ∧ f_ ≤ 60) → (1 ≤ k_ → m_ = (pmv G n_.toNat (M 76 1 + 12) (lefF (pS (M 76)) (M 76 7)) (k_ - 1).toNat)) → Z RX7 cX7_moveOf 7 (some .int) 2 (zQ (PI (pmv G n_.toNat (M 76 1 + 12) (lefF (pS (M 76)) (M 76 7)) i_.toNat) M)) 17 [some (vR 75), some (vI n_), some (vI i_), some (vI h_), some (vI f_), some (vI m_), some (vI k_)] [] (M) := fun h_ f_ m_ k_ hk_ hh_ hf_ hr_ hm_ => K17 ((i_ + 1 - k_).toNat + 1) h_ f_ m_ k_ (by omega) hk_ hh_ hf_ hr_ hm_
  exact L17 _ _ _ _ (by omega) (by rfl) (by rfl) (by omega) (by intro h_; exfalso; omega)
