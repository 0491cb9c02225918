/-- a world of the class is the row s of the reference -/
def WS (M : zM) (w : Nat) (s : Int → Int) : Prop := M w 0 = s 0 ∧ M w 1 = s 1 ∧ M w 2 = s 8 ∧ M w 3 = s 9 ∧ M w 6 = s 10 ∧ (∀ j : Int, 0 ≤ j → j ≤ 5 → M (10 + w) j = s (2 + j)) ∧ (∀ i : Nat, (i : Int) < s 10 → ∀ f : Int, 0 ≤ f → f ≤ 5 → M (12 * w + 8 + i) f = s (12 + 6 * (i : Int) + f))
def TxR (M : zM) (w : Nat) (s : Int → Int) : Prop := (M w 8 = 0 ∧ s 11 = 0) ∨ ((1 ≤ M w 8 ∧ M w 8 ≤ 60) ∧ 1 ≤ s 11 ∧ TopF (M (16 + w)) (M w 8) (M w 8) (stS2 s))
def TxB (M : zM) (w : Nat) : Prop := ∀ j : Int, 0 ≤ j → j < M w 8 → -128 ≤ M (16 + w) j ∧ M (16 + w) j < 128
theorem TxR_l {M : zM} {w : Nat} {s : Int → Int} (h : TxR M w s) : (M w 8 = 0 ∧ stS2 s = []) ∨ ((1 ≤ M w 8 ∧ M w 8 ≤ 60) ∧ TopF (M (16 + w)) (M w 8) (M w 8) (stS2 s)) := by
  rcases h with h | h
  · refine Or.inl ⟨h.1, ?_⟩
    unfold stS2
    rw [h.2]
    rfl
  · exact Or.inr ⟨h.1, h.2.2⟩
theorem WS_g {M : zM} {w : Nat} {s : Int → Int} (h : WS M w s) (hs : SN s) : ∀ i, i < (s 10).toNat → ∀ f, 0 ≤ f → f ≤ 5 → gW M w i f = gS s i f := fun i hi f a b => h.2.2.2.2.2.2 i (by have := hs.1; omega) f a b
theorem WS_ok {M : zM} {w : Nat} {s : Int → Int} (h : WS M w s) (hs : SOK s) : WOK M w := by
  obtain ⟨h0, h1, _, _, h6, hp, hg⟩ := h
  refine ⟨by rw [h0]; exact hs.1, by rw [h1]; exact hs.2.1, ⟨by rw [h6]; exact hs.2.2.1.1, fun i hi => ?_⟩, pOK_congr hs.2.2.2 (fun j a b => hp j a b)⟩
  rw [h6] at hi
  exact wOK_congr (hs.2.2.1.2 i hi) (fun f a b => hg i hi f a b)
theorem WS_dg {M : zM} {w : Nat} {s : Int → Int} (h : WS M w s) (hs : SN s) (day ht : Int) : danger (M w 6).toNat (gW M w) day ht = danger (s 10).toNat (gS s) day ht := by
  rw [h.2.2.2.2.1]
  exact danger_congr (WS_g h hs)
theorem WS_use {M : zM} {w : Nat} {s : Int → Int} (h : WS M w s) (ht : Int) : useS (M (10 + w)) ht = useS (pS s) ht := by
  have p := h.2.2.2.2.2.1
  unfold useS
  rw [p 1 (by decide) (by decide), p 2 (by decide) (by decide)]
theorem WS_nm {M : zM} {w : Nat} {s : Int → Int} (h : WS M w s) (hs : SN s) : nmV (M w 6).toNat (gW M w) (M w 0) (M w 1) (M (10 + w) 5) = nmV (s 10).toNat (gS s) (s 0) (s 1) (s 7) := by
  have g := WS_g h hs
  have e1 := h.2.2.2.2.2.1 5 (by decide) (by decide)
  funext i
  unfold nmV
  rw [WS_dg h hs, h.1, h.2.1, h.2.2.2.2.1, e1, openC_congr _ (fun i hi => g i hi 1 (by decide) (by decide)), nextC_congr _ (fun i hi => g i hi 1 (by decide) (by decide))]
  rfl
theorem WS_mv {M : zM} {w : Nat} {s : Int → Int} (h : WS M w s) (hs : SN s) : moveR (M (10 + w)) (M w 1) (M (10 + w) 5) (evV (nmV (M w 6).toNat (gW M w) (M w 0) (M w 1) (M (10 + w) 5)) (stS2 s)) = mvS s := by
  have p := h.2.2.2.2.2.1
  rw [WS_nm h hs, h.2.1, p 5 (by decide) (by decide), moveR_congr (p2 := pS s) (p 0 (by decide) (by decide)) (p 4 (by decide) (by decide))]
  rfl
theorem WS_shift {M : zM} {w : Nat} {s : Int → Int} {m : Int} (hw : isW w) (h : WS M w s) (hn : s 10 ≤ 12) : WS (shiftW M w m) w (goesS s m) := by
  have w3 := isW_le hw
  obtain ⟨h0, h1, h2, h3, h6, hp, hg⟩ := h
  have e1 : ∀ j : Int, j ≠ 1 → shiftW M w m w j = M w j := fun j hj => by unfold shiftW; rw [zput_ne (by omega), zput_ne2 hj]
  refine ⟨by rw [e1 0 (by decide), goesS_ne (by decide) (by decide)]; exact h0, by unfold shiftW; rw [zput_ne (by omega), zput_eq, goesS_1, h1], by rw [e1 2 (by decide), goesS_far (by decide)]; exact h2, by rw [e1 3 (by decide), goesS_far (by decide)]; exact h3, by rw [e1 6 (by decide), goesS_far (by decide)]; exact h6, fun j a b => ?_, fun i hi f a b => ?_⟩
  · unfold shiftW
    by_cases e : j = 5
    · rw [e, zput_eq, show (2 : Int) + 5 = 7 by decide, goesS_7, hp 5 (by decide) (by decide), hp 0 (by decide) (by decide)]
      rfl
    · rw [zput_ne2 e, zput_ne (by omega), goesS_ne (by omega) (by omega)]
      exact hp j a b
  · rw [goesS_far (by decide)] at hi
    rw [shiftW_out (by omega) (by omega), goesS_far (by omega)]
    exact hg i hi f a b
theorem WS_end {M : zM} {w : Nat} {s : Int → Int} (hw : isW w) (h : WS M w s) (hs : SN s) : WS (endW M w) w (endS s) := by
  have w3 := isW_le hw
  have hd := WS_dg h hs (M w 0 + 1) (M w 1)
  have hu := WS_use h (M w 1)
  obtain ⟨h0, h1, h2, h3, h6, hp, hg⟩ := h
  have hn := hs.1
  have e1 : ∀ j : Int, j ≠ 0 → j ≠ 2 → j ≠ 3 → endW M w w j = M w j := fun j a b c => by unfold endW; rw [zput_ne2 c, zput_ne2 b, zput_ne2 a]
  refine ⟨by unfold endW; rw [zput_ne2 (by decide), zput_ne2 (by decide), zput_eq, endS_0, h0], by rw [e1 1 (by decide) (by decide) (by decide), endS_ne (by decide) (by decide) (by decide)]; exact h1, ?_, ?_, by rw [e1 6 (by decide) (by decide) (by decide), endS_far (by decide)]; exact h6, fun j a b => ?_, fun i hi f a b => ?_⟩
  · unfold endW endS
    rw [zput_ne2 (by decide), zput_eq, zup_ne (by decide), zup_eq, hu, h2, h1]
  · unfold endW endS
    rw [zput_eq, zup_eq, hd, h3, h0, h1]
  · rw [endW_out (by omega), endS_ne (by omega) (by omega) (by omega)]
    exact hp j a b
  · rw [endS_far (by decide)] at hi
    rw [endW_out (by omega), endS_far (by omega)]
    exact hg i hi f a b
theorem goS_ok2 {b : Int} {s : Int → Int} (h : SOK s) : ∀ i : Nat, s 0 + i ≤ 1999 → SOK (goS b s i) ∧ goS b s i 0 = s 0 + i ∧ (∀ j : Int, 10 ≤ j → goS b s i j = s j)
  | 0, _ => ⟨h, by simp [goS], fun _ _ => rfl⟩
  | i + 1, hi => by
    have ih := goS_ok2 (b := b) h i (by omega)
    have h0 := h.1
    unfold goS
    by_cases e : b = 0
    · rw [if_pos e]
      exact ⟨endS_ok ih.1 (by rw [ih.2.1]; omega), by rw [endS_0, ih.2.1]; omega, fun j hj => by rw [endS_far hj]; exact ih.2.2 j hj⟩
    · rw [if_neg e]
      have c := mvS_can (s := goS b s i)
      have g := goesS_ok ih.1 c.1
      exact ⟨endS_ok g (by rw [goesS_ne (by decide) (by decide), ih.2.1]; omega), by rw [endS_0, goesS_ne (by decide) (by decide), ih.2.1]; omega, fun j hj => by rw [endS_far hj, goesS_far (by omega)]; exact ih.2.2 j hj⟩
theorem goS_st {b : Int} {s : Int → Int} (h : SOK s) {i : Nat} (hi : s 0 + i ≤ 1999) : stS2 (goS b s i) = stS2 s := stS2_congr ((goS_ok2 h i hi).2.2 11 (by decide)) (fun j hj => (goS_ok2 h i hi).2.2 j (by omega))
/-- what the life sees is what the run leaves -/
theorem lh_go {s : Int → Int} (h : SOK s) : ∀ i : Nat, s 0 + i ≤ 1999 → (lhS s i).1 = goS 1 s i 1 ∧ (lhS s i).2 = goS 1 s i 7 ∧ (∀ j : Int, 2 ≤ j → j ≤ 6 → goS 1 s i j = s j)
  | 0, _ => ⟨rfl, rfl, fun _ _ _ => rfl⟩
  | i + 1, hi => by
    have ih := lh_go h i (by omega)
    have ok := goS_ok2 (b := 1) h i (by omega)
    have e : lmS s i (lhS s i).1 (lhS s i).2 = mvS (goS 1 s i) := by
      unfold lmS mvS
      rw [ih.1, ih.2.1, goS_st h (by omega), ok.2.1, ok.2.2 10 (by decide)]
      have eg : nmV (s 10).toNat (gS (goS 1 s i)) (s 0 + i) (goS 1 s i 1) (goS 1 s i 7) = nmV (s 10).toNat (gS s) (s 0 + i) (goS 1 s i 1) (goS 1 s i 7) := by
        have g1 : ∀ a : Nat, ∀ f : Int, 0 ≤ f → f ≤ 5 → gS (goS 1 s i) a f = gS s a f := fun a f x y => ok.2.2 _ (by omega)
        funext x
        unfold nmV
        rw [danger_congr (g2 := gS s) (fun a _ f x y => g1 a f x y), openC_congr (g2 := gS s) _ (fun a _ => g1 a 1 (by decide) (by decide)), nextC_congr (g2 := gS s) _ (fun a _ => g1 a 1 (by decide) (by decide))]
      rw [eg]
      exact moveR_congr (ih.2.2 2 (by decide) (by decide)).symm (ih.2.2 6 (by decide) (by decide)).symm
    have c : goS 1 s (i + 1) = endS (goesS (goS 1 s i) (mvS (goS 1 s i))) := by
      rw [goS, if_neg (by decide)]
    refine ⟨?_, ?_, fun j a b => ?_⟩
    · show (lhS s i).1 + lmS s i (lhS s i).1 (lhS s i).2 = _
      rw [e, c, endS_ne (by decide) (by decide) (by decide), goesS_1, ih.1]
    · show (lhS s i).2 - s 2 * zabs (lmS s i (lhS s i).1 (lhS s i).2) = _
      rw [e, c, endS_ne (by decide) (by decide) (by decide), goesS_7, ih.2.1, ih.2.2 2 (by decide) (by decide)]
    · rw [c, endS_ne (by omega) (by omega) (by omega), goesS_ne (by omega) (by omega)]
      exact ih.2.2 j a b
theorem dg_go {s : Int → Int} (h : SOK s) {i : Nat} (hi : s 0 + i ≤ 1999) : danger (goS 1 s i 10).toNat (gS (goS 1 s i)) (goS 1 s i 0) (goS 1 s i 1) = dgS s i := by
  have ok := goS_ok2 (b := 1) h i hi
  unfold dgS
  rw [(lh_go h i hi).1, ok.2.1, ok.2.2 10 (by decide)]
  exact danger_congr (fun a _ f x y => ok.2.2 _ (by omega))
theorem endW_8 {M : zM} {w : Nat} : endW M w w 8 = M w 8 := by unfold endW; rw [zput_ne2 (by decide), zput_ne2 (by decide), zput_ne2 (by decide)]
theorem shiftW_8 {M : zM} {w : Nat} {m : Int} (h : w ≠ 10 + w) : shiftW M w m w 8 = M w 8 := by unfold shiftW; rw [zput_ne h, zput_ne2 (by decide)]
def outY (N M : zM) : Prop := ∀ k : Nat, k ≠ 7 → k ≠ 64 → k ≠ 65 → k ≠ 66 → k ≠ 10 → N k = M k
theorem outX_Y {N M : zM} (h : outX N M) : outY N M := fun k a b c d _ => h k a b c d
def outW (w : Nat) (N M : zM) : Prop := ∀ k : Nat, k ≠ 7 → k ≠ 64 → k ≠ 65 → k ≠ 66 → k ≠ 10 → k ≠ w → k ≠ 10 + w → N k = M k
theorem WS_congr {M N : zM} {w : Nat} {s : Int → Int} (hw : isW w) (hn : s 10 ≤ 12) (h : WS M w s) (e : outY N M) : WS N w s := by
  have w3 := isW_le hw
  obtain ⟨h0, h1, h2, h3, h6, hp, hg⟩ := h
  have ew : N w = M w := e w (by omega) (by omega) (by omega) (by omega) (by omega)
  refine ⟨by rw [ew]; exact h0, by rw [ew]; exact h1, by rw [ew]; exact h2, by rw [ew]; exact h3, by rw [ew]; exact h6, fun j a b => by rw [e _ (by omega) (by omega) (by omega) (by omega) (by omega)]; exact hp j a b, fun i hi f a b => by rw [e _ (by omega) (by omega) (by omega) (by omega) (by omega)]; exact hg i hi f a b⟩
/-- one day by the rule -/
def RnI (M N : zM) (w : Nat) (s : Int → Int) (i : Nat) : Prop := WS N w (goS 1 s i) ∧ outW w N M ∧ N w 8 = M w 8 ∧ RdI N
theorem c_X6_runs {M : zM} {n_ : Int} {s_ : Int → Int} (hs : SOK s_) (hWS : WS M 1 s_) (hTx : TxR M 1 s_) (hTb : TxB M 1) (hcp : RdI M) (ht9 : M 1 0 ≤ 999) (hn : -2147483648 ≤ n_ ∧ n_ < 2147483648) : Call yX6_runs cX6_runs 3 (some .int) 6 [vR 0, vI n_] (M) (RI (if ¬ (1 ≤ n_ ∧ n_ ≤ 100) then -1000000001 else if 999 < M 1 0 + n_ then -1000000005 else M 1 0 + n_) (fun N => (¬ (1 ≤ n_ ∧ n_ ≤ 100) → N = fnd6 M 0) ∧ ((1 ≤ n_ ∧ n_ ≤ 100) → 999 < M 1 0 + n_ → N = fnd6 M 4) ∧ ((1 ≤ n_ ∧ n_ ≤ 100) → ¬ 999 < M 1 0 + n_ → RnI M N 1 s_ n_.toNat))) := by
  refine Call.of2 (own := RX6) (lv0 := [some (vR 0), some (vI n_), none]) rfl (by decide) rfl (Nat.le_of_ble_eq_true rfl) ?_
  have hs0_ := hs.1
  have hm0_ := hWS.1
  refine z_iload_1 dX6_runs_0 ?_
  refine z_iconst dX6_runs_1 ?_
  refine z_bipush dX6_runs_2 (by decide) ?_
  refine z_cSI ys_X6_isOutside ml_X6_69 (c_X6_isOutside (by omega) (by omega) (by omega)) rfl rfl (by decide) (Nat.le_of_ble_eq_true rfl) dX6_runs_4 ?_
  refine z_ifb_eq (tgt := 17) dX6_runs_7 (by decide) (fun c7 => ?_) (fun c7 => ?_)
  · refine z_aload_0 dX6_runs_17 ?_
    refine z_getR (r := 1) fl_X6_10 zk_0 rfl rfl dX6_runs_18 ?_
    refine z_getI fl_X6_102 (zw_k isW1) rfl dX6_runs_21 ?_
    refine z_iload_1 dX6_runs_24 ?_
    refine z_iadd dX6_runs_25 ?_
    refine z_sipush dX6_runs_26 (by decide) ?_
    refine z_icmp_le (tgt := 39) (by omega) (by decide) dX6_runs_29 (by decide) (fun c29 => ?_) (fun c29 => ?_)
    · refine z_iconst dX6_runs_39 ?_
      refine z_istore_2 rfl dX6_runs_40 ?_
      have K41 : ∀ (fuel_ : Nat) (i_ : Int) (N_ : zM), n_ - i_ < (fuel_ : Int) → (0 ≤ i_ ∧ i_ ≤ n_) → (RnI M N_ 1 s_ i_.toNat) → Z RX6 cX6_runs 3 (some .int) 6 (zQ (RI (if ¬ (1 ≤ n_ ∧ n_ ≤ 100) then -1000000001 else if 999 < M 1 0 + n_ then -1000000005 else M 1 0 + n_) (fun N => (¬ (1 ≤ n_ ∧ n_ ≤ 100) → N = fnd6 M 0) ∧ ((1 ≤ n_ ∧ n_ ≤ 100) → 999 < M 1 0 + n_ → N = fnd6 M 4) ∧ ((1 ≤ n_ ∧ n_ ≤ 100) → ¬ 999 < M 1 0 + n_ → RnI M N 1 s_ n_.toNat)))) 41 [some (vR 0), some (vI n_), some (vI i_)] [] (N_) := by
        intro fuel_
        induction fuel_ with
        | zero => intro i_ N_ hfuel_ hi_ hI_; exfalso; omega
        | succ fuel_ ih41 =>
          intro i_ N_ hfuel_ hi_ hI_
          refine z_iload_2 dX6_runs_41 ?_
          refine z_iload_1 dX6_runs_42 ?_
          refine z_icmp_ge (tgt := 77) (by omega) (by omega) dX6_runs_43 (by decide) (fun c43 => ?_) (fun c43 => ?_)
          · refine z_aload_0 dX6_runs_77 ?_
            refine z_getR (r := 1) fl_X6_10 zk_0 rfl rfl dX6_runs_78 ?_
            refine z_getIv (v := (M 1 0 + n_)) fl_X6_102 (zw_k isW1) rfl (by rw [hI_.1.1, (goS_ok2 (b := 1) hs i_.toNat (by omega)).2.1, hm0_]; omega) dX6_runs_81 ?_
            exact z_iret dX6_runs_84 (zRI (by rw [if_neg (by omega), if_neg (by omega)]) ⟨fun h_ => absurd (by omega) h_, fun _ h_ => absurd h_ (by omega), fun _ _ => by rw [show n_ = i_ by omega]; exact hI_⟩)
          · have ok_ := goS_ok2 (b := 1) hs i_.toNat (by omega)
            have g10_ : goS 1 s_ i_.toNat 10 = s_ 10 := ok_.2.2 10 (by decide)
            have sn12_ := hs.2.2.1.1
            have w3_ := isW_le isW1
            have nok_ : WOK N_ 1 := WS_ok hI_.1 ok_.1
            have n16_ : N_ (16 + 1) = M (16 + 1) := hI_.2.1 _ (by decide) (by decide) (by decide) (by decide) (by decide) (by decide) (by decide)
            have ntx_ : (N_ 1 8 = 0 ∧ stS2 s_ = []) ∨ ((1 ≤ N_ 1 8 ∧ N_ 1 8 ≤ 60) ∧ TopF (N_ (16 + 1)) (N_ 1 8) (N_ 1 8) (stS2 s_)) := by rw [hI_.2.2.1, n16_]; exact TxR_l hTx
            have ntb_ : ∀ j : Int, 0 ≤ j → j < N_ 1 8 → -128 ≤ N_ (16 + 1) j ∧ N_ (16 + 1) j < 128 := by rw [n16_, hI_.2.2.1]; exact hTb
            refine z_aload_0 dX6_runs_46 ?_
            refine z_getR (r := 1) fl_X6_10 zk_0 rfl rfl dX6_runs_47 ?_
            refine z_aload_0 dX6_runs_50 ?_
            refine z_getR (r := 1) fl_X6_10 zk_0 rfl rfl dX6_runs_51 ?_
            refine z_aload_0 dX6_runs_54 ?_
            refine z_getR (r := 7) fl_X6_47 zk_0 rfl rfl dX6_runs_55 ?_
            refine z_rVI yv_X5_moveBy ml_X6_108 (c_X5_moveBy (M := N_) (l_ := stS2 s_) isW1 nok_ ntx_ ntb_ hI_.2.2.2) (zw_k isW1) rfl rfl (by decide) (Nat.le_of_ble_eq_true rfl) dX6_runs_58 (fun P_ hP_ => ?_)
            have hmv_ := WS_mv hI_.1 ok_.1.2.2.1
            rw [goS_st hs (by omega)] at hmv_
            rw [hmv_]
            have hm_ := mvS_can (s := goS 1 s_ i_.toNat)
            have pw_ : WS P_ 1 (goS 1 s_ i_.toNat) := WS_congr isW1 (by omega) hI_.1 (outX_Y hP_.1)
            have ps_ : WS (shiftW P_ 1 (mvS (goS 1 s_ i_.toNat))) 1 (goesS (goS 1 s_ i_.toNat) (mvS (goS 1 s_ i_.toNat))) := WS_shift isW1 pw_ (by omega)
            have gok_ := goesS_ok ok_.1 hm_.1
            have pok_ : WOK (shiftW P_ 1 (mvS (goS 1 s_ i_.toNat))) 1 := WS_ok ps_ gok_
            have pe_ : WS (endW (shiftW P_ 1 (mvS (goS 1 s_ i_.toNat))) 1) 1 (goS 1 s_ (i_.toNat + 1)) := by rw [goS, if_neg (by decide)]; exact WS_end isW1 ps_ gok_.2.2.1
            refine z_cVN yv_X5_shift ml_X6_95 (c_X5_shift (M := P_) isW1 hm_.2) (zw_k isW1) rfl rfl (by decide) (Nat.le_of_ble_eq_true rfl) dX6_runs_61 ?_
            refine z_aload_0 dX6_runs_64 ?_
            refine z_getR (r := 1) fl_X6_10 zk_0 rfl rfl dX6_runs_65 ?_
            refine z_cVN yv_X5_endDay ml_X6_105 (c_X5_endDay (M := shiftW P_ 1 (mvS (goS 1 s_ i_.toNat))) isW1 pok_.2.2.1 pok_.2.2.2 pok_.1 pok_.2.1) (zw_k isW1) rfl rfl (by decide) (Nat.le_of_ble_eq_true rfl) dX6_runs_68 ?_
            refine z_mem (show _ = endW (shiftW P_ 1 (mvS (goS 1 s_ i_.toNat))) 1 from rfl) ?_
            refine z_iinc_2 rfl dX6_runs_71 ?_
            refine z_goto (tgt := 41) dX6_runs_74 (by decide) ?_
            exact ih41 _ _ (by omega) (by omega) (by rw [nat_1 hi_.1]; exact ⟨pe_, fun k_ a_ b_ c_ d_ z_ e_ f_ => by rw [endW_out e_, shiftW_out e_ f_, hP_.1 k_ a_ b_ c_ d_]; exact hI_.2.1 k_ a_ b_ c_ d_ z_ e_ f_, by rw [endW_8, shiftW_8 (by decide), hP_.1 1 (by decide) (by decide) (by decide) (by decide)]; exact hI_.2.2.1, by unfold RdI; rw [endW_out (by decide), shiftW_out (by decide) (by decide)]; exact hP_.2⟩)
      have L41 : ∀ (i_ : Int) (N_ : zM), (0 ≤ i_ ∧ i_ ≤ n_) → (RnI M N_ 1 s_ i_.toNat) → Z RX6 cX6_runs 3 (some .int) 6 (zQ (RI (if ¬ (1 ≤ n_ ∧ n_ ≤ 100) then -1000000001 else if 999 < M 1 0 + n_ then -1000000005 else M 1 0 + n_) (fun N => (¬ (1 ≤ n_ ∧ n_ ≤ 100) → N = fnd6 M 0) ∧ ((1 ≤ n_ ∧ n_ ≤ 100) → 999 < M 1 0 + n_ → N = fnd6 M 4) ∧ ((1 ≤ n_ ∧ n_ ≤ 100) → ¬ 999 < M 1 0 + n_ → RnI M N 1 s_ n_.toNat)))) 41 [some (vR 0), some (vI n_), some (vI i_)] [] (N_) := fun i_ N_ hi_ hI_ => K41 ((n_ - i_).toNat + 1) i_ N_ (by omega) hi_ hI_
      exact L41 _ _ (by omega) (by exact ⟨hWS, fun _ _ _ _ _ _ _ _ => rfl, rfl, hcp⟩)
    · refine z_aload_0 dX6_runs_32 ?_
      refine z_ldc (n := -1000000005) kc_X6_94 (by decide) dX6_runs_33 ?_
      refine z_cVI yv_X6_finding ml_X6_80 (c_X6_finding (by omega)) zk_0 rfl rfl (by decide) (Nat.le_of_ble_eq_true rfl) dX6_runs_35 ?_
      exact z_iret dX6_runs_38 (zRI (by rw [if_neg (by omega), if_pos (by omega)]) ⟨fun h_ => absurd (by omega) h_, fun _ _ => rfl, fun _ h_ => absurd (by omega) h_⟩)
  · refine z_aload_0 dX6_runs_10 ?_
    refine z_ldc (n := -1000000001) kc_X6_79 (by decide) dX6_runs_11 ?_
    refine z_cVI yv_X6_finding ml_X6_80 (c_X6_finding (by omega)) zk_0 rfl rfl (by decide) (Nat.le_of_ble_eq_true rfl) dX6_runs_13 ?_
    exact z_iret dX6_runs_16 (zRI (by rw [if_pos (by omega)]) ⟨fun _ => rfl, fun h_ => absurd h_ (by omega), fun h_ => absurd h_ (by omega)⟩)

theorem c_X6_foresee {M : zM} {n_ : Int} {s_ : Int → Int} (hs : SOK s_) (hWS : WS M 1 s_) (hTx : TxR M 1 s_) (hTb : TxB M 1) (hcp : RdI M) (hn_ : 1 ≤ n_ ∧ n_ ≤ 100) (ht9 : M 1 0 ≤ 999) (ht8 : 0 ≤ M 1 8 ∧ M 1 8 ≤ 60) (hT60 : ∀ j : Int, 0 ≤ j → j < 60 → -128 ≤ M (16 + 1) j ∧ M (16 + 1) j < 128) : Call yX6_foresee cX6_foresee 3 none 6 [vR 0, vI n_] (M) (RN (fun N => (∀ k_ : Nat, k_ ≠ 7 → k_ ≠ 64 → k_ ≠ 65 → k_ ≠ 66 → k_ ≠ 10 → k_ ≠ 3 → k_ ≠ 13 → k_ ≠ 19 → ¬ (44 ≤ k_ ∧ k_ < 56) → N k_ = M k_) ∧ RdI N ∧ ∀ i_ : Int, 0 ≤ i_ → i_ < n_ → N 10 i_ = dgS s_ (i_.toNat + 1))) := by
  refine Call.of2 (own := RX6) (lv0 := [some (vR 0), some (vI n_), none]) rfl (by decide) rfl (Nat.le_of_ble_eq_true rfl) ?_
  have hs0_ := hs.1
  have hm0_ := hWS.1
  have hok1_ := WS_ok hWS hs
  have hb6_ := hok1_.2.2.1.1
  have bs_ := becM_same (M := M) isW3 isW1 (by decide) hb6_
  have bo_ : ∀ k_ : Nat, k_ ≠ 3 → k_ ≠ 13 → k_ ≠ 19 → ¬ (44 ≤ k_ ∧ k_ < 56) → becM M 3 1 k_ = M k_ := fun k_ a_ b_ c_ d_ => becM_out hb6_.2 a_ b_ c_ d_
  have bWS_ : WS (becM M 3 1) 3 s_ := by
    obtain ⟨q0_, q1_, q2_, q3_, q6_, q8_, qp_, qg_, qt_⟩ := bs_
    obtain ⟨h0_, h1_, h2_, h3_, h6_, hp_, hg_⟩ := hWS
    exact ⟨q0_.trans h0_, q1_.trans h1_, q2_.trans h2_, q3_.trans h3_, q6_.trans h6_, fun j_ a_ b_ => (qp_ j_ a_ b_).trans (hp_ j_ a_ b_), fun i_ hi_ f_ a_ b_ => (qg_ i_ (by omega) f_ a_ b_).trans (hg_ i_ hi_ f_ a_ b_)⟩
  have bTx_ : TxR (becM M 3 1) 3 s_ := by
    have q8_ := bs_.2.2.2.2.2.1
    have qt_ := bs_.2.2.2.2.2.2.2.2
    unfold TxR
    rw [q8_]
    rcases hTx with h_ | h_
    · exact Or.inl h_
    · exact Or.inr ⟨h_.1, h_.2.1, TopF_eq h_.2.2 (Int.le_refl _) (fun j_ a_ b_ => qt_ j_ a_ b_)⟩
  have bTb_ : TxB (becM M 3 1) 3 := fun j_ a_ b_ => by
    have q8_ := bs_.2.2.2.2.2.1
    rw [q8_] at b_
    rw [bs_.2.2.2.2.2.2.2.2 j_ a_ b_]
    exact hTb j_ a_ b_
  refine z_aload_0 dX6_foresee_0 ?_
  refine z_getR (r := 3) fl_X6_19 zk_0 rfl rfl dX6_foresee_1 ?_
  refine z_aload_0 dX6_foresee_4 ?_
  refine z_getR (r := 1) fl_X6_10 zk_0 rfl rfl dX6_foresee_5 ?_
  refine z_cVN yv_X5_become ml_X6_228 (c_X5_become isW3 isW1 (by decide) hb6_ ht8 hT60) (zw_k isW3) rfl rfl (by decide) (Nat.le_of_ble_eq_true rfl) dX6_foresee_8 ?_
  refine z_iconst dX6_foresee_11 ?_
  refine z_istore_2 rfl dX6_foresee_12 ?_
  have K13 : ∀ (fuel_ : Nat) (i_ : Int) (N_ : zM), n_ - i_ < (fuel_ : Int) → (0 ≤ i_ ∧ i_ ≤ n_) → (RnI (becM M 3 1) N_ 3 s_ i_.toNat) → (∀ j_ : Int, 0 ≤ j_ → j_ < i_ → N_ 10 j_ = dgS s_ (j_.toNat + 1)) → Z RX6 cX6_foresee 3 none 6 (zQ (RN (fun N => (∀ k_ : Nat, k_ ≠ 7 → k_ ≠ 64 → k_ ≠ 65 → k_ ≠ 66 → k_ ≠ 10 → k_ ≠ 3 → k_ ≠ 13 → k_ ≠ 19 → ¬ (44 ≤ k_ ∧ k_ < 56) → N k_ = M k_) ∧ RdI N ∧ ∀ i_ : Int, 0 ≤ i_ → i_ < n_ → N 10 i_ = dgS s_ (i_.toNat + 1)))) 13 [some (vR 0), some (vI n_), some (vI i_)] [] (N_) := by
    intro fuel_
    induction fuel_ with
    | zero => intro i_ N_ hfuel_ hi_ hI_ hd_; exfalso; omega
    | succ fuel_ ih13 =>
      intro i_ N_ hfuel_ hi_ hI_ hd_
      refine z_iload_2 dX6_foresee_13 ?_
      refine z_iload_1 dX6_foresee_14 ?_
      refine z_icmp_ge (tgt := 76) (by omega) (by omega) dX6_foresee_15 (by decide) (fun c15 => ?_) (fun c15 => ?_)
      · exact z_vret dX6_foresee_76 (zRN ⟨fun k_ a_ b_ c_ d_ e_ f_ g_ h_ i2_ => by rw [hI_.2.1 k_ a_ b_ c_ d_ e_ f_ g_]; exact bo_ k_ f_ g_ h_ i2_, hI_.2.2.2, fun j_ a_ b_ => hd_ j_ a_ (by omega)⟩)
      · have ok_ := goS_ok2 (b := 1) hs i_.toNat (by omega)
        have g10_ : goS 1 s_ i_.toNat 10 = s_ 10 := ok_.2.2 10 (by decide)
        have sn12_ := hs.2.2.1.1
        have w3_ := isW_le isW3
        have nok_ : WOK N_ 3 := WS_ok hI_.1 ok_.1
        have n16_ : N_ (16 + 3) = (becM M 3 1) (16 + 3) := hI_.2.1 _ (by decide) (by decide) (by decide) (by decide) (by decide) (by decide) (by decide)
        have ntx_ : (N_ 3 8 = 0 ∧ stS2 s_ = []) ∨ ((1 ≤ N_ 3 8 ∧ N_ 3 8 ≤ 60) ∧ TopF (N_ (16 + 3)) (N_ 3 8) (N_ 3 8) (stS2 s_)) := by rw [hI_.2.2.1, n16_]; exact TxR_l bTx_
        have ntb_ : ∀ j : Int, 0 ≤ j → j < N_ 3 8 → -128 ≤ N_ (16 + 3) j ∧ N_ (16 + 3) j < 128 := by rw [n16_, hI_.2.2.1]; exact bTb_
        refine z_aload_0 dX6_foresee_18 ?_
        refine z_getR (r := 3) fl_X6_19 zk_0 rfl rfl dX6_foresee_19 ?_
        refine z_aload_0 dX6_foresee_22 ?_
        refine z_getR (r := 3) fl_X6_19 zk_0 rfl rfl dX6_foresee_23 ?_
        refine z_aload_0 dX6_foresee_26 ?_
        refine z_getR (r := 7) fl_X6_47 zk_0 rfl rfl dX6_foresee_27 ?_
        refine z_rVI yv_X5_moveBy ml_X6_108 (c_X5_moveBy (M := N_) (l_ := stS2 s_) isW3 nok_ ntx_ ntb_ hI_.2.2.2) (zw_k isW3) rfl rfl (by decide) (Nat.le_of_ble_eq_true rfl) dX6_foresee_30 (fun P_ hP_ => ?_)
        have hmv_ := WS_mv hI_.1 ok_.1.2.2.1
        rw [goS_st hs (by omega)] at hmv_
        rw [hmv_]
        have hm_ := mvS_can (s := goS 1 s_ i_.toNat)
        have pw_ : WS P_ 3 (goS 1 s_ i_.toNat) := WS_congr isW3 (by omega) hI_.1 (outX_Y hP_.1)
        have ps_ : WS (shiftW P_ 3 (mvS (goS 1 s_ i_.toNat))) 3 (goesS (goS 1 s_ i_.toNat) (mvS (goS 1 s_ i_.toNat))) := WS_shift isW3 pw_ (by omega)
        have gok_ := goesS_ok ok_.1 hm_.1
        have pok_ : WOK (shiftW P_ 3 (mvS (goS 1 s_ i_.toNat))) 3 := WS_ok ps_ gok_
        have pe_ : WS (endW (shiftW P_ 3 (mvS (goS 1 s_ i_.toNat))) 3) 3 (goS 1 s_ (i_.toNat + 1)) := by rw [goS, if_neg (by decide)]; exact WS_end isW3 ps_ gok_.2.2.1
        refine z_cVN yv_X5_shift ml_X6_95 (c_X5_shift (M := P_) isW3 hm_.2) (zw_k isW3) rfl rfl (by decide) (Nat.le_of_ble_eq_true rfl) dX6_foresee_33 ?_
        refine z_aload_0 dX6_foresee_36 ?_
        refine z_getR (r := 3) fl_X6_19 zk_0 rfl rfl dX6_foresee_37 ?_
        refine z_cVN yv_X5_endDay ml_X6_105 (c_X5_endDay (M := shiftW P_ 3 (mvS (goS 1 s_ i_.toNat))) isW3 pok_.2.2.1 pok_.2.2.2 pok_.1 pok_.2.1) (zw_k isW3) rfl rfl (by decide) (Nat.le_of_ble_eq_true rfl) dX6_foresee_40 ?_
        refine z_mem (show _ = endW (shiftW P_ 3 (mvS (goS 1 s_ i_.toNat))) 3 from rfl) ?_
        have ok2_ := goS_ok2 (b := 1) hs (i_.toNat + 1) (by omega)
        have eok_ : WOK (endW (shiftW P_ 3 (mvS (goS 1 s_ i_.toNat))) 3) 3 := WS_ok pe_ ok2_.1
        have eok1_ := ok2_.1.1
        refine z_aload_0 dX6_foresee_43 ?_
        refine z_getR (r := 10) fl_X6_65 zk_0 rfl rfl dX6_foresee_44 ?_
        refine z_iload_2 dX6_foresee_47 ?_
        refine z_aload_0 dX6_foresee_48 ?_
        refine z_getR (r := 3) fl_X6_19 zk_0 rfl rfl dX6_foresee_49 ?_
        refine z_aload_0 dX6_foresee_52 ?_
        refine z_getR (r := 3) fl_X6_19 zk_0 rfl rfl dX6_foresee_53 ?_
        refine z_getIv (v := (goS 1 s_ (i_.toNat + 1) 0)) fl_X6_102 (zw_k isW3) rfl (pe_.1) dX6_foresee_56 ?_
        refine z_aload_0 dX6_foresee_59 ?_
        refine z_getR (r := 3) fl_X6_19 zk_0 rfl rfl dX6_foresee_60 ?_
        refine z_getIv (v := (goS 1 s_ (i_.toNat + 1) 1)) fl_X6_99 (zw_k isW3) rfl (pe_.2.1) dX6_foresee_63 ?_
        refine z_cVI yv_X5_dangerOn ml_X6_176 (c_X5_dangerOn (M := (endW (shiftW P_ 3 (mvS (goS 1 s_ i_.toNat))) 3)) isW3 eok_.2.2.1 ok2_.1.2.1 (by omega)) (zw_k isW3) rfl rfl (by decide) (Nat.le_of_ble_eq_true rfl) dX6_foresee_66 ?_
        rw [WS_dg pe_ ok2_.1.2.2.1, dg_go hs (by omega)]
        refine z_iast (n := 100) zk_10 rfl (by omega) dX6_foresee_69 ?_
        refine z_iinc_2 rfl dX6_foresee_70 ?_
        refine z_goto (tgt := 13) dX6_foresee_73 (by decide) ?_
        exact ih13 _ _ (by omega) (by omega) (by rw [nat_1 hi_.1]; exact ⟨WS_congr isW3 (by rw [ok2_.2.2 10 (by decide)]; omega) pe_ (fun k_ a_ b_ c_ d_ e_ => zput_ne e_), fun k_ a_ b_ c_ d_ z_ e_ f_ => by rw [zput_ne z_, endW_out e_, shiftW_out e_ f_, hP_.1 k_ a_ b_ c_ d_]; exact hI_.2.1 k_ a_ b_ c_ d_ z_ e_ f_, by rw [zput_ne (by decide)]; rw [endW_8, shiftW_8 (by decide), hP_.1 3 (by decide) (by decide) (by decide) (by decide)]; exact hI_.2.2.1, by unfold RdI; rw [zput_ne (by decide), endW_out (by decide), shiftW_out (by decide) (by decide)]; exact hP_.2⟩) (by intro j_ a_ b_; by_cases e_ : j_ = i_; (rw [e_, zput_eq]); (rw [zput_ne2 e_, endW_out (by decide), shiftW_out (by decide) (by decide), hP_.1 10 (by decide) (by decide) (by decide) (by decide)]; exact hd_ j_ a_ (by omega)))
  have L13 : ∀ (i_ : Int) (N_ : zM), (0 ≤ i_ ∧ i_ ≤ n_) → (RnI (becM M 3 1) N_ 3 s_ i_.toNat) → (∀ j_ : Int, 0 ≤ j_ → j_ < i_ → N_ 10 j_ = dgS s_ (j_.toNat + 1)) → Z RX6 cX6_foresee 3 none 6 (zQ (RN (fun N => (∀ k_ : Nat, k_ ≠ 7 → k_ ≠ 64 → k_ ≠ 65 → k_ ≠ 66 → k_ ≠ 10 → k_ ≠ 3 → k_ ≠ 13 → k_ ≠ 19 → ¬ (44 ≤ k_ ∧ k_ < 56) → N k_ = M k_) ∧ RdI N ∧ ∀ i_ : Int, 0 ≤ i_ → i_ < n_ → N 10 i_ = dgS s_ (i_.toNat + 1)))) 13 [some (vR 0), some (vI n_), some (vI i_)] [] (N_) := fun i_ N_ hi_ hI_ hd_ => K13 ((n_ - i_).toNat + 1) i_ N_ (by omega) hi_ hI_ hd_
  exact L13 _ _ (by omega) (by exact ⟨bWS_, fun _ _ _ _ _ _ _ _ => rfl, rfl, by unfold RdI; rw [bo_ 7 (by decide) (by decide) (by decide) (by decide)]; exact hcp⟩) (by intro j_ a_ b_; exfalso; omega)
