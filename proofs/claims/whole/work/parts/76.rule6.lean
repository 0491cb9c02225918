def QCo (M : zM) (x : Int) (N : zM) : Prop := (x = 1 ∧ N 75 7 = M 75 7 ∧ M 75 6 < M 75 5 ∧ isCm (M 79 (M 75 6)) ∧ sEnd (M 79) (M 75 5) (N 75 6) ∧ M 75 6 < N 75 6 ∧ exL (fun l => Pg M N (l ++ [(3, M 79 (M 75 6))]) 0 ∧ SuOK (M 79) (M 75 5) (M 75 6 + 1) (N 75 6) 0 l)) ∨ (x = 0 ∧ Fl M N ∧ ((N 75 6 = M 75 6 ∧ (M 75 6 < M 75 5 → ¬ isCm (M 79 (M 75 6)))) ∨ (M 75 6 < M 75 5 ∧ isCm (M 79 (M 75 6)) ∧ SuNO (M 79) (M 75 5) (M 75 6 + 1) (N 75 6) 0)))
theorem QCo_c {M N : zM} {x : Int} (h : QCo M x N) : (x = 1 ∧ QCo M 1 N) ∨ (x = 0 ∧ QCo M 0 N) := by
  rcases id h with ⟨rfl, _⟩ | ⟨rfl, _⟩
  · exact Or.inl ⟨rfl, h⟩
  · exact Or.inr ⟨rfl, h⟩
theorem QCo_1 {M N : zM} (h : QCo M 1 N) : N 75 7 = M 75 7 ∧ M 75 6 < M 75 5 ∧ isCm (M 79 (M 75 6)) ∧ sEnd (M 79) (M 75 5) (N 75 6) ∧ M 75 6 < N 75 6 ∧ exL (fun l => Pg M N (l ++ [(3, M 79 (M 75 6))]) 0 ∧ SuOK (M 79) (M 75 5) (M 75 6 + 1) (N 75 6) 0 l) := by
  rcases h with h | h
  · exact h.2
  · exact absurd h.1 (by decide)
theorem QCo_0 {M N : zM} (h : QCo M 0 N) : Fl M N ∧ ((N 75 6 = M 75 6 ∧ (M 75 6 < M 75 5 → ¬ isCm (M 79 (M 75 6)))) ∨ (M 75 6 < M 75 5 ∧ isCm (M 79 (M 75 6)) ∧ SuNO (M 79) (M 75 5) (M 75 6 + 1) (N 75 6) 0)) := by
  rcases h with h | h
  · exact absurd h.1 (by decide)
  · exact h.2
theorem QCo_PB {M N : zM} (hB : PB M) (h : QCo M 1 N) : PB N := by
  obtain ⟨_, _, _, _, _, l, h1, _⟩ := QCo_1 h
  exact Pg_PB hB h1 (by decide)
abbrev adM (M : zM) : zM := zput M 75 6 (M 75 6 + 1)
theorem adM_PB {M : zM} (hB : PB M) (h : M 75 6 < M 75 5) : PB (adM M) := Pg_PB hB (Pg_adv (j := 1) hB (by decide) (by omega)) (by decide)
theorem Co_no {M : zM} (hB : PB M) (h : ¬ isCm (hV (M 79) (M 75 5) (M 75 6))) : QCo M 0 M := Or.inr ⟨rfl, Fl_rf hB, Or.inl ⟨rfl, fun q => by rw [hV_of q] at h; exact h⟩⟩
theorem cm_lt {M : zM} (h : isCm (hV (M 79) (M 75 5) (M 75 6))) : M 75 6 < M 75 5 ∧ hV (M 79) (M 75 5) (M 75 6) = M 79 (M 75 6) := hV_lt (by omega)
theorem Co_0 {M P : zM} (hB : PB M) (h7 : M 75 7 = 0) (h : isCm (hV (M 79) (M 75 5) (M 75 6))) (q : QSu (adM M) 0 P) : QCo M 0 P := by
  obtain ⟨q1, q2⟩ := cm_lt h
  obtain ⟨r1, r2⟩ := QSu_0 q
  rw [show adM M 79 = M 79 from zput_ne (by decide), show adM M 75 5 = M 75 5 from zput_ne2 (by decide), show adM M 75 6 = M 75 6 + 1 from zput_eq, show adM M 75 7 = M 75 7 from zput_ne2 (by decide), h7] at r2
  rw [q2] at h
  exact Or.inr ⟨rfl, Fl_tr (Pg_Fl (Pg_adv (j := 1) hB (by decide) (by omega))) r1, Or.inr ⟨q1, h, r2⟩⟩
theorem Co_1 {M P : zM} (hB : PB M) (h7 : M 75 7 = 0) (h : isCm (hV (M 79) (M 75 5) (M 75 6))) (q : QSu (adM M) 1 P) : QCo M 1 (laysM P 3 (hV (M 79) (M 75 5) (M 75 6))) := by
  obtain ⟨q1, q2⟩ := cm_lt h
  have p1 := Pg_adv (j := 1) hB (by decide) (by omega)
  have hB1 := Pg_PB hB p1 (by decide)
  obtain ⟨r1, r2, r5, l, r3, r4⟩ := QSu_1 q
  have p3 := Pg_lay (w := 3) (v := hV (M 79) (M 75 5) (M 75 6)) (Pg_PB hB1 r3 (by decide)) (by omega)
  rw [show adM M 79 = M 79 from zput_ne (by decide), show adM M 75 5 = M 75 5 from zput_ne2 (by decide), show adM M 75 6 = M 75 6 + 1 from zput_eq, show adM M 75 7 = M 75 7 from zput_ne2 (by decide), h7] at r4
  rw [show adM M 79 = M 79 from zput_ne (by decide), show adM M 75 5 = M 75 5 from zput_ne2 (by decide)] at r5
  rw [show adM M 75 6 = M 75 6 + 1 from zput_eq] at r1
  rw [show adM M 75 7 = M 75 7 from zput_ne2 (by decide)] at r2
  have p4 := Pg_le (Pg_tr p1 (Pg_tr r3 p3)) (show (0 : Int) ≤ _ by decide)
  rw [q2] at h p4 ⊢
  exact Or.inl ⟨rfl, by rw [lays_7]; exact r2, q1, h, by rw [lays_6]; exact r5, by rw [lays_6]; omega, l, p4, by rw [lays_6]; exact r4⟩
/-- in a condition: L what was laid ahead of it -/
def CdI (M N : zM) (L : List (Int × Int)) (m : Nat) : Prop := N 75 7 = 0 ∧ M 75 6 ≤ N 75 6 ∧ sEnd (M 79) (M 75 5) (N 75 6) ∧ exL (fun l => Pg M N l 0 ∧ TopC (M 79) (M 75 5) (N 75 6) (L ++ l) m)
def QCd (M : zM) (L : List (Int × Int)) (m : Nat) (x : Int) (N : zM) : Prop := (x = 1 ∧ CdI M N L m ∧ (N 75 6 < M 75 5 → M 79 (N 75 6) ≠ 38)) ∨ (x = 0 ∧ Fl M N ∧ TopNO (M 79) (M 75 5) (N 75 6))
theorem QCd_c {M N : zM} {L : List (Int × Int)} {m : Nat} {x : Int} (h : QCd M L m x N) : (x = 1 ∧ CdI M N L m ∧ (N 75 6 < M 75 5 → M 79 (N 75 6) ≠ 38)) ∨ (x = 0 ∧ Fl M N ∧ TopNO (M 79) (M 75 5) (N 75 6)) := h
theorem Cd_1 {M N : zM} {L : List (Int × Int)} {m : Nat} (h7 : M 75 7 = 0) (hT : TopS (M 79) (M 75 5) (M 75 6) L m) (q : QCo M 1 N) : CdI M N L m := by
  obtain ⟨r1, r2, r3, r4, r5, l, r6, r7⟩ := QCo_1 q
  exact ⟨by omega, by omega, r4, _, r6, TopC_of hT r3 r7⟩
theorem Cd_0 {M N : zM} {L : List (Int × Int)} {m : Nat} (hT : TopS (M 79) (M 75 5) (M 75 6) L m) (hc : M 75 6 < M 75 5 ∧ isCm (M 79 (M 75 6))) (q : QCo M 0 N) : QCd M L m 0 N := by
  obtain ⟨r1, r2⟩ := QCo_0 q
  refine Or.inr ⟨rfl, r1, ?_⟩
  rcases r2 with r2 | r2
  · exact absurd hc.2 (r2.2 hc.1)
  · exact TopNO_S hT r2.2.1 r2.2.2
theorem CdI_PB {M N : zM} {L : List (Int × Int)} {m : Nat} (hB : PB M) (h : CdI M N L m) : PB N := by
  obtain ⟨_, _, _, l, h1, _⟩ := h
  exact Pg_PB hB h1 (by decide)
theorem CdI_e {M N : zM} {L : List (Int × Int)} {m : Nat} (h : CdI M N L m) : N 79 = M 79 ∧ N 75 5 = M 75 5 ∧ FrP N M := by
  obtain ⟨_, _, _, l, h1, _⟩ := h
  exact ⟨h1.1.1 79 (by decide) (by decide), h1.1.2 5 (by decide) (by decide) (by decide), h1.1⟩
theorem Su0 {M P : zM} (h7 : M 75 7 = 0) (q : QSu (adM M) 1 P) : M 75 6 + 1 < P 75 6 ∧ P 75 7 = 0 ∧ sEnd (M 79) (M 75 5) (P 75 6) ∧ exL (fun l => Pg (adM M) P l 0 ∧ SuOK (M 79) (M 75 5) (M 75 6 + 1) (P 75 6) 0 l) := by
  obtain ⟨r1, r2, r5, l, r3, r4⟩ := QSu_1 q
  rw [show adM M 79 = M 79 from zput_ne (by decide), show adM M 75 5 = M 75 5 from zput_ne2 (by decide), show adM M 75 6 = M 75 6 + 1 from zput_eq, show adM M 75 7 = M 75 7 from zput_ne2 (by decide), h7] at r4
  rw [show adM M 79 = M 79 from zput_ne (by decide), show adM M 75 5 = M 75 5 from zput_ne2 (by decide)] at r5
  rw [show adM M 75 6 = M 75 6 + 1 from zput_eq] at r1
  rw [show adM M 75 7 = M 75 7 from zput_ne2 (by decide), h7] at r2
  exact ⟨r1, r2, r5, l, r3, r4⟩
theorem Su00 {M P : zM} (h7 : M 75 7 = 0) (q : QSu (adM M) 0 P) : Fl (adM M) P ∧ SuNO (M 79) (M 75 5) (M 75 6 + 1) (P 75 6) 0 := by
  obtain ⟨r1, r2⟩ := QSu_0 q
  rw [show adM M 79 = M 79 from zput_ne (by decide), show adM M 75 5 = M 75 5 from zput_ne2 (by decide), show adM M 75 6 = M 75 6 + 1 from zput_eq, show adM M 75 7 = M 75 7 from zput_ne2 (by decide), h7] at r2
  exact ⟨r1, r2⟩
theorem Cd_m {M N P K : zM} {L : List (Int × Int)} {m : Nat} (hB : PB M) (h : CdI M N L m) (hl : N 75 6 < N 75 5) (hc : N 79 (N 75 6) = 38) (q : QSu (adM N) 1 P) (q2 : QCo P 1 K) : CdI M (laysM K 3 38) L m := by
  obtain ⟨e79, e5, eF⟩ := CdI_e h
  have hBN := CdI_PB hB h
  obtain ⟨h7, h6, hs, l, p1, t1⟩ := h
  have p2 := Pg_adv (j := 1) hBN (by decide) (by omega)
  obtain ⟨r1, r2, r5, l2, r3, r4⟩ := Su0 h7 q
  have hBP := Pg_PB (adM_PB hBN hl) r3 (by decide)
  obtain ⟨s1, s2, s3, s4, s5, l3, s6, s7⟩ := QCo_1 q2
  have hBK := Pg_PB hBP s6 (by decide)
  have p5 := Pg_lay (w := 3) (v := 38) hBK (by omega)
  have f79 : P 79 = M 79 := by rw [r3.1.1 79 (by decide) (by decide), show adM N 79 = N 79 from zput_ne (by decide), e79]
  have f5 : P 75 5 = M 75 5 := by rw [r3.1.2 5 (by decide) (by decide) (by decide), show adM N 75 5 = N 75 5 from zput_ne2 (by decide), e5]
  rw [e79, e5] at r4
  rw [f79] at s3
  rw [f79, f5] at s4 s7
  rw [e79] at hc
  have ta := TopA_of t1 hc r4
  have tc := TopC_A ta s3 s7
  refine ⟨by rw [lays_7]; omega, by rw [lays_6]; omega, by rw [lays_6]; exact s4, _, Pg_le (Pg_tr p1 (Pg_tr p2 (Pg_tr r3 (Pg_tr s6 p5)))) (by decide), ?_⟩
  rw [lays_6, f79]
  have e : L ++ (l ++ ([] ++ (l2 ++ (l3 ++ [(3, M 79 (P 75 6))] ++ [(3, 38)])))) = L ++ l ++ l2 ++ (l3 ++ [(3, M 79 (P 75 6))]) ++ [(3, 38)] := by simp
  rw [e]
  exact tc
theorem Cd_m0 {M N P : zM} {L : List (Int × Int)} {m : Nat} (hB : PB M) (h : CdI M N L m) (hl : N 75 6 < N 75 5) (hc : N 79 (N 75 6) = 38) (q : QSu (adM N) 0 P) : QCd M L m 0 P := by
  obtain ⟨e79, e5, eF⟩ := CdI_e h
  have hBN := CdI_PB hB h
  obtain ⟨h7, h6, hs, l, p1, t1⟩ := h
  have p2 := Pg_adv (j := 1) hBN (by decide) (by omega)
  obtain ⟨r1, r2⟩ := Su00 h7 q
  rw [e79, e5] at r2
  rw [e79] at hc
  exact Or.inr ⟨rfl, Fl_tr (Pg_Fl p1) (Fl_tr (Pg_Fl p2) r1), TopNO_C1 t1 hc r2⟩
theorem Cd_m2 {M N P K : zM} {L : List (Int × Int)} {m : Nat} (hB : PB M) (h : CdI M N L m) (hl : N 75 6 < N 75 5) (hc : N 79 (N 75 6) = 38) (q : QSu (adM N) 1 P) (q2 : QCo P 0 K) : QCd M L m 0 K := by
  obtain ⟨e79, e5, eF⟩ := CdI_e h
  have hBN := CdI_PB hB h
  obtain ⟨h7, h6, hs, l, p1, t1⟩ := h
  have p2 := Pg_adv (j := 1) hBN (by decide) (by omega)
  obtain ⟨r1, r2, r5, l2, r3, r4⟩ := Su0 h7 q
  have hBP := Pg_PB (adM_PB hBN hl) r3 (by decide)
  have f79 : P 79 = M 79 := by rw [r3.1.1 79 (by decide) (by decide), show adM N 79 = N 79 from zput_ne (by decide), e79]
  have f5 : P 75 5 = M 75 5 := by rw [r3.1.2 5 (by decide) (by decide) (by decide), show adM N 75 5 = N 75 5 from zput_ne2 (by decide), e5]
  rw [e79, e5] at r4 r5
  rw [e79] at hc
  have ta := TopA_of t1 hc r4
  obtain ⟨s1, s2⟩ := QCo_0 q2
  refine Or.inr ⟨rfl, Fl_tr (Pg_Fl p1) (Fl_tr (Pg_Fl p2) (Fl_tr (Pg_Fl r3) s1)), ?_⟩
  rw [f79, f5] at s2
  rcases s2 with s2 | s2
  · rw [s2.1]
    exact TopNO_A1 ta (by have := hBP.1; omega) r5 s2.2
  · exact TopNO_A ta s2.2.1 s2.2.2
theorem Cd_e {M N : zM} {L : List (Int × Int)} {m : Nat} (h : CdI M N L m) (hc : N 75 6 < N 75 5 → N 79 (N 75 6) ≠ 38) : QCd M L m 1 N := by
  obtain ⟨e79, e5, eF⟩ := CdI_e h
  rw [e79, e5] at hc
  exact Or.inl ⟨rfl, h, hc⟩
theorem c_X7_compared {M : zM} (hB : PB M) (h7 : M 75 7 = 0) : Call yX7_compared cX7_compared 2 (some .boolean) 14 [vR 75] (M) (BI (QCo M)) := by
  refine Call.of2 (own := RX7) (lv0 := [some (vR 75), none]) rfl (by decide) rfl (Nat.le_of_ble_eq_true rfl) ?_
  have hr_ := hV_r (a := M 75 6) hB hB.1.1
  obtain ⟨⟨b0_, b1_⟩, ⟨b2_, b3_⟩, b4_, ⟨b5_, b6_⟩⟩ := id hB
  refine z_aload_0 dX7_compared_0 ?_
  refine z_cVI yv_X7_here ml_X7_195 (c_X7_here hB) zk_75 rfl rfl (by decide) (Nat.le_of_ble_eq_true rfl) dX7_compared_1 ?_
  refine z_istore_1 rfl dX7_compared_4 ?_
  refine z_aload_0 dX7_compared_5 ?_
  refine z_cVI yv_X7_isCompare ml_X7_205 (c_X7_isCompare hB) zk_75 rfl rfl (by decide) (Nat.le_of_ble_eq_true rfl) dX7_compared_6 ?_
  refine z_ifb_ne (tgt := 14) dX7_compared_9 (by decide) (fun c9 => ?_) (fun c9 => ?_)
  · refine z_aload_0 dX7_compared_14 ?_
    refine z_dup rfl dX7_compared_15 ?_
    refine z_getI fl_X7_192 zk_75 rfl dX7_compared_16 ?_
    refine z_iconst dX7_compared_19 ?_
    refine z_iadd dX7_compared_20 ?_
    refine z_putI fl_X7_192 zk_75 rfl dX7_compared_21 ?_
    refine z_aload_0 dX7_compared_24 ?_
    refine z_sV yv_X7_sum ml_X7_201 ((c_X7_ps 5 (by decide)).2 (adM M) (adM_PB hB (cm_lt c9).1) (by rw [show adM M 75 7 = M 75 7 from zput_ne2 (by decide), h7]; rfl)) zk_75 rfl rfl (by decide) (Nat.le_of_ble_eq_true rfl) dX7_compared_25 (fun x_ P_ hq_ => ?_)
    rcases (QSu_c hq_) with ⟨rfl, q2_⟩ | ⟨rfl, q2_⟩
    · skip
      refine z_if_ne (tgt := 33) (by decide) dX7_compared_28 (by decide) (fun c28 => ?_) (fun c28 => absurd c28 (by decide))
      refine z_aload_0 dX7_compared_33 ?_
      refine z_iconst dX7_compared_34 ?_
      refine z_iload_1 dX7_compared_35 ?_
      refine z_cVN yv_X7_lays ml_X7_213 (c_X7_lays (M := P_) (by have hb_ := QSu_PB (adM_PB hB (cm_lt c9).1) q2_; have h1_ := hb_.1; have h2_ := hb_.2.1; have h3_ := hb_.2.2.2; omega)) zk_75 rfl rfl (by decide) (Nat.le_of_ble_eq_true rfl) dX7_compared_36 ?_
      refine z_iconst dX7_compared_39 ?_
      exact z_zret (by first | exact Or.inl rfl | exact Or.inr rfl | exact zb_01 | omega) dX7_compared_40 (zBI (Co_1 hB h7 c9 q2_))
    · skip
      refine z_if_ne (tgt := 33) (by decide) dX7_compared_28 (by decide) (fun c28 => absurd c28 (by decide)) (fun c28 => ?_)
      refine z_iconst dX7_compared_31 ?_
      exact z_zret (by first | exact Or.inl rfl | exact Or.inr rfl | exact zb_01 | omega) dX7_compared_32 (zBI (Co_0 hB h7 c9 q2_))
  · refine z_iconst dX7_compared_12 ?_
    exact z_zret (by first | exact Or.inl rfl | exact Or.inr rfl | exact zb_01 | omega) dX7_compared_13 (zBI (Co_no hB c9))

theorem c_X7_condition {M : zM} {L : List (Int × Int)} {m : Nat} (hB : PB M) (h7 : M 75 7 = 0) (hT : TopS (M 79) (M 75 5) (M 75 6) L m) (hc : M 75 6 < M 75 5 ∧ isCm (M 79 (M 75 6))) : Call yX7_condition cX7_condition 1 (some .boolean) 15 [vR 75] (M) (BI (QCd M L m)) := by
  refine Call.of2 (own := RX7) (lv0 := [some (vR 75)]) rfl (by decide) rfl (Nat.le_of_ble_eq_true rfl) ?_
  obtain ⟨⟨b0_, b1_⟩, ⟨b2_, b3_⟩, b4_, ⟨b5_, b6_⟩⟩ := id hB
  refine z_aload_0 dX7_condition_0 ?_
  refine z_sV yv_X7_compared ml_X7_217 (c_X7_compared (M := M) hB h7) zk_75 rfl rfl (by decide) (Nat.le_of_ble_eq_true rfl) dX7_condition_1 (fun x_ P_ hq_ => ?_)
  rcases (QCo_c hq_) with ⟨rfl, q2_⟩ | ⟨rfl, q2_⟩
  · skip
    refine z_if_ne (tgt := 9) (by decide) dX7_condition_4 (by decide) (fun c4 => ?_) (fun c4 => absurd c4 (by decide))
    have K9 : ∀ (fuel_ : Nat) (N_ : zM), M 75 5 - N_ 75 6 < (fuel_ : Int) → (CdI M N_ L m) → Z RX7 cX7_condition 1 (some .boolean) 15 (zQ (BI (QCd M L m))) 9 [some (vR 75)] [] (N_) := by
      intro fuel_
      induction fuel_ with
      | zero => intro N_ hfuel_ hI_; exfalso; have := (CdI_PB hB hI_).1; have e_ := (CdI_e hI_).2.1; omega
      | succ fuel_ ih9 =>
        intro N_ hfuel_ hI_
        have hBN_ := CdI_PB hB hI_
        have hlb_ := hBN_.1
        refine z_aload_0 dX7_condition_9 ?_
        refine z_bipush dX7_condition_10 (by decide) ?_
        refine z_sV yv_X7_takes ml_X7_211 (c_X7_takes (M := N_) hBN_ (by decide)) zk_75 rfl rfl (by decide) (Nat.le_of_ble_eq_true rfl) dX7_condition_12 (fun x_ K_ hq_ => ?_)
        rcases hq_ with ⟨rfl, t1_, t2_, rfl⟩ | ⟨rfl, t1_, rfl⟩
        · skip
          refine z_if_eq (tgt := 44) (by decide) dX7_condition_15 (by decide) (fun c15 => absurd c15 (by decide)) (fun c15 => ?_)
          refine z_aload_0 dX7_condition_18 ?_
          refine z_sV yv_X7_sum ml_X7_201 ((c_X7_ps 5 (by decide)).2 (adM N_) (adM_PB hBN_ t1_) (by rw [show adM N_ 75 7 = N_ 75 7 from zput_ne2 (by decide), hI_.1]; rfl)) zk_75 rfl rfl (by decide) (Nat.le_of_ble_eq_true rfl) dX7_condition_19 (fun x_ P2_ hq_ => ?_)
          rcases (QSu_c hq_) with ⟨rfl, q2_⟩ | ⟨rfl, q2_⟩
          · skip
            refine z_if_eq (tgt := 32) (by decide) dX7_condition_22 (by decide) (fun c22 => absurd c22 (by decide)) (fun c22 => ?_)
            refine z_aload_0 dX7_condition_25 ?_
            refine z_sV yv_X7_compared ml_X7_217 (c_X7_compared (M := P2_) (QSu_PB (adM_PB hBN_ t1_) q2_) (Su0 hI_.1 q2_).2.1) zk_75 rfl rfl (by decide) (Nat.le_of_ble_eq_true rfl) dX7_condition_26 (fun x_ K2_ hq_ => ?_)
            rcases (QCo_c hq_) with ⟨rfl, q3_⟩ | ⟨rfl, q3_⟩
            · skip
              refine z_if_ne (tgt := 34) (by decide) dX7_condition_29 (by decide) (fun c29 => ?_) (fun c29 => absurd c29 (by decide))
              refine z_aload_0 dX7_condition_34 ?_
              refine z_iconst dX7_condition_35 ?_
              refine z_bipush dX7_condition_36 (by decide) ?_
              refine z_cVN yv_X7_lays ml_X7_213 (c_X7_lays (M := K2_) (by have hb_ := QCo_PB (QSu_PB (adM_PB hBN_ t1_) q2_) q3_; have h1_ := hb_.1; have h2_ := hb_.2.1; have h3_ := hb_.2.2.2; omega)) zk_75 rfl rfl (by decide) (Nat.le_of_ble_eq_true rfl) dX7_condition_38 ?_
              refine z_goto (tgt := 9) dX7_condition_41 (by decide) ?_
              exact ih9 _ (by rw [lays_6]; have h1_ := (Su0 hI_.1 q2_).1; have h2_ := (QCo_1 q3_).2.2.2.2.1; omega) (by exact Cd_m hB hI_ t1_ t2_ q2_ q3_)
            · skip
              refine z_if_ne (tgt := 34) (by decide) dX7_condition_29 (by decide) (fun c29 => absurd c29 (by decide)) (fun c29 => ?_)
              refine z_iconst dX7_condition_32 ?_
              exact z_zret (by first | exact Or.inl rfl | exact Or.inr rfl | exact zb_01 | omega) dX7_condition_33 (zBI (by first | exact Cd_m0 hB hI_ t1_ t2_ q2_ | exact Cd_m2 hB hI_ t1_ t2_ q2_ q3_))
          · skip
            refine z_if_eq (tgt := 32) (by decide) dX7_condition_22 (by decide) (fun c22 => ?_) (fun c22 => absurd c22 (by decide))
            refine z_iconst dX7_condition_32 ?_
            exact z_zret (by first | exact Or.inl rfl | exact Or.inr rfl | exact zb_01 | omega) dX7_condition_33 (zBI (by first | exact Cd_m0 hB hI_ t1_ t2_ q2_ | exact Cd_m2 hB hI_ t1_ t2_ q2_ q3_))
        · skip
          refine z_if_eq (tgt := 44) (by decide) dX7_condition_15 (by decide) (fun c15 => ?_) (fun c15 => absurd c15 (by decide))
          refine z_iconst dX7_condition_44 ?_
          exact z_zret (by first | exact Or.inl rfl | exact Or.inr rfl | exact zb_01 | omega) dX7_condition_45 (zBI (Cd_e hI_ t1_))
    have L9 : ∀ (N_ : zM), (CdI M N_ L m) → Z RX7 cX7_condition 1 (some .boolean) 15 (zQ (BI (QCd M L m))) 9 [some (vR 75)] [] (N_) := fun N_ hI_ => K9 ((M 75 5 - N_ 75 6).toNat + 1) N_ (by omega) hI_
    exact L9 _ (by exact Cd_1 h7 hT q2_)
  · skip
    refine z_if_ne (tgt := 9) (by decide) dX7_condition_4 (by decide) (fun c4 => absurd c4 (by decide)) (fun c4 => ?_)
    refine z_iconst dX7_condition_7 ?_
    exact z_zret (by first | exact Or.inl rfl | exact Or.inr rfl | exact zb_01 | omega) dX7_condition_8 (zBI (Cd_0 hT hc q2_))
