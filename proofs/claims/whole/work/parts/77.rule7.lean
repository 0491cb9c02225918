def WhH (M N : zM) (c : Int) : Prop := N 75 7 = 0 ∧ exL (fun l => Pg M N l c ∧ TopH (M 79) (N 75 6) l c.toNat)
def WhE (M N : zM) (c : Int) : Prop := exL (fun l => Pg M N l c ∧ TopS (M 79) (M 75 5) (N 75 6) l c.toNat ∧ sEnd (M 79) (M 75 5) (N 75 6) ∧ (N 75 6 < M 75 5 → ¬ isCm (M 79 (N 75 6))))
def WhQ (M N : zM) (c b : Int) : Prop := (b = 1 ∧ WhH M N c) ∨ (b = 0 ∧ WhE M N c)
theorem WhQ_1 {M N : zM} {c b : Int} (h : WhQ M N c b) (hb : ¬ b = 0) : WhH M N c := by
  rcases h with h | h
  · exact h.2
  · exact absurd h.1 hb
theorem WhQ_0 {M N : zM} {c b : Int} (h : WhQ M N c b) (hb : b = 0) : WhE M N c := by
  rcases h with h | h
  · omega
  · exact h.2
theorem WhQ_b {M N : zM} {c b : Int} (h : WhQ M N c b) : b = 0 ∨ b = 1 := by
  rcases h with h | h
  · exact Or.inr h.1
  · exact Or.inl h.1
theorem WhQ_PB {M N : zM} {c b : Int} (hB : PB M) (hc : 0 ≤ c) (h : WhQ M N c b) : PB N ∧ N 75 5 = M 75 5 := by
  rcases h with ⟨_, _, l, h1, _⟩ | ⟨_, l, h1, _⟩
  · exact ⟨Pg_PB hB h1 hc, h1.1.2 5 (by decide) (by decide) (by decide)⟩
  · exact ⟨Pg_PB hB h1 hc, h1.1.2 5 (by decide) (by decide) (by decide)⟩
theorem Wh_s {M N P : zM} {c : Int} (h : WhH M N c) (q : QSu N 1 P) : exL (fun l => Pg M P l c ∧ TopS (M 79) (M 75 5) (P 75 6) l c.toNat) ∧ sEnd (M 79) (M 75 5) (P 75 6) ∧ P 75 7 = 0 ∧ P 79 = M 79 ∧ P 75 5 = M 75 5 ∧ N 75 6 < P 75 6 := by
  obtain ⟨h7, l, p1, t1⟩ := h
  obtain ⟨r1, r2, r5, l2, r3, r4⟩ := QSu_1 q
  have e79 : N 79 = M 79 := p1.1.1 79 (by decide) (by decide)
  have e5 : N 75 5 = M 75 5 := p1.1.2 5 (by decide) (by decide) (by decide)
  rw [e79, e5, h7] at r4
  rw [e79, e5] at r5
  have p2 := Pg_tr p1 r3
  exact ⟨⟨_, Pg_le p2 (by omega), TopS_of t1 r4⟩, r5, by omega, by rw [r3.1.1 79 (by decide) (by decide), e79], by rw [r3.1.2 5 (by decide) (by decide) (by decide), e5], r1⟩
def QWh (M : zM) (x : Int) (N : zM) : Prop := (x = 1 ∧ exL (fun l => Pg M N l 0 ∧ TopF (M 79) (M 75 5) (N 75 6) l)) ∨ (x = 0 ∧ Fl M N ∧ TopNO (M 79) (M 75 5) (N 75 6))
theorem Wh_n1 {M N P : zM} {c : Int} (h : WhH M N c) (q : QSu N 0 P) : QWh M 0 P := by
  obtain ⟨h7, l, p1, t1⟩ := h
  obtain ⟨r1, r2⟩ := QSu_0 q
  have e79 : N 79 = M 79 := p1.1.1 79 (by decide) (by decide)
  have e5 : N 75 5 = M 75 5 := p1.1.2 5 (by decide) (by decide) (by decide)
  rw [e79, e5, h7] at r2
  exact Or.inr ⟨rfl, Fl_tr (Pg_Fl p1) r1, TopNO_H t1 r2⟩
theorem Wh_e {M P : zM} {c : Int} {l : List (Int × Int)} (p1 : Pg M P l c) (t1 : TopS (M 79) (M 75 5) (P 75 6) l c.toNat) (hs : sEnd (M 79) (M 75 5) (P 75 6)) (hc : ¬ isCm (hV (P 79) (P 75 5) (P 75 6))) : WhE M P c := by
  have e79 : P 79 = M 79 := p1.1.1 79 (by decide) (by decide)
  have e5 : P 75 5 = M 75 5 := p1.1.2 5 (by decide) (by decide) (by decide)
  rw [e79, e5] at hc
  exact ⟨l, p1, t1, hs, fun q => by rw [hV_of q] at hc; exact hc⟩
theorem Wh_n2 {M P K : zM} {c : Int} {l : List (Int × Int)} (p1 : Pg M P l c) (q1 : Fl P K) (q2 : TopNO (P 79) (P 75 5) (K 75 6)) : QWh M 0 K := by
  have e79 : P 79 = M 79 := p1.1.1 79 (by decide) (by decide)
  have e5 : P 75 5 = M 75 5 := p1.1.2 5 (by decide) (by decide) (by decide)
  rw [e79, e5] at q2
  exact Or.inr ⟨rfl, Fl_tr (Pg_Fl p1) q1, q2⟩
theorem Wh_n3 {M P K : zM} {c : Int} {l : List (Int × Int)} {m : Nat} (hB : PB P) (p1 : Pg M P l c) (q : CdI P K l m) (ha : K 75 6 < P 75 5 → P 79 (K 75 6) ≠ 38) (hq : K 75 6 < K 75 5 → K 79 (K 75 6) ≠ 63) : QWh M 0 K := by
  obtain ⟨f79, f5, _⟩ := CdI_e q
  have hK := CdI_PB hB q
  obtain ⟨h7, h6, hs, l3, p2, t2⟩ := q
  rw [f79, f5] at hq
  have hKn : K 75 6 ≤ P 75 5 := by have := hK.1; omega
  exact Wh_n2 p1 (Pg_Fl p2) (TopNO_C2 t2 hKn hs ha hq)
theorem Wh_n4 {M P K S : zM} {c : Int} {l : List (Int × Int)} {m : Nat} (hB : PB P) (p1 : Pg M P l c) (q : CdI P K l m) (hl : K 75 6 < K 75 5) (hq : K 79 (K 75 6) = 63) (q2 : QSu (adM K) 0 S) : QWh M 0 S := by
  obtain ⟨f79, f5, _⟩ := CdI_e q
  have hK := CdI_PB hB q
  obtain ⟨h7, h6, hs, l3, p2, t2⟩ := q
  obtain ⟨r1, r2⟩ := Su00 h7 q2
  rw [f79, f5] at r2
  rw [f79] at hq
  exact Wh_n2 p1 (Fl_tr (Pg_Fl p2) (Fl_tr (Pg_Fl (Pg_adv (j := 1) hK (by decide) (by omega))) r1)) (TopNO_C3 t2 hq r2)
theorem Wh_q {M P K S : zM} {c : Int} {l : List (Int × Int)} (hc : 0 ≤ c) (hB : PB P) (p1 : Pg M P l c) (q : CdI P K l c.toNat) (hl : K 75 6 < K 75 5) (hq : K 79 (K 75 6) = 63) (q2 : QSu (adM K) 1 S) : PB S ∧ S 75 7 = 0 ∧ P 75 6 < S 75 6 ∧ S 75 5 = M 75 5 ∧ (S 75 6 < S 75 5 → S 79 (S 75 6) = 58 → WhH M (adM S) (c + 1)) ∧ ((S 75 6 < S 75 5 → S 79 (S 75 6) ≠ 58) → QWh M 0 S) := by
  obtain ⟨f79, f5, _⟩ := CdI_e q
  have hK := CdI_PB hB q
  obtain ⟨h7, h6, hs, l3, p2, t2⟩ := q
  have p3 := Pg_adv (j := 1) hK (by decide) (by omega)
  have hA := adM_PB hK hl
  obtain ⟨r1, r2, r5, l4, r3, r4⟩ := Su0 h7 q2
  have hS := Pg_PB hA r3 (by decide)
  have e79 : P 79 = M 79 := p1.1.1 79 (by decide) (by decide)
  have e5 : P 75 5 = M 75 5 := p1.1.2 5 (by decide) (by decide) (by decide)
  have g79 : S 79 = P 79 := by rw [r3.1.1 79 (by decide) (by decide), show adM K 79 = K 79 from zput_ne (by decide), f79]
  have g5 : S 75 5 = P 75 5 := by rw [r3.1.2 5 (by decide) (by decide) (by decide), show adM K 75 5 = K 75 5 from zput_ne2 (by decide), f5]
  rw [f79, f5] at r4 r5
  rw [f79] at hq
  have tq := TopQ_of t2 hq r4
  refine ⟨hS, r2, by omega, by omega, fun a b => ?_, fun a => ?_⟩
  · rw [g79] at b
    have th := TopH_Q tq b
    rw [e79, e5] at tq
    rw [e79] at th
    have p5 := Pg_adv (j := 1) hS (by decide) (by omega)
    refine ⟨by rw [show adM S 75 7 = S 75 7 from zput_ne2 (by decide)]; exact r2, _, Pg_le (Pg_tr p1 (Pg_tr p2 (Pg_tr p3 (Pg_tr r3 p5)))) (by omega), ?_⟩
    rw [show adM S 75 6 = S 75 6 + 1 from zput_eq, show (c + 1).toNat = c.toNat + 1 by omega]
    have e : l ++ (l3 ++ ([] ++ (l4 ++ []))) = l ++ l3 ++ l4 := by simp
    rw [e]
    exact th
  · rw [g79, g5] at a
    have hn : S 75 6 ≤ P 75 5 := by have := hS.1; omega
    exact Wh_n2 p1 (Fl_tr (Pg_Fl p2) (Fl_tr (Pg_Fl p3) (Pg_Fl r3))) (TopNO_Q tq hn r5 a)
/-- the choices are laid -/
def LaI (N K : zM) (i : Int) : Prop := K 75 6 = N 75 6 ∧ Pg N K (List.replicate i.toNat (4, 0)) (-i)
theorem LaI_0 {N : zM} (h : PB N) : LaI N N 0 := ⟨rfl, Pg_rf h⟩
theorem LaI_1 {N K : zM} {i : Int} (hi : 0 ≤ i) (hB : PB K) (h : LaI N K i) : LaI N (laysM K 4 0) (i + 1) := by
  refine ⟨by rw [lays_6]; exact h.1, ?_⟩
  have p := Pg_tr h.2 (Pg_lay (w := 4) (v := 0) hB (by omega))
  rw [show (i + 1).toNat = i.toNat + 1 by omega, List.replicate_succ']
  exact Pg_le p (by omega)
theorem LaI_PB {M N K : zM} {c i : Int} (hB : PB M) (hi : i ≤ c) (h : LaI N K i) (hE : WhE M N c) : PB K := by
  obtain ⟨l, p1, _⟩ := hE
  exact Pg_PB hB (Pg_tr p1 h.2) (by omega)
theorem Wh_l {M N K : zM} {c : Int} (h : WhE M N c) (hK : LaI N K c) : QWh M 1 K := by
  obtain ⟨l, p1, t1, hs, hc⟩ := h
  refine Or.inl ⟨rfl, _, Pg_le (Pg_tr p1 hK.2) (by omega), ?_⟩
  rw [hK.1]
  exact TopF_of t1 hs hc
theorem QWh_c {M N : zM} {x : Int} (h : QWh M x N) : (x = 1 ∧ exL (fun l => Pg M N l 0 ∧ TopF (M 79) (M 75 5) (N 75 6) l)) ∨ (x = 0 ∧ Fl M N ∧ TopNO (M 79) (M 75 5) (N 75 6)) := h
theorem c_X7_whole {M : zM} (hB : PB M) (h6 : M 75 6 = 0) (h7 : M 75 7 = 0) : Call yX7_whole cX7_whole 4 (some .boolean) 16 [vR 75] (M) (BI (QWh M)) := by
  refine Call.of2 (own := RX7) (lv0 := [some (vR 75), none, none, none]) rfl (by decide) rfl (Nat.le_of_ble_eq_true rfl) ?_
  obtain ⟨⟨b0_, b1_⟩, ⟨b2_, b3_⟩, b4_, ⟨b5_, b6_⟩⟩ := id hB
  refine z_iconst dX7_whole_0 ?_
  refine z_istore_1 rfl dX7_whole_1 ?_
  refine z_iconst dX7_whole_2 ?_
  refine z_istore_2 rfl dX7_whole_3 ?_
  have K4 : ∀ (fuel_ : Nat) (c_ : Int) (b_ : Int) (N_ : zM), 2 * (M 75 5 - N_ 75 6) + b_ < (fuel_ : Int) → (0 ≤ c_) → (c_ ≤ N_ 75 6) → (WhQ M N_ c_ b_) → Z RX7 cX7_whole 4 (some .boolean) 16 (zQ (BI (QWh M))) 4 [some (vR 75), some (vI c_), some (vI b_), none] [] (N_) := by
    intro fuel_
    induction fuel_ with
    | zero => intro c_ b_ N_ hfuel_ hc_ hcn_ hW_; exfalso; have h1_ := WhQ_PB hB hc_ hW_; have h2_ := WhQ_b hW_; have h3_ := h1_.1.1; omega
    | succ fuel_ ih4 =>
      intro c_ b_ N_ hfuel_ hc_ hcn_ hW_
      have hBN_ := (WhQ_PB hB hc_ hW_).1
      have hn5_ := (WhQ_PB hB hc_ hW_).2
      have hb01_ := WhQ_b hW_
      have hbn_ := hBN_.1
      refine z_iload_2 dX7_whole_4 ?_
      refine z_if_eq (tgt := 66) (by omega) dX7_whole_5 (by decide) (fun c5 => ?_) (fun c5 => ?_)
      · refine z_iconst dX7_whole_66 ?_
        refine z_istore_3 rfl dX7_whole_67 ?_
        have K68 : ∀ (fuel_ : Nat) (i_ : Int) (K_ : zM), c_ - i_ < (fuel_ : Int) → (0 ≤ i_ ∧ i_ ≤ c_) → (LaI N_ K_ i_) → Z RX7 cX7_whole 4 (some .boolean) 16 (zQ (BI (QWh M))) 68 [some (vR 75), some (vI c_), some (vI b_), some (vI i_)] [] (K_) := by
          intro fuel_
          induction fuel_ with
          | zero => intro i_ K_ hfuel_ hi_ hL_; exfalso; omega
          | succ fuel_ ih68 =>
            intro i_ K_ hfuel_ hi_ hL_
            refine z_iload_3 dX7_whole_68 ?_
            refine z_iload_1 dX7_whole_69 ?_
            refine z_icmp_ge (tgt := 85) (by omega) (by omega) dX7_whole_70 (by decide) (fun c70 => ?_) (fun c70 => ?_)
            · refine z_iconst dX7_whole_85 ?_
              exact z_zret (by first | exact Or.inl rfl | exact Or.inr rfl | exact zb_01 | omega) dX7_whole_86 (zBI (Wh_l (WhQ_0 hW_ c5) (by rw [show c_ = i_ by omega]; exact hL_)))
            · refine z_aload_0 dX7_whole_73 ?_
              refine z_iconst dX7_whole_74 ?_
              refine z_iconst dX7_whole_75 ?_
              refine z_cVN yv_X7_lays ml_X7_213 (c_X7_lays (M := K_) (by have hb_ := LaI_PB hB (by omega) hL_ (WhQ_0 hW_ c5); have h1_ := hb_.1; have h2_ := hb_.2.1; have h3_ := hb_.2.2.2; omega)) zk_75 rfl rfl (by decide) (Nat.le_of_ble_eq_true rfl) dX7_whole_76 ?_
              refine z_iinc_3 rfl dX7_whole_79 ?_
              refine z_goto (tgt := 68) dX7_whole_82 (by decide) ?_
              exact ih68 _ _ (by omega) (by omega) (by exact LaI_1 hi_.1 (LaI_PB hB (by omega) hL_ (WhQ_0 hW_ c5)) hL_)
        have L68 : ∀ (i_ : Int) (K_ : zM), (0 ≤ i_ ∧ i_ ≤ c_) → (LaI N_ K_ i_) → Z RX7 cX7_whole 4 (some .boolean) 16 (zQ (BI (QWh M))) 68 [some (vR 75), some (vI c_), some (vI b_), some (vI i_)] [] (K_) := fun i_ K_ hi_ hL_ => K68 ((c_ - i_).toNat + 1) i_ K_ (by omega) hi_ hL_
        exact L68 _ _ (by omega) (by exact LaI_0 hBN_)
      · refine z_aload_0 dX7_whole_8 ?_
        refine z_sV yv_X7_sum ml_X7_201 ((c_X7_ps 5 (by decide)).2 N_ hBN_ (by rw [(WhQ_1 hW_ c5).1]; rfl)) zk_75 rfl rfl (by decide) (Nat.le_of_ble_eq_true rfl) dX7_whole_9 (fun x_ P_ hq_ => ?_)
        rcases (QSu_c hq_) with ⟨rfl, q2_⟩ | ⟨rfl, q2_⟩
        · skip
          refine z_if_ne (tgt := 17) (by decide) dX7_whole_12 (by decide) (fun c12 => ?_) (fun c12 => absurd c12 (by decide))
          have hWH_ := WhQ_1 hW_ c5
          obtain ⟨⟨l_, w1_, w2_⟩, w3_, w7_, w79_, w5_, wl_⟩ := Wh_s hWH_ q2_
          have hBP_ : PB P_ := Pg_PB hB w1_ hc_
          refine z_aload_0 dX7_whole_17 ?_
          refine z_cVI yv_X7_isCompare ml_X7_205 (c_X7_isCompare (M := P_) hBP_) zk_75 rfl rfl (by decide) (Nat.le_of_ble_eq_true rfl) dX7_whole_18 ?_
          refine z_istore_2 rfl dX7_whole_21 ?_
          refine z_iload_2 dX7_whole_22 ?_
          refine z_ifb_eq (tgt := 4) dX7_whole_23 (by decide) (fun c23 => ?_) (fun c23 => ?_)
          · exact ih4 _ _ _ (by first | (rw [zb_f c23]; omega) | (rw [zb_t c23, zput_eq]; omega)) (by omega) (by omega) (by rw [zb_f c23]; exact Or.inr ⟨rfl, Wh_e w1_ w2_ w3_ c23⟩)
          · refine z_aload_0 dX7_whole_26 ?_
            refine z_sV yv_X7_condition ml_X7_208 (c_X7_condition (M := P_) hBP_ w7_ (by rw [w79_, w5_]; exact w2_) (by have h1_ := cm_lt (M := P_) c23; exact ⟨h1_.1, by rw [← h1_.2]; exact c23⟩)) zk_75 rfl rfl (by decide) (Nat.le_of_ble_eq_true rfl) dX7_whole_27 (fun x_ K_ hq_ => ?_)
            rcases (QCd_c hq_) with ⟨rfl, k1_, k2_⟩ | ⟨rfl, k1_, k2_⟩
            · skip
              have hBK_ := CdI_PB hBP_ k1_
              refine z_if_eq (tgt := 58) (by decide) dX7_whole_30 (by decide) (fun c30 => absurd c30 (by decide)) (fun c30 => ?_)
              refine z_aload_0 dX7_whole_33 ?_
              refine z_bipush dX7_whole_34 (by decide) ?_
              refine z_sV yv_X7_takes ml_X7_211 (c_X7_takes (M := K_) hBK_ (by decide)) zk_75 rfl rfl (by decide) (Nat.le_of_ble_eq_true rfl) dX7_whole_36 (fun x_ K2_ hq_ => ?_)
              rcases hq_ with ⟨rfl, t1_, t2_, rfl⟩ | ⟨rfl, t1_, rfl⟩
              · skip
                refine z_if_eq (tgt := 58) (by decide) dX7_whole_39 (by decide) (fun c39 => absurd c39 (by decide)) (fun c39 => ?_)
                refine z_aload_0 dX7_whole_42 ?_
                refine z_sV yv_X7_sum ml_X7_201 ((c_X7_ps 5 (by decide)).2 (adM K_) (adM_PB hBK_ t1_) (by rw [show adM K_ 75 7 = K_ 75 7 from zput_ne2 (by decide), k1_.1]; rfl)) zk_75 rfl rfl (by decide) (Nat.le_of_ble_eq_true rfl) dX7_whole_43 (fun x_ S_ hq_ => ?_)
                rcases (QSu_c hq_) with ⟨rfl, q3_⟩ | ⟨rfl, q3_⟩
                · skip
                  obtain ⟨hBS_, s7_, sl_, s5_, sY_, sN_⟩ := Wh_q hc_ hBP_ w1_ k1_ t1_ t2_ q3_
                  refine z_if_eq (tgt := 58) (by decide) dX7_whole_46 (by decide) (fun c46 => absurd c46 (by decide)) (fun c46 => ?_)
                  refine z_aload_0 dX7_whole_49 ?_
                  refine z_bipush dX7_whole_50 (by decide) ?_
                  refine z_sV yv_X7_takes ml_X7_211 (c_X7_takes (M := S_) hBS_ (by decide)) zk_75 rfl rfl (by decide) (Nat.le_of_ble_eq_true rfl) dX7_whole_52 (fun x_ K3_ hq_ => ?_)
                  rcases hq_ with ⟨rfl, u1_, u2_, rfl⟩ | ⟨rfl, u1_, rfl⟩
                  · skip
                    refine z_if_ne (tgt := 60) (by decide) dX7_whole_55 (by decide) (fun c55 => ?_) (fun c55 => absurd c55 (by decide))
                    refine z_iinc_1 rfl dX7_whole_60 ?_
                    refine z_goto (tgt := 4) dX7_whole_63 (by decide) ?_
                    exact ih4 _ _ _ (by first | (rw [zb_f c23]; omega) | (rw [zb_t c23, zput_eq]; omega)) (by omega) (by rw [zput_eq]; omega) (by rw [zb_t c23]; exact Or.inl ⟨rfl, sY_ u1_ u2_⟩)
                  · skip
                    refine z_if_ne (tgt := 60) (by decide) dX7_whole_55 (by decide) (fun c55 => absurd c55 (by decide)) (fun c55 => ?_)
                    refine z_iconst dX7_whole_58 ?_
                    exact z_zret (by first | exact Or.inl rfl | exact Or.inr rfl | exact zb_01 | omega) dX7_whole_59 (zBI (by first | exact Wh_n2 w1_ k1_ k2_ | exact Wh_n3 hBP_ w1_ k1_ k2_ t1_ | exact Wh_n4 hBP_ w1_ k1_ t1_ t2_ q3_ | exact sN_ u1_))
                · skip
                  refine z_if_eq (tgt := 58) (by decide) dX7_whole_46 (by decide) (fun c46 => ?_) (fun c46 => absurd c46 (by decide))
                  refine z_iconst dX7_whole_58 ?_
                  exact z_zret (by first | exact Or.inl rfl | exact Or.inr rfl | exact zb_01 | omega) dX7_whole_59 (zBI (by first | exact Wh_n2 w1_ k1_ k2_ | exact Wh_n3 hBP_ w1_ k1_ k2_ t1_ | exact Wh_n4 hBP_ w1_ k1_ t1_ t2_ q3_ | exact sN_ u1_))
              · skip
                refine z_if_eq (tgt := 58) (by decide) dX7_whole_39 (by decide) (fun c39 => ?_) (fun c39 => absurd c39 (by decide))
                refine z_iconst dX7_whole_58 ?_
                exact z_zret (by first | exact Or.inl rfl | exact Or.inr rfl | exact zb_01 | omega) dX7_whole_59 (zBI (by first | exact Wh_n2 w1_ k1_ k2_ | exact Wh_n3 hBP_ w1_ k1_ k2_ t1_ | exact Wh_n4 hBP_ w1_ k1_ t1_ t2_ q3_ | exact sN_ u1_))
            · skip
              refine z_if_eq (tgt := 58) (by decide) dX7_whole_30 (by decide) (fun c30 => ?_) (fun c30 => absurd c30 (by decide))
              refine z_iconst dX7_whole_58 ?_
              exact z_zret (by first | exact Or.inl rfl | exact Or.inr rfl | exact zb_01 | omega) dX7_whole_59 (zBI (by first | exact Wh_n2 w1_ k1_ k2_ | exact Wh_n3 hBP_ w1_ k1_ k2_ t1_ | exact Wh_n4 hBP_ w1_ k1_ t1_ t2_ q3_ | exact sN_ u1_))
        · skip
          refine z_if_ne (tgt := 17) (by decide) dX7_whole_12 (by decide) (fun c12 => absurd c12 (by decide)) (fun c12 => ?_)
          refine z_iconst dX7_whole_15 ?_
          exact z_zret (by first | exact Or.inl rfl | exact Or.inr rfl | exact zb_01 | omega) dX7_whole_16 (zBI (Wh_n1 (WhQ_1 hW_ c5) q2_))
  have L4 : ∀ (c_ : Int) (b_ : Int) (N_ : zM), (0 ≤ c_) → (c_ ≤ N_ 75 6) → (WhQ M N_ c_ b_) → Z RX7 cX7_whole 4 (some .boolean) 16 (zQ (BI (QWh M))) 4 [some (vR 75), some (vI c_), some (vI b_), none] [] (N_) := fun c_ b_ N_ hc_ hcn_ hW_ => K4 ((2 * (M 75 5 - N_ 75 6) + b_).toNat + 1) c_ b_ N_ (by omega) hc_ hcn_ hW_
  exact L4 _ _ _ (by decide) (by omega) (by exact Or.inl ⟨rfl, h7, [], Pg_rf hB, by rw [h6]; exact TopH_0⟩)
