theorem top_at {t t2 : Int → Int} {n b : Int} (F : Int → Int) (x1 x2 x3 x4 : Int) (hb : b ≤ n) (hc : ∀ j : Int, 0 ≤ j → j < n → (0 ≤ t j ∧ t j ≤ 255) ∧ t2 j = Int.bmod (t j) 256) (h : TopNO t n b ∨ (b < n ∧ exL (fun l => TopF t n b l))) : ∃ s2, Go F t2 0 (s0A x1 x2 x3 x4) b s2 ∧ Stuck F t2 n b s2 := by
  rcases h with h | ⟨q, l, h⟩
  · exact TopNO_bm h hb hc F x1 x2 x3 x4
  · obtain ⟨k2, x, g, lf, cp, co, va, t1, t3, t4, t5⟩ := TopF_bm h hb hc F x1 x2 x3 x4
    exact ⟨_, t1, Or.inl ⟨q, t5 q⟩⟩
theorem Sim_rule {M N K : zM} {l : List (Int × Int)} (h : Sim M) (hn : 1 ≤ M 0 5) (o : ∀ k_ : Nat, k_ ≠ 7 → k_ ≠ 65 → k_ ≠ 66 → k_ ≠ 0 → k_ ≠ 1 → k_ ≠ 17 → N k_ = M k_) (o0 : ∀ j_ : Int, j_ ≠ 5 → N 0 j_ = M 0 j_) (o1 : ∀ j_ : Int, j_ ≠ 8 → N 1 j_ = M 1 j_) (n05 : N 0 5 = 0) (n18 : N 1 8 = M 0 5) (n17 : N 17 = zcopy (M 4) (M 17) 0 0 (M 0 5)) (hr : RdI N) (lF : TopF (M 79) (M 0 5) (M 0 5) l) (lok : okL l) (llen : l.length ≤ 60) (l11 : K 76 11 = (l.length : Int)) (lst : stS2 (K 76) = l) (k5 : K 75 5 = 0) (kj : ∀ j : Int, j < 84 → j ≠ 11 → K 76 j = N 76 j) (kF : ∀ k : Nat, k ≠ 75 → k ≠ 76 → k ≠ 80 → K k = N k) (k75 : ∀ j : Int, j ≠ 5 → j ≠ 6 → j ≠ 7 → j ≠ 8 → K 75 j = N 75 j) : SimN M K := by
  intro c_ hc_ hl_
  obtain ⟨⟨hs, h9, hW, hX, hU, hB⟩, hK, hP, hH, hF, hRd, hSw⟩ := id h
  obtain ⟨hs0, hs1, hsn, hsp⟩ := id hs
  have hn1 := hsn.1
  have n6 : M 0 5 ≤ 60 := by rw [hP.1]; exact hP.2.1.2
  have e76 : N 76 = M 76 := o 76 (by decide) (by decide) (by decide) (by decide) (by decide) (by decide)
  have kM : ∀ k : Nat, k ≠ 75 → k ≠ 76 → k ≠ 80 → k ≠ 7 → k ≠ 65 → k ≠ 66 → k ≠ 0 → k ≠ 1 → k ≠ 17 → K k = M k := fun k a b c d e f g i j => by rw [kF k a b c, o k d e f g i j]
  have lK : ∀ j : Int, j < 84 → j ≠ 11 → K 76 j = M 76 j := fun j a b => by rw [kj j a b, e76]
  have z1 : ∀ j : Int, j ≠ 8 → K 1 j = M 1 j := fun j hj => by rw [kF 1 (by decide) (by decide) (by decide), o1 j hj]
  have z18 : K 1 8 = M 0 5 := by rw [kF 1 (by decide) (by decide) (by decide), n18]
  have z17 : K (16 + 1) = zcopy (M 4) (M 17) 0 0 (M 0 5) := by rw [kF 17 (by decide) (by decide) (by decide), n17]
  have l1 : 1 ≤ l.length := by
    cases l with
    | nil =>
      obtain ⟨v, hv⟩ := TopF_RuW lF (fun _ => 0)
      exact absurd hv (by simp [evO])
    | cons a b => simp
  have kT : TopF (K (16 + 1)) (M 0 5) (M 0 5) l := TopF_bm lF (Int.le_refl _) (fun j a b => ⟨hP.2.2.2.1 j a (by omega), by
    rw [z17, ← hP.2.2.1 j a (by rw [← hP.1]; exact b)]
    unfold zcopy
    rw [if_pos (by omega)]
    rw [show (0 : Int) + (j - 0) = j by omega]⟩)
  obtain ⟨a0, a1, a2, a3, a6, hp, hg⟩ := hW
  have hT : SimT K := by
    refine ⟨⟨by rw [lK 0 (by decide) (by decide)]; exact hs0, by rw [lK 1 (by decide) (by decide)]; exact hs1, ⟨by rw [lK 10 (by decide) (by decide)]; exact hn1, fun i hi => ?_⟩, pOK_congr hsp (fun f a b => lK _ (by omega) (by omega))⟩, by rw [lK 0 (by decide) (by decide)]; exact h9, ⟨by rw [z1 0 (by decide), lK 0 (by decide) (by decide)]; exact a0, by rw [z1 1 (by decide), lK 1 (by decide) (by decide)]; exact a1, by rw [z1 2 (by decide), lK 8 (by decide) (by decide)]; exact a2, by rw [z1 3 (by decide), lK 9 (by decide) (by decide)]; exact a3, by rw [z1 6 (by decide), lK 10 (by decide) (by decide)]; exact a6, fun j a b => by rw [kM _ (by decide) (by decide) (by decide) (by decide) (by decide) (by decide) (by decide) (by decide) (by decide), lK _ (by omega) (by omega)]; exact hp j a b, fun i hi f a b => ?_⟩, Or.inr ⟨by rw [z18]; omega, by rw [l11]; omega, by rw [z18, lst]; exact kT⟩, Or.inr ⟨by rw [l11]; omega, by rw [lst]; exact lok, by rw [lst]; exact TopF_RuW lF⟩, fun j a b => ?_⟩
    · rw [lK 10 (by decide) (by decide)] at hi
      exact wOK_congr (hsn.2 i hi) (fun f a b => lK _ (by omega) (by omega))
    · rw [lK 10 (by decide) (by decide)] at hi
      rw [kM _ (by omega) (by omega) (by omega) (by omega) (by omega) (by omega) (by omega) (by omega) (by omega), lK _ (by omega) (by omega)]
      exact hg i hi f a b
    · rw [z17]
      unfold zcopy
      by_cases y : 0 ≤ j ∧ j < 0 + M 0 5
      · rw [if_pos y]
        exact hP.2.2.2.2 _ (by omega) (by omega)
      · rw [if_neg y]
        exact hB j a b
  have m : ∀ k : Nat, (k = 4 ∨ k = 6 ∨ k = 78 ∨ k = 79 ∨ (70 ≤ k ∧ k ≤ 74) ∨ kC k ∨ hC k) → K k = M k := fun k hk => kM k (by omega) (by omega) (by omega) (by omega) (by omega) (by omega) (by omega) (by omega) (by omega)
  have e75 : N 75 = M 75 := o 75 (by decide) (by decide) (by decide) (by decide) (by decide) (by decide)
  have q2 : K 75 2 = M 75 2 := by rw [k75 2 (by decide) (by decide) (by decide) (by decide), e75]
  have q0 : ∀ j : Int, K 0 j = N 0 j := fun j => by rw [kF 0 (by decide) (by decide) (by decide)]
  refine ⟨⟨hT, SimK_c hK (fun k hk => m k (by omega)) (by rw [q0, o0 3 (by decide)]) q2, ?_, SimH_c hH (fun k hk => m k (by omega)), SimF_c hF (m 6 (by omega)) (m 78 (by omega)), RdI_c hr (kF 7 (by decide) (by decide) (by decide)), SwI_congr hSw (m 70 (by omega)) (m 71 (by omega)) (m 72 (by omega)) (m 73 (by omega)) (m 74 (by omega))⟩, ?_, fun q => ?_⟩
  · unfold SimP
    rw [m 4 (by omega), m 79 (by omega), k5, q0, n05]
    exact ⟨rfl, by omega, fun j a b => by omega, hP.2.2.2.1, hP.2.2.2.2⟩
  · intro i hi
    rw [lK 10 (by decide) (by decide)] at hi
    rw [lK _ (by omega) (by omega)]
    have := hl_.1 i hi
    omega
  · rw [q2] at q
    rw [m 77 (by omega)]
    exact LkR_c (hl_.2 q) (fun j hj => rfl)

theorem s_rule {M : zM} (h : Sim M) : PrI yX6_rule cX6_rule 2 (some .int) 5 yX7_rule cX7_rule 3 (some .int) 17 [] M := by
  obtain ⟨⟨hs, h9, hW, hX, hU, hB⟩, hK, hP, hH, hF, hRd, hSw⟩ := id h
  have hO := Sim_ok h
  have w0 := hW.1
  have w1 := hW.2.1
  have w6 := hW.2.2.2.2.1
  obtain ⟨hs0, hs1, hsn, hsp⟩ := id hs
  have hn1 := hsn.1
  have h05 : 0 ≤ M 0 5 ∧ M 0 5 ≤ 60 := by rw [hP.1]; exact hP.2.1
  have hc_ : ∀ j : Int, 0 ≤ j → j < M 0 5 → (0 ≤ M 79 j ∧ M 79 j ≤ 255) ∧ M 4 j = Int.bmod (M 79 j) 256 := fun j a b => ⟨hP.2.2.2.1 j a (by omega), hP.2.2.1 j a (by rw [← hP.1]; exact b)⟩
  rcases run_d (F := M 64) (t := M 4) (s := s0A (M 7 4) (M 7 11) (M 7 12) (M 7 15)) h05.1 with ⟨s2, g, e⟩ | ⟨b, s2, hb, g, k⟩
  · have h6 := c_X6_rule1g h05 hP.2.2.2.2 hRd g e
    refine ⟨_, _, h6, fun N hN => ?_⟩
    obtain ⟨o, o0, o1, n05, n18, n17, hr⟩ := hN
    have e75 : N 75 = M 75 := o 75 (by decide) (by decide) (by decide) (by decide) (by decide) (by decide)
    have e79 : N 79 = M 79 := o 79 (by decide) (by decide) (by decide) (by decide) (by decide) (by decide)
    have hn0 : 1 ≤ M 0 5 := by
      by_cases y : M 0 5 = 0
      · rw [y] at g
        have := Go_eq g
        rw [← this] at e
        exact absurd (show (1 : Int) = 0 from e.1) (by decide)
      · omega
    have h7 := c_X7_rule (M := N) (by rw [e75]; exact hP.2.1) (by rw [e79]; exact hP.2.2.2.1)
    refine ⟨fun K => SimN M K, h7.mono ?_, fun K hK => hK⟩
    rintro r K ⟨x, hx, hq⟩
    rcases hq with ⟨x0, ⟨l, lF, lok, llen, l11, lst⟩, k5, kj, kF, k75⟩ | ⟨x0, hb, hq, k5, k76, kF, k75⟩
    · rw [e79, e75, ← hP.1] at lF
      exact ⟨by rw [hx, x0], Sim_rule h hn0 o o0 o1 n05 n18 n17 hr lF lok llen l11 lst k5 kj kF k75⟩
    · exfalso
      rw [e79, e75, ← hP.1] at hq
      rw [e75, ← hP.1] at hb
      obtain ⟨s3, g3, k3⟩ := top_at (M 64) (M 7 4) (M 7 11) (M 7 12) (M 7 15) hb.2 hc_ hq
      obtain ⟨_, _, u⟩ := stuck_u g3 k3 g (Or.inr ⟨rfl, e⟩)
      rcases u with u | u
      · exact absurd u.1 (by omega)
      · exact u.2 e
  · have h6 := c_X6_rule0g h05 hP.2.2.2.2 hRd hb g k
    refine ⟨_, _, h6, fun N hN => ?_⟩
    have e75 : N 75 = M 75 := hN.1 75 (by decide) (by decide) (by decide)
    have e79 : N 79 = M 79 := hN.1 79 (by decide) (by decide) (by decide)
    have h7 := c_X7_rule (M := N) (by rw [e75]; exact hP.2.1) (by rw [e79]; exact hP.2.2.2.1)
    refine ⟨fun K => SimN M K, h7.mono ?_, fun K hK => hK⟩
    rintro r K ⟨x, hx, hq⟩
    rcases hq with ⟨x0, ⟨l, lF, lok, llen, l11, lst⟩, k5, kj, kF, k75⟩ | ⟨x0, hb2, hq, k5, k76, kF, k75⟩
    · exfalso
      rw [e79, e75, ← hP.1] at lF
      obtain ⟨k2, x, g2, lf, cp, co, va, t1, t3, t4, t5⟩ := TopF_bm lF (Int.le_refl _) hc_ (M 64) (M 7 4) (M 7 11) (M 7 12) (M 7 15)
      obtain ⟨_, _, u⟩ := stuck_u g k t1 (Or.inr ⟨rfl, mEnd_f t3⟩)
      rcases u with u | u
      · exact absurd u.1 (by omega)
      · exact u.2 (mEnd_f t3)
    · rw [e79, e75, ← hP.1] at hq
      rw [e75, ← hP.1] at hb2
      obtain ⟨s3, g3, k3⟩ := top_at (M 64) (M 7 4) (M 7 11) (M 7 12) (M 7 15) hb2.2 hc_ hq
      obtain ⟨u, _, _⟩ := stuck_u g k g3 (Or.inl k3)
      refine ⟨by rw [hx, x0, u], fin_r h (cls_l hSw hN.2 (fun i a b c d _ _ _ _ _ => hN.1 i a c d)) ⟨fun i a b c => ?_, k75 2 (by decide) (by decide) (by decide) (by decide), k5⟩⟩
      by_cases y : i = 76
      · rw [y, k76]
      · exact kF i a y (by omega)
