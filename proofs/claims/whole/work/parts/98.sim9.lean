theorem SimN_scr {M G K : zM} (h : SimN M G) (hk : ∀ k : Nat, ¬ scr k → K k = G k) (h2 : K 75 2 = G 75 2) (h5 : K 75 5 = G 75 5) (hr : RdI K) (hs : SwI K) : SimN M K := by
  intro c hc hl
  obtain ⟨a, b, d⟩ := h c hc hl
  refine ⟨Sim_scr a hk h2 h5 hr hs, ?_, ?_⟩
  · rw [hk 76 (by omega)]; exact b
  · rw [hk 77 (by omega), h2]; exact d
/-- the class left N: G but for its scratch -/
def clsM (N G : zM) : Prop := (∀ k : Nat, ¬ scr k → N k = G k) ∧ N 75 = G 75 ∧ RdI N ∧ SwI N
/-- the reference left K: N but for its scratch -/
def refM (K N : zM) : Prop := (∀ k : Nat, k ≠ 75 → ¬ (80 ≤ k ∧ k ≤ 86) → k ≤ 89 → K k = N k) ∧ K 75 2 = N 75 2 ∧ K 75 5 = N 75 5
theorem fin_r {M N K : zM} (h : Sim M) (hN : clsM N M) (hK : refM K N) : SimN M K := by
  obtain ⟨a, b, c, d⟩ := hN
  obtain ⟨e, f, g⟩ := hK
  exact SimN_scr (SimN_r h) (fun k hk => by rw [e k (by omega) (by omega) (by omega), a k hk]) (by rw [f, b]) (by rw [g, b]) (RdI_c c (e 7 (by decide) (by decide) (by decide))) (SwI_congr d (e 70 (by decide) (by decide) (by decide)) (e 71 (by decide) (by decide) (by decide)) (e 72 (by decide) (by decide) (by decide)) (e 73 (by decide) (by decide) (by decide)) (e 74 (by decide) (by decide) (by decide)))
theorem fin_f {M N K : zM} {i : Int} (h : Sim M) (hN : clsM N (fnd6 M i)) (hK : refM K (fnd7 N i)) : SimN M K := by
  obtain ⟨a, b, c, d⟩ := hN
  obtain ⟨e, f, g⟩ := hK
  have n7 : ∀ k : Nat, k ≠ 78 → fnd7 N i k = N k := fun k hk => zput_ne hk
  have g7 : ∀ k : Nat, k ≠ 78 → fnd7 (fnd6 M i) i k = fnd6 M i k := fun k hk => zput_ne hk
  have e78 : fnd7 N i 78 = fnd7 (fnd6 M i) i 78 := by
    unfold fnd7
    rw [zput_at, zput_at, a 78 (by omega)]
  refine SimN_scr (SimN_f (k := i) h) (fun k hk => ?_) (by rw [f, n7 75 (by decide), g7 75 (by decide), b]) (by rw [g, n7 75 (by decide), g7 75 (by decide), b]) (RdI_c c (by rw [e 7 (by decide) (by decide) (by decide), n7 7 (by decide)])) (SwI_congr d (by rw [e 70 (by decide) (by decide) (by decide), n7 70 (by decide)]) (by rw [e 71 (by decide) (by decide) (by decide), n7 71 (by decide)]) (by rw [e 72 (by decide) (by decide) (by decide), n7 72 (by decide)]) (by rw [e 73 (by decide) (by decide) (by decide), n7 73 (by decide)]) (by rw [e 74 (by decide) (by decide) (by decide), n7 74 (by decide)]))
  rw [e k (by omega) (by omega) (by omega)]
  by_cases y : k = 78
  · rw [y, e78]
  · rw [n7 k y, g7 k y, a k hk]
theorem Rd6 {M : zM} {i : Int} (h : RdI M) : RdI (fnd6 M i) := RdI_c h (zput_ne (by decide))
theorem Sw6 {M : zM} {i : Int} (h : SwI M) : SwI (fnd6 M i) := SwI_congr h (zput_ne (by decide)) (zput_ne (by decide)) (zput_ne (by decide)) (zput_ne (by decide)) (zput_ne (by decide))
theorem cls_b {N G : zM} (hr : RdI G) (hs : SwI G) (o : ∀ k : Nat, k ≠ 8 → k ≠ 67 → k ≠ 68 → k ≠ 69 → k ≠ 3 → k ≠ 13 → k ≠ 19 → ¬ (44 ≤ k ∧ k < 56) → N k = G k) : clsM N G := by
  have p : ∀ k : Nat, (k = 75 ∨ k = 7 ∨ (70 ≤ k ∧ k ≤ 74) ∨ ¬ scr k) → N k = G k := fun k hk => o k (by omega) (by omega) (by omega) (by omega) (by omega) (by omega) (by omega) (by omega)
  exact ⟨fun k hk => p k (Or.inr (Or.inr (Or.inr hk))), p 75 (by omega), RdI_c hr (p 7 (by omega)), SwI_congr hs (p 70 (by omega)) (p 71 (by omega)) (p 72 (by omega)) (p 73 (by omega)) (p 74 (by omega))⟩
theorem cls_4 {N G : zM} (hr : RdI G) (hs : SwI G) (o : out4 N G) : clsM N G := cls_b hr hs (fun k a b c d _ _ _ _ => o k a b c d)
theorem cls_l {N G : zM} (hs : SwI G) (hr : RdI N) (o : ∀ k : Nat, k ≠ 7 → k ≠ 64 → k ≠ 65 → k ≠ 66 → k ≠ 10 → k ≠ 3 → k ≠ 13 → k ≠ 19 → ¬ (44 ≤ k ∧ k < 56) → N k = G k) : clsM N G := by
  have p : ∀ k : Nat, (k = 75 ∨ (70 ≤ k ∧ k ≤ 74) ∨ ¬ scr k) → N k = G k := fun k hk => o k (by omega) (by omega) (by omega) (by omega) (by omega) (by omega) (by omega) (by omega) (by omega)
  exact ⟨fun k hk => p k (Or.inr (Or.inr hk)), p 75 (by omega), hr, SwI_congr hs (p 70 (by omega)) (p 71 (by omega)) (p 72 (by omega)) (p 73 (by omega)) (p 74 (by omega))⟩
theorem cls_s {N G : zM} (hr : RdI G) (hs : SwI N) (o : out74 N G) : clsM N G := by
  have p : ∀ k : Nat, (k = 75 ∨ k = 7 ∨ ¬ scr k) → N k = G k := fun k hk => o k (by omega) (by omega) (by omega) (by omega) (by omega) (by omega)
  exact ⟨fun k hk => p k (Or.inr (Or.inr hk)), p 75 (by omega), RdI_c hr (p 7 (by omega)), hs⟩
theorem ref86 {K N : zM} (o : out86 K N) : refM K N := ⟨fun k a b c => o k (by omega) (by omega) (by omega) (by omega), by rw [o 75 (by decide) (by decide) (by decide) (by decide)], by rw [o 75 (by decide) (by decide) (by decide) (by decide)]⟩
theorem ref82 {K N : zM} (o : out82 K N) : refM K N := ⟨fun k a b c => o k (by omega) (by omega), by rw [o 75 (by decide) (by decide)], by rw [o 75 (by decide) (by decide)]⟩
theorem ref92 {K N : zM} (o : out92 K N) : refM K N := ⟨fun k a b c => o k (by omega) (by omega), by rw [o 75 (by decide) (by decide)], by rw [o 75 (by decide) (by decide)]⟩
theorem refL {K N : zM} (o : outL K N) : refM K N := ⟨fun k a b c => o.1 k (by omega) (by omega) (by omega), o.2 2 (by decide), o.2 5 (by decide)⟩
theorem Sim_GW {M : zM} (h : Sim M) (t : Int) : GW (M (10 + 1)) (M 1 6).toNat (gW M 1) t = GW (pS (M 76)) (M 76 10).toNat (gS (M 76)) t := by
  rw [h.1.2.2.1.2.2.2.2.1]
  exact GW_congr (fun j a b => Sim_p h a b) (Sim_g h)
theorem Sim_left {M : zM} (h : Sim M) : leftS (M (10 + 1)) = lefF (pS (M 76)) (M 76 7) := by
  unfold leftS lefF
  rw [Sim_p h (show (0 : Int) ≤ 5 by decide) (by decide), Sim_p h (show (0 : Int) ≤ 4 by decide) (by decide), Sim_p h (show (0 : Int) ≤ 0 by decide) (by decide)]
  rfl

theorem s_best {M : zM} {n_ a_ : Int} (h : Sim M) (hn : -2147483648 ≤ n_ ∧ n_ < 2147483648) (ha : -2147483648 ≤ a_ ∧ a_ < 2147483648) : PrJ yX6_best cX6_best 3 (some .long) 6 yX7_best cX7_best 7 (some .long) 7 [vI n_, vI a_] M := by
  obtain ⟨⟨hs, h9, hW, hX, hU, hB⟩, hK, hP, hH, hF, hRd, hSw⟩ := id h
  have hO := Sim_ok h
  have w0 := hW.1
  have w1 := hW.2.1
  have w6 := hW.2.2.2.2.1
  obtain ⟨hs0, hs1, hsn, hsp⟩ := id hs
  have hn1 := hsn.1
  have h6 := c_X6_best hO hn ha
  rw [Sim_GW h, Sim_left h, w0, w1, Sim_p h (show (0 : Int) ≤ 0 by decide) (by decide)] at h6
  by_cases q : (1 ≤ n_ ∧ n_ ≤ 8) ∧ (0 ≤ a_ ∧ a_ ≤ 3)
  · rw [if_pos q, if_pos q] at h6
    refine ⟨_, _, h6, fun N hN => ?_⟩
    have hc_ : clsM N M := cls_4 hRd hSw hN
    have e76 : N 76 = M 76 := hc_.1 76 (by omega)
    have h7 := c_X7_best (M := N) (by rw [e76]; exact hsn) (by rw [e76]; exact hsp) (by rw [e76]; exact hs1) (by rw [e76]; exact hs0) hn ha
    rw [e76, if_pos q, if_pos q] at h7
    exact ⟨_, h7, fun K hK => fin_r h hc_ (ref86 hK)⟩
  · rw [if_neg q, if_neg q] at h6
    refine ⟨_, _, h6, fun N hN => ?_⟩
    have hc_ : clsM N (fnd6 M 0) := cls_4 (Rd6 hRd) (Sw6 hSw) hN
    have e76 : N 76 = M 76 := by rw [hc_.1 76 (by omega), f6_76]
    have h7 := c_X7_best (M := N) (by rw [e76]; exact hsn) (by rw [e76]; exact hsp) (by rw [e76]; exact hs1) (by rw [e76]; exact hs0) hn ha
    rw [e76, if_neg q, if_neg q] at h7
    exact ⟨_, h7, fun K hK => fin_f h hc_ (ref86 hK)⟩

theorem s_turn {M : zM} {n_ i_ : Int} (h : Sim M) (hn : -2147483648 ≤ n_ ∧ n_ < 2147483648) (hi : -2147483648 ≤ i_ ∧ i_ < 2147483648) : PrI yX6_turn cX6_turn 3 (some .int) 6 yX7_turn cX7_turn 3 (some .int) 7 [vI n_, vI i_] M := by
  obtain ⟨⟨hs, h9, hW, hX, hU, hB⟩, hK, hP, hH, hF, hRd, hSw⟩ := id h
  have hO := Sim_ok h
  have w0 := hW.1
  have w1 := hW.2.1
  have w6 := hW.2.2.2.2.1
  obtain ⟨hs0, hs1, hsn, hsp⟩ := id hs
  have hn1 := hsn.1
  have h6 := c_X6_turn hO hn hi
  rw [Sim_GW h, Sim_left h, w0, w1] at h6
  by_cases q : (1 ≤ n_ ∧ n_ ≤ 8) ∧ (0 ≤ i_ ∧ i_ ≤ n_ - 1)
  · rw [if_pos q, if_pos q] at h6
    refine ⟨_, _, h6, fun N hN => ?_⟩
    have hc_ : clsM N M := cls_4 hRd hSw hN
    have e76 : N 76 = M 76 := hc_.1 76 (by omega)
    have h7 := c_X7_turn (M := N) (by rw [e76]; exact hsn) (by rw [e76]; exact hsp) (by rw [e76]; exact hs1) (by rw [e76]; exact hs0) hn hi
    rw [e76, if_pos q, if_pos q] at h7
    exact ⟨_, h7, fun K hK => fin_r h hc_ (ref86 hK)⟩
  · rw [if_neg q, if_neg q] at h6
    refine ⟨_, _, h6, fun N hN => ?_⟩
    have hc_ : clsM N (fnd6 M 0) := cls_4 (Rd6 hRd) (Sw6 hSw) hN
    have e76 : N 76 = M 76 := by rw [hc_.1 76 (by omega), f6_76]
    have h7 := c_X7_turn (M := N) (by rw [e76]; exact hsn) (by rw [e76]; exact hsp) (by rw [e76]; exact hs1) (by rw [e76]; exact hs0) hn hi
    rw [e76, if_neg q, if_neg q] at h7
    exact ⟨_, h7, fun K hK => fin_f h hc_ (ref86 hK)⟩

theorem s_says {M : zM} {a_ : Int} (h : Sim M) (ha : -2147483648 ≤ a_ ∧ a_ < 2147483648) : PrI yX6_says cX6_says 2 (some .int) 6 yX7_says cX7_says 2 (some .int) 6 [vI a_] M := by
  obtain ⟨⟨hs, h9, hW, hX, hU, hB⟩, hK, hP, hH, hF, hRd, hSw⟩ := id h
  have hO := Sim_ok h
  have w0 := hW.1
  have w1 := hW.2.1
  have w6 := hW.2.2.2.2.1
  obtain ⟨hs0, hs1, hsn, hsp⟩ := id hs
  have hn1 := hsn.1
  have hb8 := (Sim_8 h).1
  have hTb : TxB M 1 := fun j a b => hB j a (by omega)
  have h6 := c_X6_says hO (TxR_l hX) hTb hRd ha
  rw [WS_mv hW hsn, WS_nm hW hsn] at h6
  by_cases q : 0 ≤ a_ ∧ a_ ≤ 1
  · rw [if_pos q, if_pos q] at h6
    refine ⟨_, _, h6, fun N hN => ?_⟩
    have hc_ : clsM N M := cls_l hSw hN.2 (fun k a b c d _ _ _ _ _ => hN.1 k a b c d)
    have e76 : N 76 = M 76 := hc_.1 76 (by omega)
    have h7 := c_X7_says (M := N) (by rw [e76]; exact hsn) (by rw [e76]; exact hsp) (by rw [e76]; exact hs1) (by rw [e76]; exact (show 0 ≤ M 76 0 ∧ M 76 0 ≤ 999 by omega)) (by rw [e76]; exact hU) ha
    rw [e76, if_pos q, if_pos q] at h7
    exact ⟨_, h7, fun K hK => fin_r h hc_ (ref82 hK)⟩
  · rw [if_neg q, if_neg q] at h6
    refine ⟨_, _, h6, fun N hN => ?_⟩
    have hc_ : clsM N (fnd6 M 0) := cls_l (Sw6 hSw) hN.2 (fun k a b c d _ _ _ _ _ => hN.1 k a b c d)
    have e76 : N 76 = M 76 := by rw [hc_.1 76 (by omega), f6_76]
    have h7 := c_X7_says (M := N) (by rw [e76]; exact hsn) (by rw [e76]; exact hsp) (by rw [e76]; exact hs1) (by rw [e76]; exact (show 0 ≤ M 76 0 ∧ M 76 0 ≤ 999 by omega)) (by rw [e76]; exact hU) ha
    rw [e76, if_neg q, if_neg q] at h7
    exact ⟨_, h7, fun K hK => fin_f h hc_ (ref82 hK)⟩

theorem s_life {M : zM} {lo_ n_ : Int} (h : Sim M) (hn : -2147483648 ≤ n_ ∧ n_ < 2147483648) : PrI yX6_life cX6_life 4 (some .int) 7 yX7_life cX7_life 3 (some .int) 7 [vI lo_, vI n_] M := by
  obtain ⟨⟨hs, h9, hW, hX, hU, hB⟩, hK, hP, hH, hF, hRd, hSw⟩ := id h
  have hO := Sim_ok h
  have w0 := hW.1
  have w1 := hW.2.1
  have w6 := hW.2.2.2.2.1
  obtain ⟨hs0, hs1, hsn, hsp⟩ := id hs
  have hn1 := hsn.1
  have hb8 := (Sim_8 h).1
  have hTb : TxB M 1 := fun j a b => hB j a (by omega)
  have h6 := c_X6_life (lo_ := lo_) hs hW hX hTb hRd (by omega) hb8 hB hn
  by_cases q : 1 ≤ n_ ∧ n_ ≤ 100
  · rw [if_pos q, if_pos q] at h6
    refine ⟨_, _, h6, fun N hN => ?_⟩
    have hc_ : clsM N M := cls_l hSw hN.2 hN.1
    have e76 : N 76 = M 76 := hc_.1 76 (by omega)
    have h7 := c_X7_life (M := N) (lo_ := lo_) (by rw [e76]; exact hsn) (by rw [e76]; exact hsp) (by rw [e76]; exact hs1) (by rw [e76]; exact (show 0 ≤ M 76 0 ∧ M 76 0 ≤ 999 by omega)) (by rw [e76]; exact hU) hn
    rw [e76, if_pos q, if_pos q] at h7
    exact ⟨_, h7, fun K hK => fin_r h hc_ (refL hK)⟩
  · rw [if_neg q, if_neg q] at h6
    refine ⟨_, _, h6, fun N hN => ?_⟩
    have hc_ : clsM N (fnd6 M 0) := cls_l (Sw6 hSw) hN.2 hN.1
    have e76 : N 76 = M 76 := by rw [hc_.1 76 (by omega), f6_76]
    have h7 := c_X7_life (M := N) (lo_ := lo_) (by rw [e76]; exact hsn) (by rw [e76]; exact hsp) (by rw [e76]; exact hs1) (by rw [e76]; exact (show 0 ≤ M 76 0 ∧ M 76 0 ≤ 999 by omega)) (by rw [e76]; exact hU) hn
    rw [e76, if_neg q, if_neg q] at h7
    exact ⟨_, h7, fun K hK => fin_f h hc_ (refL hK)⟩

theorem s_lives {M : zM} {l_ m_ n_ : Int} (h : Sim M) (hm : -2147483648 ≤ m_ ∧ m_ < 2147483648) (hn : -2147483648 ≤ n_ ∧ n_ < 2147483648) : PrI yX6_lives cX6_lives 6 (some .int) 7 yX7_lives cX7_lives 7 (some .int) 7 [vI l_, vI m_, vI n_] M := by
  obtain ⟨⟨hs, h9, hW, hX, hU, hB⟩, hK, hP, hH, hF, hRd, hSw⟩ := id h
  have hO := Sim_ok h
  have w0 := hW.1
  have w1 := hW.2.1
  have w6 := hW.2.2.2.2.1
  obtain ⟨hs0, hs1, hsn, hsp⟩ := id hs
  have hn1 := hsn.1
  have hb8 := (Sim_8 h).1
  have hTb : TxB M 1 := fun j a b => hB j a (by omega)
  have h6 := c_X6_lives (l_ := l_) hs hW hX hTb hRd (by omega) hb8 hB hm hn
  by_cases q : (1 ≤ m_ ∧ m_ ≤ 50) ∧ (1 ≤ n_ ∧ n_ ≤ 100)
  · rw [if_pos q, if_pos q] at h6
    refine ⟨_, _, h6, fun N hN => ?_⟩
    have hc_ : clsM N M := cls_l hSw hN.2 hN.1
    have e76 : N 76 = M 76 := hc_.1 76 (by omega)
    have h7 := c_X7_lives (M := N) (l_ := l_) (by rw [e76]; exact hsn) (by rw [e76]; exact hsp) (by rw [e76]; exact hs1) (by rw [e76]; exact (show 0 ≤ M 76 0 ∧ M 76 0 ≤ 999 by omega)) (by rw [e76]; exact hU) hm hn
    rw [e76, if_pos q, if_pos q] at h7
    exact ⟨_, h7, fun K hK => fin_r h hc_ (refL hK)⟩
  · rw [if_neg q, if_neg q] at h6
    refine ⟨_, _, h6, fun N hN => ?_⟩
    have hc_ : clsM N (fnd6 M 0) := cls_l (Sw6 hSw) hN.2 hN.1
    have e76 : N 76 = M 76 := by rw [hc_.1 76 (by omega), f6_76]
    have h7 := c_X7_lives (M := N) (l_ := l_) (by rw [e76]; exact hsn) (by rw [e76]; exact hsp) (by rw [e76]; exact hs1) (by rw [e76]; exact (show 0 ≤ M 76 0 ∧ M 76 0 ≤ 999 by omega)) (by rw [e76]; exact hU) hm hn
    rw [e76, if_neg q, if_neg q] at h7
    exact ⟨_, h7, fun K hK => fin_f h hc_ (refL hK)⟩
