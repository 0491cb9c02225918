theorem TxR_s {M N : zM} {w : Nat} {s u : Int → Int} (h : TxR M w s) (h1 : N w 8 = M w 8) (h2 : N (16 + w) = M (16 + w)) (h11 : u 11 = s 11) (hf : ∀ j : Int, 84 ≤ j → u j = s j) : TxR N w u := by
  unfold TxR at h ⊢
  rw [h1, h2, stS2_congr h11 hf, h11]
  exact h
theorem Sim_go {M K : zM} (h : Sim M) (o : ∀ k : Nat, k ≠ 1 → k ≠ 11 → k ≠ 76 → K k = M k) (h8 : K 1 8 = M 1 8) (hf : ∀ j : Int, 10 ≤ j → K 76 j = M 76 j) (hO : SOK (K 76)) (h9 : K 76 0 ≤ 999) (hW : WS K 1 (K 76)) : SimN M K := by
  refine SimN_of (Sim_T h (fun k hk => o k (by omega) (by omega) (by omega)) ?_) hf (o 77 (by decide) (by decide) (by decide)) (by rw [o 75 (by decide) (by decide) (by decide)])
  exact ⟨hO, h9, hW, TxR_s h.1.2.2.2.1 h8 (o 17 (by decide) (by decide) (by decide)) (hf 11 (by decide)) (fun j hj => hf j (by omega)), RuW_congr h.1.2.2.2.2.1 (hf 11 (by decide)) (fun j hj => hf j (by omega)), TxB6_c h.1.2.2.2.2.2 (o 17 (by decide) (by decide) (by decide))⟩
def bstX (dg : Int → Int) (ht : Int) (P : Int → Prop) (x : Int) : Prop := P x ∧ ∀ y, P y → dg x < dg y ∨ dg x = dg y ∧ (zabs (x - ht) < zabs (y - ht) ∨ zabs (x - ht) = zabs (y - ht) ∧ x ≤ y)
theorem bstX_u {dg : Int → Int} {ht : Int} {P : Int → Prop} {x y : Int} (h : bstX dg ht P x) (g : bstX dg ht P y) : x = y := by
  have a := h.2 y g.1
  have b := g.2 x h.1
  omega
theorem safeM_b {dg : Int → Int} {ht : Int} : ∀ n : Nat, bstX dg ht (fun y => -12 ≤ y ∧ y ≤ -12 + n) (safeM dg ht n)
  | 0 => by
    refine ⟨by unfold safeM; dsimp only; omega, fun y hy => ?_⟩
    have : y = -12 := by dsimp only at hy; omega
    rw [this, safeM]
    omega
  | n + 1 => by
    have ih := safeM_b (dg := dg) (ht := ht) n
    have i1 := ih.1
    dsimp only at i1
    unfold safeM
    by_cases c : dg (-11 + n) - dg (safeM dg ht n) < 0 ∨ dg (-11 + n) - dg (safeM dg ht n) = 0 ∧ zabs (-11 + n - ht) < zabs (safeM dg ht n - ht)
    · rw [if_pos c]
      refine ⟨by dsimp only; omega, fun y hy => ?_⟩
      dsimp only at hy
      by_cases e : y = -11 + n
      · rw [e]; omega
      · have := ih.2 y (by dsimp only; omega)
        omega
    · rw [if_neg c]
      refine ⟨by dsimp only; omega, fun y hy => ?_⟩
      dsimp only at hy
      by_cases e : y = -11 + n
      · rw [e]; omega
      · exact ih.2 y (by dsimp only; omega)
theorem nearC_abs {ht : Int} {n : Nat} : zabs (nearC ht n - ht) = (n / 2 : Nat) + 1 ∧ (n % 2 = 0 → nearC ht n < ht) ∧ (n % 2 = 1 → ht < nearC ht n) := by
  unfold nearC zabs
  split <;> split <;> omega
theorem nearM_b {dg : Int → Int} {ht : Int} (hh : -12 ≤ ht ∧ ht ≤ 12) : ∀ n : Nat, bstX dg ht (fun y => (-12 ≤ y ∧ y ≤ 12) ∧ (zabs (y - ht) ≤ (n / 2 : Nat) ∨ (n % 2 = 1 ∧ zabs (y - ht) = (n / 2 : Nat) + 1 ∧ y < ht))) (nearM dg ht n)
  | 0 => by
    refine ⟨by unfold nearM zabs; dsimp only; rw [if_neg (by omega)]; omega, fun y hy => ?_⟩
    dsimp only at hy
    have : y = ht := by
      have a := hy.2
      unfold zabs at a
      split at a <;> omega
    rw [this, nearM]
    omega
  | n + 1 => by
    have ih := nearM_b (dg := dg) hh n
    have i1 := ih.1
    dsimp only at i1
    have a := nearC_abs (ht := ht) (n := n)
    have hy2 : ∀ y : Int, ((-12 ≤ y ∧ y ≤ 12) ∧ (zabs (y - ht) ≤ ((n + 1) / 2 : Nat) ∨ ((n + 1) % 2 = 1 ∧ zabs (y - ht) = ((n + 1) / 2 : Nat) + 1 ∧ y < ht))) → ((-12 ≤ y ∧ y ≤ 12) ∧ (zabs (y - ht) ≤ (n / 2 : Nat) ∨ (n % 2 = 1 ∧ zabs (y - ht) = (n / 2 : Nat) + 1 ∧ y < ht))) ∨ y = nearC ht n := by
      intro y hy
      have e : zabs (y - ht) = y - ht ∨ zabs (y - ht) = ht - y := by unfold zabs; split <;> omega
      have e2 : zabs (nearC ht n - ht) = nearC ht n - ht ∨ zabs (nearC ht n - ht) = ht - nearC ht n := by unfold zabs; split <;> omega
      have p0 : 0 ≤ zabs (y - ht) := by unfold zabs; split <;> omega
      rcases Nat.mod_two_eq_zero_or_one n with m | m
      · have := a.2.1 m
        omega
      · have := a.2.2 m
        omega
    unfold nearM
    by_cases c : (-12 ≤ nearC ht n ∧ nearC ht n ≤ 12) ∧ dg (nearC ht n) < dg (nearM dg ht n)
    · rw [if_pos c]
      refine ⟨?_, fun y hy => ?_⟩
      · dsimp only
        refine ⟨c.1, ?_⟩
        rcases Nat.mod_two_eq_zero_or_one n with m | m
        · have := a.2.1 m
          omega
        · have := a.2.2 m
          omega
      · rcases hy2 y hy with g | g
        · have := ih.2 y g
          omega
        · rw [g]; omega
    · rw [if_neg c]
      refine ⟨by dsimp only; omega, fun y hy => ?_⟩
      rcases hy2 y hy with g | g
      · exact ih.2 y g
      · have hy1 := hy.1
        rw [g] at hy1 ⊢
        by_cases z : dg (nearM dg ht n) = dg (nearC ht n)
        · refine Or.inr ⟨z, ?_⟩
          have l1 := a.1
          have l2 := i1.2
          rcases Nat.mod_two_eq_zero_or_one n with m | m
          · omega
          · have := a.2.2 m
            omega
        · omega
theorem near_safe {dg : Int → Int} {ht : Int} (hh : -12 ≤ ht ∧ ht ≤ 12) : nearM dg ht 48 = safeM dg ht 24 := by
  have a := nearM_b (dg := dg) hh 48
  have b := safeM_b (dg := dg) (ht := ht) 24
  refine bstX_u (P := fun y => -12 ≤ y ∧ y ≤ 12) ⟨a.1.1, fun y hy => a.2 y ⟨hy, ?_⟩⟩ ⟨by have := b.1; dsimp only at this ⊢; omega, fun y hy => b.2 y (by dsimp only at hy ⊢; omega)⟩
  dsimp only at hy
  refine Or.inl ?_
  unfold zabs
  split <;> omega

theorem s_safest {M : zM} {a_ : Int} (h : Sim M) (ha : -2147483648 ≤ a_ ∧ a_ < 2147483648) : PrI yX6_safest cX6_safest 7 (some .int) 3 yX7_safest cX7_safest 5 (some .int) 4 [vI a_] M := by
  obtain ⟨⟨hs, h9, hW, hX, hU, hB⟩, hK, hP, hH, hF, hRd, hSw⟩ := id h
  have hO := Sim_ok h
  have w0 := hW.1
  have w1 := hW.2.1
  have w6 := hW.2.2.2.2.1
  obtain ⟨hs0, hs1, hsn, hsp⟩ := id hs
  have hn1 := hsn.1
  have h6 := c_X6_safest hO ha
  by_cases q : 0 ≤ a_ ∧ a_ ≤ 999
  · rw [if_pos q, if_pos q, near_safe hO.2.1] at h6
    have h7 := c_X7_safest (M := M) hsn hs1 ha
    rw [if_pos q, if_pos q] at h7
    refine PrI_of h6 h7 ?_ (SimN_r h)
    rw [w1, show (fun h_ => danger (M 1 6).toNat (gW M 1) a_ h_) = danger (M 76 10).toNat (gS (M 76)) a_ from funext fun x => Sim_dg h a_ x]
  · rw [if_neg q, if_neg q] at h6
    have h7 := c_X7_safest (M := fnd6 M 0) (by rw [f6_76]; exact hsn) (by rw [f6_76]; exact hs1) ha
    rw [if_neg q, if_neg q] at h7
    exact PrI_of h6 h7 rfl (SimN_f h)

theorem calmB_1 {dg : Int → Int} {c s : Int} : ∀ n : Nat, (∀ i : Nat, i < n → dg (s + i) ≤ c) → calmB dg c s n ≠ 0
  | 0, _ => by unfold calmB; decide
  | n + 1, h => by
    unfold calmB
    rw [if_pos ⟨calmB_1 n (fun i hi => h i (by omega)), h n (by omega)⟩]
    decide
theorem calmB_0 {dg : Int → Int} {c s : Int} {i : Nat} (h : c < dg (s + i)) : ∀ n : Nat, i < n → calmB dg c s n = 0
  | 0, hn => by omega
  | n + 1, hn => by
    unfold calmB
    by_cases e : n = i
    · rw [e, if_neg (by omega)]
    · rw [calmB_0 h n (by omega), if_neg (by omega)]
theorem homeR_skip {dg : Int → Int} {c n : Int} : ∀ (k : Nat) (s : Int), (∀ i : Nat, i < k → calmB dg c (s + i) (n.toNat + 1) = 0) → homeR dg c n (41 - s).toNat s = homeR dg c n (41 - (s + k)).toNat (s + k)
  | 0, s, _ => by rw [show s + ((0 : Nat) : Int) = s by omega]
  | k + 1, s, h => by
    have h0 := h 0 (by omega)
    rw [show s + ((0 : Nat) : Int) = s by omega] at h0
    by_cases c2 : s ≤ 40
    · rw [show (41 - s).toNat = (41 - (s + 1)).toNat + 1 by omega, homeR, if_neg (fun x => x h0), homeR_skip k (s + 1) (fun i hi => by have := h (i + 1) (by omega); rw [show s + 1 + (i : Int) = s + ((i + 1 : Nat) : Int) by omega]; exact this), show s + 1 + (k : Int) = s + ((k + 1 : Nat) : Int) by omega]
    · rw [show (41 - s).toNat = 0 by omega, show (41 - (s + ((k + 1 : Nat) : Int))).toNat = 0 by omega, homeR, homeR]
theorem calm_home {dg : Int → Int} {c n : Int} (hn : 0 ≤ n) : ∀ (f : Nat) (s d : Int), 1 ≤ s → s ≤ d → d ≤ s + n → 42 + n ≤ f + d → (∀ i : Int, s ≤ i → i < d → dg i ≤ c) → calmF dg c n f s d = (if 0 ≤ homeR dg c n (41 - s).toNat s then homeR dg c n (41 - s).toNat s else 0)
  | 0, s, d, h1, h2, h3, h4, _ => by
    rw [calmF, show (41 - s).toNat = 0 by omega, homeR, if_neg (by decide)]
  | f + 1, s, d, h1, h2, h3, h4, hc => by
    unfold calmF
    by_cases e : d ≤ 40 + n ∧ s ≤ 40
    · rw [if_pos e]
      by_cases g : c < dg d
      · rw [if_pos g, calm_home hn f (d + 1) (d + 1) (by omega) (by omega) (by omega) (by omega) (fun i a b => by omega), homeR_skip (d + 1 - s).toNat s (fun i hi => calmB_0 (i := (d - (s + i)).toNat) (by rw [show s + (i : Int) + (((d - (s + i)).toNat : Nat) : Int) = d by omega]; exact g) _ (by omega)), show s + (((d + 1 - s).toNat : Nat) : Int) = d + 1 by omega]
      · rw [if_neg g]
        by_cases u : d - s = n
        · rw [if_pos u, show (41 - s).toNat = (40 - s).toNat + 1 by omega, homeR, if_pos (calmB_1 _ (fun i hi => by
            by_cases v : s + (i : Int) = d
            · rw [v]; omega
            · exact hc _ (by omega) (by omega))), if_pos (by omega)]
        · rw [if_neg u]
          exact calm_home hn f s (d + 1) h1 (by omega) (by omega) (by omega) (fun i a b => by
            by_cases v : i = d
            · rw [v]; omega
            · exact hc i a (by omega))
    · rw [if_neg e, show (41 - s).toNat = 0 by omega, homeR, if_neg (by decide)]
theorem homeR_1 {dg : Int → Int} {c n : Int} : ∀ (f : Nat) (s : Int), 1 ≤ s → homeR dg c n f s = -1 ∨ 1 ≤ homeR dg c n f s
  | 0, s, h => Or.inl rfl
  | f + 1, s, h => by
    unfold homeR
    split
    · exact Or.inr h
    · exact homeR_1 f (s + 1) (by omega)

theorem s_home {M : zM} {c_ n_ : Int} (h : Sim M) (hc : -2147483648 ≤ c_ ∧ c_ < 2147483648) (hn : -2147483648 ≤ n_ ∧ n_ < 2147483648) : PrI yX6_home cX6_home 4 (some .int) 3 yX7_home cX7_home 7 (some .int) 4 [vI c_, vI n_] M := by
  obtain ⟨⟨hs, h9, hW, hX, hU, hB⟩, hK, hP, hH, hF, hRd, hSw⟩ := id h
  have hO := Sim_ok h
  have w0 := hW.1
  have w1 := hW.2.1
  have w6 := hW.2.2.2.2.1
  obtain ⟨hs0, hs1, hsn, hsp⟩ := id hs
  have hn1 := hsn.1
  have hs7 : -1000 ≤ M 76 7 ∧ M 76 7 ≤ 1000 := by have t : 0 ≤ M 76 7 ∧ M 76 7 ≤ 60 := hsp.2.2.2.2.2; omega
  have h6 := c_X6_home hO hc hn
  by_cases q : ((0 ≤ c_ ∧ c_ ≤ 1000000) ∧ (0 ≤ n_ ∧ n_ ≤ 20))
  · have nq : ¬ ¬ ((0 ≤ c_ ∧ c_ ≤ 1000000) ∧ (0 ≤ n_ ∧ n_ ≤ 20)) := fun x => x q
    rw [if_neg nq, if_neg nq, w1] at h6
    by_cases z : M 76 1 = 0
    · rw [if_pos z, if_pos z] at h6
      have h7 := c_X7_home (M := fnd6 M 4) (by rw [f6_76]; exact hsn) (by rw [f6_76]; exact hsp) (by rw [f6_76]; exact hs1) (by rw [f6_76]; exact hs0) (by rw [f6_76]; exact hs7) hc hn
      rw [f6_76, if_neg nq, if_neg nq, if_pos z, if_pos z] at h7
      exact PrI_of h6 h7 rfl (SimN_f h)
    · rw [if_neg z, if_neg z] at h6
      have ec := calm_home (dg := (fun d_ => danger (M 76 10).toNat (gS (M 76)) (M 76 0 + d_) 0)) (c := c_) q.2.1 61 1 1 (by decide) (by decide) (by omega) (by omega) (fun i a b => by omega)
      rw [show ((41 : Int) - 1).toNat = 40 by decide] at ec
      have e1 := homeR_1 (dg := (fun d_ => danger (M 76 10).toNat (gS (M 76)) (M 76 0 + d_) 0)) (c := c_) (n := n_) 40 1 (by decide)
      rw [show (fun d_ => danger (M 1 6).toNat (gW M 1) (M 1 0 + d_) 0) = (fun d_ => danger (M 76 10).toNat (gS (M 76)) (M 76 0 + d_) 0) from funext fun x => by rw [Sim_dg h, w0], ec, ← w1] at h6
      have k := canS_eq h (-M 1 1)
      by_cases c : (-M 76 1 = 0 ∨ (-12 ≤ M 76 1 + -M 76 1 ∧ M 76 1 + -M 76 1 ≤ 12) ∧ M 76 6 ≤ M 76 7 - M 76 2 * zabs (-M 76 1)) ∧ 0 ≤ homeR (fun d_ => danger (M 76 10).toNat (gS (M 76)) (M 76 0 + d_) 0) c_ n_ 40 1
      · rw [if_pos c.2, if_pos ⟨k.mpr (by rw [w1]; exact c.1), by omega⟩, if_pos ⟨k.mpr (by rw [w1]; exact c.1), by omega⟩] at h6
        have h7 := c_X7_home (M := M) hsn hsp hs1 hs0 hs7 hc hn
        rw [if_neg nq, if_neg nq, if_neg z, if_neg z, if_pos c, if_pos c] at h7
        exact PrI_of h6 h7 rfl (SimN_r h)
      · have c6 : ¬ (canS (M (10 + 1)) (M 1 1) (-M 1 1) ∧ (if 0 ≤ homeR (fun d_ => danger (M 76 10).toNat (gS (M 76)) (M 76 0 + d_) 0) c_ n_ 40 1 then homeR (fun d_ => danger (M 76 10).toNat (gS (M 76)) (M 76 0 + d_) 0) c_ n_ 40 1 else 0) ≠ 0) := by
          intro x
          refine c ⟨by have := k.mp x.1; rw [w1] at this; exact this, ?_⟩
          by_cases y : 0 ≤ homeR (fun d_ => danger (M 76 10).toNat (gS (M 76)) (M 76 0 + d_) 0) c_ n_ 40 1
          · exact y
          · exact absurd (if_neg y) x.2
        rw [if_neg c6, if_neg c6] at h6
        have h7 := c_X7_home (M := fnd6 M 3) (by rw [f6_76]; exact hsn) (by rw [f6_76]; exact hsp) (by rw [f6_76]; exact hs1) (by rw [f6_76]; exact hs0) (by rw [f6_76]; exact hs7) hc hn
        rw [f6_76, if_neg nq, if_neg nq, if_neg z, if_neg z, if_neg c, if_neg c] at h7
        exact PrI_of h6 h7 rfl (SimN_f h)
  · rw [if_pos q, if_pos q] at h6
    have h7 := c_X7_home (M := fnd6 M 0) (by rw [f6_76]; exact hsn) (by rw [f6_76]; exact hsp) (by rw [f6_76]; exact hs1) (by rw [f6_76]; exact hs0) (by rw [f6_76]; exact hs7) hc hn
    rw [if_pos q, if_pos q] at h7
    exact PrI_of h6 h7 rfl (SimN_f h)

theorem zsf_0 {a : Int} (h : 0 ≤ a ∧ a ≤ 5) : zsf 0 a = if a = 0 then 1 else 0 := by
  rcases (show a = 0 ∨ a = 1 ∨ a = 2 ∨ a = 3 ∨ a = 4 ∨ a = 5 by omega) with q | q | q | q | q | q <;> subst q <;> decide

theorem s_plan {M : zM} {a_ v_ : Int} (h : Sim M) (ha : -2147483648 ≤ a_ ∧ a_ < 2147483648) (hv : -2147483648 ≤ v_ ∧ v_ < 2147483648) : PrI yX6_plan cX6_plan 4 (some .int) 1 yX7_plan cX7_plan 4 (some .int) 2 [vI a_, vI v_] M := by
  obtain ⟨⟨hs, h9, hW, hX, hU, hB⟩, hK, hP, hH, hF, hRd, hSw⟩ := id h
  have hO := Sim_ok h
  have w0 := hW.1
  have w1 := hW.2.1
  have w6 := hW.2.2.2.2.1
  obtain ⟨hs0, hs1, hsn, hsp⟩ := id hs
  have hn1 := hsn.1
  have h6 := c_X6_plan (M := M) ha hv
  by_cases q : (0 ≤ a_ ∧ a_ ≤ 5) ∧ ((if a_ = 0 then 1 else 0) ≤ v_ ∧ v_ ≤ zsf 1 a_)
  · have q6 : (0 ≤ a_ ∧ a_ ≤ 5) ∧ (zsf 0 a_ ≤ v_ ∧ v_ ≤ zsf 1 a_) := by have q1 := q.1; rw [zsf_0 q1]; exact q
    rw [if_pos q6, if_pos q6] at h6
    have e76 : zput M (10 + 1) a_ v_ 76 = M 76 := zput_ne (by decide)
    have h7 := c_X7_plan (M := zput M (10 + 1) a_ v_) ha hv
    rw [if_pos q, if_pos q, e76] at h7
    refine PrI_of h6 h7 (Sim_p h q.1.1 q.1.2).symm ?_
    have eK : zput (zput M (10 + 1) a_ v_) 76 (2 + a_) v_ 76 = zup (M 76) (2 + a_) v_ := by rw [zput_at, e76]
    have lK : ∀ j : Int, j ≠ 2 + a_ → zput (zput M (10 + 1) a_ v_) 76 (2 + a_) v_ 76 j = M 76 j := fun j hj => by rw [eK, zup_ne hj]
    have q1 := q.1
    refine Sim_go h (fun k a b c => by rw [zput_ne c, zput_ne b]) (by rw [zput_ne (by decide), zput_ne (by decide)]) (fun j hj => lK j (by omega)) ⟨by rw [lK 0 (by omega)]; exact hs0, by rw [lK 1 (by omega)]; exact hs1, ?_, ?_⟩ (by rw [lK 0 (by omega)]; exact h9) ?_
    · refine ⟨by rw [lK 10 (by omega)]; exact hsn.1, fun i hi => ?_⟩
      rw [lK 10 (by omega)] at hi
      exact wOK_congr (hsn.2 i hi) (fun f a b => lK _ (by omega))
    · have q2 := q.2
      unfold pOK at hsp ⊢
      simp only [pS] at hsp ⊢
      rw [eK]
      rcases (show a_ = 0 ∨ a_ = 1 ∨ a_ = 2 ∨ a_ = 3 ∨ a_ = 4 ∨ a_ = 5 by omega) with y | y | y | y | y | y <;> subst y
      · rw [show zsf 1 0 = 9 by decide, if_pos rfl] at q2
        rw [zup_eq, zup_ne (by decide), zup_ne (by decide), zup_ne (by decide), zup_ne (by decide), zup_ne (by decide)]
        exact ⟨q2, hsp.2⟩
      · rw [show zsf 1 1 = 9999 by decide, if_neg (by decide)] at q2
        rw [zup_eq, zup_ne (by decide), zup_ne (by decide), zup_ne (by decide), zup_ne (by decide), zup_ne (by decide)]
        exact ⟨hsp.1, q2, hsp.2.2⟩
      · rw [show zsf 1 2 = 999 by decide, if_neg (by decide)] at q2
        rw [zup_eq, zup_ne (by decide), zup_ne (by decide), zup_ne (by decide), zup_ne (by decide), zup_ne (by decide)]
        exact ⟨hsp.1, hsp.2.1, q2, hsp.2.2.2⟩
      · rw [show zsf 1 3 = 99999999 by decide, if_neg (by decide)] at q2
        rw [zup_eq, zup_ne (by decide), zup_ne (by decide), zup_ne (by decide), zup_ne (by decide), zup_ne (by decide)]
        exact ⟨hsp.1, hsp.2.1, hsp.2.2.1, q2, hsp.2.2.2.2⟩
      · rw [show zsf 1 4 = 60 by decide, if_neg (by decide)] at q2
        rw [zup_eq, zup_ne (by decide), zup_ne (by decide), zup_ne (by decide), zup_ne (by decide), zup_ne (by decide)]
        exact ⟨hsp.1, hsp.2.1, hsp.2.2.1, hsp.2.2.2.1, q2, hsp.2.2.2.2.2⟩
      · rw [show zsf 1 5 = 60 by decide, if_neg (by decide)] at q2
        rw [zup_eq, zup_ne (by decide), zup_ne (by decide), zup_ne (by decide), zup_ne (by decide), zup_ne (by decide)]
        exact ⟨hsp.1, hsp.2.1, hsp.2.2.1, hsp.2.2.2.1, hsp.2.2.2.2.1, q2⟩
    · obtain ⟨a0, a1, a2, a3, a6, hp, hg⟩ := hW
      have o : ∀ k : Nat, k ≠ 11 → k ≠ 76 → zput (zput M (10 + 1) a_ v_) 76 (2 + a_) v_ k = M k := fun k b c => by rw [zput_ne c, zput_ne b]
      have o1 := o 1 (by decide) (by decide)
      refine ⟨by rw [o1, lK 0 (by omega)]; exact a0, by rw [o1, lK 1 (by omega)]; exact a1, by rw [o1, lK 8 (by omega)]; exact a2, by rw [o1, lK 9 (by omega)]; exact a3, by rw [o1, lK 10 (by omega)]; exact a6, fun j a b => ?_, fun i hi f a b => ?_⟩
      · rw [zput_ne (show (10 + 1 : Nat) ≠ 76 by decide), zput_at, eK]
        by_cases y : j = a_
        · rw [y, zup_eq, zup_eq]
        · rw [zup_ne y, zup_ne (by omega)]
          exact hp j a b
      · rw [lK 10 (by omega)] at hi
        rw [o _ (by omega) (by omega), lK _ (by omega)]
        exact hg i hi f a b
  · have q6 : ¬ ((0 ≤ a_ ∧ a_ ≤ 5) ∧ (zsf 0 a_ ≤ v_ ∧ v_ ≤ zsf 1 a_)) := fun x => q (by have q1 := x.1; rw [zsf_0 q1] at x; exact x)
    rw [if_neg q6, if_neg q6] at h6
    have h7 := c_X7_plan (M := fnd6 M 0) ha hv
    rw [if_neg q, if_neg q] at h7
    exact PrI_of h6 h7 rfl (SimN_f h)

theorem s_move {M : zM} {s_ : Int} (h : Sim M) (hs_ : -2147483648 ≤ s_ ∧ s_ < 2147483648) : PrI yX6_move cX6_move 2 (some .int) 2 yX7_move cX7_move 2 (some .int) 2 [vI s_] M := by
  obtain ⟨⟨hs, h9, hW, hX, hU, hB⟩, hK, hP, hH, hF, hRd, hSw⟩ := id h
  have hO := Sim_ok h
  have w0 := hW.1
  have w1 := hW.2.1
  have w6 := hW.2.2.2.2.1
  obtain ⟨hs0, hs1, hsn, hsp⟩ := id hs
  have hn1 := hsn.1
  have h6 := c_X6_move hO hs_
  by_cases q : -24 ≤ s_ ∧ s_ ≤ 24
  · have nq : ¬ ¬ (-24 ≤ s_ ∧ s_ ≤ 24) := fun x => x q
    rw [if_neg nq, if_neg nq] at h6
    by_cases c : (s_ = 0 ∨ (-12 ≤ M 76 1 + s_ ∧ M 76 1 + s_ ≤ 12) ∧ M 76 6 ≤ M 76 7 - M 76 2 * zabs s_)
    · have nc : ¬ ¬ (s_ = 0 ∨ (-12 ≤ M 76 1 + s_ ∧ M 76 1 + s_ ≤ 12) ∧ M 76 6 ≤ M 76 7 - M 76 2 * zabs s_) := fun x => x c
      have n6 : ¬ ¬ canS (M (10 + 1)) (M 1 1) s_ := fun x => x ((canS_eq h s_).mpr c)
      rw [if_neg n6, if_neg n6] at h6
      have e76 : shiftW M 1 s_ 76 = M 76 := shiftW_out (by decide) (by decide)
      have h7 := c_X7_move (M := shiftW M 1 s_) (by rw [e76]; exact hsp) (by rw [e76]; exact hs1) hs_
      rw [if_neg nq, if_neg nq, e76, if_neg nc, if_neg nc] at h7
      refine PrI_of h6 h7 (by rw [w1]) ?_
      have f76 : zrow (shiftW M 1 s_) 76 (goesS (M 76) s_) 76 = goesS (M 76) s_ := zrow_eq
      refine Sim_go h (fun k a b c => by rw [zrow_ne c, shiftW_out a (by omega)]) (by rw [zrow_ne (by decide), shiftW_8 (by decide)]) (fun j hj => by rw [f76, goesS_far (by omega)]) (by rw [f76]; exact goesS_ok hs c) (by rw [f76, goesS_ne (by decide) (by decide)]; exact h9) ?_
      rw [f76]
      have w := WS_shift (m := s_) (Or.inl rfl) hW hn1.2
      exact WS_c (by rw [goesS_far (by omega)]; exact hn1.2) w (zrow_ne (by decide)) (zrow_ne (by decide)) (fun i hi => zrow_ne (by omega))
    · have n6 : ¬ canS (M (10 + 1)) (M 1 1) s_ := fun x => c ((canS_eq h s_).mp x)
      rw [if_pos n6, if_pos n6] at h6
      have h7 := c_X7_move (M := fnd6 M 4) (by rw [f6_76]; exact hsp) (by rw [f6_76]; exact hs1) hs_
      rw [f6_76, if_neg nq, if_neg nq, if_pos c, if_pos c] at h7
      exact PrI_of h6 h7 rfl (SimN_f h)
  · rw [if_pos q, if_pos q] at h6
    have h7 := c_X7_move (M := fnd6 M 0) (by rw [f6_76]; exact hsp) (by rw [f6_76]; exact hs1) hs_
    rw [if_pos q, if_pos q] at h7
    exact PrI_of h6 h7 rfl (SimN_f h)
