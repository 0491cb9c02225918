theorem turn_eq {f f2 : Int → Int} {M : zM} {s : Int → Int} (hO : SOK s) (h9 : s 0 ≤ 999) (h : WS M 1 s) (e : ∀ j : Int, 0 ≤ j → j < 40 → f j = f2 j) : ∀ n : Nat, n ≤ 40 → WS (turnW f M 1 n).1 1 (turnS f2 s n).1 ∧ (turnW f M 1 n).2 = (turnS f2 s n).2 ∧ (turnW f M 1 n).1 1 8 = M 1 8 ∧ (turnS f2 s n).1 0 ≤ 999 ∧ (∀ j : Int, 10 ≤ j → (turnS f2 s n).1 j = s j)
  | 0, _ => ⟨h, rfl, rfl, h9, fun j hj => rfl⟩
  | n + 1, hn => by
    obtain ⟨a, b, c, d, g⟩ := turn_eq hO h9 h e n (by omega)
    have k := turnS_ok (f := f2) hO n
    unfold turnW turnS
    rw [e n (by omega) (by omega)]
    by_cases q : (turnS f2 s n).1 0 < 999 ∧ (-24 ≤ f2 n ∧ f2 n ≤ 24) ∧ canR (turnS f2 s n).1 (f2 n)
    · have q6 : (turnW f M 1 n).1 1 0 < 999 ∧ (-24 ≤ f2 n ∧ f2 n ≤ 24) ∧ canS ((turnW f M 1 n).1 (10 + 1)) ((turnW f M 1 n).1 1 1) (f2 n) := ⟨by rw [a.1]; exact q.1, q.2.1, (WS_can a _).mpr q.2.2⟩
      rw [if_pos q, if_pos q6]
      dsimp only
      have k2 := goesS_ok k q.2.2
      refine ⟨WS_end (Or.inl rfl) (WS_shift (Or.inl rfl) a k.2.2.1.1.2) k2.2.2.1, by rw [b], by rw [endW_8, shiftW_8 (by decide), c], ?_, fun j hj => by rw [endS_ne (by omega) (by omega) (by omega), goesS_far (by omega), g j hj]⟩
      rw [endS_0, goesS_ne (by decide) (by decide)]
      omega
    · have q6 : ¬ ((turnW f M 1 n).1 1 0 < 999 ∧ (-24 ≤ f2 n ∧ f2 n ≤ 24) ∧ canS ((turnW f M 1 n).1 (10 + 1)) ((turnW f M 1 n).1 1 1) (f2 n)) := fun x => q ⟨by have := x.1; rw [a.1] at this; exact this, x.2.1, (WS_can a _).mp x.2.2⟩
      rw [if_neg q, if_neg q6]
      exact ⟨a, b, c, d, g⟩

theorem s_turns {M : zM} {k_ : Int} (h : Sim M) (hk : -2147483648 ≤ k_ ∧ k_ < 2147483648) : PrI yX6_turns cX6_turns 7 (some .int) 3 yX7_turns cX7_turns 7 (some .int) 5 [vI k_] M := by
  obtain ⟨⟨hs, h9, hW, hX, hU, hB⟩, hK, hP, hH, hF, hRd, hSw⟩ := id h
  have hO := Sim_ok h
  have w0 := hW.1
  have w1 := hW.2.1
  have w6 := hW.2.2.2.2.1
  obtain ⟨hs0, hs1, hsn, hsp⟩ := id hs
  have hn1 := hsn.1
  obtain ⟨hS6, hS7, _⟩ := id hH
  have h6 := c_X6_turns hS6 hO hk
  by_cases q : 0 ≤ k_ ∧ k_ ≤ 3
  · have nq : ¬ ¬ (0 ≤ k_ ∧ k_ ≤ 3) := fun x => x q
    obtain ⟨e0, e1, eN, eR⟩ := Sim_h h q
    rw [if_neg nq, if_neg nq, e0, e1] at h6
    by_cases c : M 87 k_ = 0
    · rw [if_pos c, if_pos c] at h6
      have h7 := c_X7_turns (M := fnd6 M 5) (SH7_f hS7) (by rw [f6_76]; exact hs) hk
      rw [if_neg nq, if_neg nq, f6_o (show 87 ≠ 6 by decide), if_pos c, if_pos c] at h7
      exact PrI_of h6 h7 rfl (SimN_f h)
    · rw [if_neg c, if_neg c] at h6
      obtain ⟨t1, t2, t3, t4, t5⟩ := turn_eq (f2 := fun j_ => M 89 (40 * k_ + j_)) hs h9 hW eN (M 88 k_).toNat (by omega)
      have o6 : ∀ i : Nat, i ≠ 1 → i ≠ 10 + 1 → (turnW (M (60 + k_.toNat)) M 1 (M 88 k_).toNat).1 i = M i := fun i a b => turnW_out a b _
      have t6 := turnS_ok (f := fun j_ => M 89 (40 * k_ + j_)) hs (M 88 k_).toNat
      generalize (turnW (M (60 + k_.toNat)) M 1 (M 88 k_).toNat) = g_ at *
      have h7 := c_X7_turns (M := g_.1) (by
        unfold SH7 at hS7 ⊢
        rw [o6 87 (by decide) (by decide), o6 88 (by decide) (by decide), o6 89 (by decide) (by decide)]
        exact hS7) (by rw [o6 76 (by decide) (by decide)]; exact hs) hk
      rw [if_neg nq, if_neg nq, o6 87 (by decide) (by decide), o6 88 (by decide) (by decide), o6 89 (by decide) (by decide), o6 76 (by decide) (by decide), if_neg c, if_neg c] at h7
      refine PrI_of h6 h7 t2.symm ?_
      generalize (turnS (fun j_ => M 89 (40 * k_ + j_)) (M 76) (M 88 k_).toNat) = u_ at *
      have f76 : zrow g_.1 76 u_.1 76 = u_.1 := zrow_eq
      refine Sim_go h (fun k a b c => by rw [zrow_ne c, o6 k a b]) (by rw [zrow_ne (by decide), t3]) (fun j hj => by rw [f76, t5 j hj]) (by rw [f76]; exact t6) (by rw [f76]; exact t4) ?_
      rw [f76]
      exact WS_c t6.2.2.1.1.2 t1 (zrow_ne (by decide)) (zrow_ne (by decide)) (fun i hi => zrow_ne (by omega))
  · rw [if_pos q, if_pos q] at h6
    have h7 := c_X7_turns (M := fnd6 M 0) (SH7_f hS7) (by rw [f6_76]; exact hs) hk
    rw [if_pos q, if_pos q] at h7
    exact PrI_of h6 h7 rfl (SimN_f h)

theorem warnS_l {s : Int → Int} {k o c : Int} (hn : 0 ≤ s 10 ∧ s 10 < 12) : (∀ j : Int, j ≠ 10 → ¬ (12 + 6 * s 10 ≤ j ∧ j < 12 + 6 * s 10 + 6) → warnS s k o c j = s j) ∧ warnS s k o c 10 = s 10 + 1 ∧ warnS s k o c (12 + 6 * s 10 + 0) = k ∧ warnS s k o c (12 + 6 * s 10 + 1) = o / 10000 ∧ warnS s k o c (12 + 6 * s 10 + 2) = o / 100 % 100 - 12 ∧ warnS s k o c (12 + 6 * s 10 + 3) = o % 100 ∧ warnS s k o c (12 + 6 * s 10 + 4) = c ∧ warnS s k o c (12 + 6 * s 10 + 5) = 0 := by
  unfold warnS
  refine ⟨fun j a b => ?_, zup_eq, ?_, ?_, ?_, ?_, ?_, ?_⟩
  · rw [zup_ne a, zup_ne (by omega), zup_ne (by omega), zup_ne (by omega), zup_ne (by omega), zup_ne (by omega), zup_ne (by omega)]
  · rw [zup_ne (by omega), zup_ne (by omega), zup_ne (by omega), zup_ne (by omega), zup_ne (by omega), zup_ne (by omega), zup_eq]
  · rw [zup_ne (by omega), zup_ne (by omega), zup_ne (by omega), zup_ne (by omega), zup_ne (by omega), zup_eq]
  · rw [zup_ne (by omega), zup_ne (by omega), zup_ne (by omega), zup_ne (by omega), zup_eq]
  · rw [zup_ne (by omega), zup_ne (by omega), zup_ne (by omega), zup_eq]
  · rw [zup_ne (by omega), zup_ne (by omega), zup_eq]
  · rw [zup_ne (by omega), zup_eq]
theorem wrnM_l {M : zM} {k o c : Int} (hn : 0 ≤ M 1 6 ∧ M 1 6 < 12) : (∀ i : Nat, i ≠ 1 → i ≠ 12 * 1 + 8 + (M 1 6).toNat → wrnM M k o c i = M i) ∧ (∀ j : Int, j ≠ 6 → wrnM M k o c 1 j = M 1 j) ∧ wrnM M k o c 1 6 = M 1 6 + 1 ∧ wrnM M k o c (12 * 1 + 8 + (M 1 6).toNat) 0 = k ∧ wrnM M k o c (12 * 1 + 8 + (M 1 6).toNat) 1 = o / 10000 ∧ wrnM M k o c (12 * 1 + 8 + (M 1 6).toNat) 2 = o / 100 % 100 - 12 ∧ wrnM M k o c (12 * 1 + 8 + (M 1 6).toNat) 3 = o % 100 ∧ wrnM M k o c (12 * 1 + 8 + (M 1 6).toNat) 4 = c ∧ wrnM M k o c (12 * 1 + 8 + (M 1 6).toNat) 5 = 0 := by
  unfold wrnM
  refine ⟨fun i a b => ?_, fun j a => ?_, zput_eq, ?_, ?_, ?_, ?_, ?_, ?_⟩
  · rw [zput_ne a, zput_ne b, zput_ne b, zput_ne b, zput_ne b, zput_ne b, zput_ne b]
  · rw [zput_ne2 a, zput_ne (by omega), zput_ne (by omega), zput_ne (by omega), zput_ne (by omega), zput_ne (by omega), zput_ne (by omega)]
  · rw [zput_ne (by omega), zput_ne2 (by decide), zput_ne2 (by decide), zput_ne2 (by decide), zput_ne2 (by decide), zput_ne2 (by decide), zput_eq]
  · rw [zput_ne (by omega), zput_ne2 (by decide), zput_ne2 (by decide), zput_ne2 (by decide), zput_ne2 (by decide), zput_eq]
  · rw [zput_ne (by omega), zput_ne2 (by decide), zput_ne2 (by decide), zput_ne2 (by decide), zput_eq]
  · rw [zput_ne (by omega), zput_ne2 (by decide), zput_ne2 (by decide), zput_eq]
  · rw [zput_ne (by omega), zput_ne2 (by decide), zput_eq]
  · rw [zput_ne (by omega), zput_eq]
theorem Sim_warn {M : zM} {k o c : Int} (h : Sim M) (hn : M 76 10 < 12) (hb : warnB (M 76 0) k o c) : SimN M (zrow (wrnM M k o c) 76 (warnS (M 76) k o c)) := by
  intro c_ hc_ hl_
  obtain ⟨⟨hs, h9, hW, hX, hU, hB⟩, hK, hP, hH, hF, hRd, hSw⟩ := id h
  obtain ⟨hs0, hs1, hsn, hsp⟩ := id hs
  have hn1 := hsn.1
  have w6 := hW.2.2.2.2.1
  obtain ⟨x0, x1, x2, x3, x4, x5, x6, x7⟩ := warnS_l (s := M 76) (k := k) (o := o) (c := c) (by omega)
  obtain ⟨y0, y1, y2, z0, z1, z2, z3, z4, z5⟩ := wrnM_l (M := M) (k := k) (o := o) (c := c) (by omega)
  generalize wrnM M k o c = g_ at *
  generalize warnS (M 76) k o c = u_ at *
  have f76 : zrow g_ 76 u_ 76 = u_ := zrow_eq
  have oK : ∀ i : Nat, i ≠ 1 → i ≠ 12 * 1 + 8 + (M 1 6).toNat → i ≠ 76 → zrow g_ 76 u_ i = M i := fun i a b d => by rw [zrow_ne d, y0 i a b]
  have gK : ∀ i : Nat, i ≠ 76 → zrow g_ 76 u_ i = g_ i := fun i d => zrow_ne d
  have t6 : (M 1 6).toNat = (M 76 10).toNat := by rw [w6]
  obtain ⟨b1, b2, b3, b4, b5, b6⟩ := hb
  have hN : SN u_ := by
    refine ⟨by rw [x1]; omega, fun i hi => ?_⟩
    rw [x1] at hi
    by_cases e : (i : Int) = M 76 10
    · unfold wOK
      simp only [gS, gI]
      rw [e, x2, x3, x4, x5, x6, x7]
      exact ⟨by omega, by omega, by omega, by omega, by omega, by decide⟩
    · exact wOK_congr (hsn.2 i (by omega)) (fun f a b => x0 _ (by omega) (by omega))
  have hx11 : u_ 11 = M 76 11 := x0 11 (by omega) (by omega)
  have hx84 : ∀ j : Int, 84 ≤ j → u_ j = M 76 j := fun j hj => x0 j (by omega) (by omega)
  obtain ⟨a0, a1, a2, a3, a6, hp, hg⟩ := hW
  refine ⟨Sim_T h (fun i hi => oK i (by omega) (by omega) (by omega)) ⟨?_, ?_, ?_, ?_, ?_, ?_⟩, ?_, fun q => ?_⟩
  · rw [f76]
    exact ⟨by rw [x0 0 (by omega) (by omega)]; exact hs0, by rw [x0 1 (by omega) (by omega)]; exact hs1, hN, pOK_congr hsp (fun f a b => x0 _ (by omega) (by omega))⟩
  · rw [f76, x0 0 (by omega) (by omega)]; exact h9
  · rw [f76]
    refine ⟨by rw [gK 1 (by decide), y1 0 (by decide), x0 0 (by omega) (by omega)]; exact a0, by rw [gK 1 (by decide), y1 1 (by decide), x0 1 (by omega) (by omega)]; exact a1, by rw [gK 1 (by decide), y1 2 (by decide), x0 8 (by omega) (by omega)]; exact a2, by rw [gK 1 (by decide), y1 3 (by decide), x0 9 (by omega) (by omega)]; exact a3, by rw [gK 1 (by decide), y2, x1, w6], fun j a b => by rw [oK _ (by omega) (by omega) (by omega), x0 _ (by omega) (by omega)]; exact hp j a b, fun i hi f a b => ?_⟩
    rw [x1] at hi
    by_cases e : (i : Int) = M 76 10
    · rw [show 12 * 1 + 8 + i = 12 * 1 + 8 + (M 1 6).toNat by omega, gK _ (by omega), e]
      rcases (show f = 0 ∨ f = 1 ∨ f = 2 ∨ f = 3 ∨ f = 4 ∨ f = 5 by omega) with r | r | r | r | r | r <;> rw [r]
      · rw [z0, x2]
      · rw [z1, x3]
      · rw [z2, x4]
      · rw [z3, x5]
      · rw [z4, x6]
      · rw [z5, x7]
    · rw [oK _ (by omega) (by omega) (by omega), x0 _ (by omega) (by omega)]
      exact hg i (by omega) f a b
  · rw [f76]
    exact TxR_s hX (by rw [gK 1 (by decide), y1 8 (by decide)]) (oK 17 (by omega) (by omega) (by decide)) hx11 hx84
  · rw [f76]
    exact RuW_congr hU hx11 hx84
  · exact TxB6_c hB (oK 17 (by omega) (by omega) (by decide))
  · intro i hi
    rw [f76] at hi ⊢
    rw [x1] at hi
    by_cases e : (i : Int) = M 76 10
    · rw [e, x7]; omega
    · rw [x0 _ (by omega) (by omega)]
      have := hl_.1 i (by omega)
      omega
  · rw [oK 75 (by omega) (by omega) (by decide)] at q
    rw [oK 77 (by omega) (by omega) (by decide)]
    exact LkR_c (hl_.2 q) (fun j hj => rfl)

theorem s_warn {M : zM} {k_ o_ c_ : Int} (h : Sim M) (hk : -2147483648 ≤ k_ ∧ k_ < 2147483648) (ho : -2147483648 ≤ o_ ∧ o_ < 2147483648) (hc : -2147483648 ≤ c_ ∧ c_ < 2147483648) : PrI yX6_warn cX6_warn 7 (some .int) 2 yX7_warn cX7_warn 6 (some .int) 2 [vI k_, vI o_, vI c_] M := by
  obtain ⟨⟨hs, h9, hW, hX, hU, hB⟩, hK, hP, hH, hF, hRd, hSw⟩ := id h
  have hO := Sim_ok h
  have w0 := hW.1
  have w1 := hW.2.1
  have w6 := hW.2.2.2.2.1
  obtain ⟨hs0, hs1, hsn, hsp⟩ := id hs
  have hn1 := hsn.1
  have h6 := c_X6_warn hO hk ho hc
  rw [w0, w6] at h6
  by_cases q : warnB (M 76 0) k_ o_ c_
  · have nq : ¬ ¬ warnB (M 76 0) k_ o_ c_ := fun x => x q
    rw [if_neg nq, if_neg nq] at h6
    by_cases c : M 76 10 = 12
    · rw [if_pos c, if_pos c] at h6
      have h7 := c_X7_warn (M := fnd6 M 1) (by rw [f6_76]; exact hsn) (by rw [f6_76]; exact hs0) hk ho hc
      rw [f6_76, if_neg nq, if_neg nq, if_pos c, if_pos c] at h7
      exact PrI_of h6 h7 rfl (SimN_f h)
    · rw [if_neg c, if_neg c] at h6
      have e76 : wrnM M k_ o_ c_ 76 = M 76 := (wrnM_l (by omega)).1 76 (by decide) (by omega)
      have h7 := c_X7_warn (M := wrnM M k_ o_ c_) (by rw [e76]; exact hsn) (by rw [e76]; exact hs0) hk ho hc
      rw [e76, if_neg nq, if_neg nq, if_neg c, if_neg c] at h7
      exact PrI_of h6 h7 rfl (Sim_warn h (by omega) q)
  · rw [if_pos q, if_pos q] at h6
    have h7 := c_X7_warn (M := fnd6 M 0) (by rw [f6_76]; exact hsn) (by rw [f6_76]; exact hs0) hk ho hc
    rw [f6_76, if_pos q, if_pos q] at h7
    exact PrI_of h6 h7 rfl (SimN_f h)

def RwE (u s : Int → Int) : Prop := ∀ j : Int, 0 ≤ j → j < 214 → u j = s j
theorem RwE_SOK {u s : Int → Int} (e : RwE u s) (h : SOK s) : SOK u := by
  obtain ⟨a, b, c, d⟩ := h
  have e10 := e 10 (by decide) (by decide)
  have c1 := c.1
  refine ⟨by rw [e 0 (by decide) (by decide)]; exact a, by rw [e 1 (by decide) (by decide)]; exact b, ⟨by rw [e10]; exact c1, fun i hi => ?_⟩, pOK_congr d (fun f p q => e _ (by omega) (by omega))⟩
  rw [e10] at hi
  exact wOK_congr (c.2 i hi) (fun f p q => e _ (by omega) (by omega))
theorem RwE_st {u s : Int → Int} (e : RwE u s) (h : 0 ≤ s 11 ∧ s 11 ≤ 60) : stS2 u = stS2 s := by
  unfold stS2
  rw [e 11 (by decide) (by decide)]
  exact stL_congr _ (fun j a b => e _ (by omega) (by omega))
theorem RuW_11 {s : Int → Int} (h : RuW s) : 0 ≤ s 11 ∧ s 11 ≤ 60 := by
  rcases h with h | h
  · omega
  · have := h.1
    omega
theorem RwE_Ru {u s : Int → Int} (e : RwE u s) (h : RuW s) : RuW u := by
  have k := RuW_11 h
  unfold RuW at h ⊢
  rw [RwE_st e k, e 11 (by decide) (by decide)]
  exact h
theorem RwE_Lk {u s : Int → Int} {c : Int} (e : RwE u s) (hn : s 10 ≤ 12) (h : LkR s c) : LkR u (c + 1) := by
  intro i hi
  rw [e 10 (by decide) (by decide)] at hi
  rw [e _ (by omega) (by omega)]
  have := h i hi
  omega
theorem RwE_WS {M N : zM} {w o : Nat} {u s : Int → Int} (e : RwE u s) (hs : SOK s) (h : WS M o s) (hm : SameW N w M o) : WS N w u := by
  obtain ⟨a0, a1, a2, a3, a6, hp, hg⟩ := h
  obtain ⟨m0, m1, m2, m3, m6, m8, mp, mg, mt⟩ := hm
  have n1 := hs.2.2.1.1
  refine ⟨by rw [m0, e 0 (by decide) (by decide)]; exact a0, by rw [m1, e 1 (by decide) (by decide)]; exact a1, by rw [m2, e 8 (by decide) (by decide)]; exact a2, by rw [m3, e 9 (by decide) (by decide)]; exact a3, by rw [m6, e 10 (by decide) (by decide)]; exact a6, fun j a b => by rw [mp j a b, e _ (by omega) (by omega)]; exact hp j a b, fun i hi f a b => ?_⟩
  rw [e 10 (by decide) (by decide)] at hi
  rw [mg i (by rw [a6]; exact hi) f a b, e _ (by omega) (by omega)]
  exact hg i hi f a b
theorem RwE_Tx {M N : zM} {w o : Nat} {u s : Int → Int} (e : RwE u s) (hu : RuW s) (h : TxR M o s) (hm : SameW N w M o) : TxR N w u := by
  obtain ⟨m0, m1, m2, m3, m6, m8, mp, mg, mt⟩ := hm
  have k := RuW_11 hu
  unfold TxR at h ⊢
  rw [m8, RwE_st e k, e 11 (by decide) (by decide)]
  rcases h with h | ⟨h1, h2, h3⟩
  · exact Or.inl h
  · exact Or.inr ⟨h1, h2, TopF_eq h3 (by omega) (fun j a b => mt j a b)⟩
theorem becM_16 {M : zM} {w o : Nat} : becM M w o (16 + w) = zcopy (M (16 + o)) (M (16 + w)) 0 0 (M o 8) := by
  unfold becM
  rw [zrow_eq]
theorem becM_B {M : zM} {w o : Nat} (h8 : M o 8 ≤ 60) (ho : TxB6 M o) (hw : TxB6 M w) : TxB6 (becM M w o) w := by
  intro j a b
  rw [becM_16]
  unfold zcopy
  by_cases y : 0 ≤ j ∧ j < 0 + M o 8
  · rw [if_pos y]
    exact ho _ (by omega) (by omega)
  · rw [if_neg y]
    exact hw j a b

theorem s_image {M : zM} (h : Sim M) : PrI yX6_image cX6_image 1 (some .int) 4 yX7_image cX7_image 2 (some .int) 0 [] M := by
  obtain ⟨⟨hs, h9, hW, hX, hU, hB⟩, hK, hP, hH, hF, hRd, hSw⟩ := id h
  have hO := Sim_ok h
  have w0 := hW.1
  have w1 := hW.2.1
  have w6 := hW.2.2.2.2.1
  obtain ⟨hs0, hs1, hsn, hsp⟩ := id hs
  have hn1 := hsn.1
  obtain ⟨q8, q11, qi⟩ := Sim_8 h
  have e16 : ∀ i : Nat, i ≠ 0 → i ≠ 2 → i ≠ 12 → i ≠ 18 → ¬ (32 ≤ i ∧ i < 44) → zput (becM M 2 1) 0 3 1 i = M i := fun i a b c d e => by rw [zput_ne a, becM_out (by omega) b c d (by omega)]
  have sm := becM_same (M := M) (w := 2) (o := 1) (Or.inr (Or.inl rfl)) (Or.inl rfl) (by decide) (by rw [w6]; exact hn1)
  have tb := becM_B (w := 2) (o := 1) q8.2 hB hK.2.2.1
  have o03 : ∀ j : Int, j ≠ 3 → zput (becM M 2 1) 0 3 1 0 j = M 0 j := fun j hj => by rw [zput_ne2 hj, becM_out (by omega) (by decide) (by decide) (by decide) (by decide)]
  have z03 : zput (becM M 2 1) 0 3 1 0 3 = 1 := zput_eq
  have zb : ∀ i : Nat, i ≠ 0 → zput (becM M 2 1) 0 3 1 i = becM M 2 1 i := fun i a => zput_ne a
  have h7 := c_X7_image (M := zput (becM M 2 1) 0 3 1)
  rw [e16 76 (by decide) (by decide) (by decide) (by decide) (by decide), e16 77 (by decide) (by decide) (by decide) (by decide) (by decide)] at h7
  refine PrI_of (c_X6_image hO hB q8) h7 rfl (fun c_ hc_ hl_ => ?_)
  generalize zput (becM M 2 1) 0 3 1 = g_ at *
  generalize hk2 : zput (zrow g_ 77 (zfillA (M 76) (M 77) 0 214)) 75 2 1 = K_
  have k77 : K_ 77 = zfillA (M 76) (M 77) 0 214 := by rw [← hk2, zput_ne (by decide), zrow_eq]
  have kg : ∀ i : Nat, i ≠ 75 → i ≠ 77 → K_ i = g_ i := fun i a b => by rw [← hk2, zput_ne a, zrow_ne b]
  have k75 : ∀ j : Int, j ≠ 2 → K_ 75 j = M 75 j := fun j hj => by rw [← hk2, zput_ne2 hj, zrow_ne (by decide), e16 75 (by decide) (by decide) (by decide) (by decide) (by decide)]
  have k752 : K_ 75 2 = 1 := by rw [← hk2, zput_eq]
  have rw77 : RwE (K_ 77) (M 76) := fun j a b => by rw [k77]; exact if_pos (by omega)
  have o : ∀ k : Nat, k ≠ 0 → k ≠ 75 → ¬ kC k → K_ k = M k := fun k a b c => by rw [kg k b (by omega), e16 k a (by omega) (by omega) (by omega) (by omega)]
  refine ⟨Sim_075 h (fun k a b _ _ c => o k a b c) ⟨?_, ?_, ?_, fun _ => ⟨RwE_SOK rw77 hs, ?_, ?_, ?_, RwE_Ru rw77 hU⟩⟩ (SimP_c hP (o 4 (by decide) (by decide) (by omega)) (o 79 (by decide) (by decide) (by omega)) (by rw [kg 0 (by decide) (by decide), o03 5 (by decide)]) (k75 5 (by decide))), ?_, fun _ => RwE_Lk rw77 hn1.2 hl_.1⟩
  · rw [k752, kg 0 (by decide) (by decide), z03]
  · exact Or.inr k752
  · exact TxB6_c tb (by rw [kg _ (by decide) (by decide), zb _ (by decide)])
  · rw [rw77 0 (by decide) (by decide)]; exact h9
  · exact WS_c (RwE_SOK rw77 hs).2.2.1.1.2 (RwE_WS rw77 hs hW sm) (by rw [kg _ (by decide) (by decide), zb _ (by decide)]) (by rw [kg _ (by decide) (by decide), zb _ (by decide)]) (fun i hi => by rw [kg _ (by omega) (by omega), zb _ (by omega)])
  · exact TxR_c (RwE_Tx rw77 hU hX sm) (by rw [kg _ (by decide) (by decide), zb _ (by decide)]) (by rw [kg _ (by decide) (by decide), zb _ (by decide)])
  · rw [o 76 (by decide) (by decide) (by omega)]
    exact LkR_c hl_.1 (fun j hj => rfl)

theorem s_undo {M : zM} (h : Sim M) : PrI yX6_undo cX6_undo 1 (some .int) 4 yX7_undo cX7_undo 2 (some .int) 2 [] M := by
  obtain ⟨⟨hs, h9, hW, hX, hU, hB⟩, hK, hP, hH, hF, hRd, hSw⟩ := id h
  have hO := Sim_ok h
  have w0 := hW.1
  have w1 := hW.2.1
  have w6 := hW.2.2.2.2.1
  obtain ⟨hs0, hs1, hsn, hsp⟩ := id hs
  have hn1 := hsn.1
  have z6 : M 0 3 = 0 ∨ M 0 3 = 1 := by rw [hK.1]; exact hK.2.1
  have t8 : M 0 3 = 1 → (0 ≤ M 2 6 ∧ M 2 6 ≤ 12) ∧ (0 ≤ M 2 8 ∧ M 2 8 ≤ 60) ∧ ∀ j : Int, 0 ≤ j → j < 60 → -128 ≤ M (16 + 2) j ∧ M (16 + 2) j < 128 := fun x => by
    obtain ⟨k1, k2, k3, k4, k5⟩ := hK.2.2.2 (by rw [← hK.1]; exact x)
    refine ⟨by rw [k3.2.2.2.2.1]; exact k1.2.2.1.1, ?_, hK.2.2.1⟩
    rcases k4 with y | y
    · have := y.1
      omega
    · have := y.1
      omega
  have h6 := c_X6_undo z6 t8
  rw [hK.1] at h6
  by_cases q : M 75 2 = 0
  · rw [if_pos q, if_pos q] at h6
    have h7 := c_X7_undo (M := fnd6 M 3) (by rw [f6_o (by decide)]; exact hK.2.1)
    rw [f6_o (show 75 ≠ 6 by decide), if_pos q, if_pos q] at h7
    exact PrI_of h6 h7 rfl (SimN_f h)
  · rw [if_neg q, if_neg q] at h6
    have q1 : M 75 2 = 1 := by have := hK.2.1; omega
    obtain ⟨k1, k2, k3, k4, k5⟩ := hK.2.2.2 q1
    obtain ⟨t1, t2, t3⟩ := t8 (by rw [hK.1]; exact q1)
    have e16 : ∀ i : Nat, i ≠ 1 → i ≠ 11 → i ≠ 17 → ¬ (20 ≤ i ∧ i < 32) → becM M 1 2 i = M i := fun i b c d e => becM_out t1.2 b c d (by omega)
    have sm := becM_same (M := M) (w := 1) (o := 2) (Or.inl rfl) (Or.inr (Or.inl rfl)) (by decide) t1
    have tb := becM_B (w := 1) (o := 2) t2.2 hK.2.2.1 hB
    have h7 := c_X7_undo (M := becM M 1 2) (by rw [e16 75 (by decide) (by decide) (by decide) (by decide)]; exact hK.2.1)
    rw [e16 75 (by decide) (by decide) (by decide) (by decide), e16 76 (by decide) (by decide) (by decide) (by decide), e16 77 (by decide) (by decide) (by decide) (by decide), if_neg q, if_neg q] at h7
    refine PrI_of h6 h7 k3.1.symm (fun c_ hc_ hl_ => ?_)
    generalize becM M 1 2 = g_ at *
    generalize hk2 : zrow g_ 76 (zfillA (M 77) (M 76) 0 214) = K_
    have k76 : K_ 76 = zfillA (M 77) (M 76) 0 214 := by rw [← hk2, zrow_eq]
    have kg : ∀ i : Nat, i ≠ 76 → K_ i = g_ i := fun i b => by rw [← hk2, zrow_ne b]
    have rw76 : RwE (K_ 76) (M 77) := fun j a b => by rw [k76]; exact if_pos (by omega)
    have o : ∀ k : Nat, ¬ tC k → K_ k = M k := fun k c => by rw [kg k (by omega), e16 k (by omega) (by omega) (by omega) (by omega)]
    have n2 := k1.2.2.1.1.2
    refine ⟨Sim_T h o ⟨RwE_SOK rw76 k1, ?_, ?_, ?_, RwE_Ru rw76 k5, ?_⟩, RwE_Lk rw76 n2 (hl_.2 q1), fun _ => ?_⟩
    · rw [rw76 0 (by decide) (by decide)]; exact k2
    · exact WS_c (RwE_SOK rw76 k1).2.2.1.1.2 (RwE_WS rw76 k1 k3 sm) (kg _ (by decide)) (kg _ (by decide)) (fun i hi => kg _ (by omega))
    · exact TxR_c (RwE_Tx rw76 k5 k4 sm) (by rw [kg _ (by decide)]) (kg _ (by decide))
    · exact TxB6_c tb (kg _ (by decide))
    · rw [o 77 (by omega)]
      exact LkR_c (hl_.2 q1) (fun j hj => rfl)
