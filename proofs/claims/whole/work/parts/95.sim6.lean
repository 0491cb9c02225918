theorem WS_can {M : zM} {s : Int → Int} (h : WS M 1 s) (m : Int) : canS (M (10 + 1)) (M 1 1) m ↔ canR s m := by
  unfold canS canR
  rw [h.2.2.2.2.2.1 4 (by decide) (by decide), h.2.2.2.2.2.1 5 (by decide) (by decide), h.2.2.2.2.2.1 0 (by decide) (by decide), h.2.1]
  exact Iff.rfl
theorem daysW_out {M : zM} {k : Nat} (hk : k ≠ 1) : ∀ n : Nat, daysW M 1 n k = M k
  | 0 => rfl
  | n + 1 => by rw [daysW, endW_out hk, daysW_out hk n]
theorem daysW_8 {M : zM} : ∀ n : Nat, daysW M 1 n 1 8 = M 1 8
  | 0 => rfl
  | n + 1 => by rw [daysW, endW_8, daysW_8 n]
theorem daysW_WS {M : zM} {s : Int → Int} (hO : SOK s) (h : WS M 1 s) : ∀ n : Nat, s 0 + n ≤ 1999 → WS (daysW M 1 n) 1 (goS 0 s n)
  | 0, _ => h
  | n + 1, hn => by
    have ih := daysW_WS hO h n (by omega)
    have g := goS_ok2 (b := 0) hO n (by omega)
    rw [daysW, goS, if_pos rfl]
    exact WS_end (Or.inl rfl) ih g.1.2.2.1
theorem SimN_82 {M N K : zM} (h : SimN M N) (o : out82 K N) : SimN M K := by
  intro c hc hl
  obtain ⟨a, b, d⟩ := h c hc hl
  have e75 := o 75 (by decide) (by decide)
  refine ⟨Sim_scr a (fun k hk => o k (by omega) (by omega)) (by rw [e75]) (by rw [e75]) (RdI_c a.2.2.2.2.2.1 (o 7 (by decide) (by decide))) (SwI_congr a.2.2.2.2.2.2 (o 70 (by decide) (by decide)) (o 71 (by decide) (by decide)) (o 72 (by decide) (by decide)) (o 73 (by decide) (by decide)) (o 74 (by decide) (by decide))), ?_, ?_⟩
  · rw [o 76 (by decide) (by decide)]; exact b
  · rw [o 77 (by decide) (by decide), e75]; exact d
theorem PrI_r {y6 y7 : MethodName} {c6 c7 : ByteArray} {m6 m7 d6 d7 : Nat} {r6 r7 : Option FieldType} {av : List zV} {M g : zM} {f f2 : Int} {P2 : zM → Prop} (h6 : Call y6 c6 m6 r6 d6 (vR 0 :: av) M (PI f g)) (h7 : Call y7 c7 m7 r7 d7 (vR 75 :: av) g (RI f2 P2)) (hv : f2 = f) (hS : ∀ K, P2 K → SimN M K) : PrI y6 c6 m6 r6 d6 y7 c7 m7 r7 d7 av M := ⟨f, fun N => N = g, h6, fun N hN => ⟨P2, by rw [hN, ← hv]; exact h7, hS⟩⟩

theorem s_days {M : zM} {n_ : Int} (h : Sim M) (hn : -2147483648 ≤ n_ ∧ n_ < 2147483648) : PrI yX6_days cX6_days 3 (some .int) 3 yX7_days cX7_days 2 (some .int) 7 [vI n_] M := by
  obtain ⟨⟨hs, h9, hW, hX, hU, hB⟩, hK, hP, hH, hF, hRd, hSw⟩ := id h
  have hO := Sim_ok h
  have w0 := hW.1
  have w1 := hW.2.1
  have w6 := hW.2.2.2.2.1
  obtain ⟨hs0, hs1, hsn, hsp⟩ := id hs
  have hn1 := hsn.1
  have h6 := c_X6_days hO (by omega) hn
  rw [w0] at h6
  by_cases q : 1 ≤ n_ ∧ n_ ≤ 100
  · have nq : ¬ ¬ (1 ≤ n_ ∧ n_ ≤ 100) := fun x => x q
    rw [if_neg nq, if_neg nq] at h6
    by_cases c : 999 < M 76 0 + n_
    · rw [if_pos c, if_pos c] at h6
      have h7 := c_X7_days (M := fnd6 M 4) (by rw [f6_76]; exact hs) (by rw [f6_76]; exact h9) (by rw [f6_76]; exact hU) hn
      rw [f6_76, if_neg nq, if_neg nq, if_pos c, if_pos c] at h7
      exact PrI_r h6 h7 rfl (fun K hK => SimN_82 (SimN_f h) hK)
    · rw [if_neg c, if_neg c] at h6
      have e76 : daysW M 1 n_.toNat 76 = M 76 := daysW_out (by decide) _
      have h7 := c_X7_days (M := daysW M 1 n_.toNat) (by rw [e76]; exact hs) (by rw [e76]; exact h9) (by rw [e76]; exact hU) hn
      rw [e76, if_neg nq, if_neg nq, if_neg c, if_neg c] at h7
      refine PrI_r h6 h7 rfl (fun K hK => SimN_82 ?_ hK)
      have f76 : zrow (daysW M 1 n_.toNat) 76 (goS 0 (M 76) n_.toNat) 76 = goS 0 (M 76) n_.toNat := zrow_eq
      have g := goS_ok2 (b := 0) hs n_.toNat (by omega)
      refine Sim_go h (fun k a b c => by rw [zrow_ne c, daysW_out a]) (by rw [zrow_ne (by decide), daysW_8]) (fun j hj => by rw [f76, g.2.2 j hj]) (by rw [f76]; exact g.1) (by rw [f76, g.2.1]; omega) ?_
      rw [f76]
      exact WS_c (by rw [g.2.2 10 (by decide)]; exact hn1.2) (daysW_WS hs hW n_.toNat (by omega)) (zrow_ne (by decide)) (zrow_ne (by decide)) (fun i hi => zrow_ne (by omega))
  · rw [if_pos q, if_pos q] at h6
    have h7 := c_X7_days (M := fnd6 M 0) (by rw [f6_76]; exact hs) (by rw [f6_76]; exact h9) (by rw [f6_76]; exact hU) hn
    rw [if_pos q, if_pos q] at h7
    exact PrI_r h6 h7 rfl (fun K hK => SimN_82 (SimN_f h) hK)

theorem s_drift {M : zM} (h : Sim M) : PrI yX6_drift cX6_drift 2 (some .int) 1 yX7_drift cX7_drift 2 (some .int) 0 [] M := by
  obtain ⟨⟨hs, h9, hW, hX, hU, hB⟩, hK, hP, hH, hF, hRd, hSw⟩ := id h
  have hO := Sim_ok h
  have w0 := hW.1
  have w1 := hW.2.1
  have w6 := hW.2.2.2.2.1
  obtain ⟨hs0, hs1, hsn, hsp⟩ := id hs
  have hn1 := hsn.1
  obtain ⟨q8, q11, qi⟩ := Sim_8 h
  have e76 : zput M 1 8 0 76 = M 76 := zput_ne (by decide)
  have h7 := c_X7_drift (M := zput M 1 8 0) (by rw [e76]; omega)
  rw [e76] at h7
  refine PrI_of (c_X6_drift (by omega)) h7 ?_ (fun c_ hc_ hl_ => ?_)
  · by_cases c : 0 < M 1 8
    · rw [if_pos c, if_pos (qi.mp c)]
    · rw [if_neg c, if_neg (fun x => c (qi.mpr x))]
  have eK : zput (zput M 1 8 0) 76 11 0 76 = zup (M 76) 11 0 := by rw [zput_at, e76]
  have lK : ∀ j : Int, j ≠ 11 → zput (zput M 1 8 0) 76 11 0 76 j = M 76 j := fun j hj => by rw [eK, zup_ne hj]
  have l11 : zput (zput M 1 8 0) 76 11 0 76 11 = 0 := zput_eq
  have o : ∀ k : Nat, k ≠ 1 → k ≠ 76 → zput (zput M 1 8 0) 76 11 0 k = M k := fun k b c => by rw [zput_ne c, zput_ne b]
  have o1 : ∀ j : Int, j ≠ 8 → zput (zput M 1 8 0) 76 11 0 1 j = M 1 j := fun j hj => by rw [zput_ne (by decide), zput_ne2 hj]
  have o8 : zput (zput M 1 8 0) 76 11 0 1 8 = 0 := by rw [zput_ne (by decide), zput_eq]
  obtain ⟨a0, a1, a2, a3, a6, hp, hg⟩ := hW
  refine ⟨Sim_T h (fun k hk => o k (by omega) (by omega)) ⟨⟨by rw [lK 0 (by omega)]; exact hs0, by rw [lK 1 (by omega)]; exact hs1, ⟨by rw [lK 10 (by omega)]; exact hsn.1, fun i hi => ?_⟩, pOK_congr hsp (fun f a b => lK _ (by omega))⟩, by rw [lK 0 (by omega)]; exact h9, ⟨by rw [o1 0 (by decide), lK 0 (by omega)]; exact a0, by rw [o1 1 (by decide), lK 1 (by omega)]; exact a1, by rw [o1 2 (by decide), lK 8 (by omega)]; exact a2, by rw [o1 3 (by decide), lK 9 (by omega)]; exact a3, by rw [o1 6 (by decide), lK 10 (by omega)]; exact a6, fun j a b => by rw [o _ (by decide) (by decide), lK _ (by omega)]; exact hp j a b, fun i hi f a b => ?_⟩, Or.inl ⟨o8, l11⟩, Or.inl l11, TxB6_c hB (o 17 (by decide) (by decide))⟩, fun i hi => ?_, fun q => ?_⟩
  · rw [lK 10 (by omega)] at hi
    exact wOK_congr (hsn.2 i hi) (fun f a b => lK _ (by omega))
  · rw [lK 10 (by omega)] at hi
    rw [o _ (by omega) (by omega), lK _ (by omega)]
    exact hg i hi f a b
  · rw [lK 10 (by omega)] at hi
    rw [lK _ (by omega)]
    have := hl_.1 i hi
    omega
  · rw [o 75 (by decide) (by decide)] at q
    rw [o 77 (by decide) (by decide)]
    exact LkR_c (hl_.2 q) (fun j hj => rfl)

theorem bm_emod (x : Int) : Int.bmod (x % 256) 256 = Int.bmod x 256 := by
  unfold Int.bmod
  rw [show x % 256 % ((256 : Nat) : Int) = x % ((256 : Nat) : Int) by omega]
theorem zand_255 (x : Int) : zand x 255 = x % 256 := by
  unfold zand
  rw [← Int32.toInt_toBitVec, Int32.toBitVec_and]
  have e : (Int32.ofInt 255).toBitVec = 255#32 := by decide
  have e2 : (Int32.ofInt x).toBitVec = BitVec.ofInt 32 x := rfl
  rw [e, e2]
  have t : (BitVec.ofInt 32 x &&& 255#32).toNat = (x % 4294967296).toNat % 256 := by
    rw [BitVec.toNat_and, BitVec.toNat_ofInt]
    have := Nat.and_two_pow_sub_one_eq_mod (x % ((2 ^ 32 : Nat) : Int)).toNat 8
    exact this
  rw [BitVec.toInt_eq_toNat_of_lt (by rw [t]; omega), t]
  omega

theorem s_feed {M : zM} {b_ n_ : Int} (h : Sim M) (hb : -2147483648 ≤ b_ ∧ b_ < 2147483648) (hn : -2147483648 ≤ n_ ∧ n_ < 2147483648) : PrI yX6_feed cX6_feed 4 (some .int) 1 yX7_feed cX7_feed 4 (some .int) 1 [vI b_, vI n_] M := by
  obtain ⟨⟨hs, h9, hW, hX, hU, hB⟩, hK, hP, hH, hF, hRd, hSw⟩ := id h
  have hO := Sim_ok h
  have w0 := hW.1
  have w1 := hW.2.1
  have w6 := hW.2.2.2.2.1
  obtain ⟨hs0, hs1, hsn, hsp⟩ := id hs
  have hn1 := hsn.1
  have h6 := c_X6_feed (M := M) (by rw [hP.1]; exact hP.2.1) hb hn
  have t5 := hP.2.1
  rw [hP.1] at h6
  by_cases q : 1 ≤ n_ ∧ n_ ≤ 4
  · have nq : ¬ ¬ (1 ≤ n_ ∧ n_ ≤ 4) := fun x => x q
    rw [if_neg nq, if_neg nq] at h6
    by_cases c : 60 < M 75 5 + n_
    · rw [if_pos c, if_pos c] at h6
      have h7 := c_X7_feed (M := fnd6 M 1) (by rw [f6_o (by decide)]; exact t5) hb hn
      rw [f6_o (show 75 ≠ 6 by decide), if_neg nq, if_neg nq, if_pos c, if_pos c] at h7
      exact PrI_of h6 h7 rfl (SimN_f h)
    · rw [if_neg c, if_neg c] at h6
      generalize hg : zput (zrow M 4 (zfillA (fun j_ => Int.bmod (zshr b_ (8 * (n_ - 1 - (j_ - M 75 5)))) 256) (M 4) (M 75 5) n_)) 0 5 (M 75 5 + n_) = g_ at h6
      have o6 : ∀ k : Nat, k ≠ 0 → k ≠ 4 → g_ k = M k := fun k a b => by rw [← hg, zput_ne a, zrow_ne b]
      have h7 := c_X7_feed (M := g_) (by rw [o6 75 (by decide) (by decide)]; exact t5) hb hn
      rw [o6 75 (by decide) (by decide), o6 79 (by decide) (by decide), if_neg nq, if_neg nq, if_neg c, if_neg c] at h7
      refine PrI_of h6 h7 rfl ?_
      generalize hk : zput (zrow g_ 79 (zfillA (fun j_ => zand (zshr b_ (8 * (n_ - 1 - (j_ - M 75 5)))) 255) (M 79) (M 75 5) n_)) 75 5 (M 75 5 + n_) = K_
      have o7 : ∀ k : Nat, k ≠ 75 → k ≠ 79 → K_ k = g_ k := fun k a b => by rw [← hk, zput_ne a, zrow_ne b]
      have o : ∀ k : Nat, k ≠ 0 → k ≠ 4 → k ≠ 75 → k ≠ 79 → K_ k = M k := fun k a b c d => by rw [o7 k c d, o6 k a b]
      have k4 : K_ 4 = zfillA (fun j_ => Int.bmod (zshr b_ (8 * (n_ - 1 - (j_ - M 75 5)))) 256) (M 4) (M 75 5) n_ := by rw [o7 4 (by decide) (by decide), ← hg, zput_ne (by decide), zrow_eq]
      have k79 : K_ 79 = zfillA (fun j_ => zand (zshr b_ (8 * (n_ - 1 - (j_ - M 75 5)))) 255) (M 79) (M 75 5) n_ := by rw [← hk, zput_ne (by decide), zrow_eq]
      have k0 : ∀ j : Int, j ≠ 5 → K_ 0 j = M 0 j := fun j hj => by rw [o7 0 (by decide) (by decide), ← hg, zput_ne2 hj, zrow_ne (by decide)]
      have k75 : ∀ j : Int, j ≠ 5 → K_ 75 j = M 75 j := fun j hj => by rw [← hk, zput_ne2 hj, zrow_ne (by decide), o6 75 (by decide) (by decide)]
      have k05 : K_ 0 5 = M 75 5 + n_ := by rw [o7 0 (by decide) (by decide), ← hg, zput_eq]
      have k755 : K_ 75 5 = M 75 5 + n_ := by rw [← hk, zput_eq]
      refine SimN_of (Sim_075 h (fun k a b c d _ => o k a c b d) (SimK_c hK (fun k hk => o k (by omega) (by omega) (by omega) (by omega)) (k0 3 (by decide)) (k75 2 (by decide))) ?_) (fun j hj => by rw [o 76 (by decide) (by decide) (by decide) (by decide)]) (o 77 (by decide) (by decide) (by decide) (by decide)) (k75 2 (by decide))
      unfold SimP
      rw [k05, k755, k4, k79]
      refine ⟨rfl, by omega, fun j a b => ?_, fun j a b => ?_, fun j a b => ?_⟩
      · unfold zfillA
        by_cases y : M 75 5 ≤ j ∧ j < M 75 5 + n_
        · rw [if_pos y, if_pos y]
          dsimp only
          rw [zand_255]
          exact (bm_emod _).symm
        · rw [if_neg y, if_neg y]
          exact hP.2.2.1 j a (by omega)
      · unfold zfillA
        by_cases y : M 75 5 ≤ j ∧ j < M 75 5 + n_
        · rw [if_pos y]
          dsimp only
          rw [zand_255]
          omega
        · rw [if_neg y]
          exact hP.2.2.2.1 j a b
      · unfold zfillA
        by_cases y : M 75 5 ≤ j ∧ j < M 75 5 + n_
        · rw [if_pos y]
          dsimp only
          have := @Int.le_bmod (zshr b_ (8 * (n_ - 1 - (j - M 75 5)))) 256 (by decide)
          have := @Int.bmod_lt (zshr b_ (8 * (n_ - 1 - (j - M 75 5)))) 256 (by decide)
          omega
        · rw [if_neg y]
          exact hP.2.2.2.2 j a b
  · rw [if_pos q, if_pos q] at h6
    have h7 := c_X7_feed (M := fnd6 M 0) (by rw [f6_o (by decide)]; exact t5) hb hn
    rw [if_pos q, if_pos q] at h7
    exact PrI_of h6 h7 rfl (SimN_f h)
