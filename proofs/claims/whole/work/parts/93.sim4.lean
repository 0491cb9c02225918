theorem Sim_h {M : zM} (h : Sim M) {k_ : Int} (hk : 0 ≤ k_ ∧ k_ ≤ 3) : M (56 + k_.toNat) 0 = M 87 k_ ∧ M (56 + k_.toNat) 1 = M 88 k_ ∧ (∀ j : Int, 0 ≤ j → j < 40 → M (60 + k_.toNat) j = M 89 (40 * k_ + j)) ∧ (0 ≤ M 88 k_ ∧ M 88 k_ ≤ 40) := by
  have e := h.2.2.2.1.2.2 k_.toNat (by omega)
  rw [Int.toNat_of_nonneg hk.1] at e
  exact ⟨e.1, e.2.1, e.2.2, (h.2.2.2.1.2.1 k_ hk.1 hk.2).2.1⟩
theorem rightN_congr {f f2 d d2 : Int → Int} : ∀ (n i : Nat), (n + i ≤ 40) → (∀ j : Int, 0 ≤ j → j < 40 → f j = f2 j) → (∀ j : Int, d j = d2 j) → rightN f d n i = rightN f2 d2 n i
  | 0, i, _, _, _ => rfl
  | n + 1, i, hb, hf, hd => by
    unfold rightN
    rw [hf i (by omega) (by omega), hd i, rightN_congr n (i + 1) (by omega) hf hd]
theorem inAll_congr {f f2 : Int → Int} {b : Int} : ∀ n : Nat, n ≤ 40 → (∀ j : Int, 0 ≤ j → j < 40 → f j = f2 j) → inAll f b n = inAll f2 b n
  | 0, _, _ => rfl
  | n + 1, hn, hf => by
    unfold inAll
    rw [inAll_congr n (by omega) hf, hf n (by omega) (by omega)]
theorem f6_n {M : zM} {k : Int} {i : Nat} (h : i ≠ 6) : zput M 6 k (M 6 k + 1) i = M i := zput_ne h
theorem SH7_f {M : zM} {k : Int} (h : SH7 M) : SH7 (fnd6 M k) := by
  unfold SH7 at h ⊢
  unfold fnd6
  rw [zput_ne (by decide), zput_ne (by decide), zput_ne (by decide)]
  exact h

theorem s_read {M : zM} {k_ : Int} (h : Sim M) (hk : -2147483648 ≤ k_ ∧ k_ < 2147483648) : PrI yX6_read cX6_read 4 (some .int) 3 yX7_read cX7_read 4 (some .int) 4 [vI k_] M := by
  obtain ⟨⟨hs, h9, hW, hX, hU, hB⟩, hK, hP, hH, hF, hRd, hSw⟩ := id h
  have hO := Sim_ok h
  have w0 := hW.1
  have w1 := hW.2.1
  have w6 := hW.2.2.2.2.1
  obtain ⟨hs0, hs1, hsn, hsp⟩ := id hs
  have hn1 := hsn.1
  obtain ⟨hS6, hS7, _⟩ := id hH
  have h6 := c_X6_read hS6 hO hk
  by_cases q : 0 ≤ k_ ∧ k_ ≤ 3
  · obtain ⟨e0, e1, eN, eR⟩ := Sim_h h q
    have nq : ¬ ¬ (0 ≤ k_ ∧ k_ ≤ 3) := fun x => x q
    rw [if_neg nq, if_neg nq, e0, e1] at h6
    by_cases c : M 87 k_ = 0
    · rw [if_pos c, if_pos c] at h6
      have h7 := c_X7_read (M := fnd6 M 5) (SH7_f hS7) (by rw [f6_76]; exact hsn) (by rw [f6_76]; exact hs1) (by rw [f6_76]; exact hs0) hk
      rw [if_neg nq, if_neg nq, f6_o (show 87 ≠ 6 by decide), if_pos c, if_pos c] at h7
      exact PrI_of h6 h7 rfl (SimN_f h)
    · rw [if_neg c, if_neg c] at h6
      have h7 := c_X7_read (M := M) hS7 hsn hs1 hs0 hk
      rw [if_neg nq, if_neg nq, if_neg c, if_neg c] at h7
      refine PrI_of h6 h7 ?_ (SimN_r h)
      rw [rightN_congr (f := M (60 + k_.toNat)) (f2 := fun j_ => M 89 (40 * k_ + j_)) (d2 := fun j_ => danger (M 76 10).toNat (gS (M 76)) (M 76 0 + 1 + j_) (M 76 1)) (M 88 k_).toNat 0 (by omega) eN (fun j => by rw [Sim_dg h, w0, w1])]
  · rw [if_pos q, if_pos q] at h6
    have h7 := c_X7_read (M := fnd6 M 0) (SH7_f hS7) (by rw [f6_76]; exact hsn) (by rw [f6_76]; exact hs1) (by rw [f6_76]; exact hs0) hk
    rw [if_pos q, if_pos q] at h7
    exact PrI_of h6 h7 rfl (SimN_f h)

theorem restB_congr {f f2 : Int → Int} (e : ∀ j : Int, 0 ≤ j → j < 40 → f j = f2 j) : ∀ n : Nat, n < 4 → (restB f n ↔ restB f2 n) := by
  intro n hn
  unfold restB
  have a : ∀ n : Nat, n < 4 → 0 ≤ zxor n 1 ∧ zxor n 1 < 4 := by decide
  have b : ∀ n : Nat, n < 4 → 0 ≤ zxor n 2 ∧ zxor n 2 < 4 := by decide
  have a1 := a n hn
  have b1 := b n hn
  rw [e _ a1.1 (by omega), e n (by omega) (by omega), e (4 + zxor n 2) (by omega) (by omega), e (4 + n) (by omega) (by omega)]
theorem restsS_congr {f f2 : Int → Int} (e : ∀ j : Int, 0 ≤ j → j < 40 → f j = f2 j) : ∀ n : Nat, n ≤ 4 → restsS f n = restsS f2 n
  | 0, _ => rfl
  | n + 1, hn => by
    unfold restsS
    rw [restsS_congr e n (by omega)]
    by_cases c : restB f2 n
    · rw [if_pos c, if_pos ((restB_congr e n (by omega)).mpr c)]
    · rw [if_neg c, if_neg (fun x => c ((restB_congr e n (by omega)).mp x))]
theorem mostW_congr {f f2 : Int → Int} {m : Int} (e : ∀ j : Int, 0 ≤ j → j < 40 → f j = f2 j) : ∀ n : Nat, n ≤ 4 → mostW f m n = mostW f2 m n
  | 0, _ => rfl
  | n + 1, hn => by
    unfold mostW
    rw [mostW_congr e n (by omega), e n (by omega) (by omega), e (4 + n) (by omega) (by omega)]
/-- the fault of a row of eight, told twice -/
theorem fault8 {M : zM} {k_ : Int} (h : Sim M) : (if ¬ (0 ≤ k_ ∧ k_ ≤ 3) then (-1000000001 : Int) else if M (56 + k_.toNat) 0 = 0 then -1000000006 else if M (56 + k_.toNat) 1 ≠ 8 then -1000000007 else if inAll (M (60 + k_.toNat)) 1000000 (M (56 + k_.toNat) 1).toNat = true then 0 else -1000000003) = (if 0 ≤ hindS M k_ 8 8 1000000 then -1000000001 - hindS M k_ 8 8 1000000 else 0) ∧ hindS M k_ 8 8 1000000 ≤ 6 := by
  unfold hindS
  by_cases q : 0 ≤ k_ ∧ k_ ≤ 3
  · obtain ⟨e0, e1, eN, eR⟩ := Sim_h h q
    have nq : ¬ ¬ (0 ≤ k_ ∧ k_ ≤ 3) := fun x => x q
    rw [if_neg nq, if_neg nq, e0, e1]
    by_cases c : M 87 k_ = 0
    · rw [if_pos c, if_pos c]; exact ⟨by decide, by decide⟩
    · rw [if_neg c, if_neg c]
      by_cases d : M 88 k_ = 8
      · rw [if_neg (fun x => x d), if_neg (show ¬ ¬ (8 ≤ M 88 k_ ∧ M 88 k_ ≤ 8) by omega), inAll_congr _ (by omega) eN]
        by_cases g : inAll (fun j => M 89 (40 * k_ + j)) 1000000 (M 88 k_).toNat = true
        · rw [if_pos g, if_pos g]; exact ⟨by decide, by decide⟩
        · rw [if_neg g, if_neg g]; exact ⟨by decide, by decide⟩
      · rw [if_pos d, if_pos (show ¬ (8 ≤ M 88 k_ ∧ M 88 k_ ≤ 8) by omega)]; exact ⟨by decide, by decide⟩
  · rw [if_pos q, if_pos q]; exact ⟨by decide, by decide⟩
theorem hindS_f {M : zM} {k_ a b c i : Int} : hindS (fnd6 M i) k_ a b c = hindS M k_ a b c := by
  unfold hindS fnd6
  rw [zput_ne (show 87 ≠ 6 by decide), zput_ne (show 88 ≠ 6 by decide), zput_ne (show 89 ≠ 6 by decide)]

theorem s_rests {M : zM} {k_ : Int} (h : Sim M) (hk : -2147483648 ≤ k_ ∧ k_ < 2147483648) : PrI yX6_rests cX6_rests 3 (some .int) 4 yX7_rests cX7_rests 5 (some .int) 3 [vI k_] M := by
  obtain ⟨⟨hs, h9, hW, hX, hU, hB⟩, hK, hP, hH, hF, hRd, hSw⟩ := id h
  have hO := Sim_ok h
  have w0 := hW.1
  have w1 := hW.2.1
  have w6 := hW.2.2.2.2.1
  obtain ⟨hs0, hs1, hsn, hsp⟩ := id hs
  have hn1 := hsn.1
  obtain ⟨hS6, hS7, _⟩ := id hH
  have h6 := c_X6_rests hS6 hk
  obtain ⟨ef, hf6⟩ := fault8 (k_ := k_) h
  rw [ef] at h6
  by_cases q : 0 ≤ hindS M k_ 8 8 1000000
  · rw [if_pos q] at h6
    rw [if_neg (show ¬ (-1000000001 - hindS M k_ 8 8 1000000 = 0) by omega), if_neg (show ¬ (-1000000001 - hindS M k_ 8 8 1000000 = 0) by omega), show -1000000001 - (-1000000001 - hindS M k_ 8 8 1000000) = hindS M k_ 8 8 1000000 by omega] at h6
    have h7 := c_X7_rests (M := fnd6 M (hindS M k_ 8 8 1000000)) (SH7_f hS7) hk
    rw [hindS_f, if_pos q, if_pos q] at h7
    exact PrI_of h6 h7 rfl (SimN_f h)
  · rw [if_neg q, if_pos rfl, if_pos rfl] at h6
    have h7 := c_X7_rests (M := M) hS7 hk
    rw [if_neg q, if_neg q] at h7
    obtain ⟨e0, e1, eN, eR⟩ := Sim_h h (hind_k (show hindS M k_ 8 8 1000000 < 0 by omega)).1
    exact PrI_of h6 h7 (restsS_congr (fun j a b => (eN j a b).symm) 4 (by decide)) (SimN_r h)

theorem restsS_p {f : Int → Int} {n : Nat} (h : restB f n) : restsS f (n + 1) = zor (restsS f n) (zshl 1 n) := by rw [restsS, if_pos h]
theorem restsS_n {f : Int → Int} {n : Nat} (h : ¬ restB f n) : restsS f (n + 1) = restsS f n := by rw [restsS, if_neg h]
theorem hasV_p {f : Int → Int} {n : Nat} (h : restB f n) : hasV f (n + 1) = 1 := by rw [hasV, if_pos h]
theorem hasV_n {f : Int → Int} {n : Nat} (h : ¬ restB f n) : hasV f (n + 1) = hasV f n := by rw [hasV, if_neg h]
theorem mostW_p {A : Int → Int} {m : Int} {n : Nat} (h : zand (zshr m n) 1 = 1) : mostW A m (n + 1) = if A n + A (4 + n) < mostW A m n then mostW A m n else A n + A (4 + n) := by rw [mostW, if_pos h]
theorem mostW_n {A : Int → Int} {m : Int} {n : Nat} (h : ¬ zand (zshr m n) 1 = 1) : mostW A m (n + 1) = mostW A m n := by rw [mostW, if_neg h]
theorem rests_bits {f : Int → Int} : (restsS f 4 = 0 ↔ hasV f 4 = 0) ∧ (zand (zshr (restsS f 4) ((0 : Nat) : Int)) 1 = 1 ↔ restB f ((0 : Nat) : Int)) ∧ (zand (zshr (restsS f 4) ((1 : Nat) : Int)) 1 = 1 ↔ restB f ((1 : Nat) : Int)) ∧ (zand (zshr (restsS f 4) ((2 : Nat) : Int)) 1 = 1 ↔ restB f ((2 : Nat) : Int)) ∧ (zand (zshr (restsS f 4) ((3 : Nat) : Int)) 1 = 1 ↔ restB f ((3 : Nat) : Int)) := by
  by_cases r0 : restB f ((0 : Nat) : Int)
  · by_cases r1 : restB f ((1 : Nat) : Int)
    · by_cases r2 : restB f ((2 : Nat) : Int)
      · by_cases r3 : restB f ((3 : Nat) : Int)
        · have e : restsS f 4 = 15 := by
            rw [restsS_p (n := 3) r3, restsS_p (n := 2) r2, restsS_p (n := 1) r1, restsS_p (n := 0) r0, show restsS f 0 = 0 from rfl]
            decide
          have u : hasV f 4 = 1 := by
            rw [hasV_p (n := 3) r3]
          rw [e, u]
          exact ⟨by decide, iff_of_true (by decide) r0, iff_of_true (by decide) r1, iff_of_true (by decide) r2, iff_of_true (by decide) r3⟩
        · have e : restsS f 4 = 7 := by
            rw [restsS_n (n := 3) r3, restsS_p (n := 2) r2, restsS_p (n := 1) r1, restsS_p (n := 0) r0, show restsS f 0 = 0 from rfl]
            decide
          have u : hasV f 4 = 1 := by
            rw [hasV_n (n := 3) r3, hasV_p (n := 2) r2]
          rw [e, u]
          exact ⟨by decide, iff_of_true (by decide) r0, iff_of_true (by decide) r1, iff_of_true (by decide) r2, iff_of_false (by decide) r3⟩
      · by_cases r3 : restB f ((3 : Nat) : Int)
        · have e : restsS f 4 = 11 := by
            rw [restsS_p (n := 3) r3, restsS_n (n := 2) r2, restsS_p (n := 1) r1, restsS_p (n := 0) r0, show restsS f 0 = 0 from rfl]
            decide
          have u : hasV f 4 = 1 := by
            rw [hasV_p (n := 3) r3]
          rw [e, u]
          exact ⟨by decide, iff_of_true (by decide) r0, iff_of_true (by decide) r1, iff_of_false (by decide) r2, iff_of_true (by decide) r3⟩
        · have e : restsS f 4 = 3 := by
            rw [restsS_n (n := 3) r3, restsS_n (n := 2) r2, restsS_p (n := 1) r1, restsS_p (n := 0) r0, show restsS f 0 = 0 from rfl]
            decide
          have u : hasV f 4 = 1 := by
            rw [hasV_n (n := 3) r3, hasV_n (n := 2) r2, hasV_p (n := 1) r1]
          rw [e, u]
          exact ⟨by decide, iff_of_true (by decide) r0, iff_of_true (by decide) r1, iff_of_false (by decide) r2, iff_of_false (by decide) r3⟩
    · by_cases r2 : restB f ((2 : Nat) : Int)
      · by_cases r3 : restB f ((3 : Nat) : Int)
        · have e : restsS f 4 = 13 := by
            rw [restsS_p (n := 3) r3, restsS_p (n := 2) r2, restsS_n (n := 1) r1, restsS_p (n := 0) r0, show restsS f 0 = 0 from rfl]
            decide
          have u : hasV f 4 = 1 := by
            rw [hasV_p (n := 3) r3]
          rw [e, u]
          exact ⟨by decide, iff_of_true (by decide) r0, iff_of_false (by decide) r1, iff_of_true (by decide) r2, iff_of_true (by decide) r3⟩
        · have e : restsS f 4 = 5 := by
            rw [restsS_n (n := 3) r3, restsS_p (n := 2) r2, restsS_n (n := 1) r1, restsS_p (n := 0) r0, show restsS f 0 = 0 from rfl]
            decide
          have u : hasV f 4 = 1 := by
            rw [hasV_n (n := 3) r3, hasV_p (n := 2) r2]
          rw [e, u]
          exact ⟨by decide, iff_of_true (by decide) r0, iff_of_false (by decide) r1, iff_of_true (by decide) r2, iff_of_false (by decide) r3⟩
      · by_cases r3 : restB f ((3 : Nat) : Int)
        · have e : restsS f 4 = 9 := by
            rw [restsS_p (n := 3) r3, restsS_n (n := 2) r2, restsS_n (n := 1) r1, restsS_p (n := 0) r0, show restsS f 0 = 0 from rfl]
            decide
          have u : hasV f 4 = 1 := by
            rw [hasV_p (n := 3) r3]
          rw [e, u]
          exact ⟨by decide, iff_of_true (by decide) r0, iff_of_false (by decide) r1, iff_of_false (by decide) r2, iff_of_true (by decide) r3⟩
        · have e : restsS f 4 = 1 := by
            rw [restsS_n (n := 3) r3, restsS_n (n := 2) r2, restsS_n (n := 1) r1, restsS_p (n := 0) r0, show restsS f 0 = 0 from rfl]
            decide
          have u : hasV f 4 = 1 := by
            rw [hasV_n (n := 3) r3, hasV_n (n := 2) r2, hasV_n (n := 1) r1, hasV_p (n := 0) r0]
          rw [e, u]
          exact ⟨by decide, iff_of_true (by decide) r0, iff_of_false (by decide) r1, iff_of_false (by decide) r2, iff_of_false (by decide) r3⟩
  · by_cases r1 : restB f ((1 : Nat) : Int)
    · by_cases r2 : restB f ((2 : Nat) : Int)
      · by_cases r3 : restB f ((3 : Nat) : Int)
        · have e : restsS f 4 = 14 := by
            rw [restsS_p (n := 3) r3, restsS_p (n := 2) r2, restsS_p (n := 1) r1, restsS_n (n := 0) r0, show restsS f 0 = 0 from rfl]
            decide
          have u : hasV f 4 = 1 := by
            rw [hasV_p (n := 3) r3]
          rw [e, u]
          exact ⟨by decide, iff_of_false (by decide) r0, iff_of_true (by decide) r1, iff_of_true (by decide) r2, iff_of_true (by decide) r3⟩
        · have e : restsS f 4 = 6 := by
            rw [restsS_n (n := 3) r3, restsS_p (n := 2) r2, restsS_p (n := 1) r1, restsS_n (n := 0) r0, show restsS f 0 = 0 from rfl]
            decide
          have u : hasV f 4 = 1 := by
            rw [hasV_n (n := 3) r3, hasV_p (n := 2) r2]
          rw [e, u]
          exact ⟨by decide, iff_of_false (by decide) r0, iff_of_true (by decide) r1, iff_of_true (by decide) r2, iff_of_false (by decide) r3⟩
      · by_cases r3 : restB f ((3 : Nat) : Int)
        · have e : restsS f 4 = 10 := by
            rw [restsS_p (n := 3) r3, restsS_n (n := 2) r2, restsS_p (n := 1) r1, restsS_n (n := 0) r0, show restsS f 0 = 0 from rfl]
            decide
          have u : hasV f 4 = 1 := by
            rw [hasV_p (n := 3) r3]
          rw [e, u]
          exact ⟨by decide, iff_of_false (by decide) r0, iff_of_true (by decide) r1, iff_of_false (by decide) r2, iff_of_true (by decide) r3⟩
        · have e : restsS f 4 = 2 := by
            rw [restsS_n (n := 3) r3, restsS_n (n := 2) r2, restsS_p (n := 1) r1, restsS_n (n := 0) r0, show restsS f 0 = 0 from rfl]
            decide
          have u : hasV f 4 = 1 := by
            rw [hasV_n (n := 3) r3, hasV_n (n := 2) r2, hasV_p (n := 1) r1]
          rw [e, u]
          exact ⟨by decide, iff_of_false (by decide) r0, iff_of_true (by decide) r1, iff_of_false (by decide) r2, iff_of_false (by decide) r3⟩
    · by_cases r2 : restB f ((2 : Nat) : Int)
      · by_cases r3 : restB f ((3 : Nat) : Int)
        · have e : restsS f 4 = 12 := by
            rw [restsS_p (n := 3) r3, restsS_p (n := 2) r2, restsS_n (n := 1) r1, restsS_n (n := 0) r0, show restsS f 0 = 0 from rfl]
            decide
          have u : hasV f 4 = 1 := by
            rw [hasV_p (n := 3) r3]
          rw [e, u]
          exact ⟨by decide, iff_of_false (by decide) r0, iff_of_false (by decide) r1, iff_of_true (by decide) r2, iff_of_true (by decide) r3⟩
        · have e : restsS f 4 = 4 := by
            rw [restsS_n (n := 3) r3, restsS_p (n := 2) r2, restsS_n (n := 1) r1, restsS_n (n := 0) r0, show restsS f 0 = 0 from rfl]
            decide
          have u : hasV f 4 = 1 := by
            rw [hasV_n (n := 3) r3, hasV_p (n := 2) r2]
          rw [e, u]
          exact ⟨by decide, iff_of_false (by decide) r0, iff_of_false (by decide) r1, iff_of_true (by decide) r2, iff_of_false (by decide) r3⟩
      · by_cases r3 : restB f ((3 : Nat) : Int)
        · have e : restsS f 4 = 8 := by
            rw [restsS_p (n := 3) r3, restsS_n (n := 2) r2, restsS_n (n := 1) r1, restsS_n (n := 0) r0, show restsS f 0 = 0 from rfl]
            decide
          have u : hasV f 4 = 1 := by
            rw [hasV_p (n := 3) r3]
          rw [e, u]
          exact ⟨by decide, iff_of_false (by decide) r0, iff_of_false (by decide) r1, iff_of_false (by decide) r2, iff_of_true (by decide) r3⟩
        · have e : restsS f 4 = 0 := by
            rw [restsS_n (n := 3) r3, restsS_n (n := 2) r2, restsS_n (n := 1) r1, restsS_n (n := 0) r0, show restsS f 0 = 0 from rfl]
            skip
          have u : hasV f 4 = 0 := by
            rw [hasV_n (n := 3) r3, hasV_n (n := 2) r2, hasV_n (n := 1) r1, hasV_n (n := 0) r0]
            rfl
          rw [e, u]
          exact ⟨by decide, iff_of_false (by decide) r0, iff_of_false (by decide) r1, iff_of_false (by decide) r2, iff_of_false (by decide) r3⟩
theorem both15 {f : Int → Int} (h : ∀ j : Int, 0 ≤ j → j < 8 → -1000000 ≤ f j ∧ f j ≤ 1000000) : mostW f 15 4 = mostV f 4 := by
  have a0 := h ((0 : Nat) : Int) (by decide) (by decide)
  have a4 := h (4 + ((0 : Nat) : Int)) (by decide) (by decide)
  have w1 : mostW f 15 1 = _ := mostW_p (n := 0) (by decide)
  have w2 : mostW f 15 2 = _ := mostW_p (n := 1) (by decide)
  have w3 : mostW f 15 3 = _ := mostW_p (n := 2) (by decide)
  have w4 : mostW f 15 4 = _ := mostW_p (n := 3) (by decide)
  have v1 : mostV f 1 = if mostV f 0 < f ((0 : Nat) : Int) + f (4 + ((0 : Nat) : Int)) then f ((0 : Nat) : Int) + f (4 + ((0 : Nat) : Int)) else mostV f 0 := rfl
  have v2 : mostV f 2 = if mostV f 1 < f ((1 : Nat) : Int) + f (4 + ((1 : Nat) : Int)) then f ((1 : Nat) : Int) + f (4 + ((1 : Nat) : Int)) else mostV f 1 := rfl
  have v3 : mostV f 3 = if mostV f 2 < f ((2 : Nat) : Int) + f (4 + ((2 : Nat) : Int)) then f ((2 : Nat) : Int) + f (4 + ((2 : Nat) : Int)) else mostV f 2 := rfl
  have v4 : mostV f 4 = if mostV f 3 < f ((3 : Nat) : Int) + f (4 + ((3 : Nat) : Int)) then f ((3 : Nat) : Int) + f (4 + ((3 : Nat) : Int)) else mostV f 3 := rfl
  have z : mostV f 0 = f ((0 : Nat) : Int) + f (4 + ((0 : Nat) : Int)) := rfl
  have z0 : mostW f 15 0 = -2000000 := rfl
  have m1 : mostW f 15 1 = mostV f 1 := by
    rw [w1, v1, z, z0, if_neg (by omega), if_neg (by omega)]
  have m2 : mostW f 15 2 = mostV f 2 := by
    rw [w2, v2, m1]
    split <;> split <;> omega
  have m3 : mostW f 15 3 = mostV f 3 := by
    rw [w3, v3, m2]
    split <;> split <;> omega
  rw [w4, v4, m3]
  split <;> split <;> omega
theorem bothB {f : Int → Int} {m : Int} (h : ∀ j : Int, 0 ≤ j → j < 8 → -1000000 ≤ f j ∧ f j ≤ 1000000) : ∀ n : Nat, n ≤ 4 → (∀ i : Nat, i < n → (zand (zshr m i) 1 = 1 ↔ restB f i)) → (hasV f n = 0 ∨ hasV f n = 1) ∧ (hasV f n = 0 → mostW f m n = -2000000) ∧ (hasV f n = 1 → mostW f m n = bestV f n ∧ -2000000 ≤ bestV f n)
  | 0, _, _ => ⟨Or.inl rfl, fun _ => rfl, fun x => absurd (show (0 : Int) = 1 from x) (by decide)⟩
  | n + 1, hn, hi => by
    have ih := bothB (m := m) h n (by omega) (fun i hh => hi i (by omega))
    have a0 := h n (by omega) (by omega)
    have a4 := h (4 + n) (by omega) (by omega)
    by_cases r : restB f n
    · rw [mostW_p ((hi n (by omega)).mpr r), hasV_p r, bestV]
      refine ⟨Or.inr rfl, fun x => by exact absurd x (by decide), fun _ => ?_⟩
      rcases ih.1 with u | u
      · rw [ih.2.1 u, if_neg (by omega), if_pos ⟨r, Or.inl u⟩]
        omega
      · have v := ih.2.2 u
        rw [v.1]
        by_cases c : bestV f n < f n + f (4 + n)
        · rw [if_neg (by omega), if_pos ⟨r, Or.inr c⟩]
          omega
        · rw [if_neg (fun x : restB f n ∧ _ => by have y := x.2; omega)]
          refine ⟨?_, v.2⟩
          split <;> omega
    · rw [mostW_n (fun x => r ((hi n (by omega)).mp x)), hasV_n r, bestV, if_neg (fun x => r x.1)]
      exact ih
theorem bothR {f : Int → Int} (h : ∀ j : Int, 0 ≤ j → j < 8 → -1000000 ≤ f j ∧ f j ≤ 1000000) (hz : ¬ hasV f 4 = 0) : mostW f (restsS f 4) 4 = bestV f 4 := by
  obtain ⟨_, b0, b1, b2, b3⟩ := rests_bits (f := f)
  have e := bothB (m := restsS f 4) h 4 (by decide) (fun i hi => by
    rcases (show i = 0 ∨ i = 1 ∨ i = 2 ∨ i = 3 by omega) with q | q | q | q <;> subst q
    · exact b0
    · exact b1
    · exact b2
    · exact b3)
  exact (e.2.2 (by have := e.1; omega)).1

theorem s_both {M : zM} {k_ b_ : Int} (h : Sim M) (hk : -2147483648 ≤ k_ ∧ k_ < 2147483648) (hb : -2147483648 ≤ b_ ∧ b_ < 2147483648) : PrI yX6_both cX6_both 7 (some .int) 4 yX7_both cX7_both 12 (some .int) 3 [vI k_, vI b_] M := by
  obtain ⟨⟨hs, h9, hW, hX, hU, hB⟩, hK, hP, hH, hF, hRd, hSw⟩ := id h
  have hO := Sim_ok h
  have w0 := hW.1
  have w1 := hW.2.1
  have w6 := hW.2.2.2.2.1
  obtain ⟨hs0, hs1, hsn, hsp⟩ := id hs
  have hn1 := hsn.1
  obtain ⟨hS6, hS7, _⟩ := id hH
  have h6 := c_X6_both hS6 hk hb
  obtain ⟨ef, hf6⟩ := fault8 (k_ := k_) h
  rw [ef] at h6
  by_cases qb : 0 ≤ b_ ∧ b_ ≤ 1
  · have nq : ¬ ¬ (0 ≤ b_ ∧ b_ ≤ 1) := fun x => x qb
    rw [if_neg nq] at h6
    by_cases q : 0 ≤ hindS M k_ 8 8 1000000
    · rw [if_pos q] at h6
      rw [if_pos (show ¬ (-1000000001 - hindS M k_ 8 8 1000000 = 0) by omega), if_pos (show ¬ (-1000000001 - hindS M k_ 8 8 1000000 = 0) by omega), show -1000000001 - (-1000000001 - hindS M k_ 8 8 1000000) = hindS M k_ 8 8 1000000 by omega] at h6
      have h7 := c_X7_both (M := fnd6 M (hindS M k_ 8 8 1000000)) (SH7_f hS7) hk hb
      rw [if_neg nq, hindS_f, if_pos q, if_pos q] at h7
      exact PrI_of h6 h7 rfl (SimN_f h)
    · have qk := hind_k (show hindS M k_ 8 8 1000000 < 0 by omega)
      obtain ⟨e0, e1, eN, eR⟩ := Sim_h h qk.1
      have hall := inAll_all _ qk.2.2.2
      have hfb : ∀ j : Int, 0 ≤ j → j < 8 → -1000000 ≤ M 89 (40 * k_ + j) ∧ M 89 (40 * k_ + j) ≤ 1000000 := fun j a b => hall j a (by omega)
      rw [if_neg q] at h6
      have n0 : ¬ ¬ ((0 : Int) = 0) := fun x => x rfl
      rw [if_neg n0, if_neg n0, mostW_congr eN 4 (by decide), restsS_congr eN 4 (by decide), mostW_congr eN 4 (by decide), both15 hfb] at h6
      by_cases c : b_ = 0
      · rw [if_pos c, if_pos c] at h6
        have h7 := c_X7_both (M := M) hS7 hk hb
        rw [if_neg nq, if_neg q, if_neg q, if_pos c, if_pos c] at h7
        exact PrI_of h6 h7 rfl (SimN_r h)
      · rw [if_neg c, if_neg c] at h6
        by_cases d : hasV (fun j_ => M 89 (40 * k_ + j_)) 4 = 0
        · rw [if_pos (rests_bits.1.mpr d), if_pos (rests_bits.1.mpr d)] at h6
          have h7 := c_X7_both (M := fnd6 M 3) (SH7_f hS7) hk hb
          rw [if_neg nq, hindS_f, if_neg q, if_neg q, if_neg c, if_neg c, f6_o (show 89 ≠ 6 by decide), if_pos d, if_pos d] at h7
          exact PrI_of h6 h7 rfl (SimN_f h)
        · rw [if_neg (fun x => d (rests_bits.1.mp x)), if_neg (fun x => d (rests_bits.1.mp x)), bothR hfb d] at h6
          have h7 := c_X7_both (M := M) hS7 hk hb
          rw [if_neg nq, if_neg q, if_neg q, if_neg c, if_neg c, if_neg d, if_neg d] at h7
          exact PrI_of h6 h7 rfl (SimN_r h)
  · rw [if_pos qb, if_pos (by decide), if_pos (by decide)] at h6
    have h7 := c_X7_both (M := fnd6 M 0) (SH7_f hS7) hk hb
    rw [if_pos qb, if_pos (by decide), if_pos (by decide)] at h7
    exact PrI_of h6 h7 rfl (SimN_f h)
