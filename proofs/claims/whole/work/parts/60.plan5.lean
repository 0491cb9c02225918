def lefF (p : Int → Int) (f : Int) : Int := if f - p 4 < 0 then 0 else (f - p 4) / p 0
theorem leftS_F {p : Int → Int} : leftS p = lefF p (p 5) := rfl
theorem lefF_le {p : Int → Int} {f : Int} (h : pOK p) (hf : 0 ≤ f ∧ f ≤ 60) : 0 ≤ lefF p f ∧ lefF p f ≤ 60 := by
  obtain ⟨h0, _, _, _, h4, h5⟩ := h
  unfold lefF
  split
  · omega
  · refine ⟨Int.ediv_nonneg (by omega) (by omega), ?_⟩
    exact Int.le_trans (Int.ediv_le_self _ (by omega)) (by omega)
theorem can_ok {p : Int → Int} {h f m : Int} (hp : pOK p) (hh : -12 ≤ h ∧ h ≤ 12) (hf : 0 ≤ f ∧ f ≤ 60) : (m = 0 ∨ (-12 ≤ h + m ∧ h + m ≤ 12) ∧ p 4 ≤ f - p 0 * zabs m) ↔ okM (h + 12) (lefF p f) m := by
  have hl := lefF_le hp hf
  have hz := zabs_cases m
  obtain ⟨h0, _, _, _, h4, h5⟩ := hp
  by_cases e : m = 0
  · subst e
    exact ⟨fun _ => ⟨by omega, by show zabs 0 ≤ _; unfold zabs; simp; omega⟩, fun _ => Or.inl rfl⟩
  · have hq : p 4 ≤ f - p 0 * zabs m ↔ zabs m ≤ lefF p f := by
      unfold lefF
      split
      · rename_i hn
        have := Int.mul_nonneg (show 0 ≤ p 0 by omega) (zabs_le (x := m))
        constructor
        · intro q; omega
        · intro q; omega
      · rw [Int.le_ediv_iff_mul_le (by omega), Int.mul_comm]
        constructor
        · intro q; omega
        · intro q; omega
    constructor
    · rintro (q | ⟨q1, q2⟩)
      · exact absurd q e
      · exact ⟨by omega, hq.mp q2⟩
    · rintro ⟨q1, q2⟩
      exact Or.inr ⟨by omega, hq.mpr q2⟩
theorem lef_sub {p : Int → Int} {h f m : Int} (hp : pOK p) (hh : -12 ≤ h ∧ h ≤ 12) (hf : 0 ≤ f ∧ f ≤ 60) (ho : okM (h + 12) (lefF p f) m) : lefF p (f - p 0 * zabs m) = lefF p f - zabs m ∧ 0 ≤ f - p 0 * zabs m ∧ f - p 0 * zabs m ≤ 60 := by
  have hc := (can_ok hp hh hf).mpr ho
  obtain ⟨h0, _, _, _, h4, h5⟩ := hp
  have hn := Int.mul_nonneg (show 0 ≤ p 0 by omega) (zabs_le (x := m))
  by_cases e : m = 0
  · subst e
    rw [show zabs 0 = 0 from rfl, Int.mul_zero, Int.sub_zero, Int.sub_zero]
    exact ⟨rfl, hf⟩
  · rcases hc with q | ⟨q1, q2⟩
    · exact absurd q e
    · refine ⟨?_, by omega, by omega⟩
      unfold lefF
      rw [if_neg (by omega), if_neg (by omega), show f - p 0 * zabs m - p 4 = f - p 4 - p 0 * zabs m by omega, Int.sub_mul_ediv_left _ _ (by omega)]
abbrev plI (e h f : Int) : Int := 1525 * e + 61 * (h + 12) + f
def vVs (G : Nat → Int → Int) (k : Nat) (p l m : Int) : Int := G k (p + m) + (bst G k (p + m) (l - zabs m)).1
def sSs (G : Nat → Int → Int) (k : Nat) (p l m : Int) : Int := zabs m + (bst G k (p + m) (l - zabs m)).2
theorem bC_vs {G : Nat → Int → Int} {k : Nat} {p l m : Int} : bC (G k) (bE G k) p l m = vVs G k p l m * 64 - sSs G k p l m := by
  unfold bC bE vVs sSs
  omega
theorem sSs_le {G : Nat → Int → Int} {k : Nat} {p l m : Int} (ho : okM p l m) : 0 ≤ sSs G k p l m ∧ sSs G k p l m ≤ l := by
  have h := bst_s (G := G) k (p + m) (l - zabs m) ho.1 (by have := ho.2; omega)
  have h2 := zabs_le (x := m)
  unfold sSs
  omega
theorem vVs_le {G : Nat → Int → Int} {k : Nat} {p l m : Int} (hG : ∀ (k : Nat) (p : Int), 0 ≤ p ∧ p ≤ 24 → -100000000 ≤ G k p ∧ G k p ≤ 100000000) (hk : k ≤ 8) (ho : okM p l m) : -1000000000 ≤ vVs G k p l m ∧ vVs G k p l m ≤ 1000000000 := by
  have h := bst_v (b := 100000000) hG k (p + m) (l - zabs m) ho.1 (by have := ho.2; omega)
  have h2 := hG k _ ho.1
  unfold vVs
  omega
theorem mul_lt_iff {a b c : Int} (ha : 1 ≤ a) : a * b < a * c ↔ b < c := Int.mul_lt_mul_left (by omega)
/-- the reference's comparison is that of the values -/
theorem cmp_vs {G : Nat → Int → Int} {k : Nat} {p l m m2 a : Int} (hl : l ≤ 60) (ha : 1 ≤ a) (h1 : okM p l m) (h2 : okM p l m2) : (vVs G k p l m < vVs G k p l m2 ∨ vVs G k p l m2 = vVs G k p l m ∧ a * sSs G k p l m2 < a * sSs G k p l m) ↔ bC (G k) (bE G k) p l m < bC (G k) (bE G k) p l m2 := by
  rw [bC_vs, bC_vs, mul_lt_iff ha]
  have := sSs_le (G := G) (k := k) h1
  have := sSs_le (G := G) (k := k) h2
  omega
theorem bst_vs {G : Nat → Int → Int} {k : Nat} {p l : Int} : bst G (k + 1) p l = (vVs G k p l (bM G k p l), sSs G k p l (bM G k p l)) := rfl
/-- what the reference's rows hold, up to a place of a level -/
def RfL (N : zM) (G : Nat → Int → Int) (p : Int → Int) (left c : Int) : Prop := ∀ e h f : Int, 1 ≤ e → (e < left ∨ e = left ∧ 61 * (h + 12) + f < c) → -12 ≤ h ∧ h ≤ 12 → 0 ≤ f ∧ f ≤ 60 → N 83 (1525 * e + 61 * (h + 12) + f) = (bst G e.toNat (h + 12) (lefF p f)).1 ∧ N 84 (1525 * e + 61 * (h + 12) + f) = p 0 * (bst G e.toNat (h + 12) (lefF p f)).2 ∧ N 85 (1525 * e + 61 * (h + 12) + f) = bM G (e.toNat - 1) (h + 12) (lefF p f)
def out86 (N M : zM) : Prop := ∀ k : Nat, k ≠ 83 → k ≠ 84 → k ≠ 85 → k ≠ 86 → N k = M k
theorem RfL_up {N : zM} {G : Nat → Int → Int} {p : Int → Int} {left : Int} (h : RfL N G p left 1525) : RfL N G p (left + 1) 0 := by
  intro e h_ f h1 h2 h3 h4
  refine h e h_ f h1 ?_ h3 h4
  by_cases q : e < left
  · exact Or.inl q
  · exact Or.inr ⟨by omega, by omega⟩
/-- one more -/
def upd1 (M : zM) (G : Nat → Int → Int) (a : Int) (k : Nat) (p l to m : Int) : zM := zput (zput (zput M 83 to (vVs G k p l m)) 84 to (a * sSs G k p l m)) 85 to m
theorem RfL_one {N : zM} {G : Nat → Int → Int} {p : Int → Int} {left h f : Int} (hl : 1 ≤ left) (hh : -12 ≤ h ∧ h ≤ 12) (hf : 0 ≤ f ∧ f ≤ 60) (hN : RfL N G p left (61 * (h + 12) + f)) : RfL (upd1 N G (p 0) (left.toNat - 1) (h + 12) (lefF p f) (1525 * left + 61 * (h + 12) + f) (bM G (left.toNat - 1) (h + 12) (lefF p f))) G p left (61 * (h + 12) + (f + 1)) := by
  intro e h2 f2 h3 h4 h5 h6
  unfold upd1
  by_cases q : e = left ∧ h2 = h ∧ f2 = f
  · obtain ⟨rfl, rfl, rfl⟩ := q
    rw [zput_ne (by decide), zput_ne (by decide), zput_eq, zput_ne (by decide), zput_eq, zput_eq, show e.toNat = (e.toNat - 1) + 1 by omega, bst_vs]
    exact ⟨rfl, rfl, rfl⟩
  · have hne : 1525 * e + 61 * (h2 + 12) + f2 ≠ 1525 * left + 61 * (h + 12) + f := by omega
    rw [zput_ne (by decide), zput_ne (by decide), zput_ne2 hne, zput_ne (by decide), zput_ne2 hne, zput_ne (by decide), zput_ne2 hne, zput_ne (by decide)]
    refine hN e h2 f2 h3 ?_ h5 h6
    rcases h4 with h4 | h4
    · exact Or.inl h4
    · exact Or.inr ⟨h4.1, by omega⟩
theorem RfL_congr {N N2 : zM} {G : Nat → Int → Int} {p : Int → Int} {left c : Int} (h : RfL N G p left c) (h3 : N2 83 = N 83) (h4 : N2 84 = N 84) (h5 : N2 85 = N 85) : RfL N2 G p left c := by
  unfold RfL
  rw [h3, h4, h5]
  exact h
theorem mul_abs {a b A B : Int} (h1 : -A ≤ a) (h2 : a ≤ A) (h3 : 0 ≤ b) (h4 : b ≤ B) (hA : 0 ≤ A) : -(A * B) ≤ a * b ∧ a * b ≤ A * B := by
  have e1 : a * b ≤ A * b := Int.mul_le_mul_of_nonneg_right h2 h3
  have e2 : -A * b ≤ a * b := Int.mul_le_mul_of_nonneg_right h1 h3
  have e3 : A * b ≤ A * B := Int.mul_le_mul_of_nonneg_left h4 hA
  rw [Int.neg_mul] at e2
  omega
theorem pmc_le {G : Nat → Int → Int} {n : Nat} {p l : Int} : ∀ i : Nat, 0 ≤ pmc G n p l i ∧ pmc G n p l i ≤ i
  | 0 => by simp [pmc]
  | i + 1 => by
    have := pmc_le (G := G) (n := n) (p := p) (l := l) i
    unfold pmc
    split <;> omega
theorem pmv_le {G : Nat → Int → Int} {n i : Nat} {p l : Int} (hp : 0 ≤ p ∧ p ≤ 24) (hl : 0 ≤ l) : -24 ≤ pmv G n p l i ∧ pmv G n p l i ≤ 24 := by
  have h := pth_ok (G := G) (n := n) hp hl i
  have h2 := bM_ok (G := G) (k := n - 1 - i) h.1 h.2.1
  have := h2.1
  unfold pmv
  omega
/-- the answers about the best -/
def bestA (G : Nat → Int → Int) (n : Nat) (p l pr a : Int) : Int := if a = 0 then (bst G n p l).1 else if a = 1 then pr * (bst G n p l).2 else if a = 2 then pmc G n p l n else pmv G n p l 0
