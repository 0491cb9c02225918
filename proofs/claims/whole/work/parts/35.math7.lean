theorem isW1 : isW 1 := Or.inl rfl
theorem isW2 : isW 2 := Or.inr (Or.inl rfl)
theorem isW3 : isW 3 := Or.inr (Or.inr rfl)
theorem zsh_A {i : Nat} (h : i < 4) : zR 5 i = 56 + i := by
  have : ∀ i, i < 4 → zR 5 i = 56 + i := by decide
  exact this i h
theorem zsh_k {i : Nat} (h : i < 4) : zKT (56 + i) 2 := by
  have : ∀ i, i < 4 → zKT (56 + i) 2 := by decide
  exact this i h
theorem zsh_R {i : Nat} (h : i < 4) : zR (56 + i) 2 = 60 + i := by
  have : ∀ i, i < 4 → zR (56 + i) 2 = 60 + i := by decide
  exact this i h
theorem zsh_n {i : Nat} (h : i < 4) : zKT (60 + i) 10 := by
  have : ∀ i, i < 4 → zKT (60 + i) 10 := by decide
  exact this i h
theorem zsh_N {i : Nat} (h : i < 4) : zN (60 + i) = 40 := by
  have : ∀ i, i < 4 → zN (60 + i) = 40 := by decide
  exact this i h
/-- sheets on the class's side -/
def SH6 (M : zM) : Prop := ∀ i : Nat, i < 4 → (M (56 + i) 0 = 0 ∨ M (56 + i) 0 = 8 ∨ M (56 + i) 0 = 16 ∨ M (56 + i) 0 = 64) ∧ (0 ≤ M (56 + i) 1 ∧ M (56 + i) 1 ≤ 40) ∧ ∀ j : Int, 0 ≤ j → j < 40 → -9223372036854775808 ≤ M (60 + i) j ∧ M (60 + i) j < 9223372036854775808
abbrev endW (M : zM) (w : Nat) : zM := zput (zput (zput M w 0 (M w 0 + 1)) w 2 (M w 2 + useS (M (10 + w)) (M w 1))) w 3 (M w 3 + danger (M w 6).toNat (gW M w) (M w 0 + 1) (M w 1))
abbrev shiftW (M : zM) (w : Nat) (m : Int) : zM := zput (zput M w 1 (M w 1 + m)) (10 + w) 5 (M (10 + w) 5 - M (10 + w) 0 * zabs m)
def WOK (M : zM) (w : Nat) : Prop := (0 ≤ M w 0 ∧ M w 0 ≤ 2000) ∧ (-12 ≤ M w 1 ∧ M w 1 ≤ 12) ∧ WN M w ∧ pOK (M (10 + w))
theorem WN_congr {M N : zM} {w : Nat} (h : WN M w) (h6 : N w 6 = M w 6) (hg : ∀ i : Nat, N (12 * w + 8 + i) = M (12 * w + 8 + i)) : WN N w := by
  refine ⟨by rw [h6]; exact h.1, fun i hi => ?_⟩
  rw [hg]
  rw [h6] at hi
  exact h.2 i hi
theorem endW_ok {M : zM} {w : Nat} (h : WOK M w) (h1 : M w 0 ≤ 1999) : WOK (endW M w) w := by
  have e0 : endW M w w 0 = M w 0 + 1 := by unfold endW; rw [zput_ne2 (by decide), zput_ne2 (by decide), zput_eq]
  have ej : ∀ j : Int, j ≠ 0 → j ≠ 2 → j ≠ 3 → endW M w w j = M w j := fun j h0 h2 h3 => by unfold endW; rw [zput_ne2 h3, zput_ne2 h2, zput_ne2 h0]
  have ek : ∀ k : Nat, k ≠ w → endW M w k = M k := fun k hk => by unfold endW; rw [zput_ne hk, zput_ne hk, zput_ne hk]
  refine ⟨by rw [e0]; have := h.1; omega, by rw [ej 1 (by decide) (by decide) (by decide)]; exact h.2.1, WN_congr h.2.2.1 (ej 6 (by decide) (by decide) (by decide)) (fun i => ek _ (by omega)), by rw [ek _ (by omega)]; exact h.2.2.2⟩
theorem shiftW_ok {M : zM} {w : Nat} {m : Int} (hw : isW w) (h : WOK M w) (hc : canS (M (10 + w)) (M w 1) m) : WOK (shiftW M w m) w := by
  have hw1 : 1 ≤ w := by rcases hw with rfl | rfl | rfl <;> decide
  have p := h.2.2.2
  have hz := Int.mul_nonneg (show 0 ≤ M (10 + w) 0 by have := p.1; omega) (zabs_le (x := m))
  have hm : m = 0 → M (10 + w) 0 * zabs m = 0 := fun e => by rw [e]; exact Int.mul_zero _
  have e1 : shiftW M w m w 1 = M w 1 + m := by unfold shiftW; rw [zput_ne (by omega), zput_eq]
  have ej : ∀ j : Int, j ≠ 1 → shiftW M w m w j = M w j := fun j h0 => by unfold shiftW; rw [zput_ne (by omega), zput_ne2 h0]
  have ek : ∀ k : Nat, k ≠ w → k ≠ 10 + w → shiftW M w m k = M k := fun k hk hk2 => by unfold shiftW; rw [zput_ne hk2, zput_ne hk]
  have ep : ∀ j : Int, j ≠ 5 → shiftW M w m (10 + w) j = M (10 + w) j := fun j hj => by unfold shiftW; rw [zput_ne2 hj, zput_ne (by omega)]
  have e5 : shiftW M w m (10 + w) 5 = M (10 + w) 5 - M (10 + w) 0 * zabs m := by unfold shiftW; rw [zput_eq]
  have h1 := h.1
  have h2 := h.2.1
  obtain ⟨q0, q1, q2, q3, q4, q5⟩ := p
  refine ⟨by rw [ej 0 (by decide)]; exact h1, by rw [e1]; rcases hc with hc | hc <;> omega, WN_congr h.2.2.1 (ej 6 (by decide)) (fun i => ek _ (by omega) (by omega)), pOK_mk ?_ ?_ ?_ ?_ ?_ ?_⟩
  · rw [ep 0 (by decide)]; exact q0
  · rw [ep 1 (by decide)]; exact q1
  · rw [ep 2 (by decide)]; exact q2
  · rw [ep 3 (by decide)]; exact q3
  · rw [ep 4 (by decide)]; exact q4
  · rw [e5]; rcases hc with hc | hc <;> omega
