/-! the reference's state is the row s = M 76: today, height, plan (6), score, risk, n, steps, warnings (6 each), the rule's steps -/
abbrev gI (s : Int → Int) (w : Int) : Int → Int := fun f => s (12 + 6 * w + f)
abbrev gS (s : Int → Int) : Nat → Int → Int := fun i => gI s (i : Int)
abbrev pS (s : Int → Int) : Int → Int := fun j => s (2 + j)
def SN (s : Int → Int) : Prop := (0 ≤ s 10 ∧ s 10 ≤ 12) ∧ ∀ i : Nat, (i : Int) < s 10 → wOK (gS s i)
theorem gS_i {s : Int → Int} {i : Int} (h : 0 ≤ i) : gS s i.toNat = gI s i := by
  show gI s ((i.toNat : Nat) : Int) = _
  rw [Int.toNat_of_nonneg h]
theorem SN_i {s : Int → Int} (h : SN s) {i : Int} (h0 : 0 ≤ i) (h1 : i < s 10) : wOK (gI s i) := by
  rw [← gS_i h0]
  exact h.2 _ (by omega)
theorem SN_all {s : Int → Int} (h : SN s) : ∀ i, i < (s 10).toNat → wOK (gS s i) := fun i hi => h.2 i (by have := h.1; omega)
theorem pOK_s {s : Int → Int} (h : pOK (pS s)) : (1 ≤ s 2 ∧ s 2 ≤ 9) ∧ (0 ≤ s 3 ∧ s 3 ≤ 9999) ∧ (0 ≤ s 4 ∧ s 4 ≤ 999) ∧ (0 ≤ s 5 ∧ s 5 ≤ 99999999) ∧ (0 ≤ s 6 ∧ s 6 ≤ 60) ∧ (0 ≤ s 7 ∧ s 7 ≤ 60) := h
theorem gOK_s {s : Int → Int} {w : Int} (h : wOK (gI s w)) : (0 ≤ s (12 + 6 * w + 0) ∧ s (12 + 6 * w + 0) ≤ 5) ∧ (0 ≤ s (12 + 6 * w + 1) ∧ s (12 + 6 * w + 1) ≤ 999) ∧ (-12 ≤ s (12 + 6 * w + 2) ∧ s (12 + 6 * w + 2) ≤ 12) ∧ (0 ≤ s (12 + 6 * w + 3) ∧ s (12 + 6 * w + 3) ≤ 9) ∧ (0 ≤ s (12 + 6 * w + 4) ∧ s (12 + 6 * w + 4) ≤ 1000000) ∧ (0 ≤ s (12 + 6 * w + 5) ∧ s (12 + 6 * w + 5) ≤ 1000000) := h
theorem farS_2 {k d : Int} (hk : k = 2 ∨ k = 4) (hd : 0 ≤ d) : (if d = 0 then 0 else d + 1) = farS k d := by
  unfold farS
  split <;> (split <;> (try split) <;> omega)
