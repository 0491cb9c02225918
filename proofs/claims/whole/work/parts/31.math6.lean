def SOK (s : Int → Int) : Prop := (0 ≤ s 0 ∧ s 0 ≤ 2000) ∧ (-12 ≤ s 1 ∧ s 1 ≤ 12) ∧ SN s ∧ pOK (pS s)
theorem pOK_mk {p : Int → Int} (h0 : 1 ≤ p 0 ∧ p 0 ≤ 9) (h1 : 0 ≤ p 1 ∧ p 1 ≤ 9999) (h2 : 0 ≤ p 2 ∧ p 2 ≤ 999) (h3 : 0 ≤ p 3 ∧ p 3 ≤ 99999999) (h4 : 0 ≤ p 4 ∧ p 4 ≤ 60) (h5 : 0 ≤ p 5 ∧ p 5 ≤ 60) : pOK p := ⟨h0, h1, h2, h3, h4, h5⟩
theorem endS_0 {s : Int → Int} : endS s 0 = s 0 + 1 := by unfold endS; rw [zup_ne (by decide), zup_ne (by decide), zup_eq]
theorem endS_ne {s : Int → Int} {j : Int} (h0 : j ≠ 0) (h8 : j ≠ 8) (h9 : j ≠ 9) : endS s j = s j := by unfold endS; rw [zup_ne h9, zup_ne h8, zup_ne h0]
theorem goesS_ne {s : Int → Int} {m j : Int} (h1 : j ≠ 1) (h7 : j ≠ 7) : goesS s m j = s j := by unfold goesS; rw [zup_ne h7, zup_ne h1]
theorem goesS_1 {s : Int → Int} {m : Int} : goesS s m 1 = s 1 + m := by unfold goesS; rw [zup_ne (by decide), zup_eq]
theorem goesS_7 {s : Int → Int} {m : Int} : goesS s m 7 = s 7 - s 2 * zabs m := by unfold goesS; rw [zup_eq]
theorem endS_ok {s : Int → Int} (h : SOK s) (h1 : s 0 ≤ 1999) : SOK (endS s) := by
  obtain ⟨h2, h3, h4, h5⟩ := h
  refine ⟨by rw [endS_0]; omega, by rw [endS_ne (by decide) (by decide) (by decide)]; exact h3, ?_, ?_⟩
  · exact SN_zup (by decide) (SN_zup (by decide) (SN_zup (by decide) h4))
  · exact pOK_zup (by decide) (pOK_zup (by decide) (pOK_zup (by decide) h5))
abbrev canR (s : Int → Int) (m : Int) : Prop := m = 0 ∨ (-12 ≤ s 1 + m ∧ s 1 + m ≤ 12) ∧ s 6 ≤ s 7 - s 2 * zabs m
theorem goesS_ok {s : Int → Int} {m : Int} (h : SOK s) (hc : canR s m) : SOK (goesS s m) := by
  obtain ⟨h2, h3, h4, h5⟩ := h
  have p := pOK_s h5
  have hz := Int.mul_nonneg (show 0 ≤ s 2 by omega) (zabs_le (x := m))
  have hm : m = 0 → s 2 * zabs m = 0 := fun e => by rw [e]; exact Int.mul_zero _
  refine ⟨by rw [goesS_ne (by decide) (by decide)]; exact h2, by rw [goesS_1]; omega, SN_zup (by decide) (SN_zup (by decide) h4), pOK_mk ?_ ?_ ?_ ?_ ?_ ?_⟩
  · show 1 ≤ goesS s m 2 ∧ goesS s m 2 ≤ 9
    rw [goesS_ne (by decide) (by decide)]; exact p.1
  · show 0 ≤ goesS s m 3 ∧ goesS s m 3 ≤ 9999
    rw [goesS_ne (by decide) (by decide)]; exact p.2.1
  · show 0 ≤ goesS s m 4 ∧ goesS s m 4 ≤ 999
    rw [goesS_ne (by decide) (by decide)]; exact p.2.2.1
  · show 0 ≤ goesS s m 5 ∧ goesS s m 5 ≤ 99999999
    rw [goesS_ne (by decide) (by decide)]; exact p.2.2.2.1
  · show 0 ≤ goesS s m 6 ∧ goesS s m 6 ≤ 60
    rw [goesS_ne (by decide) (by decide)]; exact p.2.2.2.2.1
  · show 0 ≤ goesS s m 7 ∧ goesS s m 7 ≤ 60
    rw [goesS_7]
    omega
/-- turns: the numbers of a row as moves, one ahead of each day's end -/
def turnS (f : Int → Int) (s : Int → Int) : Nat → (Int → Int) × Int
  | 0 => (s, 0)
  | n + 1 => if (turnS f s n).1 0 < 999 ∧ (-24 ≤ f n ∧ f n ≤ 24) ∧ canR (turnS f s n).1 (f n) then (endS (goesS (turnS f s n).1 (f n)), (turnS f s n).2 + 1) else turnS f s n
theorem turnS_ok {f s : Int → Int} (h : SOK s) : ∀ n : Nat, SOK (turnS f s n).1
  | 0 => h
  | n + 1 => by
    have := turnS_ok (f := f) h n
    unfold turnS
    split
    · rename_i h2
      exact endS_ok (goesS_ok this h2.2.2) (by rw [goesS_ne (by decide) (by decide)]; omega)
    · exact this
theorem turnS_c {f s : Int → Int} : ∀ n : Nat, 0 ≤ (turnS f s n).2 ∧ (turnS f s n).2 ≤ n
  | 0 => by simp [turnS]
  | n + 1 => by
    have := turnS_c (f := f) (s := s) n
    unfold turnS
    split
    · show 0 ≤ (turnS f s n).2 + 1 ∧ (turnS f s n).2 + 1 ≤ _
      omega
    · omega
theorem turnS_stop {f s : Int → Int} {i : Nat} (h : ¬ (turnS f s i).1 0 < 999) : ∀ n : Nat, turnS f s (i + n) = turnS f s i
  | 0 => rfl
  | n + 1 => by
    have := turnS_stop h n
    rw [← Nat.add_assoc, turnS, this, if_neg (fun q => h q.1)]
theorem rightN_s {f d : Int → Int} : ∀ (n i : Nat), (i : Int) ≤ rightN f d n i ∧ rightN f d n i ≤ i + n
  | 0, i => by simp [rightN]
  | n + 1, i => by
    unfold rightN
    split
    · have := rightN_s (f := f) (d := d) n (i + 1)
      omega
    · omega
