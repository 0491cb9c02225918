def behindS (c s r : Int) : Int :=
  if c * (if r = 0 then 100 - s else s) + (1000000 - c) * (100 - (if r = 0 then 100 - s else s)) = 0 then -1
  else c * (if r = 0 then 100 - s else s) * 1000000 / (c * (if r = 0 then 100 - s else s) + (1000000 - c) * (100 - (if r = 0 then 100 - s else s)))
theorem behindS_le {c s r : Int} (hc : 0 ≤ c ∧ c ≤ 1000000) (hs : 0 ≤ s ∧ s ≤ 100) : -1 ≤ behindS c s r ∧ behindS c s r ≤ 1000000 := by
  unfold behindS
  have h1 : 0 ≤ (if r = 0 then 100 - s else s) ∧ (if r = 0 then 100 - s else s) ≤ 100 := by split <;> omega
  generalize (if r = 0 then 100 - s else s) = t_ at h1 ⊢
  have h2 := mul_box (a := c) (b := t_) hc.1 hc.2 h1.1 h1.2
  have h3 := mul_box (a := 1000000 - c) (b := 100 - t_) (by omega) (show _ ≤ 1000000 by omega) (by omega) (show _ ≤ 100 by omega)
  split
  · omega
  · refine ⟨?_, Int.ediv_le_of_le_mul (by omega) (by omega)⟩
    have := Int.ediv_nonneg (a := c * t_ * 1000000) (b := c * t_ + (1000000 - c) * (100 - t_)) (by omega) (by omega)
    omega
def tellS (c s : Int) : Int := (c * s + (1000000 - c) * (100 - s)) / 100
abbrev gW (M : zM) (w : Nat) : Nat → Int → Int := fun i => M (12 * w + 8 + i)
/-- the warnings of a world are as they must be -/
def WN (M : zM) (w : Nat) : Prop := (0 ≤ M w 6 ∧ M w 6 ≤ 12) ∧ ∀ i : Nat, (i : Int) < M w 6 → wOK (M (12 * w + 8 + i))
def pOK (p : Int → Int) : Prop := (1 ≤ p 0 ∧ p 0 ≤ 9) ∧ (0 ≤ p 1 ∧ p 1 ≤ 9999) ∧ (0 ≤ p 2 ∧ p 2 ≤ 999) ∧ (0 ≤ p 3 ∧ p 3 ≤ 99999999) ∧ (0 ≤ p 4 ∧ p 4 ≤ 60) ∧ (0 ≤ p 5 ∧ p 5 ≤ 60)
theorem WN_all {M : zM} {w : Nat} (h : WN M w) : ∀ i, i < (M w 6).toNat → wOK (gW M w i) := fun i hi => h.2 i (by have := h.1; omega)
theorem nat_1 {i : Int} (h : 0 ≤ i) : (i + 1).toNat = i.toNat + 1 := by omega
theorem dsum_t {g : Nat → Int → Int} {day h i : Int} (hi : 0 ≤ i) (hd : g i.toNat 1 = day) : dsum g day h (i + 1).toNat = dsum g day h i.toNat + strikeG (g i.toNat) h := by
  rw [nat_1 hi, dsum, if_pos hd]
theorem dsum_f {g : Nat → Int → Int} {day h i : Int} (hi : 0 ≤ i) (hd : ¬ g i.toNat 1 = day) : dsum g day h (i + 1).toNat = dsum g day h i.toNat := by
  rw [nat_1 hi, dsum, if_neg hd, Int.add_zero]
def openC (g : Nat → Int → Int) (today : Int) : Nat → Int
  | 0 => 0
  | n + 1 => openC g today n + if today < g n 1 then 1 else 0
theorem openC_t {g : Nat → Int → Int} {today i : Int} (hi : 0 ≤ i) (hd : today < g i.toNat 1) : openC g today (i + 1).toNat = openC g today i.toNat + 1 := by
  rw [nat_1 hi, openC, if_pos hd]
theorem openC_f {g : Nat → Int → Int} {today i : Int} (hi : 0 ≤ i) (hd : ¬ today < g i.toNat 1) : openC g today (i + 1).toNat = openC g today i.toNat := by
  rw [nat_1 hi, openC, if_neg hd, Int.add_zero]
theorem openC_le {g : Nat → Int → Int} {today : Int} : ∀ n : Nat, 0 ≤ openC g today n ∧ openC g today n ≤ n
  | 0 => by simp [openC]
  | n + 1 => by
    have := openC_le (g := g) (today := today) n
    unfold openC
    split <;> (push_cast; omega)
def looksC (g : Nat → Int → Int) : Nat → Int
  | 0 => 0
  | n + 1 => looksC g n + g n 5
theorem looksC_1 {g : Nat → Int → Int} {i : Int} (hi : 0 ≤ i) : looksC g (i + 1).toNat = looksC g i.toNat + g i.toNat 5 := by
  rw [nat_1 hi, looksC]
def nextC (g : Nat → Int → Int) (today : Int) : Nat → Int
  | 0 => -1
  | n + 1 => if today < g n 1 ∧ (nextC g today n < 0 ∨ g n 1 < nextC g today n) then g n 1 else nextC g today n
theorem nextC_t {g : Nat → Int → Int} {today i : Int} (hi : 0 ≤ i) (hd : today < g i.toNat 1 ∧ (nextC g today i.toNat < 0 ∨ g i.toNat 1 < nextC g today i.toNat)) : nextC g today (i + 1).toNat = g i.toNat 1 := by
  rw [nat_1 hi, nextC, if_pos hd]
theorem nextC_f {g : Nat → Int → Int} {today i : Int} (hi : 0 ≤ i) (hd : ¬ (today < g i.toNat 1 ∧ (nextC g today i.toNat < 0 ∨ g i.toNat 1 < nextC g today i.toNat))) : nextC g today (i + 1).toNat = nextC g today i.toNat := by
  rw [nat_1 hi, nextC, if_neg hd]
theorem nextC_le {g : Nat → Int → Int} {today : Int} (ht : 0 ≤ today) : ∀ n : Nat, (∀ i, i < n → wOK (g i)) → (nextC g today n = -1 ∨ today < nextC g today n) ∧ nextC g today n ≤ 999
  | 0, _ => by simp [nextC]
  | n + 1, hg => by
    have h1 := nextC_le ht n (fun i hi => hg i (by omega))
    have h2 := (hg n (by omega)).2.1
    unfold nextC
    split <;> omega
def useS (p : Int → Int) (h : Int) : Int := if p 1 - p 2 * zabs h < 0 then 0 else p 1 - p 2 * zabs h
theorem useS_le {p : Int → Int} {h : Int} (hp : pOK p) : 0 ≤ useS p h ∧ useS p h ≤ 9999 := by
  obtain ⟨-, h1, h2, -⟩ := hp
  have := Int.mul_nonneg h2.1 (zabs_le (x := h))
  unfold useS
  split <;> omega
def worthS (p : Int → Int) (n : Nat) (g : Nat → Int → Int) (day h : Int) : Int := useS p h - p 3 * danger n g day h / 1000000
abbrev canS (p : Int → Int) (height steps : Int) : Prop := steps = 0 ∨ (-12 ≤ height + steps ∧ height + steps ≤ 12) ∧ p 4 ≤ p 5 - p 0 * zabs steps
def leftS (p : Int → Int) : Int := if p 5 - p 4 < 0 then 0 else (p 5 - p 4) / p 0
