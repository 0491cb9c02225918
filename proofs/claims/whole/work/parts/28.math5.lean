theorem zput_at {M : zM} {k : Nat} {j v : Int} : zput M k j v k = zup (M k) j v := by
  rw [zput_row, zrow_eq]
def zfillA (f g : Int → Int) (a n : Int) : Int → Int := fun j => if a ≤ j ∧ j < a + n then f j else g j
theorem zfillA_0 {f g : Int → Int} {a : Int} : zfillA f g a 0 = g := by
  funext j
  unfold zfillA
  rw [if_neg (by omega)]
theorem zfillA_1 {M : zM} {k : Nat} {f g : Int → Int} {a i : Int} (hi : 0 ≤ i) : zput (zrow M k (zfillA f g a i)) k (a + i) (f (a + i)) = zrow M k (zfillA f g a (i + 1)) := by
  rw [zput_row, zrow_eq, zrow_row]
  congr 1
  funext j
  unfold zup zfillA
  by_cases hj : j = a + i
  · subst hj
    rw [if_pos rfl, if_pos (by omega)]
  · rw [if_neg hj]
    by_cases h2 : a ≤ j ∧ j < a + i
    · rw [if_pos h2, if_pos (by omega)]
    · rw [if_neg h2, if_neg (by omega)]
theorem zfillA_10 {M : zM} {k : Nat} {f g : Int → Int} {i : Int} (hi : 0 ≤ i) : zput (zrow M k (zfillA f g 0 i)) k i (f i) = zrow M k (zfillA f g 0 (i + 1)) := by
  have := zfillA_1 (M := M) (k := k) (f := f) (g := g) (a := 0) hi
  rwa [Int.zero_add] at this
theorem zfillA_0M {M : zM} {k : Nat} {f : Int → Int} {a : Int} : M = zrow M k (zfillA f (M k) a 0) := by rw [zfillA_0, zrow_self]
theorem dsum_zup {s : Int → Int} {j v day h : Int} (hj : j < 12) (n : Nat) : dsum (gS (zup s j v)) day h n = dsum (gS s) day h n :=
  dsum_congr n (fun i _ f hf _ => zup_ne (by omega))
theorem danger_zup {s : Int → Int} {j v day h : Int} (hj : j < 12) (n : Nat) : danger n (gS (zup s j v)) day h = danger n (gS s) day h := by
  unfold danger
  rw [dsum_zup hj]
theorem SN_zup {s : Int → Int} {j v : Int} (hj : j < 10) (h : SN s) : SN (zup s j v) := by
  refine ⟨by rw [zup_ne (by omega)]; exact h.1, fun i hi => ?_⟩
  rw [zup_ne (by omega)] at hi
  have := h.2 i hi
  unfold wOK at this ⊢
  simp only [gS, gI] at this ⊢
  rw [zup_ne (by omega), zup_ne (by omega), zup_ne (by omega), zup_ne (by omega), zup_ne (by omega), zup_ne (by omega)]
  exact this
theorem pOK_zup {s : Int → Int} {j v : Int} (hj : j < 2 ∨ 7 < j) (h : pOK (pS s)) : pOK (pS (zup s j v)) := by
  unfold pOK at h ⊢
  simp only [pS] at h ⊢
  rw [zup_ne (by omega), zup_ne (by omega), zup_ne (by omega), zup_ne (by omega), zup_ne (by omega), zup_ne (by omega)]
  exact h
theorem useS_zup {s : Int → Int} {j v h : Int} (hj : j < 2 ∨ 7 < j) : useS (pS (zup s j v)) h = useS (pS s) h := by
  unfold useS
  simp only [pS]
  rw [zup_ne (by omega), zup_ne (by omega)]
/-- sheets on the reference's side -/
def SH7 (M : zM) : Prop := ∀ k : Int, 0 ≤ k → k ≤ 3 → (M 87 k = 0 ∨ M 87 k = 8 ∨ M 87 k = 16 ∨ M 87 k = 64) ∧ (0 ≤ M 88 k ∧ M 88 k ≤ 40) ∧ ∀ j : Int, 0 ≤ j → j < 40 → -9223372036854775808 ≤ M 89 (40 * k + j) ∧ M 89 (40 * k + j) < 9223372036854775808
def inAll (f : Int → Int) (b : Int) : Nat → Bool
  | 0 => true
  | n + 1 => inAll f b n && decide (-b ≤ f n ∧ f n ≤ b)
theorem inAll_t {f : Int → Int} {b i : Int} (hi : 0 ≤ i) (h : -b ≤ f i ∧ f i ≤ b) : inAll f b (i + 1).toNat = inAll f b i.toNat := by
  rw [nat_1 hi, inAll, Int.toNat_of_nonneg hi, decide_eq_true h, Bool.and_true]
theorem inAll_f {f : Int → Int} {b i : Int} (hi : 0 ≤ i) (h : ¬ (-b ≤ f i ∧ f i ≤ b)) : inAll f b (i + 1).toNat = false := by
  rw [nat_1 hi, inAll, Int.toNat_of_nonneg hi, decide_eq_false h, Bool.and_false]
theorem inAll_all {f : Int → Int} {b : Int} : ∀ n : Nat, inAll f b n = true → ∀ j : Int, 0 ≤ j → j < n → -b ≤ f j ∧ f j ≤ b
  | 0, _, j, h0, h1 => by omega
  | n + 1, h, j, h0, h1 => by
    rw [inAll, Bool.and_eq_true, decide_eq_true_iff] at h
    by_cases hj : j = n
    · rw [hj]; exact h.2
    · exact inAll_all n h.1 j h0 (by omega)
def hindS (M : zM) (k a b c : Int) : Int := if ¬ (0 ≤ k ∧ k ≤ 3) then 0 else if M 87 k = 0 then 5 else if ¬ (a ≤ M 88 k ∧ M 88 k ≤ b) then 6 else if inAll (fun j => M 89 (40 * k + j)) c (M 88 k).toNat = true then -1 else 2
theorem hind_k {M : zM} {k a b c : Int} (h : hindS M k a b c < 0) : (0 ≤ k ∧ k ≤ 3) ∧ ¬ M 87 k = 0 ∧ (a ≤ M 88 k ∧ M 88 k ≤ b) ∧ inAll (fun j => M 89 (40 * k + j)) c (M 88 k).toNat = true := by
  unfold hindS at h
  split at h
  · omega
  · split at h
    · omega
    · split at h
      · omega
      · split at h
        · rename_i h1 h2 h3 h4
          exact ⟨by omega, h2, by omega, h4⟩
        · omega
abbrev restB (f : Int → Int) (k : Int) : Prop := f (zxor k 1) ≤ f k ∧ f (4 + zxor k 2) ≤ f (4 + k)
def restsS (f : Int → Int) : Nat → Int
  | 0 => 0
  | n + 1 => if restB f n then zor (restsS f n) (zshl 1 n) else restsS f n
theorem restsS_r {f : Int → Int} : ∀ n : Nat, -2147483648 ≤ restsS f n ∧ restsS f n < 2147483648
  | 0 => by simp [restsS]
  | n + 1 => by
    unfold restsS
    split
    · exact zor_r
    · exact restsS_r n
def mostV (f : Int → Int) : Nat → Int
  | 0 => f 0 + f 4
  | n + 1 => if mostV f n < f n + f (4 + n) then f n + f (4 + n) else mostV f n
def hasV (f : Int → Int) : Nat → Int
  | 0 => 0
  | n + 1 => if restB f n then 1 else hasV f n
def bestV (f : Int → Int) : Nat → Int
  | 0 => 0
  | n + 1 => if restB f n ∧ (hasV f n = 0 ∨ bestV f n < f n + f (4 + n)) then f n + f (4 + n) else bestV f n
theorem hasV_01 {f : Int → Int} : ∀ n : Nat, hasV f n = 0 ∨ hasV f n = 1
  | 0 => Or.inl rfl
  | n + 1 => by
    unfold hasV
    split
    · exact Or.inr rfl
    · exact hasV_01 n
def sumR (p : Int → Int) (nW : Nat) (g : Nat → Int → Int) (t h : Int) : Nat → Int
  | 0 => 0
  | n + 1 => sumR p nW g t h n + worthS p nW g (t + (n + 1)) h
def stS (f : Int → Int) (a : Int) : Nat → Int
  | 0 => 0
  | n + 1 => stS f a n + if a = -1 ∨ a = n then f n else 0
/-- how many numbers of a row are right, from the first one on -/
def rightN (f d : Int → Int) : Nat → Nat → Int
  | 0, i => i
  | n + 1, i => if f i = d i then rightN f d n (i + 1) else i
