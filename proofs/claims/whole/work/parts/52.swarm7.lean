/-- what weigh and gather leave -/
def weiM (M : zM) (i : Int) : zM := zrow M 71 (zfillA (fun t_ => weiV M i (t_ - i * 41 - M 9 7)) (M 71) (i * 41) (2 * M 9 7 + 1))
def gatM (M : zM) (i_ : Int) : zM := zrow (zrow M 72 (zfillA (fun j_ => dnR (fun j_ => M 71 (i_ * 41 + j_)) (j_.toNat + 1)) (M 72) 0 (2 * M 9 7 + 1))) 73 (zfillA (fun j_ => upR (fun j_ => M 71 (i_ * 41 + j_)) (2 * M 9 7) ((2 * M 9 7) - j_ + 1).toNat) (M 73) 0 (2 * M 9 7 - 0 + 1))
/-- from the last one down: n of them done -/
def swe (M : zM) : Nat → zM
  | 0 => M
  | n + 1 => gatM (weiM (swe M n) (M 9 5 - 1 - n)) (M 9 5 - 1 - n)
theorem weiM_out {M : zM} {i : Int} {k : Nat} (h : k ≠ 71) : weiM M i k = M k := by unfold weiM; rw [zrow_ne h]
theorem gatM_out {M : zM} {i : Int} {k : Nat} (h : k ≠ 72) (h2 : k ≠ 73) : gatM M i k = M k := by unfold gatM; rw [zrow_ne h2, zrow_ne h]
theorem swe_out {M : zM} {k : Nat} (h1 : k ≠ 71) (h2 : k ≠ 72) (h3 : k ≠ 73) : ∀ n : Nat, swe M n k = M k
  | 0 => rfl
  | n + 1 => by rw [swe, gatM_out h2 h3, weiM_out h1, swe_out h1 h2 h3 n]
def swOK (M : zM) : Prop := (∀ j : Int, 0 ≤ j → j < 492 → 0 ≤ M 71 j ∧ M 71 j ≤ 1000000) ∧ (∀ j : Int, 0 ≤ j → j < 41 → 0 ≤ M 72 j ∧ M 72 j ≤ 1000000) ∧ (∀ j : Int, 0 ≤ j → j < 41 → 0 ≤ M 73 j ∧ M 73 j ≤ 1000000)
theorem weiV_le {M : zM} {i m : Int} (hq : 0 ≤ M 9 7 ∧ M 9 7 ≤ 20) (h : swOK M) : 0 ≤ weiV M i m ∧ weiV M i m ≤ 1000000 := by
  have hb := behC_le (g := M 9 6) (x := M 70 i + m - M 70 (i + 1) + M 9 7) hq h.2.1 h.2.2
  have hz := zabs_cases m
  have hc : 0 ≤ costO m := by unfold costO; split <;> omega
  unfold weiV
  have := zmin_c ((if i = M 9 5 - 1 then 0 else behC (M 72) (M 73) (M 9 6) (M 9 7) (M 70 i + m - M 70 (i + 1) + M 9 7)) + costO m) 1000000
  split at this <;> split <;> omega
theorem weiM_ok {M : zM} {i : Int} (hq : 0 ≤ M 9 7 ∧ M 9 7 ≤ 20) (h : swOK M) : swOK (weiM M i) := by
  refine ⟨fun j h1 h2 => ?_, by rw [weiM_out (by decide)]; exact h.2.1, by rw [weiM_out (by decide)]; exact h.2.2⟩
  unfold weiM
  rw [zrow_eq]
  unfold zfillA
  split
  · exact weiV_le hq h
  · exact h.1 j h1 h2
theorem gatM_ok {M : zM} {i : Int} (hi : 0 ≤ i ∧ i < 12) (hq : 0 ≤ M 9 7 ∧ M 9 7 ≤ 20) (h : swOK M) : swOK (gatM M i) := by
  have hf : ∀ j : Int, 0 ≤ j → j < 41 → 0 ≤ (fun j_ => M 71 (i * 41 + j_)) j ∧ (fun j_ => M 71 (i * 41 + j_)) j ≤ 1000000 := fun j h1 h2 => h.1 (i * 41 + j) (by omega) (by omega)
  refine ⟨by rw [gatM_out (by decide) (by decide)]; exact h.1, fun j h1 h2 => ?_, fun j h1 h2 => ?_⟩
  · unfold gatM
    rw [zrow_ne (by decide), zrow_eq]
    unfold zfillA
    split
    · exact dnR_le hf _ (by omega)
    · exact h.2.1 j h1 h2
  · unfold gatM
    rw [zrow_eq]
    unfold zfillA
    split
    · exact upR_le (by omega) hf _ (by omega)
    · exact h.2.2 j h1 h2
theorem swe_ok {M : zM} (hz : 1 ≤ M 9 5 ∧ M 9 5 ≤ 12) (hq : 0 ≤ M 9 7 ∧ M 9 7 ≤ 20) (h : swOK M) : ∀ n : Nat, n ≤ (M 9 5).toNat → swOK (swe M n)
  | 0, _ => h
  | n + 1, hn => by
    have i := swe_ok hz hq h n (by omega)
    have e : swe M n 9 = M 9 := swe_out (by decide) (by decide) (by decide) n
    have e2 : weiM (swe M n) (M 9 5 - 1 - n) 9 = M 9 := by rw [weiM_out (by decide), e]
    exact gatM_ok (by omega) (by rw [e2]; exact hq) (weiM_ok (by rw [e]; exact hq) i)
