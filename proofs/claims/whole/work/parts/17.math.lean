def zabs (x : Int) : Int := if x < 0 then -x else x
theorem zmi : Cond.initialized "java/lang/Math" ∈ zt := zt_of (lw_tb (i := 9) (by decide +kernel)) rfl
theorem zms_abs : Cond.static Lib.Math.abs.name ∈ zt := zt_of (lw_tb (i := 327) (by decide +kernel)) rfl
theorem zmc_abs : Cond.code Lib.Math.abs.name Lib.Math.abs.code 1 (some .int) ∈ zt := zt_of (lw_tb (i := 328) (by decide +kernel)) rfl
theorem zms_max : Cond.static Lib.Math.max.name ∈ zt := zt_of (lw_tb (i := 351) (by decide +kernel)) rfl
theorem zmc_max : Cond.code Lib.Math.max.name Lib.Math.max.code 2 (some .int) ∈ zt := zt_of (lw_tb (i := 352) (by decide +kernel)) rfl
theorem zms_min : Cond.static Lib.Math.min.name ∈ zt := zt_of (lw_tb (i := 363) (by decide +kernel)) rfl
theorem zmc_min : Cond.code Lib.Math.min.name Lib.Math.min.code 2 (some .int) ∈ zt := zt_of (lw_tb (i := 364) (by decide +kernel)) rfl
theorem zms_maxl : Cond.static Lib.MathLoose.max_long.x ∈ zt := zt_of (lw_tb (i := 690) (by decide +kernel)) rfl
theorem zmc_maxl : Cond.code Lib.MathLoose.max_long.x Lib.MathLoose.max_long.code 4 (some .long) ∈ zt := zt_of (lw_tb (i := 691) (by decide +kernel)) rfl
section
variable {own : String} {cc : ByteArray} {mL : Nat} {rt : Option FieldType} {d : Nat} {F : zF} {pc : Nat} {lv lv2 : List (Option zV)} {st : List zV} {M : zM}
theorem z_mabs {idx : Nat} {x : Int} (hlk : Cond.methodLink own idx Lib.Math.abs.name ∈ zt) (h1 : 1 ≤ d) (hw : (st.map zcat).sum ≤ 8) (hx : -2147483648 ≤ x ∧ x < 2147483648) (hd : decode cc pc = .ok (.invokestatic idx, 3)) (kk : Z own cc mL rt d F (pc + 3) lv (vI (zabs x) :: st) M) : Z own cc mL rt d F pc lv (vI x :: st) M := by
  intro p l e R s m args below meth c D ct ad A H locs ls hE hl hn hP hD hS
  have hts := hE.2.2.2.2.1
  have hR := hE.2.2.2.2.2.2.2.1
  refine va_mabs hE.1 hE.2.1 (hE.2.2.1.trans hl.1.symm) hE.2.2.2.1 (hts _ hlk) (hts _ zms_abs) (hts _ zmi) (hts _ zmc_abs) (Nat.le_trans h1 hR.1) (by rw [zcat_sum]; have := hR.2.1; omega) hR.2.2.1 hR.2.2.2 hd ?_
  have := kk p l e R s m args below meth c D ct ad A H locs ls hE hl hn hP hD hS
  have e1 : (if 0 ≤ Int32.ofInt x then Int32.ofInt x else 0 - Int32.ofInt x) = Int32.ofInt (zabs x) := by
    unfold zabs
    by_cases h : x < 0
    · rw [if_pos h, Int32.ofInt_neg]
      refine (if_neg (show ¬ (0 : Int32) ≤ Int32.ofInt x from fun q => ?_)).trans (Int32.zero_sub _)
      have := (zi_le (x := 0) (by decide) hx).mp q
      omega
    · rw [if_neg h]
      exact if_pos (show (0 : Int32) ≤ Int32.ofInt x from (zi_le (x := 0) (by decide) hx).mpr (by omega))
  rw [e1]
  exact this
theorem z_mmax {idx : Nat} {x y : Int} (hlk : Cond.methodLink own idx Lib.Math.max.name ∈ zt) (h1 : 1 ≤ d) (hw : (st.map zcat).sum ≤ 8) (hx : -2147483648 ≤ x ∧ x < 2147483648) (hy : -2147483648 ≤ y ∧ y < 2147483648) (hd : decode cc pc = .ok (.invokestatic idx, 3)) (kk : Z own cc mL rt d F (pc + 3) lv (vI (if x < y then y else x) :: st) M) : Z own cc mL rt d F pc lv (vI y :: vI x :: st) M := by
  intro p l e R s m args below meth c D ct ad A H locs ls hE hl hn hP hD hS
  have hts := hE.2.2.2.2.1
  have hR := hE.2.2.2.2.2.2.2.1
  refine va_mmax hE.1 hE.2.1 (hE.2.2.1.trans hl.1.symm) hE.2.2.2.1 (hts _ hlk) (hts _ zms_max) (hts _ zmi) (hts _ zmc_max) (Nat.le_trans h1 hR.1) (by rw [zcat_sum]; have := hR.2.1; omega) hR.2.2.1 hR.2.2.2 hd ?_
  have := kk p l e R s m args below meth c D ct ad A H locs ls hE hl hn hP hD hS
  by_cases h : x < y
  · rw [if_pos ((zi_lt hx hy).mpr h)]
    rw [if_pos h] at this
    exact this
  · rw [if_neg (fun q => h ((zi_lt hx hy).mp q))]
    rw [if_neg h] at this
    exact this
theorem z_mmin {idx : Nat} {x y : Int} (hlk : Cond.methodLink own idx Lib.Math.min.name ∈ zt) (h1 : 1 ≤ d) (hw : (st.map zcat).sum ≤ 8) (hx : -2147483648 ≤ x ∧ x < 2147483648) (hy : -2147483648 ≤ y ∧ y < 2147483648) (hd : decode cc pc = .ok (.invokestatic idx, 3)) (kk : Z own cc mL rt d F (pc + 3) lv (vI (if y < x then y else x) :: st) M) : Z own cc mL rt d F pc lv (vI y :: vI x :: st) M := by
  intro p l e R s m args below meth c D ct ad A H locs ls hE hl hn hP hD hS
  have hts := hE.2.2.2.2.1
  have hR := hE.2.2.2.2.2.2.2.1
  refine va_mmin hE.1 hE.2.1 (hE.2.2.1.trans hl.1.symm) hE.2.2.2.1 (hts _ hlk) (hts _ zms_min) (hts _ zmi) (hts _ zmc_min) (Nat.le_trans h1 hR.1) (by rw [zcat_sum]; have := hR.2.1; omega) hR.2.2.1 hR.2.2.2 hd ?_
  have := kk p l e R s m args below meth c D ct ad A H locs ls hE hl hn hP hD hS
  by_cases h : y < x
  · rw [if_pos ((zi_lt hy hx).mpr h)]
    rw [if_pos h] at this
    exact this
  · rw [if_neg (fun q => h ((zi_lt hy hx).mp q))]
    rw [if_neg h] at this
    exact this
theorem z_mmaxl {idx : Nat} {x y : Int} (hlk : Cond.methodLink own idx Lib.MathLoose.max_long.x ∈ zt) (h1 : 1 ≤ d) (hw : (st.map zcat).sum ≤ 8) (hx : -9223372036854775808 ≤ x ∧ x < 9223372036854775808) (hy : -9223372036854775808 ≤ y ∧ y < 9223372036854775808) (hd : decode cc pc = .ok (.invokestatic idx, 3)) (kk : Z own cc mL rt d F (pc + 3) lv (vJ (if y < x then x else y) :: st) M) : Z own cc mL rt d F pc lv (vJ y :: vJ x :: st) M := by
  intro p l e R s m args below meth c D ct ad A H locs ls hE hl hn hP hD hS
  have hts := hE.2.2.2.2.1
  have hR := hE.2.2.2.2.2.2.2.1
  refine va_mmax_long hE.1 hE.2.1 (hE.2.2.1.trans hl.1.symm) hE.2.2.2.1 (hts _ hlk) (hts _ zms_maxl) (hts _ zmi) (hts _ zmc_maxl) (Nat.le_trans h1 hR.1) (by rw [zcat_sum]; have := hR.2.1; omega) hR.2.2.1 hR.2.2.2 hd ?_
  have := kk p l e R s m args below meth c D ct ad A H locs ls hE hl hn hP hD hS
  by_cases h : y < x
  · rw [if_pos ((zl_lt hy hx).mpr h)]
    rw [if_pos h] at this
    exact this
  · rw [if_neg (fun q => h ((zl_lt hy hx).mp q))]
    rw [if_neg h] at this
    exact this
theorem z_weak {lv2 : List (Option zV)} (hlen : lv2.length = lv.length) (h : ∀ (n : Nat) (v : zV), lv2[n]? = some (some v) → lv[n]? = some (some v)) (k : Z own cc mL rt d F pc lv2 st M) : Z own cc mL rt d F pc lv st M := by
  intro p l e R s m args below meth c D ct ad A H locs ls hE hl hn hP hD hS
  refine k p l e R s m args below meth c D ct ad A H locs ls hE (zhas_sub hl (fun q hq => ?_)) (by rw [hlen]; exact hn) hP hD hS
  obtain ⟨n, v, rfl, h2⟩ := zlv_of _ _ _ hq
  exact zlv_mem _ _ _ _ (h n v h2)
theorem z_drop_0 {v : zV} {r : List (Option zV)} (k : Z own cc mL rt d F pc (none :: r) st M) : Z own cc mL rt d F pc (some v :: r) st M := by
  refine z_weak (lv2 := none :: r) (by simp) (fun n w h => ?_) k
  match n, h with

    | 0, h => simp at h
    | i + 1, h => exact h
theorem z_drop_1 {a0 : Option zV} {v : zV} {r : List (Option zV)} (k : Z own cc mL rt d F pc (a0 :: none :: r) st M) : Z own cc mL rt d F pc (a0 :: some v :: r) st M := by
  refine z_weak (lv2 := a0 :: none :: r) (by simp) (fun n w h => ?_) k
  match n, h with
    | 0, h => exact h
    | 1, h => simp at h
    | i + 2, h => exact h
theorem z_drop_2 {a0 a1 : Option zV} {v : zV} {r : List (Option zV)} (k : Z own cc mL rt d F pc (a0 :: a1 :: none :: r) st M) : Z own cc mL rt d F pc (a0 :: a1 :: some v :: r) st M := by
  refine z_weak (lv2 := a0 :: a1 :: none :: r) (by simp) (fun n w h => ?_) k
  match n, h with
    | 0, h => exact h
    | 1, h => exact h
    | 2, h => simp at h
    | i + 3, h => exact h
theorem z_drop_3 {a0 a1 a2 : Option zV} {v : zV} {r : List (Option zV)} (k : Z own cc mL rt d F pc (a0 :: a1 :: a2 :: none :: r) st M) : Z own cc mL rt d F pc (a0 :: a1 :: a2 :: some v :: r) st M := by
  refine z_weak (lv2 := a0 :: a1 :: a2 :: none :: r) (by simp) (fun n w h => ?_) k
  match n, h with
    | 0, h => exact h
    | 1, h => exact h
    | 2, h => exact h
    | 3, h => simp at h
    | i + 4, h => exact h
theorem z_drop_4 {a0 a1 a2 a3 : Option zV} {v : zV} {r : List (Option zV)} (k : Z own cc mL rt d F pc (a0 :: a1 :: a2 :: a3 :: none :: r) st M) : Z own cc mL rt d F pc (a0 :: a1 :: a2 :: a3 :: some v :: r) st M := by
  refine z_weak (lv2 := a0 :: a1 :: a2 :: a3 :: none :: r) (by simp) (fun n w h => ?_) k
  match n, h with
    | 0, h => exact h
    | 1, h => exact h
    | 2, h => exact h
    | 3, h => exact h
    | 4, h => simp at h
    | i + 5, h => exact h
theorem z_drop_5 {a0 a1 a2 a3 a4 : Option zV} {v : zV} {r : List (Option zV)} (k : Z own cc mL rt d F pc (a0 :: a1 :: a2 :: a3 :: a4 :: none :: r) st M) : Z own cc mL rt d F pc (a0 :: a1 :: a2 :: a3 :: a4 :: some v :: r) st M := by
  refine z_weak (lv2 := a0 :: a1 :: a2 :: a3 :: a4 :: none :: r) (by simp) (fun n w h => ?_) k
  match n, h with
    | 0, h => exact h
    | 1, h => exact h
    | 2, h => exact h
    | 3, h => exact h
    | 4, h => exact h
    | 5, h => simp at h
    | i + 6, h => exact h
theorem z_drop_6 {a0 a1 a2 a3 a4 a5 : Option zV} {v : zV} {r : List (Option zV)} (k : Z own cc mL rt d F pc (a0 :: a1 :: a2 :: a3 :: a4 :: a5 :: none :: r) st M) : Z own cc mL rt d F pc (a0 :: a1 :: a2 :: a3 :: a4 :: a5 :: some v :: r) st M := by
  refine z_weak (lv2 := a0 :: a1 :: a2 :: a3 :: a4 :: a5 :: none :: r) (by simp) (fun n w h => ?_) k
  match n, h with
    | 0, h => exact h
    | 1, h => exact h
    | 2, h => exact h
    | 3, h => exact h
    | 4, h => exact h
    | 5, h => exact h
    | 6, h => simp at h
    | i + 7, h => exact h
theorem z_drop_7 {a0 a1 a2 a3 a4 a5 a6 : Option zV} {v : zV} {r : List (Option zV)} (k : Z own cc mL rt d F pc (a0 :: a1 :: a2 :: a3 :: a4 :: a5 :: a6 :: none :: r) st M) : Z own cc mL rt d F pc (a0 :: a1 :: a2 :: a3 :: a4 :: a5 :: a6 :: some v :: r) st M := by
  refine z_weak (lv2 := a0 :: a1 :: a2 :: a3 :: a4 :: a5 :: a6 :: none :: r) (by simp) (fun n w h => ?_) k
  match n, h with
    | 0, h => exact h
    | 1, h => exact h
    | 2, h => exact h
    | 3, h => exact h
    | 4, h => exact h
    | 5, h => exact h
    | 6, h => exact h
    | 7, h => simp at h
    | i + 8, h => exact h
theorem z_drop_8 {a0 a1 a2 a3 a4 a5 a6 a7 : Option zV} {v : zV} {r : List (Option zV)} (k : Z own cc mL rt d F pc (a0 :: a1 :: a2 :: a3 :: a4 :: a5 :: a6 :: a7 :: none :: r) st M) : Z own cc mL rt d F pc (a0 :: a1 :: a2 :: a3 :: a4 :: a5 :: a6 :: a7 :: some v :: r) st M := by
  refine z_weak (lv2 := a0 :: a1 :: a2 :: a3 :: a4 :: a5 :: a6 :: a7 :: none :: r) (by simp) (fun n w h => ?_) k
  match n, h with
    | 0, h => exact h
    | 1, h => exact h
    | 2, h => exact h
    | 3, h => exact h
    | 4, h => exact h
    | 5, h => exact h
    | 6, h => exact h
    | 7, h => exact h
    | 8, h => simp at h
    | i + 9, h => exact h
theorem z_drop_9 {a0 a1 a2 a3 a4 a5 a6 a7 a8 : Option zV} {v : zV} {r : List (Option zV)} (k : Z own cc mL rt d F pc (a0 :: a1 :: a2 :: a3 :: a4 :: a5 :: a6 :: a7 :: a8 :: none :: r) st M) : Z own cc mL rt d F pc (a0 :: a1 :: a2 :: a3 :: a4 :: a5 :: a6 :: a7 :: a8 :: some v :: r) st M := by
  refine z_weak (lv2 := a0 :: a1 :: a2 :: a3 :: a4 :: a5 :: a6 :: a7 :: a8 :: none :: r) (by simp) (fun n w h => ?_) k
  match n, h with
    | 0, h => exact h
    | 1, h => exact h
    | 2, h => exact h
    | 3, h => exact h
    | 4, h => exact h
    | 5, h => exact h
    | 6, h => exact h
    | 7, h => exact h
    | 8, h => exact h
    | 9, h => simp at h
    | i + 10, h => exact h
theorem z_drop_10 {a0 a1 a2 a3 a4 a5 a6 a7 a8 a9 : Option zV} {v : zV} {r : List (Option zV)} (k : Z own cc mL rt d F pc (a0 :: a1 :: a2 :: a3 :: a4 :: a5 :: a6 :: a7 :: a8 :: a9 :: none :: r) st M) : Z own cc mL rt d F pc (a0 :: a1 :: a2 :: a3 :: a4 :: a5 :: a6 :: a7 :: a8 :: a9 :: some v :: r) st M := by
  refine z_weak (lv2 := a0 :: a1 :: a2 :: a3 :: a4 :: a5 :: a6 :: a7 :: a8 :: a9 :: none :: r) (by simp) (fun n w h => ?_) k
  match n, h with
    | 0, h => exact h
    | 1, h => exact h
    | 2, h => exact h
    | 3, h => exact h
    | 4, h => exact h
    | 5, h => exact h
    | 6, h => exact h
    | 7, h => exact h
    | 8, h => exact h
    | 9, h => exact h
    | 10, h => simp at h
    | i + 11, h => exact h
theorem z_drop_11 {a0 a1 a2 a3 a4 a5 a6 a7 a8 a9 a10 : Option zV} {v : zV} {r : List (Option zV)} (k : Z own cc mL rt d F pc (a0 :: a1 :: a2 :: a3 :: a4 :: a5 :: a6 :: a7 :: a8 :: a9 :: a10 :: none :: r) st M) : Z own cc mL rt d F pc (a0 :: a1 :: a2 :: a3 :: a4 :: a5 :: a6 :: a7 :: a8 :: a9 :: a10 :: some v :: r) st M := by
  refine z_weak (lv2 := a0 :: a1 :: a2 :: a3 :: a4 :: a5 :: a6 :: a7 :: a8 :: a9 :: a10 :: none :: r) (by simp) (fun n w h => ?_) k
  match n, h with
    | 0, h => exact h
    | 1, h => exact h
    | 2, h => exact h
    | 3, h => exact h
    | 4, h => exact h
    | 5, h => exact h
    | 6, h => exact h
    | 7, h => exact h
    | 8, h => exact h
    | 9, h => exact h
    | 10, h => exact h
    | 11, h => simp at h
    | i + 12, h => exact h
theorem z_drop_12 {a0 a1 a2 a3 a4 a5 a6 a7 a8 a9 a10 a11 : Option zV} {v : zV} {r : List (Option zV)} (k : Z own cc mL rt d F pc (a0 :: a1 :: a2 :: a3 :: a4 :: a5 :: a6 :: a7 :: a8 :: a9 :: a10 :: a11 :: none :: r) st M) : Z own cc mL rt d F pc (a0 :: a1 :: a2 :: a3 :: a4 :: a5 :: a6 :: a7 :: a8 :: a9 :: a10 :: a11 :: some v :: r) st M := by
  refine z_weak (lv2 := a0 :: a1 :: a2 :: a3 :: a4 :: a5 :: a6 :: a7 :: a8 :: a9 :: a10 :: a11 :: none :: r) (by simp) (fun n w h => ?_) k
  match n, h with
    | 0, h => exact h
    | 1, h => exact h
    | 2, h => exact h
    | 3, h => exact h
    | 4, h => exact h
    | 5, h => exact h
    | 6, h => exact h
    | 7, h => exact h
    | 8, h => exact h
    | 9, h => exact h
    | 10, h => exact h
    | 11, h => exact h
    | 12, h => simp at h
    | i + 13, h => exact h
theorem z_drop_13 {a0 a1 a2 a3 a4 a5 a6 a7 a8 a9 a10 a11 a12 : Option zV} {v : zV} {r : List (Option zV)} (k : Z own cc mL rt d F pc (a0 :: a1 :: a2 :: a3 :: a4 :: a5 :: a6 :: a7 :: a8 :: a9 :: a10 :: a11 :: a12 :: none :: r) st M) : Z own cc mL rt d F pc (a0 :: a1 :: a2 :: a3 :: a4 :: a5 :: a6 :: a7 :: a8 :: a9 :: a10 :: a11 :: a12 :: some v :: r) st M := by
  refine z_weak (lv2 := a0 :: a1 :: a2 :: a3 :: a4 :: a5 :: a6 :: a7 :: a8 :: a9 :: a10 :: a11 :: a12 :: none :: r) (by simp) (fun n w h => ?_) k
  match n, h with
    | 0, h => exact h
    | 1, h => exact h
    | 2, h => exact h
    | 3, h => exact h
    | 4, h => exact h
    | 5, h => exact h
    | 6, h => exact h
    | 7, h => exact h
    | 8, h => exact h
    | 9, h => exact h
    | 10, h => exact h
    | 11, h => exact h
    | 12, h => exact h
    | 13, h => simp at h
    | i + 14, h => exact h
theorem z_drop_14 {a0 a1 a2 a3 a4 a5 a6 a7 a8 a9 a10 a11 a12 a13 : Option zV} {v : zV} {r : List (Option zV)} (k : Z own cc mL rt d F pc (a0 :: a1 :: a2 :: a3 :: a4 :: a5 :: a6 :: a7 :: a8 :: a9 :: a10 :: a11 :: a12 :: a13 :: none :: r) st M) : Z own cc mL rt d F pc (a0 :: a1 :: a2 :: a3 :: a4 :: a5 :: a6 :: a7 :: a8 :: a9 :: a10 :: a11 :: a12 :: a13 :: some v :: r) st M := by
  refine z_weak (lv2 := a0 :: a1 :: a2 :: a3 :: a4 :: a5 :: a6 :: a7 :: a8 :: a9 :: a10 :: a11 :: a12 :: a13 :: none :: r) (by simp) (fun n w h => ?_) k
  match n, h with
    | 0, h => exact h
    | 1, h => exact h
    | 2, h => exact h
    | 3, h => exact h
    | 4, h => exact h
    | 5, h => exact h
    | 6, h => exact h
    | 7, h => exact h
    | 8, h => exact h
    | 9, h => exact h
    | 10, h => exact h
    | 11, h => exact h
    | 12, h => exact h
    | 13, h => exact h
    | 14, h => simp at h
    | i + 15, h => exact h
theorem z_drop_15 {a0 a1 a2 a3 a4 a5 a6 a7 a8 a9 a10 a11 a12 a13 a14 : Option zV} {v : zV} {r : List (Option zV)} (k : Z own cc mL rt d F pc (a0 :: a1 :: a2 :: a3 :: a4 :: a5 :: a6 :: a7 :: a8 :: a9 :: a10 :: a11 :: a12 :: a13 :: a14 :: none :: r) st M) : Z own cc mL rt d F pc (a0 :: a1 :: a2 :: a3 :: a4 :: a5 :: a6 :: a7 :: a8 :: a9 :: a10 :: a11 :: a12 :: a13 :: a14 :: some v :: r) st M := by
  refine z_weak (lv2 := a0 :: a1 :: a2 :: a3 :: a4 :: a5 :: a6 :: a7 :: a8 :: a9 :: a10 :: a11 :: a12 :: a13 :: a14 :: none :: r) (by simp) (fun n w h => ?_) k
  match n, h with
    | 0, h => exact h
    | 1, h => exact h
    | 2, h => exact h
    | 3, h => exact h
    | 4, h => exact h
    | 5, h => exact h
    | 6, h => exact h
    | 7, h => exact h
    | 8, h => exact h
    | 9, h => exact h
    | 10, h => exact h
    | 11, h => exact h
    | 12, h => exact h
    | 13, h => exact h
    | 14, h => exact h
    | 15, h => simp at h
    | i + 16, h => exact h
end
