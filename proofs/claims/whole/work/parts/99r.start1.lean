theorem b_known {args : Array Value} {s : State} (hts : ∀ w ∈ lw_tbl, w.before args s = true) : ∃ (D : va_G) (ct : Nat → Nat), va_K D vwCl (ztys ct) s := by
  obtain ⟨c0, i0, k0⟩ := u_known (C := RX0) (T := TX0) (N := 8) (n := 8) hts inX0 (hts (.instantiable RX0 8) (lw_tb (i := 164) (by decide +kernel)))
  obtain ⟨c1, i1, k1⟩ := u_known (C := RX1) (T := TX1) (N := 16) (n := 16) hts inX1 (hts (.instantiable RX1 16) (lw_tb (i := 109) (by decide +kernel)))
  obtain ⟨c2, i2, k2⟩ := u_known (C := RX2) (T := TX2) (N := 3) (n := 3) hts inX2 (hts (.instantiable RX2 3) (lw_tb (i := 242) (by decide +kernel)))
  obtain ⟨c3, i3, k3⟩ := u_known (C := RX3) (T := TX3) (N := 11) (n := 11) hts inX3 (hts (.instantiable RX3 11) (lw_tb (i := 200) (by decide +kernel)))
  obtain ⟨c4, i4, k4⟩ := u_known (C := RX4) (T := TX4) (N := 6) (n := 6) hts inX4 (hts (.instantiable RX4 6) (lw_tb (i := 28) (by decide +kernel)))
  obtain ⟨c5, i5, k5⟩ := u_known (C := RX5) (T := TX5) (N := 9) (n := 9) hts inX5 (hts (.instantiable RX5 9) (lw_tb (i := 20) (by decide +kernel)))
  obtain ⟨c6, i6, k6⟩ := u_known (C := RX6) (T := TX6) (N := 12) (n := 12) hts inX6 (hts (.instantiable RX6 12) (lw_tb (i := 12) (by decide +kernel)))
  obtain ⟨c7, i7, k7⟩ := u_known (C := RX7) (T := TX7) (N := 23) (n := 23) hts inX7 (hts (.instantiable RX7 23) (lw_tb (i := 801) (by decide +kernel)))
  obtain ⟨ay, kyA, dy, ey1, ey2, ey3⟩ := Cond.arrayClass_spec (hts (.arrayClass .byte) (lw_tb (i := 61) (by decide +kernel)))
  obtain ⟨ai, kiA, di, ei1, ei2, ei3⟩ := Cond.arrayClass_spec (hts (.arrayClass .int) (lw_tb (i := 60) (by decide +kernel)))
  obtain ⟨aj, kjA, dj, ej1, ej2, ej3⟩ := Cond.arrayClass_spec (hts (.arrayClass .long) (lw_tb (i := 198) (by decide +kernel)))
  obtain ⟨dsh, ash, bsh, esh1, -, esh2, esh3, esh4⟩ := Cond.arrayOver_spec (hts (.arrayOver (.object "FuelTurns$Sheet")) (lw_tb (i := 107) (by decide +kernel)))
  obtain ⟨dw, aw, bw, ew1, -, ew2, ew3, ew4⟩ := Cond.arrayOver_spec (hts (.arrayOver (.object "FuelTurns$Warning")) (lw_tb (i := 27) (by decide +kernel)))
  refine ⟨(fun k => [c0, c1, c2, c3, c4, c5, c6, c7].getD k 0, fun k => if k = 0 then i0 else if k = 1 then i1 else if k = 2 then i2 else if k = 3 then i3 else if k = 4 then i4 else if k = 5 then i5 else if k = 6 then i6 else i7), fun k => [ay, ai, aj, ash, aw].getD k 0, ?_, ?_⟩
  · intro k q hq
    match k, hq with
    | 0, hq => cases hq; exact k0
    | 1, hq => cases hq; exact k1
    | 2, hq => cases hq; exact k2
    | 3, hq => cases hq; exact k3
    | 4, hq => cases hq; exact k4
    | 5, hq => cases hq; exact k5
    | 6, hq => cases hq; exact k6
    | 7, hq => cases hq; exact k7
    | k + 8, hq => simp [vwCl] at hq
  · intro k q hq
    match k, hq with
    | 0, hq => cases hq; exact ⟨fun n z => ⟨fun k h => (by cases h), kyA, ey2, dy, ey3⟩, ey1⟩
    | 1, hq => cases hq; exact ⟨fun n z => ⟨fun k h => (by cases h), kiA, ei2, di, ei3⟩, ei1⟩
    | 2, hq => cases hq; exact ⟨fun n z => ⟨fun k h => (by cases h), kjA, ej2, dj, ej3⟩, ej1⟩
    | 3, hq => cases hq; exact ⟨fun n z => ⟨fun k h => (by cases h), bsh, esh2, dsh, esh3⟩, bsh, dsh, esh2, esh3, esh1, esh4⟩
    | 4, hq => cases hq; exact ⟨fun n z => ⟨fun k h => (by cases h), bw, ew2, dw, ew3⟩, bw, dw, ew2, ew3, ew1, ew4⟩
    | k + 5, hq => simp [ztys] at hq
theorem b_nest {args : Array Value} {s : State} (hts : ∀ w ∈ lw_tbl, w.before args s = true) : bNx s :=
  ⟨va_AO.of (hts (.arrayOver (.object "FuelTurns$Warning")) (lw_tb (i := 27) (by decide +kernel))), va_AO.of (hts (.arrayOver (.object "FuelTurns$Sheet")) (lw_tb (i := 107) (by decide +kernel))), va_Nw.of rfl (hts (.methodLinkNest RX5 46 yX4_init RX6) (lw_tb (i := 29) (by decide +kernel))), va_Nw.of rfl (hts (.methodLinkNest RX6 46 yX1_init RX6) (lw_tb (i := 110) (by decide +kernel))), va_Nw.of rfl (hts (.methodLinkNest RX6 53 yX0_init RX6) (lw_tb (i := 165) (by decide +kernel))), va_Nw.of rfl (hts (.methodLinkNest RX6 60 yX3_init RX6) (lw_tb (i := 201) (by decide +kernel))), va_Nw.of rfl (hts (.methodLinkNest RX6 68 yX2_init RX6) (lw_tb (i := 243) (by decide +kernel)))⟩
theorem b_stat {args : Array Value} {s : State} {A : Nat → Prop} (hts : ∀ w ∈ lw_tbl, w.before args s = true) (hgv : (Jvm.Cond.and given_1 narrow_1).before args s = true) (hA : ∀ a : Nat, a < s.heap.size → ¬ A a) : ∃ t1 t2 t3 : Nat, (va_Z "FuelTurns" "PLAN_LEAST" "[I" (.ref t1) A s s.heap ∧ va_T .int t1 6 (fun j => .int (Int32.ofInt (zs 0 j))) A s s.heap) ∧ (va_Z "FuelTurns" "PLAN_MOST" "[I" (.ref t2) A s s.heap ∧ va_T .int t2 6 (fun j => .int (Int32.ofInt (zs 1 j))) A s s.heap) ∧ (va_Z "FuelTurns$Warning" "ABOVE" "[I" (.ref t3) A s s.heap ∧ va_T .int t3 6 (fun j => .int (Int32.ofInt (zs 2 j))) A s s.heap) := by
  have hs := flat_of_before _ hgv
  obtain ⟨t1, v1, w1⟩ := va_Tof (tm := (.static "FuelTurns" "PLAN_LEAST" "[I")) (ty := .int) (N := 6) (f := fun j => .int (Int32.ofInt (zs 0 j))) (A := A) (by decide) (hs (.arrayOf (.static "FuelTurns" "PLAN_LEAST" "[I") .int) (by decide +kernel)) (Cond.eq_int (n := 6) (hs (.eq (.length (.static "FuelTurns" "PLAN_LEAST" "[I")) (.int 6)) (by decide +kernel)) rfl) (fun j hj => by
    match j, hj with
    | 0, _ => exact Cond.eq_int (n := 1) (hs (.eq (.elem (.static "FuelTurns" "PLAN_LEAST" "[I") (.int 0)) (.int 1)) (by decide +kernel)) rfl
    | 1, _ => exact Cond.eq_int (n := 0) (hs (.eq (.elem (.static "FuelTurns" "PLAN_LEAST" "[I") (.int 1)) (.int 0)) (by decide +kernel)) rfl
    | 2, _ => exact Cond.eq_int (n := 0) (hs (.eq (.elem (.static "FuelTurns" "PLAN_LEAST" "[I") (.int 2)) (.int 0)) (by decide +kernel)) rfl
    | 3, _ => exact Cond.eq_int (n := 0) (hs (.eq (.elem (.static "FuelTurns" "PLAN_LEAST" "[I") (.int 3)) (.int 0)) (by decide +kernel)) rfl
    | 4, _ => exact Cond.eq_int (n := 0) (hs (.eq (.elem (.static "FuelTurns" "PLAN_LEAST" "[I") (.int 4)) (.int 0)) (by decide +kernel)) rfl
    | 5, _ => exact Cond.eq_int (n := 0) (hs (.eq (.elem (.static "FuelTurns" "PLAN_LEAST" "[I") (.int 5)) (.int 0)) (by decide +kernel)) rfl
    | j + 6, hj => exact absurd hj (by omega)) hA
  obtain ⟨t2, v2, w2⟩ := va_Tof (tm := (.static "FuelTurns" "PLAN_MOST" "[I")) (ty := .int) (N := 6) (f := fun j => .int (Int32.ofInt (zs 1 j))) (A := A) (by decide) (hs (.arrayOf (.static "FuelTurns" "PLAN_MOST" "[I") .int) (by decide +kernel)) (Cond.eq_int (n := 6) (hs (.eq (.length (.static "FuelTurns" "PLAN_MOST" "[I")) (.int 6)) (by decide +kernel)) rfl) (fun j hj => by
    match j, hj with
    | 0, _ => exact Cond.eq_int (n := 9) (hs (.eq (.elem (.static "FuelTurns" "PLAN_MOST" "[I") (.int 0)) (.int 9)) (by decide +kernel)) rfl
    | 1, _ => exact Cond.eq_int (n := 9999) (hs (.eq (.elem (.static "FuelTurns" "PLAN_MOST" "[I") (.int 1)) (.int 9999)) (by decide +kernel)) rfl
    | 2, _ => exact Cond.eq_int (n := 999) (hs (.eq (.elem (.static "FuelTurns" "PLAN_MOST" "[I") (.int 2)) (.int 999)) (by decide +kernel)) rfl
    | 3, _ => exact Cond.eq_int (n := 99999999) (hs (.eq (.elem (.static "FuelTurns" "PLAN_MOST" "[I") (.int 3)) (.int 99999999)) (by decide +kernel)) rfl
    | 4, _ => exact Cond.eq_int (n := 60) (hs (.eq (.elem (.static "FuelTurns" "PLAN_MOST" "[I") (.int 4)) (.int 60)) (by decide +kernel)) rfl
    | 5, _ => exact Cond.eq_int (n := 60) (hs (.eq (.elem (.static "FuelTurns" "PLAN_MOST" "[I") (.int 5)) (.int 60)) (by decide +kernel)) rfl
    | j + 6, hj => exact absurd hj (by omega)) hA
  obtain ⟨t3, v3, w3⟩ := va_Tof (tm := (.static "FuelTurns$Warning" "ABOVE" "[I")) (ty := .int) (N := 6) (f := fun j => .int (Int32.ofInt (zs 2 j))) (A := A) (by decide) (hs (.arrayOf (.static "FuelTurns$Warning" "ABOVE" "[I") .int) (by decide +kernel)) (Cond.eq_int (n := 6) (hs (.eq (.length (.static "FuelTurns$Warning" "ABOVE" "[I")) (.int 6)) (by decide +kernel)) rfl) (fun j hj => by
    match j, hj with
    | 0, _ => exact Cond.eq_int (n := 0) (hs (.eq (.elem (.static "FuelTurns$Warning" "ABOVE" "[I") (.int 0)) (.int 0)) (by decide +kernel)) rfl
    | 1, _ => exact Cond.eq_int (n := 0) (hs (.eq (.elem (.static "FuelTurns$Warning" "ABOVE" "[I") (.int 1)) (.int 0)) (by decide +kernel)) rfl
    | 2, _ => exact Cond.eq_int (n := 0) (hs (.eq (.elem (.static "FuelTurns$Warning" "ABOVE" "[I") (.int 2)) (.int 0)) (by decide +kernel)) rfl
    | 3, _ => exact Cond.eq_int (n := 0) (hs (.eq (.elem (.static "FuelTurns$Warning" "ABOVE" "[I") (.int 3)) (.int 0)) (by decide +kernel)) rfl
    | 4, _ => exact Cond.eq_int (n := 2) (hs (.eq (.elem (.static "FuelTurns$Warning" "ABOVE" "[I") (.int 4)) (.int 2)) (by decide +kernel)) rfl
    | 5, _ => exact Cond.eq_int (n := 1) (hs (.eq (.elem (.static "FuelTurns$Warning" "ABOVE" "[I") (.int 5)) (.int 1)) (by decide +kernel)) rfl
    | j + 6, hj => exact absurd hj (by omega)) hA
  exact ⟨t1, t2, t3, ⟨va_Zof (hts (.laysStatic "FuelTurns" "PLAN_LEAST" "[I") (lw_tb (i := 307) (by decide +kernel))) (hts (.initialized "FuelTurns") (lw_tb (i := 1) (by decide +kernel))) v1 hA, w1⟩, ⟨va_Zof (hts (.laysStatic "FuelTurns" "PLAN_MOST" "[I") (lw_tb (i := 309) (by decide +kernel))) (hts (.initialized "FuelTurns") (lw_tb (i := 1) (by decide +kernel))) v2 hA, w2⟩, ⟨va_Zof (hts (.laysStatic "FuelTurns$Warning" "ABOVE" "[I") (lw_tb (i := 477) (by decide +kernel))) (hts (.initialized "FuelTurns$Warning") (lw_tb (i := 3) (by decide +kernel))) v3 hA, w3⟩⟩
theorem b_scr {s : State} {A : Nat → Prop} {b L : Nat} {xs : Nat → Int32} (hL : L ≤ 3072) (hX : va_X b L xs s s.heap) (hb : ¬ A b) : va_T .int b L (fun j => .int (Int32.ofInt ((xs j).toInt))) A s s.heap := by
  obtain ⟨scr, h1, h2, h3, h4, h5⟩ := hX
  refine ⟨scr, h1, h2, h3, Nat.le_of_eq h4.symm, ?_, fun j hj => ?_, hb⟩
  · rw [h4]
  · rw [h5 j hj]
    show _ = some (Value.int (Int32.ofInt (xs j).toInt))
    rw [Int32.ofInt_toInt]
