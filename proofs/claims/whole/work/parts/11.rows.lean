section
variable {own : String} {cc : ByteArray} {mL : Nat} {rt : Option FieldType} {d : Nat} {F : zF} {pc : Nat} {lv lv2 : List (Option zV)} {st : List zV} {M : zM}
theorem zmx8 : Int8.maxValue.toInt = 127 := by decide
theorem zmx16 : Int16.maxValue.toInt = 32767 := by decide
theorem zmx32 : Int32.maxValue.toInt = 2147483647 := by decide
theorem zmn32 : Int32.minValue.toInt = -2147483648 := by decide
theorem zmx64 : Int64.maxValue.toInt = 9223372036854775807 := by decide
theorem zmn64 : Int64.minValue.toInt = -9223372036854775808 := by decide
theorem zi_r {x : Int} (h : -2147483648 ≤ x ∧ x < 2147483648) : (Int32.ofInt x).toInt = x := Int32.toInt_ofInt_of_le h.1 h.2
theorem zl_r {x : Int} (h : -9223372036854775808 ≤ x ∧ x < 9223372036854775808) : (Int64.ofInt x).toInt = x := Int64.toInt_ofInt_of_le h.1 h.2
theorem zi_lt {x y : Int} (hx : -2147483648 ≤ x ∧ x < 2147483648) (hy : -2147483648 ≤ y ∧ y < 2147483648) : Int32.ofInt x < Int32.ofInt y ↔ x < y := by rw [Int32.lt_iff_toInt_lt, zi_r hx, zi_r hy]
theorem zi_le {x y : Int} (hx : -2147483648 ≤ x ∧ x < 2147483648) (hy : -2147483648 ≤ y ∧ y < 2147483648) : Int32.ofInt x ≤ Int32.ofInt y ↔ x ≤ y := by rw [Int32.le_iff_toInt_le, zi_r hx, zi_r hy]
theorem zi_eq {x y : Int} (hx : -2147483648 ≤ x ∧ x < 2147483648) (hy : -2147483648 ≤ y ∧ y < 2147483648) : Int32.ofInt x = Int32.ofInt y ↔ x = y := by rw [← Int32.toInt_inj, zi_r hx, zi_r hy]
theorem zl_lt {x y : Int} (hx : -9223372036854775808 ≤ x ∧ x < 9223372036854775808) (hy : -9223372036854775808 ≤ y ∧ y < 9223372036854775808) : Int64.ofInt x < Int64.ofInt y ↔ x < y := by rw [Int64.lt_iff_toInt_lt, zl_r hx, zl_r hy]
theorem zl_eq {x y : Int} (hx : -9223372036854775808 ≤ x ∧ x < 9223372036854775808) (hy : -9223372036854775808 ≤ y ∧ y < 9223372036854775808) : Int64.ofInt x = Int64.ofInt y ↔ x = y := by rw [← Int64.toInt_inj, zl_r hx, zl_r hy]
theorem zi_nat {x : Int} {n : Nat} (h : 0 ≤ x ∧ x < n) (hn : n < 2147483648) : (Int32.ofInt x).toNatClampNeg = x.toNat := Int32.toNatClampNeg_ofInt_of_le (by omega) (by omega)
theorem zi_in {x : Int} {n : Nat} (h : 0 ≤ x ∧ x < n) (hn : n < 2147483648) : vp_in (Int32.ofInt x) n := by
  rw [vp_in_iff, zi_r (by omega)]
  exact h
/-- a step that leaves the heap -/
theorem z_pure {pc2 : Nat} {st2 : List zV} (h : ∀ {p : Program} {l : Launch} {e : Env} {R : Room} {s : State} {m : MethodId} {args : Array Value} {below : List Frame} {meth : Method} {c : Code} {H : Heap} {locs : List Loc} {cells slots : Nat} {Q : State → Prop} {ls : Array Slot} (ad : Nat → Nat),
      p.tables.exec = Jvm.exec → c.code = cc → lv_has ls mL (zlv ad 0 lv) → lv.length ≤ mL → (∀ ls2 : Array Slot, lv_has ls2 mL (zlv ad 0 lv2) → W p l e R s m args below meth c H locs cells slots Q (F0 m pc2 ls2 (st2.map (zc ad)))) → W p l e R s m args below meth c H locs cells slots Q (F0 m pc ls (st.map (zc ad))))
    (hlen : lv2.length ≤ lv.length) (k : Z own cc mL rt d F pc2 lv2 st2 M) : Z own cc mL rt d F pc lv st M := by
  intro p l e R s m args below meth c D ct ad A H locs ls hE hl hn hP hD hS
  exact h ad hE.1 hE.2.1 hl hn (fun ls2 hl2 => k p l e R s m args below meth c D ct ad A H locs ls2 hE hl2 (Nat.le_trans hlen hn) hP hD hS)
theorem z_pure0 {pc2 : Nat} {st2 : List zV} (h : ∀ {p : Program} {l : Launch} {e : Env} {R : Room} {s : State} {m : MethodId} {args : Array Value} {below : List Frame} {meth : Method} {c : Code} {H : Heap} {locs : List Loc} {cells slots : Nat} {Q : State → Prop} {ls : Array Slot} (ad : Nat → Nat),
      p.tables.exec = Jvm.exec → c.code = cc → lv_has ls mL (zlv ad 0 lv) → W p l e R s m args below meth c H locs cells slots Q (F0 m pc2 ls (st2.map (zc ad))) → W p l e R s m args below meth c H locs cells slots Q (F0 m pc ls (st.map (zc ad))))
    (k : Z own cc mL rt d F pc2 lv st2 M) : Z own cc mL rt d F pc lv st M :=
  z_pure (fun ad hx hb hl _ kk => h ad hx hb hl (kk _ hl)) (Nat.le_refl _) k
theorem z_iconst {n : Int} (hd : decode cc pc = .ok (.iconst n, 1)) (k : Z own cc mL rt d F (pc + 1) lv (vI n :: st) M) : Z own cc mL rt d F pc lv st M :=
  z_pure0 (fun ad hx hb _ k => lv_iconst hx hb hd rfl k) k
theorem z_bipush {n : Int} (hd : decode cc pc = .ok (.bipush n, 2)) (hn : -128 ≤ n ∧ n < 128) (k : Z own cc mL rt d F (pc + 2) lv (vI n :: st) M) : Z own cc mL rt d F pc lv st M :=
  z_pure0 (fun ad hx hb _ k => lv_bipush hx hb hd (Int8.toInt32_ofInt hn.1 (by rw [zmx8]; omega)) k) k
theorem z_sipush {n : Int} (hd : decode cc pc = .ok (.sipush n, 3)) (hn : -32768 ≤ n ∧ n < 32768) (k : Z own cc mL rt d F (pc + 3) lv (vI n :: st) M) : Z own cc mL rt d F pc lv st M :=
  z_pure0 (fun ad hx hb _ k => lv_sipush hx hb hd (Int16.toInt32_ofInt hn.1 (by rw [zmx16]; omega)) k) k
theorem z_lconst0 (hd : decode cc pc = .ok (.lconst 0, 1)) (k : Z own cc mL rt d F (pc + 1) lv (vJ 0 :: st) M) : Z own cc mL rt d F pc lv st M :=
  z_pure0 (fun ad hx hb _ k => lv_lconst hx hb hd rfl k) k
theorem z_lconst1 (hd : decode cc pc = .ok (.lconst 1, 1)) (k : Z own cc mL rt d F (pc + 1) lv (vJ 1 :: st) M) : Z own cc mL rt d F pc lv st M :=
  z_pure0 (fun ad hx hb _ k => lv_lconst hx hb hd rfl k) k
theorem z_ldc {i : Nat} {n : Int} {v : Int32} (hw : Cond.constant own i v ∈ zt) (hv : Int32.ofInt n = v) (hd : decode cc pc = .ok (.ldc i, 2)) (k : Z own cc mL rt d F (pc + 2) lv (vI n :: st) M) : Z own cc mL rt d F pc lv st M := by
  intro p l e R s m args below meth c D ct ad A H locs ls hE hl hn hP hD hS
  subst hv
  exact lv_ldc hE.1 hE.2.1 hE.2.2.2.1 (hE.2.2.2.2.1 _ hw) hd (k p l e R s m args below meth c D ct ad A H locs ls hE hl hn hP hD hS)
theorem z_ldcw {i : Nat} {n : Int} {v : Int32} (hw : Cond.constant own i v ∈ zt) (hv : Int32.ofInt n = v) (hd : decode cc pc = .ok (.ldc_w i, 3)) (k : Z own cc mL rt d F (pc + 3) lv (vI n :: st) M) : Z own cc mL rt d F pc lv st M := by
  intro p l e R s m args below meth c D ct ad A H locs ls hE hl hn hP hD hS
  subst hv
  exact lv_ldcw hE.1 hE.2.1 hE.2.2.2.1 (hE.2.2.2.2.1 _ hw) hd (k p l e R s m args below meth c D ct ad A H locs ls hE hl hn hP hD hS)
theorem z_ldc2 {i : Nat} {n : Int} {v : Int64} (hw : Cond.constantLong own i v ∈ zt) (hv : Int64.ofInt n = v) (hd : decode cc pc = .ok (.ldc2_w i, 3)) (k : Z own cc mL rt d F (pc + 3) lv (vJ n :: st) M) : Z own cc mL rt d F pc lv st M := by
  intro p l e R s m args below meth c D ct ad A H locs ls hE hl hn hP hD hS
  subst hv
  exact lv_ldc2 hE.1 hE.2.1 hE.2.2.2.1 (hE.2.2.2.2.1 _ hw) hd (k p l e R s m args below meth c D ct ad A H locs ls hE hl hn hP hD hS)
theorem z_iadd {x y : Int} (hd : decode cc pc = .ok (.iadd, 1)) (k : Z own cc mL rt d F (pc + 1) lv (vI (x + y) :: st) M) : Z own cc mL rt d F pc lv (vI y :: vI x :: st) M :=
  z_pure0 (fun ad hx hb _ k => lv_iadd hx hb hd (by rw [← Int32.ofInt_add]; exact k)) k
theorem z_isub {x y : Int} (hd : decode cc pc = .ok (.isub, 1)) (k : Z own cc mL rt d F (pc + 1) lv (vI (x - y) :: st) M) : Z own cc mL rt d F pc lv (vI y :: vI x :: st) M :=
  z_pure0 (fun ad hx hb _ k => lv_isub hx hb hd (by rw [← Int32.ofInt_sub]; exact k)) k
theorem z_imul {x y : Int} (hd : decode cc pc = .ok (.imul, 1)) (k : Z own cc mL rt d F (pc + 1) lv (vI (x * y) :: st) M) : Z own cc mL rt d F pc lv (vI y :: vI x :: st) M :=
  z_pure0 (fun ad hx hb _ k => lv_imul hx hb hd (by rw [← Int32.ofInt_mul]; exact k)) k
theorem z_ladd {x y : Int} (hd : decode cc pc = .ok (.ladd, 1)) (k : Z own cc mL rt d F (pc + 1) lv (vJ (x + y) :: st) M) : Z own cc mL rt d F pc lv (vJ y :: vJ x :: st) M :=
  z_pure0 (fun ad hx hb _ k => lv_ladd hx hb hd (by rw [← Int64.ofInt_add]; exact k)) k
theorem z_lsub {x y : Int} (hd : decode cc pc = .ok (.lsub, 1)) (k : Z own cc mL rt d F (pc + 1) lv (vJ (x - y) :: st) M) : Z own cc mL rt d F pc lv (vJ y :: vJ x :: st) M :=
  z_pure0 (fun ad hx hb _ k => lv_lsub hx hb hd (by rw [← Int64.ofInt_sub]; exact k)) k
theorem z_lmul {x y : Int} (hd : decode cc pc = .ok (.lmul, 1)) (k : Z own cc mL rt d F (pc + 1) lv (vJ (x * y) :: st) M) : Z own cc mL rt d F pc lv (vJ y :: vJ x :: st) M :=
  z_pure0 (fun ad hx hb _ k => lv_lmul hx hb hd (by rw [← Int64.ofInt_mul]; exact k)) k
theorem z_ineg {x : Int} (hd : decode cc pc = .ok (.ineg, 1)) (k : Z own cc mL rt d F (pc + 1) lv (vI (-x) :: st) M) : Z own cc mL rt d F pc lv (vI x :: st) M :=
  z_pure0 (fun ad hx hb _ k => lv_ineg hx hb hd (by rw [← Int32.ofInt_neg]; exact k)) k
theorem z_lneg {x : Int} (hd : decode cc pc = .ok (.lneg, 1)) (k : Z own cc mL rt d F (pc + 1) lv (vJ (-x) :: st) M) : Z own cc mL rt d F pc lv (vJ x :: st) M :=
  z_pure0 (fun ad hx hb _ k => lv_lneg hx hb hd (by rw [← Int64.ofInt_neg]; exact k)) k
theorem z_l2i {x : Int} (hd : decode cc pc = .ok (.l2i, 1)) (k : Z own cc mL rt d F (pc + 1) lv (vI x :: st) M) : Z own cc mL rt d F pc lv (vJ x :: st) M :=
  z_pure0 (fun ad hx hb _ k => lv_l2i hx hb hd Int64.toInt32_ofInt k) k
theorem z_i2l {x : Int} (hx : -2147483648 ≤ x ∧ x < 2147483648) (hd : decode cc pc = .ok (.i2l, 1)) (k : Z own cc mL rt d F (pc + 1) lv (vJ x :: st) M) : Z own cc mL rt d F pc lv (vI x :: st) M :=
  z_pure0 (fun ad hx1 hb _ k => lv_i2l hx1 hb hd (Int32.toInt64_ofInt (by rw [zmn32]; omega) (by rw [zmx32]; omega)) k) k
theorem z_i2b {x : Int} (hd : decode cc pc = .ok (.i2b, 1)) (k : Z own cc mL rt d F (pc + 1) lv (vI (x.bmod 256) :: st) M) : Z own cc mL rt d F pc lv (vI x :: st) M :=
  z_pure0 (fun ad hx hb _ k => lv_i2b hx hb hd (by
    rw [← Int32.toInt_inj]
    have h1 := Int.le_bmod (x := x) (m := 256) (by decide)
    have h2 := Int.bmod_lt (x := x) (m := 256) (by decide)
    rw [zi_r (by omega)]
    simp) k) k
theorem z_i2s {x : Int} (hd : decode cc pc = .ok (.i2s, 1)) (k : Z own cc mL rt d F (pc + 1) lv (vI (x.bmod 65536) :: st) M) : Z own cc mL rt d F pc lv (vI x :: st) M :=
  z_pure0 (fun ad hx hb _ k => lv_i2s hx hb hd (by
    rw [← Int32.toInt_inj]
    have h1 := Int.le_bmod (x := x) (m := 65536) (by decide)
    have h2 := Int.bmod_lt (x := x) (m := 65536) (by decide)
    rw [zi_r (by omega)]
    simp) k) k
theorem z_idiv {x y : Int} (hx : -2147483648 ≤ x ∧ x < 2147483648) (hy : -2147483648 ≤ y ∧ y < 2147483648) (h0 : y ≠ 0) (hd : decode cc pc = .ok (.idiv, 1)) (k : Z own cc mL rt d F (pc + 1) lv (vI (x.tdiv y) :: st) M) : Z own cc mL rt d F pc lv (vI y :: vI x :: st) M :=
  z_pure0 (fun ad hx1 hb _ k => lv_idiv hx1 hb hd (fun e => h0 ((zi_eq hy (by decide)).mp e)) (by
    rw [← Int32.ofInt_tdiv (by rw [zmn32]; omega) (by rw [zmx32]; omega) (by rw [zmn32]; omega) (by rw [zmx32]; omega)]
    exact k)) k
theorem z_idivp {x y : Int} (hx : 0 ≤ x ∧ x < 2147483648) (hy : 0 < y ∧ y < 2147483648) (hd : decode cc pc = .ok (.idiv, 1)) (k : Z own cc mL rt d F (pc + 1) lv (vI (x / y) :: st) M) : Z own cc mL rt d F pc lv (vI y :: vI x :: st) M :=
  z_idiv (by omega) (by omega) (by omega) hd (by rw [Int.tdiv_eq_ediv_of_nonneg hx.1]; exact k)
theorem z_irem {x y : Int} (hx : -2147483648 ≤ x ∧ x < 2147483648) (hy : -2147483648 ≤ y ∧ y < 2147483648) (h0 : y ≠ 0) (hd : decode cc pc = .ok (.irem, 1)) (k : Z own cc mL rt d F (pc + 1) lv (vI (x.tmod y) :: st) M) : Z own cc mL rt d F pc lv (vI y :: vI x :: st) M :=
  z_pure0 (fun ad hx1 hb _ k => lv_irem hx1 hb hd (fun e => h0 ((zi_eq hy (by decide)).mp e)) (by
    rw [← Int32.ofInt_tdiv (by rw [zmn32]; omega) (by rw [zmx32]; omega) (by rw [zmn32]; omega) (by rw [zmx32]; omega), ← Int32.ofInt_mul, ← Int32.ofInt_sub, show x - x.tdiv y * y = x.tmod y by rw [Int.tmod_def, Int.mul_comm]]
    exact k)) k
theorem z_iremp {x y : Int} (hx : 0 ≤ x ∧ x < 2147483648) (hy : 0 < y ∧ y < 2147483648) (hd : decode cc pc = .ok (.irem, 1)) (k : Z own cc mL rt d F (pc + 1) lv (vI (x % y) :: st) M) : Z own cc mL rt d F pc lv (vI y :: vI x :: st) M :=
  z_irem (by omega) (by omega) (by omega) hd (by rw [Int.tmod_eq_emod_of_nonneg hx.1]; exact k)
theorem z_ldiv {x y : Int} (hx : -9223372036854775808 ≤ x ∧ x < 9223372036854775808) (hy : -9223372036854775808 ≤ y ∧ y < 9223372036854775808) (h0 : y ≠ 0) (hd : decode cc pc = .ok (.ldiv, 1)) (k : Z own cc mL rt d F (pc + 1) lv (vJ (x.tdiv y) :: st) M) : Z own cc mL rt d F pc lv (vJ y :: vJ x :: st) M :=
  z_pure0 (fun ad hx1 hb _ k => lv_ldiv hx1 hb hd (fun e => h0 ((zl_eq hy (by decide)).mp e)) (by
    rw [← Int64.ofInt_tdiv (by rw [zmn64]; omega) (by rw [zmx64]; omega) (by rw [zmn64]; omega) (by rw [zmx64]; omega)]
    exact k)) k
theorem z_ldivp {x y : Int} (hx : 0 ≤ x ∧ x < 9223372036854775808) (hy : 0 < y ∧ y < 9223372036854775808) (hd : decode cc pc = .ok (.ldiv, 1)) (k : Z own cc mL rt d F (pc + 1) lv (vJ (x / y) :: st) M) : Z own cc mL rt d F pc lv (vJ y :: vJ x :: st) M :=
  z_ldiv (by omega) (by omega) (by omega) hd (by rw [Int.tdiv_eq_ediv_of_nonneg hx.1]; exact k)
def zand (x y : Int) : Int := (Int32.ofInt x &&& Int32.ofInt y).toInt
def zor (x y : Int) : Int := (Int32.ofInt x ||| Int32.ofInt y).toInt
def zxor (x y : Int) : Int := (Int32.ofInt x ^^^ Int32.ofInt y).toInt
def zshl (x y : Int) : Int := (Int32.ofInt x <<< (Int32.ofInt y &&& 31)).toInt
def zshr (x y : Int) : Int := (Int32.ofInt x >>> (Int32.ofInt y &&& 31)).toInt
def zushr (x y : Int) : Int := ((Int32.ofInt x).toUInt32 >>> ((Int32.ofInt y).toUInt32 &&& Int32.toUInt32 31)).toInt32.toInt
def zland (x y : Int) : Int := (Int64.ofInt x &&& Int64.ofInt y).toInt
def zlor (x y : Int) : Int := (Int64.ofInt x ||| Int64.ofInt y).toInt
def zlshl (x y : Int) : Int := (Int64.ofInt x <<< ((Int32.ofInt y).toInt64 &&& 63)).toInt
theorem z_iand {x y : Int} (hd : decode cc pc = .ok (.iand, 1)) (k : Z own cc mL rt d F (pc + 1) lv (vI (zand x y) :: st) M) : Z own cc mL rt d F pc lv (vI y :: vI x :: st) M :=
  z_pure0 (fun ad hx hb _ k => lv_iand hx hb hd (by unfold zand at k; simp only [List.map_cons, zc, Int32.ofInt_toInt] at k; exact k)) k
theorem z_ior {x y : Int} (hd : decode cc pc = .ok (.ior, 1)) (k : Z own cc mL rt d F (pc + 1) lv (vI (zor x y) :: st) M) : Z own cc mL rt d F pc lv (vI y :: vI x :: st) M :=
  z_pure0 (fun ad hx hb _ k => lv_ior hx hb hd (by unfold zor at k; simp only [List.map_cons, zc, Int32.ofInt_toInt] at k; exact k)) k
theorem z_ixor {x y : Int} (hd : decode cc pc = .ok (.ixor, 1)) (k : Z own cc mL rt d F (pc + 1) lv (vI (zxor x y) :: st) M) : Z own cc mL rt d F pc lv (vI y :: vI x :: st) M :=
  z_pure0 (fun ad hx hb _ k => lv_ixor hx hb hd (by unfold zxor at k; simp only [List.map_cons, zc, Int32.ofInt_toInt] at k; exact k)) k
theorem z_ishl {x y : Int} (hd : decode cc pc = .ok (.ishl, 1)) (k : Z own cc mL rt d F (pc + 1) lv (vI (zshl x y) :: st) M) : Z own cc mL rt d F pc lv (vI y :: vI x :: st) M :=
  z_pure0 (fun ad hx hb _ k => lv_ishl hx hb hd (by unfold zshl at k; simp only [List.map_cons, zc, Int32.ofInt_toInt] at k; exact k)) k
theorem z_ishr {x y : Int} (hd : decode cc pc = .ok (.ishr, 1)) (k : Z own cc mL rt d F (pc + 1) lv (vI (zshr x y) :: st) M) : Z own cc mL rt d F pc lv (vI y :: vI x :: st) M :=
  z_pure0 (fun ad hx hb _ k => lv_ishr hx hb hd (by unfold zshr at k; simp only [List.map_cons, zc, Int32.ofInt_toInt] at k; exact k)) k
theorem z_iushr {x y : Int} (hd : decode cc pc = .ok (.iushr, 1)) (k : Z own cc mL rt d F (pc + 1) lv (vI (zushr x y) :: st) M) : Z own cc mL rt d F pc lv (vI y :: vI x :: st) M :=
  z_pure0 (fun ad hx hb _ k => lv_iushr hx hb hd (v := Int32.ofInt (zushr x y)) (by unfold zushr; rw [Int32.ofInt_toInt]) k) k
theorem z_land {x y : Int} (hd : decode cc pc = .ok (.land, 1)) (k : Z own cc mL rt d F (pc + 1) lv (vJ (zland x y) :: st) M) : Z own cc mL rt d F pc lv (vJ y :: vJ x :: st) M :=
  z_pure0 (fun ad hx hb _ k => lv_land hx hb hd (by unfold zland at k; simp only [List.map_cons, zc, Int64.ofInt_toInt] at k; exact k)) k
theorem z_lor {x y : Int} (hd : decode cc pc = .ok (.lor, 1)) (k : Z own cc mL rt d F (pc + 1) lv (vJ (zlor x y) :: st) M) : Z own cc mL rt d F pc lv (vJ y :: vJ x :: st) M :=
  z_pure0 (fun ad hx hb _ k => lv_lor hx hb hd (by unfold zlor at k; simp only [List.map_cons, zc, Int64.ofInt_toInt] at k; exact k)) k
theorem z_lshl {x y : Int} (hd : decode cc pc = .ok (.lshl, 1)) (k : Z own cc mL rt d F (pc + 1) lv (vJ (zlshl x y) :: st) M) : Z own cc mL rt d F pc lv (vI y :: vJ x :: st) M :=
  z_pure0 (fun ad hx hb _ k => lv_lshl hx hb hd (v := Int64.ofInt (zlshl x y)) (by unfold zlshl; rw [Int64.ofInt_toInt]) k) k
def zcat : zV → Nat
  | .inr (.inl _) => 2
  | _ => 1
theorem zcat_c (ad : Nat → Nat) (v : zV) : (zc ad v).category = zcat v := by rcases v with x | x | x <;> rfl
theorem z_dup {v : zV} (hv : zcat v = 1) (hd : decode cc pc = .ok (.dup, 1)) (k : Z own cc mL rt d F (pc + 1) lv (v :: v :: st) M) : Z own cc mL rt d F pc lv (v :: st) M :=
  z_pure0 (fun ad hx hb _ k => lv_dup hx hb hd ((zcat_c ad v).trans hv) k) k
theorem z_dup2_11 {v w : zV} (hv : zcat v = 1) (hw : zcat w = 1) (hd : decode cc pc = .ok (.dup2, 1)) (k : Z own cc mL rt d F (pc + 1) lv (v :: w :: v :: w :: st) M) : Z own cc mL rt d F pc lv (v :: w :: st) M :=
  z_pure0 (fun ad hx hb _ k => lv_dup2_11 hx hb hd ((zcat_c ad v).trans hv) ((zcat_c ad w).trans hw) k) k
theorem z_dup2_2 {v : zV} (hv : zcat v = 2) (hd : decode cc pc = .ok (.dup2, 1)) (k : Z own cc mL rt d F (pc + 1) lv (v :: v :: st) M) : Z own cc mL rt d F pc lv (v :: st) M :=
  z_pure0 (fun ad hx hb _ k => lv_dup2_2 hx hb hd ((zcat_c ad v).trans hv) k) k
theorem z_pop2_2 {v : zV} (hv : zcat v = 2) (hd : decode cc pc = .ok (.pop2, 1)) (k : Z own cc mL rt d F (pc + 1) lv st M) : Z own cc mL rt d F pc lv (v :: st) M :=
  z_pure0 (fun ad hx hb _ k => lv_pop2_2 hx hb hd ((zcat_c ad v).trans hv) k) k
theorem z_goto {off : Int} {tgt : Nat} (hd : decode cc pc = .ok (.goto off, 3)) (ht : (pc : Int) + off = (tgt : Int)) (k : Z own cc mL rt d F tgt lv st M) : Z own cc mL rt d F pc lv st M :=
  z_pure0 (fun ad hx hb _ k => lv_goto hx hb hd ht k) k
end
