abbrev zKT (k t : Nat) : Prop := k < 93 ∧ zT k = t
def zkt (n : Nat) (ty : FieldType) : Prop := match n with
  | 0 => ty = .int
  | 1 => ty = .long
  | 2 => ty = .boolean
  | _ => True
/-- entry idx of own's pool is field j of the class t -/
def zFl (own : String) (idx t j : Nat) (ji : Int) : Prop := ∃ (C : String) (T : u_T) (N : Nat) (ty : Nat → FieldType), vwCl[t]? = some (C, T, N) ∧ j < N ∧ (zfk t).length = N ∧ Cond.fieldLink own idx C (T j).2.1 (T j).2.2.1 ∈ zt ∧ (T j).1 = C ∧ (∀ w ∈ u_ws C T N, w ∈ zt) ∧ t < 8 ∧ (∀ k, k < N → parseFieldDescriptor (T k).2.2.1 = some (ty k)) ∧ (∀ a, a < N → ∀ b, b < N → a ≠ b → (T a).2.1 ≠ (T b).2.1) ∧ (T j).2.2.2 = ((zfk t).getD j 9 == 3) ∧ zkt ((zfk t).getD j 9) (ty j) ∧ (j : Int) = ji
theorem zN_lt : ∀ k, k < 93 → zN k < 2147483648 := by decide +kernel
section
variable {own : String} {cc : ByteArray} {mL : Nat} {rt : Option FieldType} {d : Nat} {F : zF} {pc : Nat} {lv lv2 : List (Option zV)} {st : List zV} {M : zM}
theorem z_getI {k t j idx : Nat} {ji : Int} (hF : zFl own idx t j ji) (hk : zKT k t) (hj : ((zfk t).getD j 9 == 0 || (zfk t).getD j 9 == 2) = true) (hd : decode cc pc = .ok (.getfield idx, 3)) (kk : Z own cc mL rt d F (pc + 3) lv (vI (M k ji) :: st) M) : Z own cc mL rt d F pc lv (vR k :: st) M := by
  intro p l e R s m args below meth c D ct ad A H locs ls hE hl hn hP hD hS
  obtain ⟨C, T, N, ty, h1, h2, h3, h4, h5, h6, h7, h8, h9, h10, h11, rfl⟩ := hF
  have hg := zws_get (ct := ct) (ad := ad) (M := M) hk.1
  rw [zc_o hk.2 h7] at hg
  refine va_get hE.1 hE.2.1 hE.2.2.2.2.1 h6 hE.2.2.2.1 hE.2.2.2.2.2.1 hP k hg h1 j h2 (hE.2.2.2.2.1 _ h4) (fun x hx => by rw [h5] at hx; exact hx) (v := .int (Int32.ofInt (M k j))) ?_ hd (kk p l e R s m args below meth c D ct ad A H locs ls hE hl hn hP hD hS)
  rw [zfs_get (by rw [h3]; exact h2)]
  unfold zfv
  rw [hk.2]
  split
  · rename_i e; rw [e] at hj; cases hj
  · rename_i e; rw [e] at hj; cases hj
  · rfl
theorem z_getJ {k t j idx : Nat} {ji : Int} (hF : zFl own idx t j ji) (hk : zKT k t) (hj : (zfk t).getD j 9 = 1) (hd : decode cc pc = .ok (.getfield idx, 3)) (kk : Z own cc mL rt d F (pc + 3) lv (vJ (M k ji) :: st) M) : Z own cc mL rt d F pc lv (vR k :: st) M := by
  intro p l e R s m args below meth c D ct ad A H locs ls hE hl hn hP hD hS
  obtain ⟨C, T, N, ty, h1, h2, h3, h4, h5, h6, h7, h8, h9, h10, h11, rfl⟩ := hF
  have hg := zws_get (ct := ct) (ad := ad) (M := M) hk.1
  rw [zc_o hk.2 h7] at hg
  refine va_get hE.1 hE.2.1 hE.2.2.2.2.1 h6 hE.2.2.2.1 hE.2.2.2.2.2.1 hP k hg h1 j h2 (hE.2.2.2.2.1 _ h4) (fun x hx => by rw [h5] at hx; exact hx) (v := .long (Int64.ofInt (M k j))) ?_ hd (kk p l e R s m args below meth c D ct ad A H locs ls hE hl hn hP hD hS)
  rw [zfs_get (by rw [h3]; exact h2)]
  unfold zfv
  rw [hk.2, hj] <;> rfl
theorem z_getR {k t j idx r : Nat} {ji : Int} (hF : zFl own idx t j ji) (hk : zKT k t) (hj : (zfk t).getD j 9 = 3) (hr : zR k j = r) (hd : decode cc pc = .ok (.getfield idx, 3)) (kk : Z own cc mL rt d F (pc + 3) lv (vR r :: st) M) : Z own cc mL rt d F pc lv (vR k :: st) M := by
  intro p l e R s m args below meth c D ct ad A H locs ls hE hl hn hP hD hS
  subst hr
  obtain ⟨C, T, N, ty, h1, h2, h3, h4, h5, h6, h7, h8, h9, h10, h11, rfl⟩ := hF
  have hg := zws_get (ct := ct) (ad := ad) (M := M) hk.1
  rw [zc_o hk.2 h7] at hg
  refine va_get hE.1 hE.2.1 hE.2.2.2.2.1 h6 hE.2.2.2.1 hE.2.2.2.2.2.1 hP k hg h1 j h2 (hE.2.2.2.2.1 _ h4) (fun x hx => by rw [h5] at hx; exact hx) (v := .ref (ad (zR k j))) ?_ hd (kk p l e R s m args below meth c D ct ad A H locs ls hE hl hn hP hD hS)
  rw [zfs_get (by rw [h3]; exact h2)]
  unfold zfv
  rw [hk.2, hj] <;> rfl

theorem z_putI {k t j idx : Nat} {ji x : Int} (hF : zFl own idx t j ji) (hk : zKT k t) (hj : (zfk t).getD j 9 = 0) (hd : decode cc pc = .ok (.putfield idx, 3)) (kk : Z own cc mL rt d F (pc + 3) lv st (zput M k ji x)) : Z own cc mL rt d F pc lv (vI x :: vR k :: st) M := by
  intro p l e R s m args below meth c D ct ad A H locs ls hE hl hn hP hD hS
  obtain ⟨C, T, N, ty, h1, h2, h3, h4, h5, h6, h7, h8, h9, h10, h11, rfl⟩ := hF
  rw [hj] at h10 h11
  have hg := zws_get (ct := ct) (ad := ad) (M := M) hk.1
  rw [zc_o hk.2 h7] at hg
  refine va_put hE.1 hE.2.1 hE.2.2.2.2.1 h6 ty h8 h9 hE.2.2.2.1 hE.2.2.2.2.2.1 hP hD hS k hg h1 j h2 (hE.2.2.2.2.1 _ h4) (fun x hx => by rw [h5] at hx; exact hx) h10 (ty := .int) (v := .int (Int32.ofInt x)) (by rw [h8 j h2]; exact congrArg some h11) rfl rfl (by simp; rw [h3]; exact h2) hd (fun H1 locs1 hP1 hD1 hS1 => ?_)
  have W1 : (zws ct ad M).set k (ad k, .inr (t, ((List.range (zfk t).length).map (zfv ad M k)).set j (.int (Int32.ofInt x)))) = zws ct ad (zput M k j x) := by
    refine zws_put ?_
    rw [zc_o hk.2 h7, zfs_set (v := x)]
    unfold zfv
    rw [hk.2, hj, zput_eq] <;> rfl
  rw [W1] at hP1 hD1
  exact kk p l e R s m args below meth c D ct ad A H1 locs1 ls hE hl hn hP1 hD1 hS1

theorem z_putJ {k t j idx : Nat} {ji x : Int} (hF : zFl own idx t j ji) (hk : zKT k t) (hj : (zfk t).getD j 9 = 1) (hd : decode cc pc = .ok (.putfield idx, 3)) (kk : Z own cc mL rt d F (pc + 3) lv st (zput M k ji x)) : Z own cc mL rt d F pc lv (vJ x :: vR k :: st) M := by
  intro p l e R s m args below meth c D ct ad A H locs ls hE hl hn hP hD hS
  obtain ⟨C, T, N, ty, h1, h2, h3, h4, h5, h6, h7, h8, h9, h10, h11, rfl⟩ := hF
  rw [hj] at h10 h11
  have hg := zws_get (ct := ct) (ad := ad) (M := M) hk.1
  rw [zc_o hk.2 h7] at hg
  refine va_put hE.1 hE.2.1 hE.2.2.2.2.1 h6 ty h8 h9 hE.2.2.2.1 hE.2.2.2.2.2.1 hP hD hS k hg h1 j h2 (hE.2.2.2.2.1 _ h4) (fun x hx => by rw [h5] at hx; exact hx) h10 (ty := .long) (v := .long (Int64.ofInt x)) (by rw [h8 j h2]; exact congrArg some h11) rfl rfl (by simp; rw [h3]; exact h2) hd (fun H1 locs1 hP1 hD1 hS1 => ?_)
  have W1 : (zws ct ad M).set k (ad k, .inr (t, ((List.range (zfk t).length).map (zfv ad M k)).set j (.long (Int64.ofInt x)))) = zws ct ad (zput M k j x) := by
    refine zws_put ?_
    rw [zc_o hk.2 h7, zfs_set (v := x)]
    unfold zfv
    rw [hk.2, hj, zput_eq] <;> rfl
  rw [W1] at hP1 hD1
  exact kk p l e R s m args below meth c D ct ad A H1 locs1 ls hE hl hn hP1 hD1 hS1

theorem z_putZ {k t j idx : Nat} {ji x : Int} (hx : x = 0 ∨ x = 1) (hF : zFl own idx t j ji) (hk : zKT k t) (hj : (zfk t).getD j 9 = 2) (hd : decode cc pc = .ok (.putfield idx, 3)) (kk : Z own cc mL rt d F (pc + 3) lv st (zput M k ji x)) : Z own cc mL rt d F pc lv (vI x :: vR k :: st) M := by
  intro p l e R s m args below meth c D ct ad A H locs ls hE hl hn hP hD hS
  obtain ⟨C, T, N, ty, h1, h2, h3, h4, h5, h6, h7, h8, h9, h10, h11, rfl⟩ := hF
  rw [hj] at h10 h11
  have hg := zws_get (ct := ct) (ad := ad) (M := M) hk.1
  rw [zc_o hk.2 h7] at hg
  refine va_put hE.1 hE.2.1 hE.2.2.2.2.1 h6 ty h8 h9 hE.2.2.2.1 hE.2.2.2.2.2.1 hP hD hS k hg h1 j h2 (hE.2.2.2.2.1 _ h4) (fun x hx => by rw [h5] at hx; exact hx) h10 (ty := .boolean) (v := .int (Int32.ofInt x)) (by rw [h8 j h2]; exact congrArg some h11) (by rcases hx with rfl | rfl <;> rfl) (by rcases hx with rfl | rfl <;> rfl) (by simp; rw [h3]; exact h2) hd (fun H1 locs1 hP1 hD1 hS1 => ?_)
  have W1 : (zws ct ad M).set k (ad k, .inr (t, ((List.range (zfk t).length).map (zfv ad M k)).set j (.int (Int32.ofInt x)))) = zws ct ad (zput M k j x) := by
    refine zws_put ?_
    rw [zc_o hk.2 h7, zfs_set (v := x)]
    unfold zfv
    rw [hk.2, hj, zput_eq] <;> rfl
  rw [W1] at hP1 hD1
  exact kk p l e R s m args below meth c D ct ad A H1 locs1 ls hE hl hn hP1 hD1 hS1

theorem z_iald {k n : Nat} {x : Int} (hk : zKT k 9) (hN : zN k = n) (hx : 0 ≤ x ∧ x < (n : Int)) (hd : decode cc pc = .ok (.iaload, 1)) (kk : Z own cc mL rt d F (pc + 1) lv (vI (M k x) :: st) M) : Z own cc mL rt d F pc lv (vI x :: vR k :: st) M := by
  intro p l e R s m args below meth c D ct ad A H locs ls hE hl hn hP hD hS
  subst hN
  have hlt := zN_lt k hk.1
  have hg := zws_get (ct := ct) (ad := ad) (M := M) hk.1
  rw [zc_9 hk.2] at hg
  refine va_iald hE.1 hE.2.1 hE.2.2.2.2.2.1 hP k 1 hg rfl (zi_in hx hlt) hd ?_
  have := kk p l e R s m args below meth c D ct ad A H locs ls hE hl hn hP hD hS
  rw [zi_nat hx hlt, Int.toNat_of_nonneg hx.1]
  exact this
theorem z_bald {k n : Nat} {x : Int} (hk : zKT k 8) (hN : zN k = n) (hx : 0 ≤ x ∧ x < (n : Int)) (hd : decode cc pc = .ok (.baload, 1)) (kk : Z own cc mL rt d F (pc + 1) lv (vI (M k x) :: st) M) : Z own cc mL rt d F pc lv (vI x :: vR k :: st) M := by
  intro p l e R s m args below meth c D ct ad A H locs ls hE hl hn hP hD hS
  subst hN
  have hlt := zN_lt k hk.1
  have hg := zws_get (ct := ct) (ad := ad) (M := M) hk.1
  rw [zc_8 hk.2] at hg
  refine va_bald hE.1 hE.2.1 hE.2.2.2.2.2.1 hP k 0 hg rfl (zi_in hx hlt) hd ?_
  have := kk p l e R s m args below meth c D ct ad A H locs ls hE hl hn hP hD hS
  rw [zi_nat hx hlt, Int.toNat_of_nonneg hx.1]
  exact this
theorem z_lald {k n : Nat} {x : Int} (hk : zKT k 10) (hN : zN k = n) (hx : 0 ≤ x ∧ x < (n : Int)) (hd : decode cc pc = .ok (.laload, 1)) (kk : Z own cc mL rt d F (pc + 1) lv (vJ (M k x) :: st) M) : Z own cc mL rt d F pc lv (vI x :: vR k :: st) M := by
  intro p l e R s m args below meth c D ct ad A H locs ls hE hl hn hP hD hS
  subst hN
  have hlt := zN_lt k hk.1
  have hg := zws_get (ct := ct) (ad := ad) (M := M) hk.1
  rw [zc_10 hk.2] at hg
  refine va_lald hE.1 hE.2.1 hE.2.2.2.2.2.1 hP k 2 hg rfl (zi_in hx hlt) hd ?_
  have := kk p l e R s m args below meth c D ct ad A H locs ls hE hl hn hP hD hS
  rw [zi_nat hx hlt, Int.toNat_of_nonneg hx.1]
  exact this
theorem z_aald11 {k n r : Nat} {x : Int} (hk : zKT k 11) (hN : zN k = n) (hx : 0 ≤ x ∧ x < (n : Int)) (hr : zR k x.toNat = r) (hd : decode cc pc = .ok (.aaload, 1)) (kk : Z own cc mL rt d F (pc + 1) lv (vR r :: st) M) : Z own cc mL rt d F pc lv (vI x :: vR k :: st) M := by
  intro p l e R s m args below meth c D ct ad A H locs ls hE hl hn hP hD hS
  subst hN
  subst hr
  have hlt := zN_lt k hk.1
  have hg := zws_get (ct := ct) (ad := ad) (M := M) hk.1
  rw [zc_11 hk.2] at hg
  refine va_aldq hE.1 hE.2.1 hE.2.2.2.2.2.1 hP k 3 hg rfl (zi_in hx hlt) hd ?_
  have := kk p l e R s m args below meth c D ct ad A H locs ls hE hl hn hP hD hS
  rw [zi_nat hx hlt]
  exact this
theorem z_aald12 {k n r : Nat} {x : Int} (hk : zKT k 12) (hN : zN k = n) (hx : 0 ≤ x ∧ x < (n : Int)) (hr : zR k x.toNat = r) (hd : decode cc pc = .ok (.aaload, 1)) (kk : Z own cc mL rt d F (pc + 1) lv (vR r :: st) M) : Z own cc mL rt d F pc lv (vI x :: vR k :: st) M := by
  intro p l e R s m args below meth c D ct ad A H locs ls hE hl hn hP hD hS
  subst hN
  subst hr
  have hlt := zN_lt k hk.1
  have hg := zws_get (ct := ct) (ad := ad) (M := M) hk.1
  rw [zc_12 hk.2] at hg
  refine va_aldq hE.1 hE.2.1 hE.2.2.2.2.2.1 hP k 4 hg rfl (zi_in hx hlt) hd ?_
  have := kk p l e R s m args below meth c D ct ad A H locs ls hE hl hn hP hD hS
  rw [zi_nat hx hlt]
  exact this
theorem z_iast {k n : Nat} {x v : Int} (hk : zKT k 9) (hN : zN k = n) (hx : 0 ≤ x ∧ x < (n : Int)) (hd : decode cc pc = .ok (.iastore, 1)) (kk : Z own cc mL rt d F (pc + 1) lv st (zput M k x v)) : Z own cc mL rt d F pc lv (vI v :: vI x :: vR k :: st) M := by
  intro p l e R s m args below meth c D ct ad A H locs ls hE hl hn hP hD hS
  subst hN
  have hlt := zN_lt k hk.1
  have hg := zws_get (ct := ct) (ad := ad) (M := M) hk.1
  rw [zc_9 hk.2] at hg
  refine va_iast hE.1 hE.2.1 hE.2.2.2.2.2.1 hP hD hS k 1 hg rfl (zi_in hx hlt) hd (fun H1 locs1 hP1 hD1 hS1 => ?_)
  have W1 : (zws ct ad M).set k (ad k, zcell ct ad (zput M k x v) k) = zws ct ad (zput M k x v) := zws_put rfl
  have e1 : upd (fun j : Nat => Int32.ofInt (M k (j : Int))) (Int32.ofInt x).toNatClampNeg (Int32.ofInt v) = fun j : Nat => Int32.ofInt (zput M k x v k (j : Int)) := by
    funext j
    rw [zi_nat hx hlt]
    unfold upd
    by_cases hj : j = x.toNat
    · rw [if_pos hj, hj, Int.toNat_of_nonneg hx.1, zput_eq]
    · rw [if_neg hj, zput_ne2 (by omega)]
  rw [zc_9 hk.2, ← e1] at W1
  rw [W1] at hP1 hD1
  exact kk p l e R s m args below meth c D ct ad A H1 locs1 ls hE hl hn hP1 hD1 hS1
theorem z_bast {k n : Nat} {x v : Int} (hk : zKT k 8) (hN : zN k = n) (hx : 0 ≤ x ∧ x < (n : Int)) (hv : -128 ≤ v ∧ v < 128) (hd : decode cc pc = .ok (.bastore, 1)) (kk : Z own cc mL rt d F (pc + 1) lv st (zput M k x v)) : Z own cc mL rt d F pc lv (vI v :: vI x :: vR k :: st) M := by
  intro p l e R s m args below meth c D ct ad A H locs ls hE hl hn hP hD hS
  subst hN
  have hlt := zN_lt k hk.1
  have hg := zws_get (ct := ct) (ad := ad) (M := M) hk.1
  rw [zc_8 hk.2] at hg
  refine va_bast hE.1 hE.2.1 hE.2.2.2.2.2.1 hP hD hS k 0 hg rfl (zi_in hx hlt) hd (fun H1 locs1 hP1 hD1 hS1 => ?_)
  have W1 : (zws ct ad M).set k (ad k, zcell ct ad (zput M k x v) k) = zws ct ad (zput M k x v) := zws_put rfl
  have e1 : upd (fun j : Nat => Int32.ofInt (M k (j : Int))) (Int32.ofInt x).toNatClampNeg (vp_nar .byte (Int32.ofInt v)) = fun j : Nat => Int32.ofInt (zput M k x v k (j : Int)) := by
    funext j
    rw [zi_nat hx hlt]
    unfold upd
    by_cases hj : j = x.toNat
    · rw [if_pos hj, hj, Int.toNat_of_nonneg hx.1, zput_eq]
      rw [vp_nar_byte, ← Int32.toInt_inj, zi_r (x := v) (by omega)]
      have h3 : v.bmod 256 = v := Int.bmod_eq_of_le (by omega) (by omega)
      simp [h3]
    · rw [if_neg hj, zput_ne2 (by omega)]
  rw [zc_8 hk.2, ← e1] at W1
  rw [W1] at hP1 hD1
  exact kk p l e R s m args below meth c D ct ad A H1 locs1 ls hE hl hn hP1 hD1 hS1
theorem z_last {k n : Nat} {x v : Int} (hk : zKT k 10) (hN : zN k = n) (hx : 0 ≤ x ∧ x < (n : Int)) (hd : decode cc pc = .ok (.lastore, 1)) (kk : Z own cc mL rt d F (pc + 1) lv st (zput M k x v)) : Z own cc mL rt d F pc lv (vJ v :: vI x :: vR k :: st) M := by
  intro p l e R s m args below meth c D ct ad A H locs ls hE hl hn hP hD hS
  subst hN
  have hlt := zN_lt k hk.1
  have hg := zws_get (ct := ct) (ad := ad) (M := M) hk.1
  rw [zc_10 hk.2] at hg
  refine va_last hE.1 hE.2.1 hE.2.2.2.2.2.1 hP hD hS k 2 hg rfl (zi_in hx hlt) hd (fun H1 locs1 hP1 hD1 hS1 => ?_)
  have W1 : (zws ct ad M).set k (ad k, zcell ct ad (zput M k x v) k) = zws ct ad (zput M k x v) := zws_put rfl
  have e1 : vp_updL (fun j : Nat => Int64.ofInt (M k (j : Int))) (Int32.ofInt x).toNatClampNeg (Int64.ofInt v) = fun j : Nat => Int64.ofInt (zput M k x v k (j : Int)) := by
    funext j
    rw [zi_nat hx hlt]
    unfold vp_updL
    by_cases hj : j = x.toNat
    · rw [if_pos hj, hj, Int.toNat_of_nonneg hx.1, zput_eq]
    · rw [if_neg hj, zput_ne2 (by omega)]
  rw [zc_10 hk.2, ← e1] at W1
  rw [W1] at hP1 hD1
  exact kk p l e R s m args below meth c D ct ad A H1 locs1 ls hE hl hn hP1 hD1 hS1
theorem z_alen {k n : Nat} (hk : zKT k 9) (hN : zN k = n) (hd : decode cc pc = .ok (.arraylength, 1)) (kk : Z own cc mL rt d F (pc + 1) lv (vI (n : Int) :: st) M) : Z own cc mL rt d F pc lv (vR k :: st) M := by
  intro p l e R s m args below meth c D ct ad A H locs ls hE hl hn hP hD hS
  subst hN
  have hg := zws_get (ct := ct) (ad := ad) (M := M) hk.1
  rw [zc_9 hk.2] at hg
  refine va_alen hE.1 hE.2.1 hE.2.2.2.2.2.1 hP k 1 hg rfl (v := Int32.ofInt (zN k : Int)) ?_ hd (kk p l e R s m args below meth c D ct ad A H locs ls hE hl hn hP hD hS)
  exact Int32.ofInt_eq_ofNat.symm
def zsf (i : Nat) (x : Int) : Int := zs i x.toNat
theorem z_gets0 {idx : Nat} (hw : Cond.fieldLink own idx "FuelTurns" "PLAN_LEAST" "[I" ∈ zt) (hd : decode cc pc = .ok (.getstatic idx, 3)) (kk : Z own cc mL rt d F (pc + 3) lv (vR 93 :: st) M) : Z own cc mL rt d F pc lv st M := by
  intro p l e R s m args below meth c D ct ad A H locs ls hE hl hn hP hD hS
  exact va_gets hE.1 hE.2.1 hE.2.2.2.2.2.2.1.1.1 hS hE.2.2.2.1 (hE.2.2.2.2.1 _ hw) (fun x h => h) hd (kk p l e R s m args below meth c D ct ad A H locs ls hE hl hn hP hD hS)
theorem z_sald0 {x : Int} (hx : 0 ≤ x ∧ x < 6) (hd : decode cc pc = .ok (.iaload, 1)) (kk : Z own cc mL rt d F (pc + 1) lv (vI (zsf 0 x) :: st) M) : Z own cc mL rt d F pc lv (vI x :: vR 93 :: st) M := by
  intro p l e R s m args below meth c D ct ad A H locs ls hE hl hn hP hD hS
  exact va_ti hE.1 hE.2.1 hE.2.2.2.2.2.2.1.1.2 hS (zi_in hx (by decide)) (by rw [zi_nat (n := 6) hx (by decide)]; rfl) hd (kk p l e R s m args below meth c D ct ad A H locs ls hE hl hn hP hD hS)
theorem z_gets1 {idx : Nat} (hw : Cond.fieldLink own idx "FuelTurns" "PLAN_MOST" "[I" ∈ zt) (hd : decode cc pc = .ok (.getstatic idx, 3)) (kk : Z own cc mL rt d F (pc + 3) lv (vR 94 :: st) M) : Z own cc mL rt d F pc lv st M := by
  intro p l e R s m args below meth c D ct ad A H locs ls hE hl hn hP hD hS
  exact va_gets hE.1 hE.2.1 hE.2.2.2.2.2.2.1.2.1.1 hS hE.2.2.2.1 (hE.2.2.2.2.1 _ hw) (fun x h => h) hd (kk p l e R s m args below meth c D ct ad A H locs ls hE hl hn hP hD hS)
theorem z_sald1 {x : Int} (hx : 0 ≤ x ∧ x < 6) (hd : decode cc pc = .ok (.iaload, 1)) (kk : Z own cc mL rt d F (pc + 1) lv (vI (zsf 1 x) :: st) M) : Z own cc mL rt d F pc lv (vI x :: vR 94 :: st) M := by
  intro p l e R s m args below meth c D ct ad A H locs ls hE hl hn hP hD hS
  exact va_ti hE.1 hE.2.1 hE.2.2.2.2.2.2.1.2.1.2 hS (zi_in hx (by decide)) (by rw [zi_nat (n := 6) hx (by decide)]; rfl) hd (kk p l e R s m args below meth c D ct ad A H locs ls hE hl hn hP hD hS)
theorem z_gets2 {idx : Nat} (hw : Cond.fieldLink own idx "FuelTurns$Warning" "ABOVE" "[I" ∈ zt) (hd : decode cc pc = .ok (.getstatic idx, 3)) (kk : Z own cc mL rt d F (pc + 3) lv (vR 95 :: st) M) : Z own cc mL rt d F pc lv st M := by
  intro p l e R s m args below meth c D ct ad A H locs ls hE hl hn hP hD hS
  exact va_gets hE.1 hE.2.1 hE.2.2.2.2.2.2.1.2.2.1 hS hE.2.2.2.1 (hE.2.2.2.2.1 _ hw) (fun x h => h) hd (kk p l e R s m args below meth c D ct ad A H locs ls hE hl hn hP hD hS)
theorem z_sald2 {x : Int} (hx : 0 ≤ x ∧ x < 6) (hd : decode cc pc = .ok (.iaload, 1)) (kk : Z own cc mL rt d F (pc + 1) lv (vI (zsf 2 x) :: st) M) : Z own cc mL rt d F pc lv (vI x :: vR 95 :: st) M := by
  intro p l e R s m args below meth c D ct ad A H locs ls hE hl hn hP hD hS
  exact va_ti hE.1 hE.2.1 hE.2.2.2.2.2.2.1.2.2.2 hS (zi_in hx (by decide)) (by rw [zi_nat (n := 6) hx (by decide)]; rfl) hd (kk p l e R s m args below meth c D ct ad A H locs ls hE hl hn hP hD hS)
end
