theorem zac_s : Cond.static arraycopyName ∈ zt := zt_of (lw_tb (i := 530) (by decide +kernel)) rfl
theorem zac_n : Cond.native arraycopyName ∈ zt := zt_of (lw_tb (i := 531) (by decide +kernel)) rfl
theorem zac_i : Cond.initialized "java/lang/System" ∈ zt := zt_of (lw_tb (i := 10) (by decide +kernel)) rfl
theorem zac_w : nativeFrameWords "java/lang/System" "arraycopy" 5 ≤ 100 := by decide +kernel
theorem ml_X6_187 : Cond.methodLink RX6 187 arraycopyName ∈ zt := zt_of (lw_tb (i := 529) (by decide +kernel)) rfl
theorem ml_X5_47 : Cond.methodLink RX5 47 arraycopyName ∈ zt := zt_of (lw_tb (i := 619) (by decide +kernel)) rfl
def zcopy (f g : Int → Int) (a b n : Int) : Int → Int := fun j => if b ≤ j ∧ j < b + n then f (a + (j - b)) else g j
section
variable {own : String} {cc : ByteArray} {mL : Nat} {rt : Option FieldType} {d : Nat} {F : zF} {pc : Nat} {lv lv2 : List (Option zV)} {st : List zV} {M : zM}
theorem z_acopyI {k1 k2 n1 n2 idx : Nat} {a b n : Int} (hlk : Cond.methodLink own idx arraycopyName ∈ zt) (h1 : 3 ≤ d) (hw : (st.map zcat).sum ≤ 8) (hk1 : zKT k1 9) (hk2 : zKT k2 9) (hN1 : zN k1 = n1) (hN2 : zN k2 = n2) (ha : 0 ≤ a) (hb : 0 ≤ b) (hn : 0 ≤ n) (h4 : a + n ≤ (n1 : Int)) (h5 : b + n ≤ (n2 : Int)) (hd : decode cc pc = .ok (.invokestatic idx, 3)) (kk : Z own cc mL rt d F (pc + 3) lv st (zrow M k2 (zcopy (M k1) (M k2) a b n))) : Z own cc mL rt d F pc lv (vI n :: vI b :: vR k2 :: vI a :: vR k1 :: st) M := by
  intro p l e R s m args below meth c D ct ad A H locs ls hE hl hn0 hP hD hS
  subst hN1
  subst hN2
  have h6 := zN_lt k1 hk1.1
  have h7 := zN_lt k2 hk2.1
  have hts := hE.2.2.2.2.1
  have hR := hE.2.2.2.2.2.2.2.1
  have g1 := zws_get (ct := ct) (ad := ad) (M := M) hk1.1
  have g2 := zws_get (ct := ct) (ad := ad) (M := M) hk2.1
  rw [zc_9 hk1.2] at g1
  rw [zc_9 hk2.2] at g2
  have ea : (Int32.ofInt a).toNatClampNeg = a.toNat := Int32.toNatClampNeg_ofInt_of_le (by omega) (by omega)
  have eb : (Int32.ofInt b).toNatClampNeg = b.toNat := Int32.toNatClampNeg_ofInt_of_le (by omega) (by omega)
  have en : (Int32.ofInt n).toNatClampNeg = n.toNat := Int32.toNatClampNeg_ofInt_of_le (by omega) (by omega)
  have neg : ∀ x : Int, 0 ≤ x → x < 2147483648 → ¬ Int32.ofInt x < 0 := fun x h0 h1 q => by
    have := (zi_lt (x := x) (y := 0) (by omega) (by decide)).mp q
    omega
  refine va_copyi hE.1 hE.2.1 (hE.2.2.1.trans hl.1.symm) hE.2.2.2.1 (hts _ hlk) (hts _ zac_n) (hts _ zac_s) (hts _ zac_i) hE.2.2.2.2.2.1 hP hD hS k1 k2 1 1 g1 g2 rfl rfl rfl (neg a ha (by omega)) (neg b hb (by omega)) (neg n hn (by omega)) (by rw [ea, en]; omega) (by rw [eb, en]; omega) (fun i hi => rfl) (Nat.le_trans (by omega) hR.1) (by rw [zcat_sum]; have := hR.2.1; have := zac_w; omega) hd (fun H1 locs1 hP1 hD1 hS1 => ?_)
  have W1 : (zws ct ad M).set k2 (ad k2, zcell ct ad (zrow M k2 (zcopy (M k1) (M k2) a b n)) k2) = zws ct ad (zrow M k2 (zcopy (M k1) (M k2) a b n)) := zws_set (fun x hx => by simp [zrow, hx])
  have e1 : va_cpy (fun j : Nat => Int32.ofInt (M k1 (j : Int))) (fun j : Nat => Int32.ofInt (M k2 (j : Int))) (Int32.ofInt a).toNatClampNeg (Int32.ofInt b).toNatClampNeg (Int32.ofInt n).toNatClampNeg = fun j : Nat => Int32.ofInt (zrow M k2 (zcopy (M k1) (M k2) a b n) k2 (j : Int)) := by
    funext j
    rw [ea, eb, en]
    have e2 : zrow M k2 (zcopy (M k1) (M k2) a b n) k2 = zcopy (M k1) (M k2) a b n := by unfold zrow; rw [if_pos rfl]
    rw [e2]
    unfold va_cpy zcopy
    by_cases hj : b ≤ (j : Int) ∧ (j : Int) < b + n
    · rw [if_pos hj, if_pos (by omega)]
      show Int32.ofInt (M k1 ((a.toNat + (j - b.toNat) : Nat) : Int)) = _
      rw [show ((a.toNat + (j - b.toNat) : Nat) : Int) = a + ((j : Int) - b) by omega]
    · rw [if_neg hj, if_neg (by omega)]
  rw [zc_9 hk2.2, ← e1] at W1
  rw [W1] at hP1 hD1
  exact kk p l e R s m args below meth c D ct ad A H1 locs1 ls hE hl hn0 hP1 hD1 hS1
theorem z_acopyB {k1 k2 n1 n2 idx : Nat} {a b n : Int} (hlk : Cond.methodLink own idx arraycopyName ∈ zt) (h1 : 3 ≤ d) (hw : (st.map zcat).sum ≤ 8) (hk1 : zKT k1 8) (hk2 : zKT k2 8) (hN1 : zN k1 = n1) (hN2 : zN k2 = n2) (ha : 0 ≤ a) (hb : 0 ≤ b) (hn : 0 ≤ n) (h4 : a + n ≤ (n1 : Int)) (h5 : b + n ≤ (n2 : Int)) (hby : ∀ j : Int, a ≤ j → j < a + n → -128 ≤ M k1 j ∧ M k1 j < 128) (hd : decode cc pc = .ok (.invokestatic idx, 3)) (kk : Z own cc mL rt d F (pc + 3) lv st (zrow M k2 (zcopy (M k1) (M k2) a b n))) : Z own cc mL rt d F pc lv (vI n :: vI b :: vR k2 :: vI a :: vR k1 :: st) M := by
  intro p l e R s m args below meth c D ct ad A H locs ls hE hl hn0 hP hD hS
  subst hN1
  subst hN2
  have h6 := zN_lt k1 hk1.1
  have h7 := zN_lt k2 hk2.1
  have hts := hE.2.2.2.2.1
  have hR := hE.2.2.2.2.2.2.2.1
  have g1 := zws_get (ct := ct) (ad := ad) (M := M) hk1.1
  have g2 := zws_get (ct := ct) (ad := ad) (M := M) hk2.1
  rw [zc_8 hk1.2] at g1
  rw [zc_8 hk2.2] at g2
  have ea : (Int32.ofInt a).toNatClampNeg = a.toNat := Int32.toNatClampNeg_ofInt_of_le (by omega) (by omega)
  have eb : (Int32.ofInt b).toNatClampNeg = b.toNat := Int32.toNatClampNeg_ofInt_of_le (by omega) (by omega)
  have en : (Int32.ofInt n).toNatClampNeg = n.toNat := Int32.toNatClampNeg_ofInt_of_le (by omega) (by omega)
  have neg : ∀ x : Int, 0 ≤ x → x < 2147483648 → ¬ Int32.ofInt x < 0 := fun x h0 h1 q => by
    have := (zi_lt (x := x) (y := 0) (by omega) (by decide)).mp q
    omega
  refine va_copyi hE.1 hE.2.1 (hE.2.2.1.trans hl.1.symm) hE.2.2.2.1 (hts _ hlk) (hts _ zac_n) (hts _ zac_s) (hts _ zac_i) hE.2.2.2.2.2.1 hP hD hS k1 k2 0 0 g1 g2 rfl rfl rfl (neg a ha (by omega)) (neg b hb (by omega)) (neg n hn (by omega)) (by rw [ea, en]; omega) (by rw [eb, en]; omega) (fun i hi => by
      rw [en] at hi
      rw [ea]
      have hx := hby ((a.toNat + i : Nat) : Int) (by omega) (by omega)
      show fits .byte (.int (Int32.ofInt (M k1 ((a.toNat + i : Nat) : Int)))) = true
      generalize M k1 ((a.toNat + i : Nat) : Int) = x at hx ⊢
      have e : Int32.ofInt x = (Int32.ofInt x).toInt8.toInt32 := by
        rw [← Int32.toInt_inj, zi_r (by omega)]
        have h3 : x.bmod 256 = x := Int.bmod_eq_of_le (by omega) (by omega)
        simp [h3]
      rw [e]
      exact pk_fb _) (Nat.le_trans (by omega) hR.1) (by rw [zcat_sum]; have := hR.2.1; have := zac_w; omega) hd (fun H1 locs1 hP1 hD1 hS1 => ?_)
  have W1 : (zws ct ad M).set k2 (ad k2, zcell ct ad (zrow M k2 (zcopy (M k1) (M k2) a b n)) k2) = zws ct ad (zrow M k2 (zcopy (M k1) (M k2) a b n)) := zws_set (fun x hx => by simp [zrow, hx])
  have e1 : va_cpy (fun j : Nat => Int32.ofInt (M k1 (j : Int))) (fun j : Nat => Int32.ofInt (M k2 (j : Int))) (Int32.ofInt a).toNatClampNeg (Int32.ofInt b).toNatClampNeg (Int32.ofInt n).toNatClampNeg = fun j : Nat => Int32.ofInt (zrow M k2 (zcopy (M k1) (M k2) a b n) k2 (j : Int)) := by
    funext j
    rw [ea, eb, en]
    have e2 : zrow M k2 (zcopy (M k1) (M k2) a b n) k2 = zcopy (M k1) (M k2) a b n := by unfold zrow; rw [if_pos rfl]
    rw [e2]
    unfold va_cpy zcopy
    by_cases hj : b ≤ (j : Int) ∧ (j : Int) < b + n
    · rw [if_pos hj, if_pos (by omega)]
      show Int32.ofInt (M k1 ((a.toNat + (j - b.toNat) : Nat) : Int)) = _
      rw [show ((a.toNat + (j - b.toNat) : Nat) : Int) = a + ((j : Int) - b) by omega]
    · rw [if_neg hj, if_neg (by omega)]
  rw [zc_8 hk2.2, ← e1] at W1
  rw [W1] at hP1 hD1
  exact kk p l e R s m args below meth c D ct ad A H1 locs1 ls hE hl hn0 hP1 hD1 hS1
theorem z_acopyJ {k1 k2 n1 n2 idx : Nat} {a b n : Int} (hlk : Cond.methodLink own idx arraycopyName ∈ zt) (h1 : 3 ≤ d) (hw : (st.map zcat).sum ≤ 8) (hk1 : zKT k1 10) (hk2 : zKT k2 10) (hN1 : zN k1 = n1) (hN2 : zN k2 = n2) (ha : 0 ≤ a) (hb : 0 ≤ b) (hn : 0 ≤ n) (h4 : a + n ≤ (n1 : Int)) (h5 : b + n ≤ (n2 : Int)) (hd : decode cc pc = .ok (.invokestatic idx, 3)) (kk : Z own cc mL rt d F (pc + 3) lv st (zrow M k2 (zcopy (M k1) (M k2) a b n))) : Z own cc mL rt d F pc lv (vI n :: vI b :: vR k2 :: vI a :: vR k1 :: st) M := by
  intro p l e R s m args below meth c D ct ad A H locs ls hE hl hn0 hP hD hS
  subst hN1
  subst hN2
  have h6 := zN_lt k1 hk1.1
  have h7 := zN_lt k2 hk2.1
  have hts := hE.2.2.2.2.1
  have hR := hE.2.2.2.2.2.2.2.1
  have g1 := zws_get (ct := ct) (ad := ad) (M := M) hk1.1
  have g2 := zws_get (ct := ct) (ad := ad) (M := M) hk2.1
  rw [zc_10 hk1.2] at g1
  rw [zc_10 hk2.2] at g2
  have ea : (Int32.ofInt a).toNatClampNeg = a.toNat := Int32.toNatClampNeg_ofInt_of_le (by omega) (by omega)
  have eb : (Int32.ofInt b).toNatClampNeg = b.toNat := Int32.toNatClampNeg_ofInt_of_le (by omega) (by omega)
  have en : (Int32.ofInt n).toNatClampNeg = n.toNat := Int32.toNatClampNeg_ofInt_of_le (by omega) (by omega)
  have neg : ∀ x : Int, 0 ≤ x → x < 2147483648 → ¬ Int32.ofInt x < 0 := fun x h0 h1 q => by
    have := (zi_lt (x := x) (y := 0) (by omega) (by decide)).mp q
    omega
  refine va_copyl hE.1 hE.2.1 (hE.2.2.1.trans hl.1.symm) hE.2.2.2.1 (hts _ hlk) (hts _ zac_n) (hts _ zac_s) (hts _ zac_i) hE.2.2.2.2.2.1 hP hD hS k1 k2 2 2 g1 g2 rfl rfl rfl (neg a ha (by omega)) (neg b hb (by omega)) (neg n hn (by omega)) (by rw [ea, en]; omega) (by rw [eb, en]; omega) (fun i hi => rfl) (Nat.le_trans (by omega) hR.1) (by rw [zcat_sum]; have := hR.2.1; have := zac_w; omega) hd (fun H1 locs1 hP1 hD1 hS1 => ?_)
  have W1 : (zws ct ad M).set k2 (ad k2, zcell ct ad (zrow M k2 (zcopy (M k1) (M k2) a b n)) k2) = zws ct ad (zrow M k2 (zcopy (M k1) (M k2) a b n)) := zws_set (fun x hx => by simp [zrow, hx])
  have e1 : va_cpy (fun j : Nat => Int64.ofInt (M k1 (j : Int))) (fun j : Nat => Int64.ofInt (M k2 (j : Int))) (Int32.ofInt a).toNatClampNeg (Int32.ofInt b).toNatClampNeg (Int32.ofInt n).toNatClampNeg = fun j : Nat => Int64.ofInt (zrow M k2 (zcopy (M k1) (M k2) a b n) k2 (j : Int)) := by
    funext j
    rw [ea, eb, en]
    have e2 : zrow M k2 (zcopy (M k1) (M k2) a b n) k2 = zcopy (M k1) (M k2) a b n := by unfold zrow; rw [if_pos rfl]
    rw [e2]
    unfold va_cpy zcopy
    by_cases hj : b ≤ (j : Int) ∧ (j : Int) < b + n
    · rw [if_pos hj, if_pos (by omega)]
      show Int64.ofInt (M k1 ((a.toNat + (j - b.toNat) : Nat) : Int)) = _
      rw [show ((a.toNat + (j - b.toNat) : Nat) : Int) = a + ((j : Int) - b) by omega]
    · rw [if_neg hj, if_neg (by omega)]
  rw [zc_10 hk2.2, ← e1] at W1
  rw [W1] at hP1 hD1
  exact kk p l e R s m args below meth c D ct ad A H1 locs1 ls hE hl hn0 hP1 hD1 hS1
end
