theorem mvT_hit {P : Int → Prop} [DecidablePred P] {s : Int} (h : P s) : mvT P (sgn1 s) (zabs s).toNat = s := by
  have z := zabs_cases s
  have g := sgn1_c s
  by_cases e : s = 0
  · subst e
    rfl
  · obtain ⟨n, hn⟩ : ∃ n, (zabs s).toNat = n + 1 := ⟨(zabs s).toNat - 1, by omega⟩
    have e2 : sgn1 s * ((n + 1 : Nat) : Int) = s := by
      rcases g with g | g <;> rw [g.2] <;> omega
    rw [hn, mvT, if_pos (by rw [e2]; exact h), e2]
theorem mvT_step {P : Int → Prop} [DecidablePred P] {s s2 : Int} (h : ¬ P s) (h0 : s ≠ 0) (h2 : s2 = if 0 < s then s - 1 else s + 1) : mvT P (sgn1 s2) (zabs s2).toNat = mvT P (sgn1 s) (zabs s).toNat := by
  have z := zabs_cases s
  have z2 := zabs_cases s2
  have g := sgn1_c s
  have g2 := sgn1_c s2
  obtain ⟨n, hn⟩ : ∃ n, (zabs s).toNat = n + 1 := ⟨(zabs s).toNat - 1, by omega⟩
  have e2 : sgn1 s * ((n + 1 : Nat) : Int) = s := by
    rcases g with g | g <;> rw [g.2] <;> omega
  have hn2 : (zabs s2).toNat = n := by split at h2 <;> omega
  rw [hn, mvT, if_neg (by rw [e2]; exact h), hn2]
  by_cases e : n = 0
  · rw [e]; rfl
  · have : sgn1 s2 = sgn1 s := by split at h2 <;> omega
    rw [this]
def evV (F : Int → Int) (l : List (Int × Int)) : Int := match evO F l [] with
  | some (v :: _) => v
  | _ => 0
def RuW (s : Int → Int) : Prop := (s 11 = 0) ∨ ((1 ≤ s 11 ∧ s 11 ≤ 60) ∧ okL (stS2 s) ∧ ∀ F : Int → Int, ∃ v, evO F (stS2 s) [] = some [v])
theorem RuS_of {s F : Int → Int} (h : RuW s) : RuS s F (evV F (stS2 s)) := by
  rcases h with h | ⟨h1, h2, h3⟩
  · refine Or.inl ⟨h, ?_⟩
    unfold evV stS2
    rw [h]
    rfl
  · obtain ⟨v, hv⟩ := h3 F
    refine Or.inr ⟨h1, h2, ?_⟩
    unfold evV
    rw [hv]
theorem stS2_congr {s u : Int → Int} (h11 : u 11 = s 11) (h : ∀ j : Int, 84 ≤ j → u j = s j) : stS2 u = stS2 s := by
  unfold stS2
  rw [h11]
  exact stL_congr _ (fun j a b => h _ (by omega))
theorem RuW_congr {s u : Int → Int} (hs : RuW s) (h11 : u 11 = s 11) (h : ∀ j : Int, 84 ≤ j → u j = s j) : RuW u := by
  unfold RuW
  rw [stS2_congr h11 h, h11]
  exact hs
theorem endS_far {s : Int → Int} {j : Int} (h : 10 ≤ j) : endS s j = s j := endS_ne (by omega) (by omega) (by omega)
theorem goesS_far {s : Int → Int} {m j : Int} (h : 8 ≤ j) : goesS s m j = s j := goesS_ne (by omega) (by omega)
def mvS (s : Int → Int) : Int := moveR (pS s) (s 1) (s 7) (evV (nmV (s 10).toNat (gS s) (s 0) (s 1) (s 7)) (stS2 s))
/-- days that go by, by the rule or without -/
def goS (b : Int) (s : Int → Int) : Nat → Int → Int
  | 0 => s
  | i + 1 => endS (if b = 0 then goS b s i else goesS (goS b s i) (mvS (goS b s i)))
theorem mvS_can {s : Int → Int} : canR s (mvS s) ∧ -24 ≤ mvS s ∧ mvS s ≤ 24 := by
  have h := moveR_le (p := pS s) (h := s 1) (f := s 7) (v := evV (nmV (s 10).toNat (gS s) (s 0) (s 1) (s 7)) (stS2 s))
  exact ⟨h.2, h.1⟩
theorem goS_ok {b : Int} {s : Int → Int} (h : SOK s) (hr : RuW s) : ∀ i : Nat, s 0 + i ≤ 999 → SOK (goS b s i) ∧ RuW (goS b s i) ∧ goS b s i 0 = s 0 + i
  | 0, _ => ⟨h, hr, by simp [goS]⟩
  | i + 1, hi => by
    have ih := goS_ok (b := b) h hr i (by omega)
    have h0 := h.1
    unfold goS
    by_cases e : b = 0
    · rw [if_pos e]
      refine ⟨endS_ok ih.1 (by rw [ih.2.2]; omega), RuW_congr ih.2.1 (endS_far (by decide)) (fun j hj => endS_far (by omega)), by rw [endS_0, ih.2.2]; omega⟩
    · rw [if_neg e]
      have c := mvS_can (s := goS b s i)
      have g := goesS_ok ih.1 c.1
      refine ⟨endS_ok g (by rw [goesS_ne (by decide) (by decide), ih.2.2]; omega), RuW_congr ih.2.1 (by rw [endS_far (by decide), goesS_far (by decide)]) (fun j hj => by rw [endS_far (by omega), goesS_far (by omega)]), by rw [endS_0, goesS_ne (by decide) (by decide), ih.2.2]; omega⟩
/-! lots -/
def lotS (l : Int) : Nat → Int
  | 0 => l
  | i + 1 => lotS l i * 1103515245 + 12345
abbrev hitS (dg : Nat → Int) (l : Int) (i : Nat) : Prop := zushr (lotS l i) 16 % 10000 < dg i / 100
def fhS (dg : Nat → Int) (l : Int) : Nat → Int
  | 0 => 0
  | n + 1 => if fhS dg l n ≠ 0 then fhS dg l n else if hitS dg l (n + 1) then ((n + 1 : Nat) : Int) else 0
theorem fhS_le {dg : Nat → Int} {l : Int} : ∀ n : Nat, 0 ≤ fhS dg l n ∧ fhS dg l n ≤ n
  | 0 => by simp [fhS]
  | n + 1 => by
    have := fhS_le (dg := dg) (l := l) n
    unfold fhS
    split
    · omega
    · split <;> omega
theorem fhS_st {dg : Nat → Int} {l : Int} {k : Nat} (h : fhS dg l k ≠ 0) : ∀ n : Nat, fhS dg l (k + n) = fhS dg l k
  | 0 => rfl
  | n + 1 => by
    have := fhS_st h n
    rw [← Nat.add_assoc, fhS, this, if_pos h]
theorem fhS_congr {dg dg2 : Nat → Int} {l : Int} : ∀ n : Nat, (∀ i, 1 ≤ i → i ≤ n → dg i = dg2 i) → fhS dg l n = fhS dg2 l n
  | 0, _ => rfl
  | n + 1, h => by
    rw [fhS, fhS, fhS_congr n (fun i a b => h i a (by omega))]
    unfold hitS
    rw [h (n + 1) (by omega) (Nat.le_refl _)]
def lvS (dg : Nat → Int) (l : Int) (n : Nat) : Nat → Int
  | 0 => 0
  | i + 1 => lvS dg l n i + if fhS dg (l + (i : Int)) n = 0 then 1 else 0
theorem zushr_r (x : Int) : 0 ≤ zushr x 16 ∧ zushr x 16 < 65536 := by
  have e : ((Int32.ofInt x).toUInt32 >>> ((Int32.ofInt 16).toUInt32 &&& Int32.toUInt32 31)).toInt32.toInt = ((((Int32.ofInt x).toUInt32.toNat / 65536 : Nat)) : Int) := by
    generalize (Int32.ofInt x).toUInt32 = u
    have h16 : ((Int32.ofInt 16).toUInt32 &&& Int32.toUInt32 31) = 16 := by decide
    rw [h16]
    have hu : (u >>> 16).toNat = u.toNat / 65536 := by
      rw [UInt32.toNat_shiftRight]
      show u.toNat >>> (16 % 32) = _
      rw [Nat.shiftRight_eq_div_pow]
    have hl : u.toNat < 4294967296 := u.toNat_lt
    have e2 : (u >>> 16).toInt32.toInt = (((u >>> 16).toNat : Nat) : Int) := by
      show ((u >>> 16).toBitVec).toInt = _
      rw [BitVec.toInt_eq_toNat_of_lt (by
        show 2 * (u >>> 16).toNat < 2 ^ 32
        rw [hu]
        omega)]
      rfl
    rw [e2, hu]
  have hl : (Int32.ofInt x).toUInt32.toNat < 4294967296 := (Int32.ofInt x).toUInt32.toNat_lt
  unfold zushr
  rw [e]
  omega
theorem c_X7_movesBy {M : zM} {a_ h_ f_ v_ : Int} (hn : SN (M 76)) (ha : 0 ≤ a_ ∧ a_ ≤ 1999) (hh : -12 ≤ h_ ∧ h_ ≤ 12) (hp : pOK (pS (M 76))) (hf : 0 ≤ f_ ∧ f_ ≤ 60) (hR : RuS (M 76) (nmV (M 76 10).toNat (gS (M 76)) a_ h_ f_) v_) : Call yX7_movesBy cX7_movesBy 6 (some .int) 5 [vR 75, vI a_, vI h_, vI f_] (M) (RI (moveR (pS (M 76)) h_ f_ v_) (fun N => out82 N M)) := by
  refine Call.of2 (own := RX7) (lv0 := [some (vR 75), some (vI a_), some (vI h_), some (vI f_), none, none]) rfl (by decide) rfl (Nat.le_of_ble_eq_true rfl) ?_
  have wv_ := zw_r v_
  have cl_ := clmp_le (zw v_)
  refine z_aload_0 dX7_movesBy_0 ?_
  refine z_iload_1 dX7_movesBy_1 ?_
  refine z_iload_2 dX7_movesBy_2 ?_
  refine z_iload_3 dX7_movesBy_3 ?_
  refine z_rVI yv_X7_told ml_X7_248 (c_X7_told hn ha hh hR) zk_75 rfl rfl (by decide) (Nat.le_of_ble_eq_true rfl) dX7_movesBy_4 (fun N_ hN_ => ?_)
  have n76_ : N_ 76 = M 76 := hN_ 76 (by decide) (by decide)
  refine z_wrap ?_
  refine z_istore_4 rfl dX7_movesBy_7 ?_
  have J35 : ∀ (c_ : Int), (c_ = clmp (zw v_)) → Z RX7 cX7_movesBy 6 (some .int) 5 (zQ (RI (moveR (pS (M 76)) h_ f_ v_) (fun N => out82 N M))) 35 [some (vR 75), some (vI a_), some (vI h_), some (vI f_), some (vI (zw v_)), none] [vI c_] (N_) := by
    intro c_ hc_
    refine z_istore_5 rfl dX7_movesBy_35 ?_
    have K37 : ∀ (fuel_ : Nat) (s_ : Int), zabs s_ < (fuel_ : Int) → (-24 ≤ s_ ∧ s_ ≤ 24) → (mvT (cnF (pS (M 76)) h_ f_) (sgn1 s_) (zabs s_).toNat = (moveR (pS (M 76)) h_ f_ v_)) → Z RX7 cX7_movesBy 6 (some .int) 5 (zQ (RI (moveR (pS (M 76)) h_ f_ v_) (fun N => out82 N M))) 37 [some (vR 75), some (vI a_), some (vI h_), some (vI f_), some (vI (zw v_)), some (vI s_)] [] (N_) := by
      intro fuel_
      induction fuel_ with
      | zero => intro s_ hfuel_ hs_ hr_; exfalso; have z_ := zabs_le (x := s_); omega
      | succ fuel_ ih37 =>
        intro s_ hfuel_ hs_ hr_
        have z_ := zabs_cases s_
        refine z_aload_0 dX7_movesBy_37 ?_
        refine z_iload_2 dX7_movesBy_38 ?_
        refine z_iload_3 dX7_movesBy_39 ?_
        refine z_iload_5 dX7_movesBy_40 ?_
        refine z_cVI yv_X7_can ml_X7_118 (c_X7_can (M := N_) (by rw [n76_]; exact hp) hh (by omega) (by omega)) zk_75 rfl rfl (by decide) (Nat.le_of_ble_eq_true rfl) dX7_movesBy_42 ?_
        rw [n76_]
        refine z_topI (show _ = zb (cnF (pS (M 76)) h_ f_ s_) from rfl) ?_
        refine z_ifb_ne (tgt := 66) dX7_movesBy_45 (by decide) (fun c45 => ?_) (fun c45 => ?_)
        · refine z_iload_5 dX7_movesBy_66 ?_
          exact z_iret dX7_movesBy_68 (zRI (by rw [← hr_]; exact (mvT_hit c45).symm) hN_)
        · refine z_iload_5 dX7_movesBy_48 ?_
          refine z_iload_5 dX7_movesBy_50 ?_
          refine z_if_le (tgt := 59) (by omega) dX7_movesBy_52 (by decide) (fun c52 => ?_) (fun c52 => ?_)
          · refine z_iconst dX7_movesBy_59 ?_
            refine z_iadd dX7_movesBy_60 ?_
            refine z_istore_5 rfl dX7_movesBy_61 ?_
            refine z_goto (tgt := 37) dX7_movesBy_63 (by decide) ?_
            exact ih37 _ (by have z2_ := zabs_cases (s_ + -1); have z3_ := zabs_cases (s_ + 1); have e_ : s_ ≠ 0 := (fun e_ => c45 (Or.inl e_)); omega) (by omega) (by rw [← hr_]; exact mvT_step c45 (fun e_ => c45 (Or.inl e_)) (by first | (rw [if_pos (by omega)]; omega) | (rw [if_neg (by omega)])))
          · refine z_iconst dX7_movesBy_55 ?_
            refine z_goto (tgt := 60) dX7_movesBy_56 (by decide) ?_
            refine z_iadd dX7_movesBy_60 ?_
            refine z_istore_5 rfl dX7_movesBy_61 ?_
            refine z_goto (tgt := 37) dX7_movesBy_63 (by decide) ?_
            exact ih37 _ (by have z2_ := zabs_cases (s_ + -1); have z3_ := zabs_cases (s_ + 1); have e_ : s_ ≠ 0 := (fun e_ => c45 (Or.inl e_)); omega) (by omega) (by rw [← hr_]; exact mvT_step c45 (fun e_ => c45 (Or.inl e_)) (by first | (rw [if_pos (by omega)]; omega) | (rw [if_neg (by omega)])))
    have L37 : ∀ (s_ : Int), (-24 ≤ s_ ∧ s_ ≤ 24) → (mvT (cnF (pS (M 76)) h_ f_) (sgn1 s_) (zabs s_).toNat = (moveR (pS (M 76)) h_ f_ v_)) → Z RX7 cX7_movesBy 6 (some .int) 5 (zQ (RI (moveR (pS (M 76)) h_ f_ v_) (fun N => out82 N M))) 37 [some (vR 75), some (vI a_), some (vI h_), some (vI f_), some (vI (zw v_)), some (vI s_)] [] (N_) := fun s_ hs_ hr_ => K37 ((zabs s_).toNat + 1) s_ (by omega) hs_ hr_
    exact L37 _ (by omega) (by rw [hc_]; rfl)
  refine z_iload_4 dX7_movesBy_9 ?_
  refine z_bipush dX7_movesBy_11 (by decide) ?_
  refine z_icmp_ge (tgt := 21) (by omega) (by decide) dX7_movesBy_13 (by decide) (fun c13 => ?_) (fun c13 => ?_)
  · refine z_iload_4 dX7_movesBy_21 ?_
    refine z_bipush dX7_movesBy_23 (by decide) ?_
    refine z_icmp_le (tgt := 33) (by omega) (by decide) dX7_movesBy_25 (by decide) (fun c25 => ?_) (fun c25 => ?_)
    · refine z_iload_4 dX7_movesBy_33 ?_
      exact J35 _ (by unfold clmp; symm; first | (rw [if_pos (by omega)]; done) | (rw [if_neg (by omega), if_pos (by omega)]; done) | (rw [if_neg (by omega), if_neg (by omega)]; done))
    · refine z_bipush dX7_movesBy_28 (by decide) ?_
      refine z_goto (tgt := 35) dX7_movesBy_30 (by decide) ?_
      exact J35 _ (by unfold clmp; symm; first | (rw [if_pos (by omega)]; done) | (rw [if_neg (by omega), if_pos (by omega)]; done) | (rw [if_neg (by omega), if_neg (by omega)]; done))
  · refine z_bipush dX7_movesBy_16 (by decide) ?_
    refine z_goto (tgt := 35) dX7_movesBy_18 (by decide) ?_
    exact J35 _ (by unfold clmp; symm; first | (rw [if_pos (by omega)]; done) | (rw [if_neg (by omega), if_pos (by omega)]; done) | (rw [if_neg (by omega), if_neg (by omega)]; done))

theorem c_X7_says {M : zM} {a_ : Int} (hn : SN (M 76)) (hp : pOK (pS (M 76))) (hh : -12 ≤ M 76 1 ∧ M 76 1 ≤ 12) (ht : 0 ≤ M 76 0 ∧ M 76 0 ≤ 999) (hW : RuW (M 76)) (ha : -2147483648 ≤ a_ ∧ a_ < 2147483648) : Call yX7_says cX7_says 2 (some .int) 6 [vR 75, vI a_] (M) (RI (if (0 ≤ a_ ∧ a_ ≤ 1) then (if a_ = 0 then (evV (nmV (M 76 10).toNat (gS (M 76)) (M 76 0) (M 76 1) (M 76 7)) (stS2 (M 76))) else mvS (M 76)) else -1000000001) (fun N => out82 N (if (0 ≤ a_ ∧ a_ ≤ 1) then M else fnd7 M 0))) := by
  refine Call.of2 (own := RX7) (lv0 := [some (vR 75), some (vI a_)]) rfl (by decide) rfl (Nat.le_of_ble_eq_true rfl) ?_
  obtain ⟨⟨p00, p01⟩, ⟨p10, p11⟩, ⟨p20, p21⟩, ⟨p30, p31⟩, ⟨p40, p41⟩, ⟨p50, p51⟩⟩ := pOK_s hp
  refine z_iload_1 dX7_says_0 ?_
  refine z_i2l (by omega) dX7_says_1 ?_
  refine z_lconst0 dX7_says_2 ?_
  refine z_lconst1 dX7_says_3 ?_
  refine z_cSI ys_X7_in ml_X7_85 (c_X7_in (by omega) (by decide) (by decide)) rfl rfl (by decide) (Nat.le_of_ble_eq_true rfl) dX7_says_4 ?_
  refine z_ifb_ne (tgt := 16) dX7_says_7 (by decide) (fun c7 => ?_) (fun c7 => ?_)
  · refine z_iload_1 dX7_says_16 ?_
    refine z_if_ne (tgt := 39) (by omega) dX7_says_17 (by decide) (fun c17 => ?_) (fun c17 => ?_)
    · refine z_aload_0 dX7_says_39 ?_
      refine z_aload_0 dX7_says_40 ?_
      refine z_cVI yv_X7_today ml_X7_129 c_X7_today zk_75 rfl rfl (by decide) (Nat.le_of_ble_eq_true rfl) dX7_says_41 ?_
      refine z_aload_0 dX7_says_44 ?_
      refine z_cVI yv_X7_height ml_X7_111 c_X7_height zk_75 rfl rfl (by decide) (Nat.le_of_ble_eq_true rfl) dX7_says_45 ?_
      refine z_aload_0 dX7_says_48 ?_
      refine z_cVI yv_X7_fuel ml_X7_115 c_X7_fuel zk_75 rfl rfl (by decide) (Nat.le_of_ble_eq_true rfl) dX7_says_49 ?_
      refine z_rVI yv_X7_movesBy ml_X7_136 (c_X7_movesBy hn (by omega) hh hp (by omega) (RuS_of hW)) zk_75 rfl rfl (by decide) (Nat.le_of_ble_eq_true rfl) dX7_says_52 (fun N_ hN_ => ?_)
      refine z_topI (show _ = mvS (M 76) from rfl) ?_
      exact z_iret dX7_says_55 (zRI (by rw [if_pos (by omega)]; first | (rw [if_pos (by omega)]; done) | (rw [if_neg (by omega)]; done)) (by rw [if_pos (by omega)]; exact hN_))
    · refine z_aload_0 dX7_says_20 ?_
      refine z_aload_0 dX7_says_21 ?_
      refine z_cVI yv_X7_today ml_X7_129 c_X7_today zk_75 rfl rfl (by decide) (Nat.le_of_ble_eq_true rfl) dX7_says_22 ?_
      refine z_aload_0 dX7_says_25 ?_
      refine z_cVI yv_X7_height ml_X7_111 c_X7_height zk_75 rfl rfl (by decide) (Nat.le_of_ble_eq_true rfl) dX7_says_26 ?_
      refine z_aload_0 dX7_says_29 ?_
      refine z_cVI yv_X7_fuel ml_X7_115 c_X7_fuel zk_75 rfl rfl (by decide) (Nat.le_of_ble_eq_true rfl) dX7_says_30 ?_
      refine z_rVI yv_X7_told ml_X7_248 (c_X7_told hn (by omega) hh (RuS_of hW)) zk_75 rfl rfl (by decide) (Nat.le_of_ble_eq_true rfl) dX7_says_33 (fun N_ hN_ => ?_)
      refine z_goto (tgt := 55) dX7_says_36 (by decide) ?_
      exact z_iret dX7_says_55 (zRI (by rw [if_pos (by omega)]; first | (rw [if_pos (by omega)]; done) | (rw [if_neg (by omega)]; done)) (by rw [if_pos (by omega)]; exact hN_))
  · refine z_aload_0 dX7_says_10 ?_
    refine z_iconst dX7_says_11 ?_
    refine z_cVI yv_X7_finding ml_X7_93 (c_X7_finding (by omega)) zk_75 rfl rfl (by decide) (Nat.le_of_ble_eq_true rfl) dX7_says_12 ?_
    exact z_iret dX7_says_15 (zRI (by rw [if_neg (by omega)] <;> rfl) (by rw [if_neg (by omega)]; exact fun _ _ _ => rfl))

theorem c_X7_go {M : zM} {n_ b_ : Int} (hO : SOK (M 76)) (ht9 : M 76 0 ≤ 999) (hW : RuW (M 76)) (hb : b_ = 0 ∨ b_ = 1) (hn : -2147483648 ≤ n_ ∧ n_ < 2147483648) : Call yX7_go cX7_go 4 (some .int) 6 [vR 75, vI n_, vI b_] (M) (RI (if ¬ (1 ≤ n_ ∧ n_ ≤ 100) then -1000000001 else if 999 < M 76 0 + n_ then -1000000005 else M 76 0 + n_) (fun N => out82 N (if ¬ (1 ≤ n_ ∧ n_ ≤ 100) then fnd7 M 0 else if 999 < M 76 0 + n_ then fnd7 M 4 else zrow M 76 (goS b_ (M 76) n_.toNat)))) := by
  refine Call.of2 (own := RX7) (lv0 := [some (vR 75), some (vI n_), some (vI b_), none]) rfl (by decide) rfl (Nat.le_of_ble_eq_true rfl) ?_
  have hO0_ := hO.1
  refine z_iload_1 dX7_go_0 ?_
  refine z_i2l (by omega) dX7_go_1 ?_
  refine z_lconst1 dX7_go_2 ?_
  refine z_ldc2 (n := 100) kl_X7_62 (by decide) dX7_go_3 ?_
  refine z_cSI ys_X7_in ml_X7_85 (c_X7_in (by omega) (by decide) (by decide)) rfl rfl (by decide) (Nat.le_of_ble_eq_true rfl) dX7_go_6 ?_
  refine z_ifb_ne (tgt := 18) dX7_go_9 (by decide) (fun c9 => ?_) (fun c9 => ?_)
  · refine z_aload_0 dX7_go_18 ?_
    refine z_getR (r := 76) fl_X7_7 zk_75 rfl rfl dX7_go_19 ?_
    refine z_iconst dX7_go_22 ?_
    refine z_lald (n := 214) zk_76 rfl (by omega) dX7_go_23 ?_
    refine z_iload_1 dX7_go_24 ?_
    refine z_i2l (by omega) dX7_go_25 ?_
    refine z_ladd dX7_go_26 ?_
    refine z_ldc2 (n := 999) kl_X7_77 (by decide) dX7_go_27 ?_
    refine z_lcmp_le (tgt := 40) (by omega) (by decide) dX7_go_30 dX7_go_31 (by decide) (fun c30 => ?_) (fun c30 => ?_)
    · refine z_iconst dX7_go_40 ?_
      refine z_istore_3 rfl dX7_go_41 ?_
      have K42 : ∀ (fuel_ : Nat) (i_ : Int) (u_ : Int → Int) (N_ : zM), n_ - i_ < (fuel_ : Int) → (0 ≤ i_ ∧ i_ ≤ n_) → (u_ = (goS b_ (M 76) i_.toNat)) → (out82 N_ (zrow M 76 u_)) → Z RX7 cX7_go 4 (some .int) 6 (zQ (RI (if ¬ (1 ≤ n_ ∧ n_ ≤ 100) then -1000000001 else if 999 < M 76 0 + n_ then -1000000005 else M 76 0 + n_) (fun N => out82 N (if ¬ (1 ≤ n_ ∧ n_ ≤ 100) then fnd7 M 0 else if 999 < M 76 0 + n_ then fnd7 M 4 else zrow M 76 (goS b_ (M 76) n_.toNat))))) 42 [some (vR 75), some (vI n_), some (vI b_), some (vI i_)] [] (N_) := by
        intro fuel_
        induction fuel_ with
        | zero => intro i_ u_ N_ hfuel_ hi_ hu_ hN_; exfalso; omega
        | succ fuel_ ih42 =>
          intro i_ u_ N_ hfuel_ hi_ hu_ hN_
          have hgo_ := goS_ok (b := b_) hO hW i_.toNat (by omega)
          rw [← hu_] at hgo_
          obtain ⟨hok_, hrw_, h0_⟩ := hgo_
          obtain ⟨⟨y0_, y1_⟩, ⟨y2_, y3_⟩, hn2_, hp2_⟩ := id hok_
          have p2_ := pOK_s hp2_
          have n76_ : N_ 76 = u_ := by rw [hN_ 76 (by decide) (by decide), zrow_eq]
          refine z_iload_3 dX7_go_42 ?_
          refine z_iload_1 dX7_go_43 ?_
          refine z_icmp_ge (tgt := 81) (by omega) (by omega) dX7_go_44 (by decide) (fun c44 => ?_) (fun c44 => ?_)
          · refine z_aload_0 dX7_go_81 ?_
            refine z_cVI yv_X7_today ml_X7_129 c_X7_today zk_75 rfl rfl (by decide) (Nat.le_of_ble_eq_true rfl) dX7_go_82 ?_
            rw [n76_]
            exact z_iret dX7_go_85 (zRI (by rw [if_neg (by omega), if_neg (by omega), h0_]; omega) (by rw [if_neg (by omega), if_neg (by omega), show n_ = i_ by omega, ← hu_]; exact hN_))
          · refine z_iload_2 dX7_go_47 ?_
            refine z_if_eq (tgt := 71) (by omega) dX7_go_48 (by decide) (fun c48 => ?_) (fun c48 => ?_)
            · refine z_mem (show N_ = zrow N_ 76 u_ by rw [← n76_, zrow_self]) ?_
              refine z_aload_0 dX7_go_71 ?_
              refine z_cVN yv_X7_ends ml_X7_140 (c_X7_endsR (M := N_) hok_) zk_75 rfl rfl (by decide) (Nat.le_of_ble_eq_true rfl) dX7_go_72 ?_
              refine z_iinc_3 rfl dX7_go_75 ?_
              refine z_goto (tgt := 42) dX7_go_78 (by decide) ?_
              exact ih42 _ (endS u_) _ (by omega) (by omega) (by rw [nat_1 hi_.1, goS, ← hu_]; first | (rw [if_neg (by omega)]; done) | (rw [if_pos (by omega)]; done)) (by first | (intro k2_ h1_ h2_; by_cases e_ : k2_ = 76; (rw [e_, zrow_eq, zrow_eq]); (rw [zrow_ne e_, zrow_ne e_, hP_ k2_ h1_ h2_, hN_ k2_ h1_ h2_, zrow_ne e_])) | (intro k2_ h1_ h2_; by_cases e_ : k2_ = 76; (rw [e_, zrow_eq, zrow_eq]); (rw [zrow_ne e_, zrow_ne e_, hN_ k2_ h1_ h2_, zrow_ne e_])))
            · refine z_aload_0 dX7_go_51 ?_
              refine z_aload_0 dX7_go_52 ?_
              refine z_aload_0 dX7_go_53 ?_
              refine z_cVI yv_X7_today ml_X7_129 c_X7_today zk_75 rfl rfl (by decide) (Nat.le_of_ble_eq_true rfl) dX7_go_54 ?_
              rw [n76_]
              refine z_aload_0 dX7_go_57 ?_
              refine z_cVI yv_X7_height ml_X7_111 c_X7_height zk_75 rfl rfl (by decide) (Nat.le_of_ble_eq_true rfl) dX7_go_58 ?_
              rw [n76_]
              refine z_aload_0 dX7_go_61 ?_
              refine z_cVI yv_X7_fuel ml_X7_115 c_X7_fuel zk_75 rfl rfl (by decide) (Nat.le_of_ble_eq_true rfl) dX7_go_62 ?_
              rw [n76_]
              refine z_rVI yv_X7_movesBy ml_X7_136 (c_X7_movesBy (M := N_) (by rw [n76_]; exact hn2_) (by omega) (by omega) (by rw [n76_]; exact hp2_) (by omega) (by rw [n76_]; exact RuS_of hrw_)) zk_75 rfl rfl (by decide) (Nat.le_of_ble_eq_true rfl) dX7_go_65 (fun P_ hP_ => ?_)
              rw [n76_]
              refine z_topI (show _ = mvS u_ from rfl) ?_
              have hm_ := mvS_can (s := u_)
              have p76_ : P_ 76 = u_ := by rw [hP_ 76 (by decide) (by decide), n76_]
              refine z_mem (show P_ = zrow P_ 76 u_ by rw [← p76_, zrow_self]) ?_
              refine z_cVN yv_X7_goes ml_X7_122 (c_X7_goesR (M := P_) (u := u_) hm_.2) zk_75 rfl rfl (by decide) (Nat.le_of_ble_eq_true rfl) dX7_go_68 ?_
              refine z_aload_0 dX7_go_71 ?_
              refine z_cVN yv_X7_ends ml_X7_140 (c_X7_endsR (M := P_) (goesS_ok hok_ hm_.1)) zk_75 rfl rfl (by decide) (Nat.le_of_ble_eq_true rfl) dX7_go_72 ?_
              refine z_iinc_3 rfl dX7_go_75 ?_
              refine z_goto (tgt := 42) dX7_go_78 (by decide) ?_
              exact ih42 _ (endS (goesS u_ (mvS u_))) _ (by omega) (by omega) (by rw [nat_1 hi_.1, goS, ← hu_]; first | (rw [if_neg (by omega)]; done) | (rw [if_pos (by omega)]; done)) (by first | (intro k2_ h1_ h2_; by_cases e_ : k2_ = 76; (rw [e_, zrow_eq, zrow_eq]); (rw [zrow_ne e_, zrow_ne e_, hP_ k2_ h1_ h2_, hN_ k2_ h1_ h2_, zrow_ne e_])) | (intro k2_ h1_ h2_; by_cases e_ : k2_ = 76; (rw [e_, zrow_eq, zrow_eq]); (rw [zrow_ne e_, zrow_ne e_, hN_ k2_ h1_ h2_, zrow_ne e_])))
      have L42 : ∀ (i_ : Int) (u_ : Int → Int) (N_ : zM), (0 ≤ i_ ∧ i_ ≤ n_) → (u_ = (goS b_ (M 76) i_.toNat)) → (out82 N_ (zrow M 76 u_)) → Z RX7 cX7_go 4 (some .int) 6 (zQ (RI (if ¬ (1 ≤ n_ ∧ n_ ≤ 100) then -1000000001 else if 999 < M 76 0 + n_ then -1000000005 else M 76 0 + n_) (fun N => out82 N (if ¬ (1 ≤ n_ ∧ n_ ≤ 100) then fnd7 M 0 else if 999 < M 76 0 + n_ then fnd7 M 4 else zrow M 76 (goS b_ (M 76) n_.toNat))))) 42 [some (vR 75), some (vI n_), some (vI b_), some (vI i_)] [] (N_) := fun i_ u_ N_ hi_ hu_ hN_ => K42 ((n_ - i_).toNat + 1) i_ u_ N_ (by omega) hi_ hu_ hN_
      exact L42 _ (M 76) _ (by omega) (by rfl) (by intro k2_ h1_ h2_; rw [zrow_self])
    · refine z_aload_0 dX7_go_34 ?_
      refine z_iconst dX7_go_35 ?_
      refine z_cVI yv_X7_finding ml_X7_93 (c_X7_finding (by omega)) zk_75 rfl rfl (by decide) (Nat.le_of_ble_eq_true rfl) dX7_go_36 ?_
      exact z_iret dX7_go_39 (zRI (by rw [if_neg (by omega), if_pos (by omega)] <;> rfl) (by rw [if_neg (by omega), if_pos (by omega)]; exact fun _ _ _ => rfl))
  · refine z_aload_0 dX7_go_12 ?_
    refine z_iconst dX7_go_13 ?_
    refine z_cVI yv_X7_finding ml_X7_93 (c_X7_finding (by omega)) zk_75 rfl rfl (by decide) (Nat.le_of_ble_eq_true rfl) dX7_go_14 ?_
    exact z_iret dX7_go_17 (zRI (by rw [if_pos (by omega)] <;> rfl) (by rw [if_pos (by omega)]; exact fun _ _ _ => rfl))

theorem c_X7_days {M : zM} {n_ : Int} (hO : SOK (M 76)) (ht9 : M 76 0 ≤ 999) (hW : RuW (M 76)) (hn : -2147483648 ≤ n_ ∧ n_ < 2147483648) : Call yX7_days cX7_days 2 (some .int) 7 [vR 75, vI n_] (M) (RI (if ¬ (1 ≤ n_ ∧ n_ ≤ 100) then -1000000001 else if 999 < M 76 0 + n_ then -1000000005 else M 76 0 + n_) (fun N => out82 N (if ¬ (1 ≤ n_ ∧ n_ ≤ 100) then fnd7 M 0 else if 999 < M 76 0 + n_ then fnd7 M 4 else zrow M 76 (goS 0 (M 76) n_.toNat)))) := by
  refine Call.of2 (own := RX7) (lv0 := [some (vR 75), some (vI n_)]) rfl (by decide) rfl (Nat.le_of_ble_eq_true rfl) ?_
  refine z_aload_0 dX7_days_0 ?_
  refine z_iload_1 dX7_days_1 ?_
  refine z_iconst dX7_days_2 ?_
  refine z_rVI yv_X7_go ml_X7_143 (c_X7_go (b_ := 0) hO ht9 hW (by decide) hn) zk_75 rfl rfl (by decide) (Nat.le_of_ble_eq_true rfl) dX7_days_3 (fun N_ hN_ => ?_)
  exact z_iret dX7_days_6 (zRI rfl hN_)

theorem c_X7_runs {M : zM} {n_ : Int} (hO : SOK (M 76)) (ht9 : M 76 0 ≤ 999) (hW : RuW (M 76)) (hn : -2147483648 ≤ n_ ∧ n_ < 2147483648) : Call yX7_runs cX7_runs 2 (some .int) 7 [vR 75, vI n_] (M) (RI (if ¬ (1 ≤ n_ ∧ n_ ≤ 100) then -1000000001 else if 999 < M 76 0 + n_ then -1000000005 else M 76 0 + n_) (fun N => out82 N (if ¬ (1 ≤ n_ ∧ n_ ≤ 100) then fnd7 M 0 else if 999 < M 76 0 + n_ then fnd7 M 4 else zrow M 76 (goS 1 (M 76) n_.toNat)))) := by
  refine Call.of2 (own := RX7) (lv0 := [some (vR 75), some (vI n_)]) rfl (by decide) rfl (Nat.le_of_ble_eq_true rfl) ?_
  refine z_aload_0 dX7_runs_0 ?_
  refine z_iload_1 dX7_runs_1 ?_
  refine z_iconst dX7_runs_2 ?_
  refine z_rVI yv_X7_go ml_X7_143 (c_X7_go (b_ := 1) hO ht9 hW (by decide) hn) zk_75 rfl rfl (by decide) (Nat.le_of_ble_eq_true rfl) dX7_runs_3 (fun N_ hN_ => ?_)
  exact z_iret dX7_runs_6 (zRI rfl hN_)
