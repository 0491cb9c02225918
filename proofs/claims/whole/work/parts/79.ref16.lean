def nmV (nW : Nat) (g : Nat → Int → Int) (day h fuel : Int) (i : Int) : Int := if i = 0 then danger nW g (day + 1) h else if i = 1 then (if nextC g day nW < 0 then 999 else nextC g day nW - day) else if i = 2 then fuel else if i = 3 then h else if i = 4 then openC g day nW else day
def RuS (s F : Int → Int) (v : Int) : Prop := (s 11 = 0 ∧ v = 0) ∨ ((1 ≤ s 11 ∧ s 11 ≤ 60) ∧ okL (stS2 s) ∧ evO F (stS2 s) [] = some [v])
def out82 (N M : zM) : Prop := ∀ k : Nat, k ≠ 81 → k ≠ 82 → N k = M k
def PlR (r : Int → Int) : List Int → Prop
  | [] => True
  | x :: q => r (q.length : Int) = x ∧ PlR r q
theorem PlR_congr {r r2 : Int → Int} : ∀ q : List Int, (∀ j : Int, 0 ≤ j → j < q.length → r2 j = r j) → PlR r q → PlR r2 q
  | [], _, _ => trivial
  | x :: q, h, hp => ⟨by rw [h q.length (by omega) (by rw [List.length_cons]; omega)]; exact hp.1, PlR_congr q (fun j a b => h j a (by rw [List.length_cons]; omega)) hp.2⟩
theorem PlR_set {r : Int → Int} {q : List Int} {y : Int} (h : PlR r q) : PlR (zup r (q.length : Int) y) (y :: q) := ⟨zup_eq, PlR_congr q (fun j a b => zup_ne (by omega)) h⟩
theorem stL_split {f : Int → Int} : ∀ (n k : Nat), k ≤ n → ∃ r, stL f n = stL f k ++ r
  | 0, k, h => ⟨[], by rw [show k = 0 by omega]; rfl⟩
  | n + 1, k, h => by
    by_cases e : k = n + 1
    · exact ⟨[], by rw [e, List.append_nil]⟩
    · obtain ⟨r, hr⟩ := stL_split (f := f) n k (by omega)
      exact ⟨r ++ [(f (2 * n), f (2 * n + 1))], by rw [stL, hr, List.append_assoc]⟩
theorem ev_next {F f : Int → Int} {n k : Nat} {p q : List Int} (hk : k < n) (hev : evO F (stL f k) [] = some p) (ht : evO F (stL f n) [] = some q) : ∃ p2, ev1 F (f (2 * k), f (2 * k + 1)) p = some p2 ∧ evO F (stL f (k + 1)) [] = some p2 := by
  have e : evO F (stL f (k + 1)) [] = ev1 F (f (2 * k), f (2 * k + 1)) p := by
    rw [stL, evO_app, hev]
    show (ev1 F _ p).bind (evO F []) = _
    cases ev1 F (f (2 * k), f (2 * k + 1)) p <;> rfl
  obtain ⟨r, hr⟩ := stL_split (f := f) n (k + 1) (by omega)
  rw [hr, evO_app, e] at ht
  cases h : ev1 F (f (2 * k), f (2 * k + 1)) p with
  | none => rw [h] at ht; cases ht
  | some p2 => exact ⟨p2, rfl, by rw [e, h]⟩
theorem ev_0 {F : Int → Int} {e : Int × Int} {p q : List Int} (h : e.1 = 0) (hv : ev1 F e p = some q) : q = e.2 :: p := by
  unfold ev1 at hv
  rw [if_pos h] at hv
  exact (Option.some.inj hv).symm
theorem ev_i1 {F : Int → Int} {e : Int × Int} {p q : List Int} (h : e.1 = 1) (hv : ev1 F e p = some q) : nmI e.2 ≠ -1 ∧ q = F (nmI e.2) :: p := by
  unfold ev1 at hv
  rw [if_neg (by omega), if_pos h] at hv
  split at hv
  · rename_i h2
    exact ⟨h2, (Option.some.inj hv).symm⟩
  · cases hv
theorem ev_2 {F : Int → Int} {e : Int × Int} {p q : List Int} (h : e.1 = 2) (hv : ev1 F e p = some q) : ∃ x r, p = x :: r ∧ q = -x :: r := by
  unfold ev1 at hv
  rw [if_neg (by omega), if_neg (by omega), if_pos h] at hv
  match p, hv with
  | x :: r, hv => exact ⟨x, r, rfl, (Option.some.inj hv).symm⟩
theorem ev_3 {F : Int → Int} {e : Int × Int} {p q : List Int} (h : e.1 = 3) (hv : ev1 F e p = some q) : ∃ y x r, p = y :: x :: r ∧ q = joinI e.2 x y :: r := by
  unfold ev1 at hv
  rw [if_neg (by omega), if_neg (by omega), if_neg (by omega), if_pos h] at hv
  match p, hv with
  | y :: x :: r, hv => exact ⟨y, x, r, rfl, (Option.some.inj hv).symm⟩
theorem ev_4 {F : Int → Int} {e : Int × Int} {p q : List Int} (h0 : e.1 ≠ 0) (h1 : e.1 ≠ 1) (h2 : e.1 ≠ 2) (h3 : e.1 ≠ 3) (hv : ev1 F e p = some q) : ∃ z y x r, p = z :: y :: x :: r ∧ q = (if zw x ≠ 0 then y else z) :: r := by
  unfold ev1 at hv
  rw [if_neg h0, if_neg h1, if_neg h2, if_neg h3] at hv
  match p, hv with
  | z :: y :: x :: r, hv => exact ⟨z, y, x, r, rfl, (Option.some.inj hv).symm⟩
theorem nmI_r {c : Int} (h : nmI c ≠ -1) : 99 ≤ c ∧ c ≤ 116 := by
  unfold nmI at h
  split at h
  · omega
  · split at h
    · omega
    · split at h
      · omega
      · split at h
        · omega
        · split at h
          · omega
          · split at h
            · omega
            · exact absurd rfl h
/-- toward none, till it can be -/
def mvT (P : Int → Prop) [DecidablePred P] (sd : Int) : Nat → Int
  | 0 => 0
  | n + 1 => if P (sd * ((n + 1 : Nat) : Int)) then sd * ((n + 1 : Nat) : Int) else mvT P sd n
abbrev cnF (p : Int → Int) (h f m : Int) : Prop := m = 0 ∨ (-12 ≤ h + m ∧ h + m ≤ 12) ∧ p 4 ≤ f - p 0 * zabs m
def clmp (v : Int) : Int := if v < -24 then -24 else if 24 < v then 24 else v
def sgn1 (v : Int) : Int := if v < 0 then -1 else 1
def moveR (p : Int → Int) (h f v : Int) : Int := mvT (cnF p h f) (sgn1 (clmp (zw v))) (zabs (clmp (zw v))).toNat
theorem mvT_p {P : Int → Prop} [DecidablePred P] {sd : Int} (h0 : P 0) : ∀ n : Nat, P (mvT P sd n)
  | 0 => h0
  | n + 1 => by
    unfold mvT
    split
    · assumption
    · exact mvT_p h0 n
theorem mvT_le {P : Int → Prop} [DecidablePred P] {sd : Int} (hs : sd = 1 ∨ sd = -1) : ∀ n : Nat, -(n : Int) ≤ mvT P sd n ∧ mvT P sd n ≤ n
  | 0 => by simp [mvT]
  | n + 1 => by
    have := mvT_le (P := P) hs n
    unfold mvT
    split
    · rcases hs with hs | hs <;> rw [hs] <;> omega
    · omega
theorem sgn1_c (v : Int) : (v < 0 ∧ sgn1 v = -1) ∨ (0 ≤ v ∧ sgn1 v = 1) := by unfold sgn1; split <;> omega
theorem clmp_le (v : Int) : -24 ≤ clmp v ∧ clmp v ≤ 24 := by unfold clmp; split <;> (try split) <;> omega
theorem moveR_le {p : Int → Int} {h f v : Int} : (-24 ≤ moveR p h f v ∧ moveR p h f v ≤ 24) ∧ cnF p h f (moveR p h f v) := by
  have c := clmp_le (zw v)
  have s := sgn1_c (clmp (zw v))
  have z := zabs_cases (clmp (zw v))
  have m := mvT_le (P := cnF p h f) (sd := sgn1 (clmp (zw v))) (by omega) (zabs (clmp (zw v))).toNat
  exact ⟨by unfold moveR; omega, mvT_p (Or.inl rfl) _⟩
theorem c_X7_joined {M : zM} {c_ x_ y_ : Int} (hc : 0 ≤ c_ ∧ c_ ≤ 255) : Call yX7_joined cX7_joined 3 (some .int) 0 [vI c_, vI x_, vI y_] (M) (PI (joinI c_ x_ y_) M) := by
  refine Call.of2 (own := RX7) (lv0 := [some (vI c_), some (vI x_), some (vI y_)]) rfl (by decide) rfl (Nat.le_of_ble_eq_true rfl) ?_
  have wx_ := zw_r x_
  have wy_ := zw_r y_
  refine z_iload_0 dX7_joined_0 ?_
  rcases (show (c_ ≠ 43 ∧ c_ ≠ 45 ∧ c_ ≠ 60 ∧ c_ ≠ 61 ∧ c_ ≠ 62) ∨ c_ = 43 ∨ c_ = 45 ∨ c_ = 60 ∨ c_ = 61 ∨ c_ = 62 from by omega) with c1 | c1 | c1 | c1 | c1 | c1
  · refine z_lookup (off := 92) (tgt := 93) (by omega) dX7_joined_1 (by decide) (by simp [Op.lookupswitch.offset] <;> (repeat rw [if_neg (by omega)])) (by decide) ?_
    refine z_iload_1 dX7_joined_93 ?_
    refine z_iload_2 dX7_joined_94 ?_
    refine z_iand dX7_joined_95 ?_
    exact z_iret dX7_joined_96 (zPI (by unfold joinI; rw [if_neg (by omega), if_neg (by omega), if_neg (by omega), if_neg (by omega), if_neg (by omega)]) rfl)
  · refine z_lookup (off := 51) (tgt := 52) (by omega) dX7_joined_1 (by decide) (by rw [c1]; rfl) (by decide) ?_
    refine z_iload_1 dX7_joined_52 ?_
    refine z_iload_2 dX7_joined_53 ?_
    refine z_iadd dX7_joined_54 ?_
    exact z_iret dX7_joined_55 (zPI (by unfold joinI; rw [if_pos (by omega)]) rfl)
  · refine z_lookup (off := 55) (tgt := 56) (by omega) dX7_joined_1 (by decide) (by rw [c1]; rfl) (by decide) ?_
    refine z_iload_1 dX7_joined_56 ?_
    refine z_iload_2 dX7_joined_57 ?_
    refine z_isub dX7_joined_58 ?_
    exact z_iret dX7_joined_59 (zPI (by unfold joinI; rw [if_neg (by omega), if_pos (by omega)]) rfl)
  · refine z_lookup (off := 59) (tgt := 60) (by omega) dX7_joined_1 (by decide) (by rw [c1]; rfl) (by decide) ?_
    refine z_iload_1 dX7_joined_60 ?_
    refine z_iload_2 dX7_joined_61 ?_
    refine z_wrap ?_
    refine z_wrap2 ?_
    refine z_icmp_ge (tgt := 69) (by omega) (by omega) dX7_joined_62 (by decide) (fun c62 => ?_) (fun c62 => ?_)
    · refine z_iconst dX7_joined_69 ?_
      exact z_iret dX7_joined_70 (zPI (by unfold joinI; rw [if_neg (by omega), if_neg (by omega), if_pos (by omega)]; first | exact (zb_t (by omega)).symm | exact (zb_f (by omega)).symm) rfl)
    · refine z_iconst dX7_joined_65 ?_
      refine z_goto (tgt := 70) dX7_joined_66 (by decide) ?_
      exact z_iret dX7_joined_70 (zPI (by unfold joinI; rw [if_neg (by omega), if_neg (by omega), if_pos (by omega)]; first | exact (zb_t (by omega)).symm | exact (zb_f (by omega)).symm) rfl)
  · refine z_lookup (off := 81) (tgt := 82) (by omega) dX7_joined_1 (by decide) (by rw [c1]; rfl) (by decide) ?_
    refine z_iload_1 dX7_joined_82 ?_
    refine z_iload_2 dX7_joined_83 ?_
    refine z_wrap ?_
    refine z_wrap2 ?_
    refine z_icmp_ne (tgt := 91) (by omega) (by omega) dX7_joined_84 (by decide) (fun c84 => ?_) (fun c84 => ?_)
    · refine z_iconst dX7_joined_91 ?_
      exact z_iret dX7_joined_92 (zPI (by unfold joinI; rw [if_neg (by omega), if_neg (by omega), if_neg (by omega), if_neg (by omega), if_pos (by omega)]; first | exact (zb_t (by omega)).symm | exact (zb_f (by omega)).symm) rfl)
    · refine z_iconst dX7_joined_87 ?_
      refine z_goto (tgt := 92) dX7_joined_88 (by decide) ?_
      exact z_iret dX7_joined_92 (zPI (by unfold joinI; rw [if_neg (by omega), if_neg (by omega), if_neg (by omega), if_neg (by omega), if_pos (by omega)]; first | exact (zb_t (by omega)).symm | exact (zb_f (by omega)).symm) rfl)
  · refine z_lookup (off := 70) (tgt := 71) (by omega) dX7_joined_1 (by decide) (by rw [c1]; rfl) (by decide) ?_
    refine z_iload_1 dX7_joined_71 ?_
    refine z_iload_2 dX7_joined_72 ?_
    refine z_wrap ?_
    refine z_wrap2 ?_
    refine z_icmp_le (tgt := 80) (by omega) (by omega) dX7_joined_73 (by decide) (fun c73 => ?_) (fun c73 => ?_)
    · refine z_iconst dX7_joined_80 ?_
      exact z_iret dX7_joined_81 (zPI (by unfold joinI; rw [if_neg (by omega), if_neg (by omega), if_neg (by omega), if_pos (by omega)]; first | exact (zb_t (by omega)).symm | exact (zb_f (by omega)).symm) rfl)
    · refine z_iconst dX7_joined_76 ?_
      refine z_goto (tgt := 81) dX7_joined_77 (by decide) ?_
      exact z_iret dX7_joined_81 (zPI (by unfold joinI; rw [if_neg (by omega), if_neg (by omega), if_neg (by omega), if_pos (by omega)]; first | exact (zb_t (by omega)).symm | exact (zb_f (by omega)).symm) rfl)

theorem c_X7_told {M : zM} {a_ h_ f_ v_ : Int} (hn : SN (M 76)) (ha : 0 ≤ a_ ∧ a_ ≤ 1999) (hh : -12 ≤ h_ ∧ h_ ≤ 12) (hR : RuS (M 76) (nmV (M 76 10).toNat (gS (M 76)) a_ h_ f_) v_) : Call yX7_told cX7_told 9 (some .int) 4 [vR 75, vI a_, vI h_, vI f_] (M) (RI v_ (fun N => out82 N M)) := by
  refine Call.of2 (own := RX7) (lv0 := [some (vR 75), some (vI a_), some (vI h_), some (vI f_), none, none, none, none, none]) rfl (by decide) rfl (Nat.le_of_ble_eq_true rfl) ?_
  obtain ⟨⟨hn0_, hn1_⟩, hn2_⟩ := id hn
  have hst_ : 0 ≤ M 76 11 ∧ M 76 11 ≤ 60 := by rcases hR with h_ | h_ <;> omega
  have hnx_ := nextC_le (g := gS (M 76)) (today := a_) ha.1 (M 76 10).toNat (SN_all hn)
  refine z_aload_0 dX7_told_0 ?_
  refine z_getR (r := 76) fl_X7_7 zk_75 rfl rfl dX7_told_1 ?_
  refine z_bipush dX7_told_4 (by decide) ?_
  refine z_lald (n := 214) zk_76 rfl (by omega) dX7_told_6 ?_
  refine z_lconst0 dX7_told_7 ?_
  refine z_lcmp_ne (tgt := 14) (by omega) (by decide) dX7_told_8 dX7_told_9 (by decide) (fun c8 => ?_) (fun c8 => ?_)
  · obtain ⟨h11_, hok_, ht_⟩ : (1 ≤ M 76 11 ∧ M 76 11 ≤ 60) ∧ okL (stL (fun j_ => M 76 (84 + j_)) (M 76 11).toNat) ∧ evO (nmV (M 76 10).toNat (gS (M 76)) a_ h_ f_) (stL (fun j_ => M 76 (84 + j_)) (M 76 11).toNat) [] = some [v_] := by rcases hR with h_ | h_; (exfalso; omega); exact h_
    refine z_aload_0 dX7_told_14 ?_
    refine z_iload_1 dX7_told_15 ?_
    refine z_cVI yv_X7_nextDay ml_X7_239 (c_X7_nextDay hn (by omega)) zk_75 rfl rfl (by decide) (Nat.le_of_ble_eq_true rfl) dX7_told_16 ?_
    refine z_istore_4 rfl dX7_told_19 ?_
    refine z_aload_0 dX7_told_21 ?_
    refine z_getR (r := 81) fl_X7_26 zk_75 rfl rfl dX7_told_22 ?_
    refine z_bipush dX7_told_25 (by decide) ?_
    refine z_aload_0 dX7_told_27 ?_
    refine z_iload_1 dX7_told_28 ?_
    refine z_iconst dX7_told_29 ?_
    refine z_iadd dX7_told_30 ?_
    refine z_iload_2 dX7_told_31 ?_
    refine z_cVI yv_X7_dangerAt ml_X7_132 (c_X7_dangerAt hn hh (by omega)) zk_75 rfl rfl (by decide) (Nat.le_of_ble_eq_true rfl) dX7_told_32 ?_
    refine z_iast (n := 128) zk_81 rfl (by omega) dX7_told_35 ?_
    refine z_aload_0 dX7_told_36 ?_
    refine z_getR (r := 81) fl_X7_26 zk_75 rfl rfl dX7_told_37 ?_
    refine z_bipush dX7_told_40 (by decide) ?_
    have J57 : ∀ (x_ : Int), (x_ = if (nextC (gS (M 76)) a_ (M 76 10).toNat) < 0 then 999 else (nextC (gS (M 76)) a_ (M 76 10).toNat) - a_) → Z RX7 cX7_told 9 (some .int) 4 (zQ (RI v_ (fun N => out82 N M))) 57 [some (vR 75), some (vI a_), some (vI h_), some (vI f_), some (vI (nextC (gS (M 76)) a_ (M 76 10).toNat)), none, none, none, none] [vI x_, vI 100, vR 81] ((zput M 81 99 (danger (M 76 10).toNat (gS (M 76)) (a_ + 1) h_))) := by
      intro x_ hx_
      refine z_iast (n := 128) zk_81 rfl (by omega) dX7_told_57 ?_
      refine z_aload_0 dX7_told_58 ?_
      refine z_getR (r := 81) fl_X7_26 zk_75 rfl rfl dX7_told_59 ?_
      refine z_bipush dX7_told_62 (by decide) ?_
      refine z_iload_3 dX7_told_64 ?_
      refine z_iast (n := 128) zk_81 rfl (by omega) dX7_told_65 ?_
      refine z_aload_0 dX7_told_66 ?_
      refine z_getR (r := 81) fl_X7_26 zk_75 rfl rfl dX7_told_67 ?_
      refine z_bipush dX7_told_70 (by decide) ?_
      refine z_iload_2 dX7_told_72 ?_
      refine z_iast (n := 128) zk_81 rfl (by omega) dX7_told_73 ?_
      refine z_aload_0 dX7_told_74 ?_
      refine z_getR (r := 81) fl_X7_26 zk_75 rfl rfl dX7_told_75 ?_
      have m76_ : (zput (zput (zput (zput M 81 99 (danger (M 76 10).toNat (gS (M 76)) (a_ + 1) h_)) 81 100 x_) 81 102 f_) 81 104 h_) 76 = M 76 := by rw [zput_ne (by decide), zput_ne (by decide), zput_ne (by decide), zput_ne (by decide)]
      refine z_bipush dX7_told_78 (by decide) ?_
      refine z_aload_0 dX7_told_80 ?_
      refine z_iload_1 dX7_told_81 ?_
      refine z_cVI yv_X7_openMany ml_X7_242 (c_X7_openMany (M := (zput (zput (zput (zput M 81 99 (danger (M 76 10).toNat (gS (M 76)) (a_ + 1) h_)) 81 100 x_) 81 102 f_) 81 104 h_)) (by rw [m76_]; exact hn) (by omega)) zk_75 rfl rfl (by decide) (Nat.le_of_ble_eq_true rfl) dX7_told_82 ?_
      rw [m76_]
      refine z_iast (n := 128) zk_81 rfl (by omega) dX7_told_85 ?_
      refine z_aload_0 dX7_told_86 ?_
      refine z_getR (r := 81) fl_X7_26 zk_75 rfl rfl dX7_told_87 ?_
      refine z_bipush dX7_told_90 (by decide) ?_
      refine z_iload_1 dX7_told_92 ?_
      refine z_iast (n := 128) zk_81 rfl (by omega) dX7_told_93 ?_
      have hnm_ : ∀ c_ : Int, nmI c_ ≠ -1 → (zput (zput (zput (zput (zput (zput M 81 99 (danger (M 76 10).toNat (gS (M 76)) (a_ + 1) h_)) 81 100 x_) 81 102 f_) 81 104 h_) 81 110 (openC (gS (M 76)) a_ (M 76 10).toNat)) 81 116 a_) 81 c_ = (nmV (M 76 10).toNat (gS (M 76)) a_ h_ f_) (nmI c_) := by
        intro c_ hc_
        have r_ := nmI_r hc_
        rcases (show c_ = 99 ∨ c_ = 100 ∨ c_ = 102 ∨ c_ = 104 ∨ c_ = 110 ∨ c_ = 116 ∨ (c_ ≠ 99 ∧ c_ ≠ 100 ∧ c_ ≠ 102 ∧ c_ ≠ 104 ∧ c_ ≠ 110 ∧ c_ ≠ 116) by omega) with e_ | e_ | e_ | e_ | e_ | e_ | e_
        · rw [e_, zput_ne2 (by decide), zput_ne2 (by decide), zput_ne2 (by decide), zput_ne2 (by decide), zput_ne2 (by decide), zput_eq]; rfl
        · rw [e_, zput_ne2 (by decide), zput_ne2 (by decide), zput_ne2 (by decide), zput_ne2 (by decide), zput_eq, hx_]; rfl
        · rw [e_, zput_ne2 (by decide), zput_ne2 (by decide), zput_ne2 (by decide), zput_eq]; rfl
        · rw [e_, zput_ne2 (by decide), zput_ne2 (by decide), zput_eq]; rfl
        · rw [e_, zput_ne2 (by decide), zput_eq]; rfl
        · rw [e_, zput_eq]; rfl
        · exfalso
          unfold nmI at hc_
          rw [if_neg e_.1, if_neg e_.2.1, if_neg e_.2.2.1, if_neg e_.2.2.2.1, if_neg e_.2.2.2.2.1, if_neg e_.2.2.2.2.2] at hc_
          exact hc_ rfl
      refine z_iconst dX7_told_94 ?_
      refine z_istore_5 rfl dX7_told_95 ?_
      refine z_iconst dX7_told_97 ?_
      refine z_istore_6 rfl dX7_told_98 ?_
      have K100 : ∀ (fuel_ : Nat) (n_ : Int) (k_ : Int) (p_ : List Int) (N_ : zM), M 76 11 - k_ < (fuel_ : Int) → (0 ≤ k_ ∧ k_ ≤ M 76 11) → (n_ = (p_.length : Int) ∧ n_ ≤ k_) → (evO (nmV (M 76 10).toNat (gS (M 76)) a_ h_ f_) (stL (fun j_ => M 76 (84 + j_)) k_.toNat) [] = some p_) → (PlR (N_ 82) p_) → (out82 N_ M) → (∀ c_ : Int, nmI c_ ≠ -1 → N_ 81 c_ = (nmV (M 76 10).toNat (gS (M 76)) a_ h_ f_) (nmI c_)) → Z RX7 cX7_told 9 (some .int) 4 (zQ (RI v_ (fun N => out82 N M))) 100 [some (vR 75), some (vI a_), some (vI h_), some (vI f_), some (vI (nextC (gS (M 76)) a_ (M 76 10).toNat)), some (vI n_), some (vI k_), none, none] [] (N_) := by
        intro fuel_
        induction fuel_ with
        | zero => intro n_ k_ p_ N_ hfuel_ hk_ hl_ hev_ hpl_ hN_ h81_; exfalso; omega
        | succ fuel_ ih100 =>
          intro n_ k_ p_ N_ hfuel_ hk_ hl_ hev_ hpl_ hN_ h81_
          have n76_ : N_ 76 = M 76 := hN_ 76 (by decide) (by decide)
          have hl1_ := hl_.1
          have hl2_ := hl_.2
          refine z_iload_6 dX7_told_100 ?_
          refine z_aload_0 dX7_told_102 ?_
          refine z_bipush dX7_told_103 (by decide) ?_
          refine z_cVI yv_X7_its ml_X7_71 (c_X7_its (M := N_) (by omega)) zk_75 rfl rfl (by decide) (Nat.le_of_ble_eq_true rfl) dX7_told_105 ?_
          rw [n76_]
          refine z_icmp_ge (tgt := 299) (by omega) (by omega) dX7_told_108 (by decide) (fun c108 => ?_) (fun c108 => ?_)
          · have hfin_ : N_ 82 0 = v_ := by
              have h9_ : some p_ = some [v_] := by rw [← hev_, show k_ = M 76 11 by omega]; exact ht_
              have h8_ := Option.some.inj h9_
              rw [h8_] at hpl_
              exact hpl_.1
            refine z_aload_0 dX7_told_299 ?_
            refine z_getR (r := 82) fl_X7_29 zk_75 rfl rfl dX7_told_300 ?_
            refine z_iconst dX7_told_303 ?_
            refine z_ialdv (n := 70) (v := v_) zk_82 rfl (by omega) (hfin_) dX7_told_304 ?_
            exact z_iret dX7_told_305 (zRI rfl hN_)
          · obtain ⟨p2_, e1_, e2_⟩ := ev_next (F := (nmV (M 76 10).toNat (gS (M 76)) a_ h_ f_)) (f := (fun j_ => M 76 (84 + j_))) (n := (M 76 11).toNat) (k := k_.toNat) (by omega) hev_ ht_
            have kk_ : ((k_.toNat : Nat) : Int) = k_ := Int.toNat_of_nonneg hk_.1
            rw [kk_] at e1_
            rw [show 84 + (2 * k_ + 1) = 84 + 2 * k_ + 1 by omega] at e1_
            have oke_ : (0 ≤ (M 76 (84 + 2 * k_)) ∧ (M 76 (84 + 2 * k_)) ≤ 4) ∧ ((M 76 (84 + 2 * k_)) = 3 → 0 ≤ (M 76 (84 + 2 * k_ + 1)) ∧ (M 76 (84 + 2 * k_ + 1)) ≤ 255) ∧ (0 ≤ (M 76 (84 + 2 * k_ + 1)) ∧ (M 76 (84 + 2 * k_ + 1)) ≤ 99999999) := by
              have h9_ := hok_ _ (stL_mem (f := (fun j_ => M 76 (84 + j_))) (M 76 11).toNat k_.toNat (by omega))
              unfold okE at h9_
              simp only [] at h9_
              rw [kk_, show 84 + (2 * k_ + 1) = 84 + 2 * k_ + 1 by omega] at h9_
              exact h9_
            refine z_aload_0 dX7_told_111 ?_
            refine z_bipush dX7_told_112 (by decide) ?_
            refine z_iconst dX7_told_114 ?_
            refine z_iload_6 dX7_told_115 ?_
            refine z_imul dX7_told_117 ?_
            refine z_iadd dX7_told_118 ?_
            refine z_cVI yv_X7_its ml_X7_71 (c_X7_its (M := N_) (by omega)) zk_75 rfl rfl (by decide) (Nat.le_of_ble_eq_true rfl) dX7_told_119 ?_
            rw [n76_]
            refine z_istore_7 rfl dX7_told_122 ?_
            refine z_aload_0 dX7_told_124 ?_
            refine z_bipush dX7_told_125 (by decide) ?_
            refine z_iconst dX7_told_127 ?_
            refine z_iload_6 dX7_told_128 ?_
            refine z_imul dX7_told_130 ?_
            refine z_iadd dX7_told_131 ?_
            refine z_iconst dX7_told_132 ?_
            refine z_iadd dX7_told_133 ?_
            refine z_cVI yv_X7_its ml_X7_71 (c_X7_its (M := N_) (by omega)) zk_75 rfl rfl (by decide) (Nat.le_of_ble_eq_true rfl) dX7_told_134 ?_
            rw [n76_]
            refine z_istore_8 rfl dX7_told_137 ?_
            refine z_iload_7 dX7_told_139 ?_
            refine z_if_eq (tgt := 150) (by omega) dX7_told_141 (by decide) (fun c141 => ?_) (fun c141 => ?_)
            · refine z_aload_0 dX7_told_150 ?_
              refine z_getR (r := 82) fl_X7_29 zk_75 rfl rfl dX7_told_151 ?_
              refine z_iload_5 dX7_told_154 ?_
              refine z_iload_7 dX7_told_156 ?_
              refine z_if_ne (tgt := 166) (by omega) dX7_told_158 (by decide) (fun c158 => ?_) (fun c158 => ?_)
              · obtain ⟨hnm2_, hq_⟩ := ev_i1 (by show (M 76 (84 + 2 * k_)) = 1; omega) e1_
                simp only [] at hnm2_ hq_
                have hnr_ := nmI_r hnm2_
                refine z_aload_0 dX7_told_166 ?_
                refine z_getR (r := 81) fl_X7_26 zk_75 rfl rfl dX7_told_167 ?_
                refine z_iload_8 dX7_told_170 ?_
                refine z_ialdv (n := 128) (v := ((nmV (M 76 10).toNat (gS (M 76)) a_ h_ f_) (nmI (M 76 (84 + 2 * k_ + 1))))) zk_81 rfl (by omega) (h81_ _ hnm2_) dX7_told_172 ?_
                refine z_iast (n := 70) zk_82 rfl (by omega) dX7_told_173 ?_
                refine z_iinc_5 rfl dX7_told_174 ?_
                refine z_goto (tgt := 293) dX7_told_177 (by decide) ?_
                refine z_iinc_6 rfl dX7_told_293 ?_
                refine z_goto (tgt := 100) dX7_told_296 (by decide) ?_
                refine z_drop_7 ?_
                refine z_drop_8 ?_
                exact ih100 _ _ p2_ _ (by omega) (by omega) (by rw [hq_, List.length_cons]; omega) (by rw [nat_1 hk_.1]; exact e2_) (by rw [hq_, zput_at]; first | (rw [hl1_]; exact PlR_set hpl_) | (rw [show n_ - 1 = (r_.length : Int) by omega]; exact PlR_set hpl_.2) | (rw [show n_ + -1 - 1 = (r_.length : Int) by omega]; exact PlR_set hpl_.2.2) | (rw [show n_ + -2 - 1 = (r_.length : Int) by omega]; exact PlR_set hpl_.2.2.2)) (by intro k2_ h1_ h2_; rw [zput_ne h2_]; exact hN_ k2_ h1_ h2_) (by intro c2_ hc2_; rw [zput_ne (by decide)]; exact h81_ c2_ hc2_)
              · have hq_ := ev_0 (by show (M 76 (84 + 2 * k_)) = 0; omega) e1_
                refine z_iload_8 dX7_told_161 ?_
                refine z_goto (tgt := 173) dX7_told_163 (by decide) ?_
                refine z_iast (n := 70) zk_82 rfl (by omega) dX7_told_173 ?_
                refine z_iinc_5 rfl dX7_told_174 ?_
                refine z_goto (tgt := 293) dX7_told_177 (by decide) ?_
                refine z_iinc_6 rfl dX7_told_293 ?_
                refine z_goto (tgt := 100) dX7_told_296 (by decide) ?_
                refine z_drop_7 ?_
                refine z_drop_8 ?_
                exact ih100 _ _ p2_ _ (by omega) (by omega) (by rw [hq_, List.length_cons]; omega) (by rw [nat_1 hk_.1]; exact e2_) (by rw [hq_, zput_at]; first | (rw [hl1_]; exact PlR_set hpl_) | (rw [show n_ - 1 = (r_.length : Int) by omega]; exact PlR_set hpl_.2) | (rw [show n_ + -1 - 1 = (r_.length : Int) by omega]; exact PlR_set hpl_.2.2) | (rw [show n_ + -2 - 1 = (r_.length : Int) by omega]; exact PlR_set hpl_.2.2.2)) (by intro k2_ h1_ h2_; rw [zput_ne h2_]; exact hN_ k2_ h1_ h2_) (by intro c2_ hc2_; rw [zput_ne (by decide)]; exact h81_ c2_ hc2_)
            · refine z_iload_7 dX7_told_144 ?_
              refine z_iconst dX7_told_146 ?_
              refine z_icmp_ne (tgt := 180) (by omega) (by decide) dX7_told_147 (by decide) (fun c147 => ?_) (fun c147 => ?_)
              · refine z_iload_7 dX7_told_180 ?_
                refine z_iconst dX7_told_182 ?_
                refine z_icmp_ne (tgt := 208) (by omega) (by decide) dX7_told_183 (by decide) (fun c183 => ?_) (fun c183 => ?_)
                · refine z_iload_7 dX7_told_208 ?_
                  refine z_iconst dX7_told_210 ?_
                  refine z_icmp_ne (tgt := 250) (by omega) (by decide) dX7_told_211 (by decide) (fun c211 => ?_) (fun c211 => ?_)
                  · obtain ⟨z_, y_, x_, r_, hp_, hq_⟩ := ev_4 (by show (M 76 (84 + 2 * k_)) ≠ 0; omega) (by show (M 76 (84 + 2 * k_)) ≠ 1; omega) (by show (M 76 (84 + 2 * k_)) ≠ 2; omega) (by show (M 76 (84 + 2 * k_)) ≠ 3; omega) e1_
                    have wx_ := zw_r x_
                    have hlr_ : n_ = (r_.length : Int) + 3 := by rw [hl1_, hp_]; simp <;> omega
                    rw [hp_] at hpl_
                    
                    refine z_iinc_5 rfl dX7_told_250 ?_
                    refine z_aload_0 dX7_told_253 ?_
                    refine z_getR (r := 82) fl_X7_29 zk_75 rfl rfl dX7_told_254 ?_
                    refine z_iload_5 dX7_told_257 ?_
                    refine z_iconst dX7_told_259 ?_
                    refine z_isub dX7_told_260 ?_
                    refine z_aload_0 dX7_told_261 ?_
                    refine z_getR (r := 82) fl_X7_29 zk_75 rfl rfl dX7_told_262 ?_
                    refine z_iload_5 dX7_told_265 ?_
                    refine z_iconst dX7_told_267 ?_
                    refine z_isub dX7_told_268 ?_
                    refine z_ialdv (n := 70) (v := x_) zk_82 rfl (by omega) (by rw [show n_ + -2 - 1 = (r_.length : Int) by omega]; exact hpl_.2.2.1) dX7_told_269 ?_
                    refine z_wrap ?_
                    refine z_if_eq (tgt := 283) (by omega) dX7_told_270 (by decide) (fun c270 => ?_) (fun c270 => ?_)
                    · rw [if_neg (by omega)] at hq_
                      refine z_aload_0 dX7_told_283 ?_
                      refine z_getR (r := 82) fl_X7_29 zk_75 rfl rfl dX7_told_284 ?_
                      refine z_iload_5 dX7_told_287 ?_
                      refine z_iconst dX7_told_289 ?_
                      refine z_iadd dX7_told_290 ?_
                      refine z_ialdv (n := 70) (v := z_) zk_82 rfl (by omega) (by have h9_ := hpl_.1; rw [List.length_cons, List.length_cons] at h9_; rw [show n_ + -2 + 1 = ((r_.length + 1 + 1 : Nat) : Int) by omega]; exact h9_) dX7_told_291 ?_
                      refine z_iast (n := 70) zk_82 rfl (by omega) dX7_told_292 ?_
                      refine z_iinc_6 rfl dX7_told_293 ?_
                      refine z_goto (tgt := 100) dX7_told_296 (by decide) ?_
                      refine z_drop_7 ?_
                      refine z_drop_8 ?_
                      exact ih100 _ _ p2_ _ (by omega) (by omega) (by rw [hq_, List.length_cons]; omega) (by rw [nat_1 hk_.1]; exact e2_) (by rw [hq_, zput_at]; first | (rw [hl1_]; exact PlR_set hpl_) | (rw [show n_ - 1 = (r_.length : Int) by omega]; exact PlR_set hpl_.2) | (rw [show n_ + -1 - 1 = (r_.length : Int) by omega]; exact PlR_set hpl_.2.2) | (rw [show n_ + -2 - 1 = (r_.length : Int) by omega]; exact PlR_set hpl_.2.2.2)) (by intro k2_ h1_ h2_; rw [zput_ne h2_]; exact hN_ k2_ h1_ h2_) (by intro c2_ hc2_; rw [zput_ne (by decide)]; exact h81_ c2_ hc2_)
                    · rw [if_pos (by omega)] at hq_
                      refine z_aload_0 dX7_told_273 ?_
                      refine z_getR (r := 82) fl_X7_29 zk_75 rfl rfl dX7_told_274 ?_
                      refine z_iload_5 dX7_told_277 ?_
                      refine z_ialdv (n := 70) (v := y_) zk_82 rfl (by omega) (by have h9_ := hpl_.2.1; rw [List.length_cons] at h9_; rw [show n_ + -2 = ((r_.length + 1 : Nat) : Int) by omega]; exact h9_) dX7_told_279 ?_
                      refine z_goto (tgt := 292) dX7_told_280 (by decide) ?_
                      refine z_iast (n := 70) zk_82 rfl (by omega) dX7_told_292 ?_
                      refine z_iinc_6 rfl dX7_told_293 ?_
                      refine z_goto (tgt := 100) dX7_told_296 (by decide) ?_
                      refine z_drop_7 ?_
                      refine z_drop_8 ?_
                      exact ih100 _ _ p2_ _ (by omega) (by omega) (by rw [hq_, List.length_cons]; omega) (by rw [nat_1 hk_.1]; exact e2_) (by rw [hq_, zput_at]; first | (rw [hl1_]; exact PlR_set hpl_) | (rw [show n_ - 1 = (r_.length : Int) by omega]; exact PlR_set hpl_.2) | (rw [show n_ + -1 - 1 = (r_.length : Int) by omega]; exact PlR_set hpl_.2.2) | (rw [show n_ + -2 - 1 = (r_.length : Int) by omega]; exact PlR_set hpl_.2.2.2)) (by intro k2_ h1_ h2_; rw [zput_ne h2_]; exact hN_ k2_ h1_ h2_) (by intro c2_ hc2_; rw [zput_ne (by decide)]; exact h81_ c2_ hc2_)
                  · obtain ⟨y_, x_, r_, hp_, hq_⟩ := ev_3 (by show (M 76 (84 + 2 * k_)) = 3; omega) e1_
                    simp only [] at hq_
                    have hlr_ : n_ = (r_.length : Int) + 2 := by rw [hl1_, hp_]; simp <;> omega
                    rw [hp_] at hpl_
                    
                    refine z_iinc_5 rfl dX7_told_214 ?_
                    refine z_aload_0 dX7_told_217 ?_
                    refine z_getR (r := 82) fl_X7_29 zk_75 rfl rfl dX7_told_218 ?_
                    refine z_iload_5 dX7_told_221 ?_
                    refine z_iconst dX7_told_223 ?_
                    refine z_isub dX7_told_224 ?_
                    refine z_iload_8 dX7_told_225 ?_
                    refine z_aload_0 dX7_told_227 ?_
                    refine z_getR (r := 82) fl_X7_29 zk_75 rfl rfl dX7_told_228 ?_
                    refine z_iload_5 dX7_told_231 ?_
                    refine z_iconst dX7_told_233 ?_
                    refine z_isub dX7_told_234 ?_
                    refine z_ialdv (n := 70) (v := x_) zk_82 rfl (by omega) (by rw [show n_ + -1 - 1 = (r_.length : Int) by omega]; exact hpl_.2.1) dX7_told_235 ?_
                    refine z_aload_0 dX7_told_236 ?_
                    refine z_getR (r := 82) fl_X7_29 zk_75 rfl rfl dX7_told_237 ?_
                    refine z_iload_5 dX7_told_240 ?_
                    refine z_ialdv (n := 70) (v := y_) zk_82 rfl (by omega) (by have h9_ := hpl_.1; rw [List.length_cons] at h9_; rw [show n_ + -1 = ((r_.length + 1 : Nat) : Int) by omega]; exact h9_) dX7_told_242 ?_
                    refine z_cSI ys_X7_joined ml_X7_245 (c_X7_joined (by omega)) rfl rfl (by decide) (Nat.le_of_ble_eq_true rfl) dX7_told_243 ?_
                    refine z_iast (n := 70) zk_82 rfl (by omega) dX7_told_246 ?_
                    refine z_goto (tgt := 293) dX7_told_247 (by decide) ?_
                    refine z_iinc_6 rfl dX7_told_293 ?_
                    refine z_goto (tgt := 100) dX7_told_296 (by decide) ?_
                    refine z_drop_7 ?_
                    refine z_drop_8 ?_
                    exact ih100 _ _ p2_ _ (by omega) (by omega) (by rw [hq_, List.length_cons]; omega) (by rw [nat_1 hk_.1]; exact e2_) (by rw [hq_, zput_at]; first | (rw [hl1_]; exact PlR_set hpl_) | (rw [show n_ - 1 = (r_.length : Int) by omega]; exact PlR_set hpl_.2) | (rw [show n_ + -1 - 1 = (r_.length : Int) by omega]; exact PlR_set hpl_.2.2) | (rw [show n_ + -2 - 1 = (r_.length : Int) by omega]; exact PlR_set hpl_.2.2.2)) (by intro k2_ h1_ h2_; rw [zput_ne h2_]; exact hN_ k2_ h1_ h2_) (by intro c2_ hc2_; rw [zput_ne (by decide)]; exact h81_ c2_ hc2_)
                · obtain ⟨x_, r_, hp_, hq_⟩ := ev_2 (by show (M 76 (84 + 2 * k_)) = 2; omega) e1_
                  have hlr_ : n_ = (r_.length : Int) + 1 := by rw [hl1_, hp_]; simp <;> omega
                  rw [hp_] at hpl_
                  
                  refine z_aload_0 dX7_told_186 ?_
                  refine z_getR (r := 82) fl_X7_29 zk_75 rfl rfl dX7_told_187 ?_
                  refine z_iload_5 dX7_told_190 ?_
                  refine z_iconst dX7_told_192 ?_
                  refine z_isub dX7_told_193 ?_
                  refine z_aload_0 dX7_told_194 ?_
                  refine z_getR (r := 82) fl_X7_29 zk_75 rfl rfl dX7_told_195 ?_
                  refine z_iload_5 dX7_told_198 ?_
                  refine z_iconst dX7_told_200 ?_
                  refine z_isub dX7_told_201 ?_
                  refine z_ialdv (n := 70) (v := x_) zk_82 rfl (by omega) (by rw [show n_ - 1 = (r_.length : Int) by omega]; exact hpl_.1) dX7_told_202 ?_
                  refine z_ineg dX7_told_203 ?_
                  refine z_iast (n := 70) zk_82 rfl (by omega) dX7_told_204 ?_
                  refine z_goto (tgt := 293) dX7_told_205 (by decide) ?_
                  refine z_iinc_6 rfl dX7_told_293 ?_
                  refine z_goto (tgt := 100) dX7_told_296 (by decide) ?_
                  refine z_drop_7 ?_
                  refine z_drop_8 ?_
                  exact ih100 _ _ p2_ _ (by omega) (by omega) (by rw [hq_, List.length_cons]; omega) (by rw [nat_1 hk_.1]; exact e2_) (by rw [hq_, zput_at]; first | (rw [hl1_]; exact PlR_set hpl_) | (rw [show n_ - 1 = (r_.length : Int) by omega]; exact PlR_set hpl_.2) | (rw [show n_ + -1 - 1 = (r_.length : Int) by omega]; exact PlR_set hpl_.2.2) | (rw [show n_ + -2 - 1 = (r_.length : Int) by omega]; exact PlR_set hpl_.2.2.2)) (by intro k2_ h1_ h2_; rw [zput_ne h2_]; exact hN_ k2_ h1_ h2_) (by intro c2_ hc2_; rw [zput_ne (by decide)]; exact h81_ c2_ hc2_)
              · refine z_aload_0 dX7_told_150 ?_
                refine z_getR (r := 82) fl_X7_29 zk_75 rfl rfl dX7_told_151 ?_
                refine z_iload_5 dX7_told_154 ?_
                refine z_iload_7 dX7_told_156 ?_
                refine z_if_ne (tgt := 166) (by omega) dX7_told_158 (by decide) (fun c158 => ?_) (fun c158 => ?_)
                · obtain ⟨hnm2_, hq_⟩ := ev_i1 (by show (M 76 (84 + 2 * k_)) = 1; omega) e1_
                  simp only [] at hnm2_ hq_
                  have hnr_ := nmI_r hnm2_
                  refine z_aload_0 dX7_told_166 ?_
                  refine z_getR (r := 81) fl_X7_26 zk_75 rfl rfl dX7_told_167 ?_
                  refine z_iload_8 dX7_told_170 ?_
                  refine z_ialdv (n := 128) (v := ((nmV (M 76 10).toNat (gS (M 76)) a_ h_ f_) (nmI (M 76 (84 + 2 * k_ + 1))))) zk_81 rfl (by omega) (h81_ _ hnm2_) dX7_told_172 ?_
                  refine z_iast (n := 70) zk_82 rfl (by omega) dX7_told_173 ?_
                  refine z_iinc_5 rfl dX7_told_174 ?_
                  refine z_goto (tgt := 293) dX7_told_177 (by decide) ?_
                  refine z_iinc_6 rfl dX7_told_293 ?_
                  refine z_goto (tgt := 100) dX7_told_296 (by decide) ?_
                  refine z_drop_7 ?_
                  refine z_drop_8 ?_
                  exact ih100 _ _ p2_ _ (by omega) (by omega) (by rw [hq_, List.length_cons]; omega) (by rw [nat_1 hk_.1]; exact e2_) (by rw [hq_, zput_at]; first | (rw [hl1_]; exact PlR_set hpl_) | (rw [show n_ - 1 = (r_.length : Int) by omega]; exact PlR_set hpl_.2) | (rw [show n_ + -1 - 1 = (r_.length : Int) by omega]; exact PlR_set hpl_.2.2) | (rw [show n_ + -2 - 1 = (r_.length : Int) by omega]; exact PlR_set hpl_.2.2.2)) (by intro k2_ h1_ h2_; rw [zput_ne h2_]; exact hN_ k2_ h1_ h2_) (by intro c2_ hc2_; rw [zput_ne (by decide)]; exact h81_ c2_ hc2_)
                · have hq_ := ev_0 (by show (M 76 (84 + 2 * k_)) = 0; omega) e1_
                  refine z_iload_8 dX7_told_161 ?_
                  refine z_goto (tgt := 173) dX7_told_163 (by decide) ?_
                  refine z_iast (n := 70) zk_82 rfl (by omega) dX7_told_173 ?_
                  refine z_iinc_5 rfl dX7_told_174 ?_
                  refine z_goto (tgt := 293) dX7_told_177 (by decide) ?_
                  refine z_iinc_6 rfl dX7_told_293 ?_
                  refine z_goto (tgt := 100) dX7_told_296 (by decide) ?_
                  refine z_drop_7 ?_
                  refine z_drop_8 ?_
                  exact ih100 _ _ p2_ _ (by omega) (by omega) (by rw [hq_, List.length_cons]; omega) (by rw [nat_1 hk_.1]; exact e2_) (by rw [hq_, zput_at]; first | (rw [hl1_]; exact PlR_set hpl_) | (rw [show n_ - 1 = (r_.length : Int) by omega]; exact PlR_set hpl_.2) | (rw [show n_ + -1 - 1 = (r_.length : Int) by omega]; exact PlR_set hpl_.2.2) | (rw [show n_ + -2 - 1 = (r_.length : Int) by omega]; exact PlR_set hpl_.2.2.2)) (by intro k2_ h1_ h2_; rw [zput_ne h2_]; exact hN_ k2_ h1_ h2_) (by intro c2_ hc2_; rw [zput_ne (by decide)]; exact h81_ c2_ hc2_)
      have L100 : ∀ (n_ : Int) (k_ : Int) (p_ : List Int) (N_ : zM), (0 ≤ k_ ∧ k_ ≤ M 76 11) → (n_ = (p_.length : Int) ∧ n_ ≤ k_) → (evO (nmV (M 76 10).toNat (gS (M 76)) a_ h_ f_) (stL (fun j_ => M 76 (84 + j_)) k_.toNat) [] = some p_) → (PlR (N_ 82) p_) → (out82 N_ M) → (∀ c_ : Int, nmI c_ ≠ -1 → N_ 81 c_ = (nmV (M 76 10).toNat (gS (M 76)) a_ h_ f_) (nmI c_)) → Z RX7 cX7_told 9 (some .int) 4 (zQ (RI v_ (fun N => out82 N M))) 100 [some (vR 75), some (vI a_), some (vI h_), some (vI f_), some (vI (nextC (gS (M 76)) a_ (M 76 10).toNat)), some (vI n_), some (vI k_), none, none] [] (N_) := fun n_ k_ p_ N_ hk_ hl_ hev_ hpl_ hN_ h81_ => K100 ((M 76 11 - k_).toNat + 1) n_ k_ p_ N_ (by omega) hk_ hl_ hev_ hpl_ hN_ h81_
      exact L100 _ _ ([] : List Int) _ (by omega) (by exact ⟨rfl, by decide⟩) (by rfl) (by trivial) (by intro k2_ h1_ h2_; rw [zput_ne h1_, zput_ne h1_, zput_ne h1_, zput_ne h1_, zput_ne h1_, zput_ne h1_]) (by exact hnm_)
    refine z_iload_4 dX7_told_42 ?_
    refine z_if_ge (tgt := 53) (by omega) dX7_told_44 (by decide) (fun c44 => ?_) (fun c44 => ?_)
    · refine z_iload_4 dX7_told_53 ?_
      refine z_iload_1 dX7_told_55 ?_
      refine z_isub dX7_told_56 ?_
      exact J57 _ (by first | exact (if_pos (by omega)).symm | exact (if_neg (by omega)).symm)
    · refine z_sipush dX7_told_47 (by decide) ?_
      refine z_goto (tgt := 57) dX7_told_50 (by decide) ?_
      exact J57 _ (by first | exact (if_pos (by omega)).symm | exact (if_neg (by omega)).symm)
  · refine z_iconst dX7_told_12 ?_
    exact z_iret dX7_told_13 (zRI (by rcases hR with h_ | h_; (exact h_.2.symm); (exfalso; omega)) (fun _ _ _ => rfl))
