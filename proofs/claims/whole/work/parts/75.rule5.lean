theorem zput_put {M : zM} {k : Nat} {j x y : Int} : zput (zput M k j x) k j y = zput M k j y := by
  funext a b
  unfold zput
  by_cases h : a = k ∧ b = j
  · simp [h]
  · simp [h]
theorem QPa_c {M N : zM} {x : Int} (h : QPa M x N) : (x = 1 ∧ QPa M 1 N) ∨ (x = 0 ∧ QPa M 0 N) := by
  rcases id h with ⟨rfl, _⟩ | ⟨rfl, _⟩
  · exact Or.inl ⟨rfl, h⟩
  · exact Or.inr ⟨rfl, h⟩
theorem QSu_c {M N : zM} {x : Int} (h : QSu M x N) : (x = 1 ∧ QSu M 1 N) ∨ (x = 0 ∧ QSu M 0 N) := by
  rcases id h with ⟨rfl, _⟩ | ⟨rfl, _⟩
  · exact Or.inl ⟨rfl, h⟩
  · exact Or.inr ⟨rfl, h⟩
theorem QPa_1 {M N : zM} (h : QPa M 1 N) : M 75 6 < N 75 6 ∧ N 75 7 = M 75 7 ∧ exL (fun l => Pg M N l 0 ∧ PaOK (M 79) (M 75 5) (M 75 6) (N 75 6) (M 75 7).toNat l) := by
  rcases h with h | h
  · exact h.2
  · exact absurd h.1 (by decide)
theorem QPa_0 {M N : zM} (h : QPa M 0 N) : Fl M N ∧ PaNO (M 79) (M 75 5) (M 75 6) (N 75 6) (M 75 7).toNat := by
  rcases h with h | h
  · exact absurd h.1 (by decide)
  · exact h.2
theorem QSu_1 {M N : zM} (h : QSu M 1 N) : M 75 6 < N 75 6 ∧ N 75 7 = M 75 7 ∧ sEnd (M 79) (M 75 5) (N 75 6) ∧ exL (fun l => Pg M N l 0 ∧ SuOK (M 79) (M 75 5) (M 75 6) (N 75 6) (M 75 7).toNat l) := by
  rcases h with h | h
  · exact h.2
  · exact absurd h.1 (by decide)
theorem QSu_0 {M N : zM} (h : QSu M 0 N) : Fl M N ∧ SuNO (M 79) (M 75 5) (M 75 6) (N 75 6) (M 75 7).toNat := by
  rcases h with h | h
  · exact absurd h.1 (by decide)
  · exact h.2
theorem QPa_PB {M N : zM} (hB : PB M) (h : QPa M 1 N) : PB N := by
  obtain ⟨l, h1, _⟩ := (QPa_1 h).2.2
  exact Pg_PB hB h1 (by decide)
theorem QSu_PB {M N : zM} (hB : PB M) (h : QSu M 1 N) : PB N := by
  obtain ⟨l, h1, _⟩ := (QSu_1 h).2.2.2
  exact Pg_PB hB h1 (by decide)
theorem lays_6 {M : zM} {w v : Int} : laysM M w v 75 6 = M 75 6 := by show zput _ _ _ _ 75 6 = _; rw [zput_ne2 (by decide), zput_ne (by decide), zput_ne (by decide)]
theorem lays_7 {M : zM} {w v : Int} : laysM M w v 75 7 = M 75 7 := by show zput _ _ _ _ 75 7 = _; rw [zput_ne2 (by decide), zput_ne (by decide), zput_ne (by decide)]
abbrev opM (M : zM) : zM := zput (zput M 75 7 (M 75 7 + 1)) 75 6 (M 75 6 + 1)
theorem Pg_op {M : zM} {v : Int} (h : PB M) : Pg M (zput M 75 7 v) [] 0 := by
  have h1 := h.1
  refine ⟨⟨fun k a b => zput_ne a, fun i a b c => zput_ne2 b⟩, ?_, ?_, ?_, ?_⟩
  · rw [zput_ne2 (by decide)]; omega
  · rw [zput_ne2 (by decide)]; exact h.2.2.2.1
  · rw [zput_ne2 (by decide), zput_ne2 (by decide)]; omega
  · rw [zput_ne (by decide), zput_ne2 (by decide), List.append_nil]; exact ⟨rfl, okL_nil⟩
theorem opM_5 {M : zM} : opM M 75 5 = M 75 5 := by show zput _ _ _ _ 75 5 = _; rw [zput_ne2 (by decide), zput_ne2 (by decide)]
theorem opM_6 {M : zM} : opM M 75 6 = M 75 6 + 1 := zput_eq
theorem opM_7 {M : zM} : opM M 75 7 = M 75 7 + 1 := by show zput _ _ _ _ 75 7 = _; rw [zput_ne2 (by decide), zput_eq]
theorem opM_79 {M : zM} : opM M 79 = M 79 := by show zput _ _ _ _ 79 = _; rw [zput_ne (by decide), zput_ne (by decide)]
theorem Pg_opM {M : zM} (h : PB M) (hn : M 75 6 < M 75 5) : Pg M (opM M) [] 1 := by
  have h1 := Pg_op (v := M 75 7 + 1) h
  have hB := Pg_PB h h1 (by decide)
  have e6 : zput M 75 7 (M 75 7 + 1) 75 6 = M 75 6 := zput_ne2 (by decide)
  have e5 : zput M 75 7 (M 75 7 + 1) 75 5 = M 75 5 := zput_ne2 (by decide)
  have h2 := Pg_adv (j := 1) hB (by decide) (by rw [e6, e5]; omega)
  rw [e6] at h2
  exact Pg_tr h1 h2
theorem Q_name {M : zM} (hB : PB M) (h : nmI (hV (M 79) (M 75 5) (M 75 6)) ≠ -1) : QPa M 1 (laysM (zput M 75 6 (M 75 6 + 1)) 1 (hV (M 79) (M 75 5) (M 75 6))) := by
  have hne : hV (M 79) (M 75 5) (M 75 6) ≠ -1 := fun e => h (by rw [e]; rfl)
  obtain ⟨q1, q2⟩ := hV_lt hne
  have hvr := hV_r (a := M 75 6) hB hB.1.1
  have p1 := Pg_adv (j := 1) hB (by decide) (by omega)
  have p2 := Pg_lay (w := 1) (v := hV (M 79) (M 75 5) (M 75 6)) (Pg_PB hB p1 (by decide)) (by omega)
  refine Or.inl ⟨rfl, by rw [lays_6, zput_eq]; omega, by rw [lays_7, zput_ne2 (by decide)], _, Pg_le (Pg_tr p1 p2) (by decide), ?_⟩
  rw [lays_6, zput_eq, q2]
  rw [q2] at h
  exact PaOK_name h
theorem Q_num {M : zM} {j V : Int} (hV9 : 0 ≤ V ∧ V ≤ 9999999) (hB : PB M) (hG : NumG (M 79) (M 75 6) j V) (hj : 1 ≤ j ∧ j ≤ 7) (hn : M 75 6 + j ≤ M 75 5) (hs : j = 7 ∨ ¬ isDg (hV (M 79) (M 75 5) (M 75 6 + j))) : QPa M 1 (laysM (zput M 75 6 (M 75 6 + j)) 0 V) := by
  have p1 := Pg_adv (j := j) hB (by omega) hn
  have p2 := Pg_lay (w := 0) (v := V) (Pg_PB hB p1 (by omega)) (by omega)
  refine Or.inl ⟨rfl, by rw [lays_6, zput_eq]; omega, by rw [lays_7, zput_ne2 (by decide)], _, Pg_le (Pg_tr p1 p2) (by omega), ?_⟩
  rw [lays_6, zput_eq]
  refine PaOK_num hG hj ?_
  rcases hs with hs | hs
  · exact Or.inl hs
  · exact Or.inr (fun q => hs (by rw [hV_of q.1]; exact q.2))
theorem Q_bad {M : zM} (hB : PB M) (h : nmI (hV (M 79) (M 75 5) (M 75 6)) = -1 ∧ ¬ isDg (hV (M 79) (M 75 5) (M 75 6)) ∧ ¬ ((hV (M 79) (M 75 5) (M 75 6) = 45 ∨ hV (M 79) (M 75 5) (M 75 6) = 40) ∧ (M 75 7).toNat < 5)) : QPa M 0 M := by
  refine Or.inr ⟨rfl, Fl_rf hB, PaNO_bad hB.1.2 (fun q => ?_)⟩
  rw [hV_of q] at h
  exact h
theorem Q_m1 {M P : zM} (hB : PB M) (hc : hV (M 79) (M 75 5) (M 75 6) = 45) (h7 : 0 ≤ M 75 7 ∧ M 75 7 < 5) (q : QPa (opM M) 1 P) : QPa M 1 (laysM (zput P 75 7 (P 75 7 - 1)) 2 0) := by
  obtain ⟨q1, q2⟩ := hV_lt (t := M 79) (n := M 75 5) (a := M 75 6) (by omega)
  have p1 := Pg_opM hB q1
  have hB1 := Pg_PB hB p1 (by decide)
  obtain ⟨r1, r2, l, r3, r4⟩ := QPa_1 q
  have hB2 := Pg_PB hB1 r3 (by decide)
  have p3 := Pg_op (v := P 75 7 - 1) hB2
  have p4 := Pg_lay (w := 2) (v := 0) (Pg_PB hB2 p3 (by decide)) (by omega)
  rw [opM_6] at r1
  rw [opM_7] at r2
  rw [opM_79, opM_5, opM_6, opM_7, show (M 75 7 + 1).toNat = (M 75 7).toNat + 1 by omega] at r4
  refine Or.inl ⟨rfl, by rw [lays_6, zput_ne2 (by decide)]; omega, by rw [lays_7, zput_eq]; omega, _, Pg_le (Pg_tr p1 (Pg_tr r3 (Pg_tr p3 p4))) (by decide), ?_⟩
  rw [lays_6, zput_ne2 (by decide)]
  exact PaOK_minus (by rw [← q2]; exact hc) (by omega) r4
theorem Q_m0 {M P : zM} (hB : PB M) (hc : hV (M 79) (M 75 5) (M 75 6) = 45) (h7 : 0 ≤ M 75 7 ∧ M 75 7 < 5) (q : QPa (opM M) 0 P) : QPa M 0 P := by
  obtain ⟨q1, q2⟩ := hV_lt (t := M 79) (n := M 75 5) (a := M 75 6) (by omega)
  have p1 := Pg_opM hB q1
  obtain ⟨r1, r2⟩ := QPa_0 q
  rw [opM_79, opM_5, opM_6, opM_7, show (M 75 7 + 1).toNat = (M 75 7).toNat + 1 by omega] at r2
  exact Or.inr ⟨rfl, Fl_tr (Pg_Fl p1) r1, PaNO_minus (by rw [← q2]; exact hc) (by omega) r2⟩
theorem Q_p1 {M P : zM} (hB : PB M) (hc : hV (M 79) (M 75 5) (M 75 6) = 40) (h7 : 0 ≤ M 75 7 ∧ M 75 7 < 5) (q : QSu (opM M) 1 P) (hl : P 75 6 < P 75 5) (he : P 79 (P 75 6) = 41) : QPa M 1 (zput (zput P 75 6 (P 75 6 + 1)) 75 7 (P 75 7 - 1)) := by
  obtain ⟨q1, q2⟩ := hV_lt (t := M 79) (n := M 75 5) (a := M 75 6) (by omega)
  have p1 := Pg_opM hB q1
  have hB1 := Pg_PB hB p1 (by decide)
  obtain ⟨r1, r2, r5, l, r3, r4⟩ := QSu_1 q
  have hB2 := Pg_PB hB1 r3 (by decide)
  have p3 := Pg_adv (j := 1) hB2 (by decide) (by omega)
  have p4 := Pg_op (v := P 75 7 - 1) (Pg_PB hB2 p3 (by decide))
  rw [opM_6] at r1
  rw [opM_7] at r2
  rw [opM_79, opM_5, opM_6, opM_7, show (M 75 7 + 1).toNat = (M 75 7).toNat + 1 by omega] at r4
  have e79 : P 79 = M 79 := by rw [r3.1.1 79 (by decide) (by decide), opM_79]
  refine Or.inl ⟨rfl, by rw [zput_ne2 (by decide), zput_eq]; omega, by rw [zput_eq]; omega, _, Pg_le (Pg_tr p1 (Pg_tr r3 (Pg_tr p3 p4))) (by decide), ?_⟩
  rw [zput_ne2 (by decide), zput_eq]
  have := PaOK_par (by rw [← q2]; exact hc) (by omega) r4 (by rw [← e79]; exact he)
  rw [show [] ++ (l ++ ([] ++ [])) = l by simp]
  exact this
theorem Q_p0 {M P : zM} (hB : PB M) (hc : hV (M 79) (M 75 5) (M 75 6) = 40) (h7 : 0 ≤ M 75 7 ∧ M 75 7 < 5) (q : QSu (opM M) 0 P) : QPa M 0 P := by
  obtain ⟨q1, q2⟩ := hV_lt (t := M 79) (n := M 75 5) (a := M 75 6) (by omega)
  have p1 := Pg_opM hB q1
  obtain ⟨r1, r2⟩ := QSu_0 q
  rw [opM_79, opM_5, opM_6, opM_7, show (M 75 7 + 1).toNat = (M 75 7).toNat + 1 by omega] at r2
  exact Or.inr ⟨rfl, Fl_tr (Pg_Fl p1) r1, PaNO_par1 (by rw [← q2]; exact hc) (by omega) r2⟩
theorem Q_p2 {M P : zM} (hB : PB M) (hc : hV (M 79) (M 75 5) (M 75 6) = 40) (h7 : 0 ≤ M 75 7 ∧ M 75 7 < 5) (q : QSu (opM M) 1 P) (he : P 75 6 < P 75 5 → P 79 (P 75 6) ≠ 41) : QPa M 0 P := by
  obtain ⟨q1, q2⟩ := hV_lt (t := M 79) (n := M 75 5) (a := M 75 6) (by omega)
  have p1 := Pg_opM hB q1
  have hB1 := Pg_PB hB p1 (by decide)
  obtain ⟨r1, r2, r5, l, r3, r4⟩ := QSu_1 q
  rw [opM_79, opM_5, opM_6, opM_7, show (M 75 7 + 1).toNat = (M 75 7).toNat + 1 by omega] at r4
  rw [opM_79, opM_5] at r5
  have e79 : P 79 = M 79 := by rw [r3.1.1 79 (by decide) (by decide), opM_79]
  have e5 : P 75 5 = M 75 5 := by rw [r3.1.2 5 (by decide) (by decide) (by decide), opM_5]
  rw [e79, e5] at he
  have r6 := r3.2.1.2
  rw [opM_5] at r6
  exact Or.inr ⟨rfl, Fl_tr (Pg_Fl p1) (Pg_Fl r3), PaNO_par2 (by rw [← q2]; exact hc) (by omega) r4 r6 r5 he⟩
theorem S_1 {M P : zM} (q : QPa M 1 P) (he : sEnd (M 79) (M 75 5) (P 75 6)) : QSu M 1 P := by
  obtain ⟨r1, r2, l, r3, r4⟩ := QPa_1 q
  exact Or.inl ⟨rfl, r1, r2, he, l, r3, SuOK_1 r4⟩
theorem S_0 {M P : zM} (q : QPa M 0 P) : QSu M 0 P := by
  obtain ⟨r1, r2⟩ := QPa_0 q
  exact Or.inr ⟨rfl, r1, SuNO_1 r2⟩
/-- a sum as far as it is read -/
def SuI (M N : zM) : Prop := M 75 6 < N 75 6 ∧ N 75 7 = M 75 7 ∧ exL (fun l => Pg M N l 0 ∧ SuOK (M 79) (M 75 5) (M 75 6) (N 75 6) (M 75 7).toNat l)
theorem SuI_1 {M P : zM} (q : QPa M 1 P) : SuI M P := by
  obtain ⟨r1, r2, l, r3, r4⟩ := QPa_1 q
  exact ⟨r1, r2, l, r3, SuOK_1 r4⟩
theorem SuI_PB {M N : zM} (hB : PB M) (h : SuI M N) : PB N := by
  obtain ⟨_, _, l, h1, _⟩ := h
  exact Pg_PB hB h1 (by decide)
theorem SuI_m {M N P : zM} {c : Int} (hB : PB M) (h : SuI M N) (hc : hV (N 79) (N 75 5) (N 75 6) = c) (hs : c = 43 ∨ c = 45) (q : QPa (zput N 75 6 (N 75 6 + 1)) 1 P) : SuI M (laysM P 3 c) := by
  obtain ⟨r1, r2, l, r3, r4⟩ := h
  have hB1 := Pg_PB hB r3 (by decide)
  obtain ⟨q1, q2⟩ := hV_lt (t := N 79) (n := N 75 5) (a := N 75 6) (by omega)
  have p1 := Pg_adv (j := 1) hB1 (by decide) (by omega)
  have hB2 := Pg_PB hB1 p1 (by decide)
  obtain ⟨s1, s2, l2, s3, s4⟩ := QPa_1 q
  have hB3 := Pg_PB hB2 s3 (by decide)
  have p4 := Pg_lay (w := 3) (v := c) hB3 (by omega)
  have e79 : N 79 = M 79 := r3.1.1 79 (by decide) (by decide)
  have e5 : N 75 5 = M 75 5 := r3.1.2 5 (by decide) (by decide) (by decide)
  rw [zput_eq] at s1
  rw [zput_ne2 (by decide)] at s2
  rw [zput_ne (by decide), zput_ne2 (by decide), zput_eq, zput_ne2 (by decide), e79, e5, r2] at s4
  refine ⟨by rw [lays_6]; omega, by rw [lays_7]; omega, _, Pg_le (Pg_tr r3 (Pg_tr p1 (Pg_tr s3 p4))) (by decide), ?_⟩
  rw [lays_6, ← hc, q2, e79]
  exact SuOK_more r4 (by rw [← e79, ← q2, hc]; exact hs) s4
theorem S_m0 {M N P : zM} {c : Int} (hB : PB M) (h : SuI M N) (hc : hV (N 79) (N 75 5) (N 75 6) = c) (hs : c = 43 ∨ c = 45) (q : QPa (zput N 75 6 (N 75 6 + 1)) 0 P) : QSu M 0 P := by
  obtain ⟨r1, r2, l, r3, r4⟩ := h
  have hB1 := Pg_PB hB r3 (by decide)
  obtain ⟨q1, q2⟩ := hV_lt (t := N 79) (n := N 75 5) (a := N 75 6) (by omega)
  have p1 := Pg_adv (j := 1) hB1 (by decide) (by omega)
  obtain ⟨s1, s2⟩ := QPa_0 q
  have e79 : N 79 = M 79 := r3.1.1 79 (by decide) (by decide)
  have e5 : N 75 5 = M 75 5 := r3.1.2 5 (by decide) (by decide) (by decide)
  rw [zput_ne (by decide), zput_ne2 (by decide), zput_eq, zput_ne2 (by decide), e79, e5, r2] at s2
  exact Or.inr ⟨rfl, Fl_tr (Pg_Fl r3) (Fl_tr (Pg_Fl p1) s1), SuNO_more r4 (by rw [← e79, ← q2, hc]; exact hs) s2⟩
theorem S_end {M N : zM} (hB : PB M) (h : SuI M N) (h1 : hV (N 79) (N 75 5) (N 75 6) ≠ 43) (h2 : hV (N 79) (N 75 5) (N 75 6) ≠ 45) : QSu M 1 N := by
  obtain ⟨r1, r2, l, r3, r4⟩ := h
  have e79 : N 79 = M 79 := r3.1.1 79 (by decide) (by decide)
  have e5 : N 75 5 = M 75 5 := r3.1.2 5 (by decide) (by decide) (by decide)
  rw [e79, e5] at h1 h2
  exact Or.inl ⟨rfl, r1, r2, fun q => by rw [hV_of q] at h1 h2; exact ⟨h1, h2⟩, l, r3, r4⟩
theorem c_X7_partS {M : zM} {d_ : Nat} (hd5 : d_ ≤ 5) (h7 : M 75 7 = 5 - (d_ : Int)) (hB : PB M) (hPa : ∀ N : zM, 1 ≤ d_ → PB N → N 75 7 = 5 - ((d_ - 1 : Nat) : Int) → Call yX7_part cX7_part 4 (some .boolean) (2 * (d_ - 1) + 2) [vR 75] N (BI (QPa N))) (hSu : ∀ N : zM, 1 ≤ d_ → PB N → N 75 7 = 5 - ((d_ - 1 : Nat) : Int) → Call yX7_sum cX7_sum 2 (some .boolean) (2 * (d_ - 1) + 3) [vR 75] N (BI (QSu N))) : Call yX7_part cX7_part 4 (some .boolean) (2 * d_ + 2) [vR 75] (M) (BI (QPa M)) := by
  refine Call.of2 (own := RX7) (lv0 := [some (vR 75), none, none, none]) rfl (by decide) rfl (Nat.le_of_ble_eq_true rfl) ?_
  have hr_ := hV_r (a := M 75 6) hB hB.1.1
  obtain ⟨⟨b0_, b1_⟩, ⟨b2_, b3_⟩, b4_, ⟨b5_, b6_⟩⟩ := id hB
  refine z_aload_0 dX7_part_0 ?_
  refine z_cVI yv_X7_here ml_X7_195 (c_X7_here hB) zk_75 rfl rfl (by omega) (Nat.le_of_ble_eq_true rfl) dX7_part_1 ?_
  refine z_istore_1 rfl dX7_part_4 ?_
  refine z_iload_1 dX7_part_5 ?_
  refine z_cSI ys_X7_isName ml_X7_226 (c_X7_isName hr_) rfl rfl (by omega) (Nat.le_of_ble_eq_true rfl) dX7_part_6 ?_
  refine z_ifb_eq (tgt := 30) dX7_part_9 (by decide) (fun c9 => ?_) (fun c9 => ?_)
  · refine z_iload_1 dX7_part_30 ?_
    refine z_i2l (by omega) dX7_part_31 ?_
    refine z_ldc2 (n := 48) kl_X7_229 (by decide) dX7_part_32 ?_
    refine z_ldc2 (n := 57) kl_X7_231 (by decide) dX7_part_35 ?_
    refine z_cSI ys_X7_in ml_X7_85 (c_X7_in (by omega) (by decide) (by decide)) rfl rfl (by omega) (Nat.le_of_ble_eq_true rfl) dX7_part_38 ?_
    refine z_ifb_eq (tgt := 108) dX7_part_41 (by decide) (fun c41 => ?_) (fun c41 => ?_)
    · refine z_iload_1 dX7_part_108 ?_
      refine z_bipush dX7_part_109 (by decide) ?_
      refine z_icmp_ne (tgt := 148) (by omega) (by decide) dX7_part_111 (by decide) (fun c111 => ?_) (fun c111 => ?_)
      · refine z_iload_1 dX7_part_148 ?_
        refine z_bipush dX7_part_149 (by decide) ?_
        refine z_icmp_ne (tgt := 177) (by omega) (by decide) dX7_part_151 (by decide) (fun c151 => ?_) (fun c151 => ?_)
        · refine z_iconst dX7_part_177 ?_
          exact z_zret (by first | exact Or.inl rfl | exact Or.inr rfl | exact zb_01 | omega) dX7_part_178 (zBI (by first | exact Q_bad hB ⟨Classical.byContradiction c9, c41, by omega⟩ | exact Q_p0 hB (by omega) (by omega) q2_ | exact Q_p2 hB (by omega) (by omega) q2_ t1_))
        · refine z_aload_0 dX7_part_154 ?_
          refine z_sV yv_X7_opens ml_X7_233 (c_X7_opens (by omega)) zk_75 rfl rfl (by omega) (Nat.le_of_ble_eq_true rfl) dX7_part_155 (fun x_ g_ hq_ => ?_)
          rcases hq_ with ⟨rfl, o1_, rfl⟩ | ⟨rfl, o1_, rfl⟩
          · skip
            have q1_ := (hV_lt (t := M 79) (n := M 75 5) (a := M 75 6) (by omega)).1
            have hBo_ : PB (opM M) := Pg_PB hB (Pg_opM hB q1_) (by decide)
            refine z_if_eq (tgt := 177) (by decide) dX7_part_158 (by decide) (fun c158 => absurd c158 (by decide)) (fun c158 => ?_)
            refine z_aload_0 dX7_part_161 ?_
            refine z_sV yv_X7_sum ml_X7_201 (hSu (opM M) (by omega) hBo_ (by rw [opM_7]; omega)) zk_75 rfl rfl (by omega) (Nat.le_of_ble_eq_true rfl) dX7_part_162 (fun x_ P_ hq_ => ?_)
            rcases (QSu_c hq_) with ⟨rfl, q2_⟩ | ⟨rfl, q2_⟩
            · skip
              have hBp_ := QSu_PB hBo_ q2_
              refine z_if_eq (tgt := 177) (by decide) dX7_part_165 (by decide) (fun c165 => absurd c165 (by decide)) (fun c165 => ?_)
              refine z_aload_0 dX7_part_168 ?_
              refine z_bipush dX7_part_169 (by decide) ?_
              refine z_sV yv_X7_takes ml_X7_211 (c_X7_takes hBp_ (by decide)) zk_75 rfl rfl (by omega) (Nat.le_of_ble_eq_true rfl) dX7_part_171 (fun x_ K_ hq_ => ?_)
              rcases hq_ with ⟨rfl, t1_, t2_, rfl⟩ | ⟨rfl, t1_, rfl⟩
              · skip
                refine z_if_ne (tgt := 179) (by decide) dX7_part_174 (by decide) (fun c174 => ?_) (fun c174 => absurd c174 (by decide))
                refine z_aload_0 dX7_part_179 ?_
                refine z_dup rfl dX7_part_180 ?_
                refine z_getIv (v := (P_ 75 7)) fl_X7_223 zk_75 rfl (by rw [zput_ne2 (by decide)]) dX7_part_181 ?_
                refine z_iconst dX7_part_184 ?_
                refine z_isub dX7_part_185 ?_
                refine z_putI fl_X7_223 zk_75 rfl dX7_part_186 ?_
                refine z_iconst dX7_part_189 ?_
                exact z_zret (by first | exact Or.inl rfl | exact Or.inr rfl | exact zb_01 | omega) dX7_part_190 (zBI (Q_p1 hB (by omega) (by omega) q2_ t1_ t2_))
              · skip
                refine z_if_ne (tgt := 179) (by decide) dX7_part_174 (by decide) (fun c174 => absurd c174 (by decide)) (fun c174 => ?_)
                refine z_iconst dX7_part_177 ?_
                exact z_zret (by first | exact Or.inl rfl | exact Or.inr rfl | exact zb_01 | omega) dX7_part_178 (zBI (by first | exact Q_bad hB ⟨Classical.byContradiction c9, c41, by omega⟩ | exact Q_p0 hB (by omega) (by omega) q2_ | exact Q_p2 hB (by omega) (by omega) q2_ t1_))
            · skip
              refine z_if_eq (tgt := 177) (by decide) dX7_part_165 (by decide) (fun c165 => ?_) (fun c165 => absurd c165 (by decide))
              refine z_iconst dX7_part_177 ?_
              exact z_zret (by first | exact Or.inl rfl | exact Or.inr rfl | exact zb_01 | omega) dX7_part_178 (zBI (by first | exact Q_bad hB ⟨Classical.byContradiction c9, c41, by omega⟩ | exact Q_p0 hB (by omega) (by omega) q2_ | exact Q_p2 hB (by omega) (by omega) q2_ t1_))
          · skip
            refine z_if_eq (tgt := 177) (by decide) dX7_part_158 (by decide) (fun c158 => ?_) (fun c158 => absurd c158 (by decide))
            refine z_iconst dX7_part_177 ?_
            exact z_zret (by first | exact Or.inl rfl | exact Or.inr rfl | exact zb_01 | omega) dX7_part_178 (zBI (by first | exact Q_bad hB ⟨Classical.byContradiction c9, c41, by omega⟩ | exact Q_p0 hB (by omega) (by omega) q2_ | exact Q_p2 hB (by omega) (by omega) q2_ t1_))
      · refine z_aload_0 dX7_part_114 ?_
        refine z_sV yv_X7_opens ml_X7_233 (c_X7_opens (by omega)) zk_75 rfl rfl (by omega) (Nat.le_of_ble_eq_true rfl) dX7_part_115 (fun x_ g_ hq_ => ?_)
        rcases hq_ with ⟨rfl, o1_, rfl⟩ | ⟨rfl, o1_, rfl⟩
        · skip
          have q1_ := (hV_lt (t := M 79) (n := M 75 5) (a := M 75 6) (by omega)).1
          have hBo_ : PB (opM M) := Pg_PB hB (Pg_opM hB q1_) (by decide)
          refine z_if_eq (tgt := 128) (by decide) dX7_part_118 (by decide) (fun c118 => absurd c118 (by decide)) (fun c118 => ?_)
          refine z_aload_0 dX7_part_121 ?_
          refine z_sV yv_X7_part ml_X7_220 (hPa (opM M) (by omega) hBo_ (by rw [opM_7]; omega)) zk_75 rfl rfl (by omega) (Nat.le_of_ble_eq_true rfl) dX7_part_122 (fun x_ P_ hq_ => ?_)
          rcases (QPa_c hq_) with ⟨rfl, q2_⟩ | ⟨rfl, q2_⟩
          · skip
            refine z_if_ne (tgt := 130) (by decide) dX7_part_125 (by decide) (fun c125 => ?_) (fun c125 => absurd c125 (by decide))
            refine z_aload_0 dX7_part_130 ?_
            refine z_dup rfl dX7_part_131 ?_
            refine z_getI fl_X7_223 zk_75 rfl dX7_part_132 ?_
            refine z_iconst dX7_part_135 ?_
            refine z_isub dX7_part_136 ?_
            refine z_putI fl_X7_223 zk_75 rfl dX7_part_137 ?_
            refine z_aload_0 dX7_part_140 ?_
            refine z_iconst dX7_part_141 ?_
            refine z_iconst dX7_part_142 ?_
            refine z_cVN yv_X7_lays ml_X7_213 (c_X7_lays (M := zput P_ 75 7 (P_ 75 7 - 1)) (by rw [zput_ne2 (by decide)]; have := (QPa_PB hBo_ q2_); have h1_ := this.1; have h2_ := this.2.1; have h3_ := this.2.2.2; omega)) zk_75 rfl rfl (by omega) (Nat.le_of_ble_eq_true rfl) dX7_part_143 ?_
            refine z_iconst dX7_part_146 ?_
            exact z_zret (by first | exact Or.inl rfl | exact Or.inr rfl | exact zb_01 | omega) dX7_part_147 (zBI (Q_m1 hB (by omega) (by omega) q2_))
          · skip
            refine z_if_ne (tgt := 130) (by decide) dX7_part_125 (by decide) (fun c125 => absurd c125 (by decide)) (fun c125 => ?_)
            refine z_iconst dX7_part_128 ?_
            exact z_zret (by first | exact Or.inl rfl | exact Or.inr rfl | exact zb_01 | omega) dX7_part_129 (zBI (by first | exact Q_bad hB ⟨Classical.byContradiction c9, c41, by omega⟩ | exact Q_m0 hB (by omega) (by omega) q2_))
        · skip
          refine z_if_eq (tgt := 128) (by decide) dX7_part_118 (by decide) (fun c118 => ?_) (fun c118 => absurd c118 (by decide))
          refine z_iconst dX7_part_128 ?_
          exact z_zret (by first | exact Or.inl rfl | exact Or.inr rfl | exact zb_01 | omega) dX7_part_129 (zBI (by first | exact Q_bad hB ⟨Classical.byContradiction c9, c41, by omega⟩ | exact Q_m0 hB (by omega) (by omega) q2_))
    · refine z_iconst dX7_part_44 ?_
      refine z_istore_2 rfl dX7_part_45 ?_
      refine z_iconst dX7_part_46 ?_
      refine z_istore_3 rfl dX7_part_47 ?_
      have K48 : ∀ (fuel_ : Nat) (v_ : Int) (j_ : Int) (N_ : zM), 7 - j_ < (fuel_ : Int) → (0 ≤ j_ ∧ j_ ≤ 7) → (M 75 6 + j_ ≤ M 75 5) → (j_ = 0 → v_ = 0) → (0 ≤ v_ ∧ ((j_ = 0 ∧ v_ ≤ 0) ∨ (j_ = 1 ∧ v_ ≤ 9) ∨ (j_ = 2 ∧ v_ ≤ 99) ∨ (j_ = 3 ∧ v_ ≤ 999) ∨ (j_ = 4 ∧ v_ ≤ 9999) ∨ (j_ = 5 ∧ v_ ≤ 99999) ∨ (j_ = 6 ∧ v_ ≤ 999999) ∨ (j_ = 7 ∧ v_ ≤ 9999999))) → (NumG (M 79) (M 75 6) j_ v_) → (N_ = zput M 75 6 (M 75 6 + j_)) → Z RX7 cX7_part 4 (some .boolean) (2 * d_ + 2) (zQ (BI (QPa M))) 48 [some (vR 75), some (vI (hV (M 79) (M 75 5) (M 75 6))), some (vI v_), some (vI j_)] [] (N_) := by
        intro fuel_
        induction fuel_ with
        | zero => intro v_ j_ N_ hfuel_ hj_ hn_ hz_ hv9_ hG_ hN_; exfalso; omega
        | succ fuel_ ih48 =>
          intro v_ j_ N_ hfuel_ hj_ hn_ hz_ hv9_ hG_ hN_
          have hBN_ : PB N_ := by rw [hN_]; exact Pg_PB hB (Pg_adv hB hj_.1 hn_) hj_.1
          have n79_ : N_ 79 = M 79 := by rw [hN_, zput_ne (by decide)]
          have n5_ : N_ 75 5 = M 75 5 := by rw [hN_, zput_ne2 (by decide)]
          have n6_ : N_ 75 6 = M 75 6 + j_ := by rw [hN_, zput_eq]
          have n8_ : N_ 75 8 = M 75 8 := by rw [hN_, zput_ne2 (by decide)]
          have hrj_ := hV_r (a := M 75 6 + j_) hB (by omega)
          refine z_iload_3 dX7_part_48 ?_
          refine z_bipush dX7_part_49 (by decide) ?_
          refine z_icmp_ge (tgt := 100) (by omega) (by decide) dX7_part_51 (by decide) (fun c51 => ?_) (fun c51 => ?_)
          · refine z_aload_0 dX7_part_100 ?_
            refine z_iconst dX7_part_101 ?_
            refine z_iload_2 dX7_part_102 ?_
            refine z_cVN yv_X7_lays ml_X7_213 (c_X7_lays (M := N_) (by rw [n8_]; omega)) zk_75 rfl rfl (by omega) (Nat.le_of_ble_eq_true rfl) dX7_part_103 ?_
            refine z_iconst dX7_part_106 ?_
            exact z_zret (by first | exact Or.inl rfl | exact Or.inr rfl | exact zb_01 | omega) dX7_part_107 (zBI (by rw [hN_]; exact Q_num (by omega) hB hG_ ⟨by rcases (show j_ = 0 ∨ 1 ≤ j_ by omega) with h_ | h_; (exfalso; subst h_; rw [Int.add_zero] at *; omega); exact h_, hj_.2⟩ hn_ (by first | exact Or.inl (by omega) | exact Or.inr c68)))
          · refine z_aload_0 dX7_part_54 ?_
            refine z_cVI yv_X7_here ml_X7_195 (c_X7_here (M := N_) hBN_) zk_75 rfl rfl (by omega) (Nat.le_of_ble_eq_true rfl) dX7_part_55 ?_
            rw [n79_, n5_, n6_]
            refine z_i2l (by omega) dX7_part_58 ?_
            refine z_ldc2 (n := 48) kl_X7_229 (by decide) dX7_part_59 ?_
            refine z_ldc2 (n := 57) kl_X7_231 (by decide) dX7_part_62 ?_
            refine z_cSI ys_X7_in ml_X7_85 (c_X7_in (by omega) (by decide) (by decide)) rfl rfl (by omega) (Nat.le_of_ble_eq_true rfl) dX7_part_65 ?_
            refine z_ifb_eq (tgt := 100) dX7_part_68 (by decide) (fun c68 => ?_) (fun c68 => ?_)
            · refine z_aload_0 dX7_part_100 ?_
              refine z_iconst dX7_part_101 ?_
              refine z_iload_2 dX7_part_102 ?_
              refine z_cVN yv_X7_lays ml_X7_213 (c_X7_lays (M := N_) (by rw [n8_]; omega)) zk_75 rfl rfl (by omega) (Nat.le_of_ble_eq_true rfl) dX7_part_103 ?_
              refine z_iconst dX7_part_106 ?_
              exact z_zret (by first | exact Or.inl rfl | exact Or.inr rfl | exact zb_01 | omega) dX7_part_107 (zBI (by rw [hN_]; exact Q_num (by omega) hB hG_ ⟨by rcases (show j_ = 0 ∨ 1 ≤ j_ by omega) with h_ | h_; (exfalso; subst h_; rw [Int.add_zero] at *; omega); exact h_, hj_.2⟩ hn_ (by first | exact Or.inl (by omega) | exact Or.inr c68)))
            · refine z_bipush dX7_part_71 (by decide) ?_
              refine z_iload_2 dX7_part_73 ?_
              refine z_imul dX7_part_74 ?_
              refine z_aload_0 dX7_part_75 ?_
              refine z_cVI yv_X7_here ml_X7_195 (c_X7_here (M := N_) hBN_) zk_75 rfl rfl (by omega) (Nat.le_of_ble_eq_true rfl) dX7_part_76 ?_
              rw [n79_, n5_, n6_]
              refine z_iadd dX7_part_79 ?_
              refine z_bipush dX7_part_80 (by decide) ?_
              refine z_isub dX7_part_82 ?_
              refine z_istore_2 rfl dX7_part_83 ?_
              refine z_aload_0 dX7_part_84 ?_
              refine z_dup rfl dX7_part_85 ?_
              refine z_getIv (v := (M 75 6 + j_)) fl_X7_192 zk_75 rfl (n6_) dX7_part_86 ?_
              refine z_iconst dX7_part_89 ?_
              refine z_iadd dX7_part_90 ?_
              refine z_putI fl_X7_192 zk_75 rfl dX7_part_91 ?_
              refine z_iinc_3 rfl dX7_part_94 ?_
              refine z_goto (tgt := 48) dX7_part_97 (by decide) ?_
              exact ih48 _ _ _ (by omega) (by omega) (by have := (hV_lt (t := M 79) (n := M 75 5) (a := M 75 6 + j_) (by omega)).1; omega) (by intro h_; exfalso; omega) (by omega) (by have h1_ := (hV_lt (t := M 79) (n := M 75 5) (a := M 75 6 + j_) (by omega)).2; rw [h1_]; exact NumG_1 hG_ (by omega) hz_ (by rw [← h1_]; exact c68)) (by rw [hN_, zput_put, Int.add_assoc])
      have L48 : ∀ (v_ : Int) (j_ : Int) (N_ : zM), (0 ≤ j_ ∧ j_ ≤ 7) → (M 75 6 + j_ ≤ M 75 5) → (j_ = 0 → v_ = 0) → (0 ≤ v_ ∧ ((j_ = 0 ∧ v_ ≤ 0) ∨ (j_ = 1 ∧ v_ ≤ 9) ∨ (j_ = 2 ∧ v_ ≤ 99) ∨ (j_ = 3 ∧ v_ ≤ 999) ∨ (j_ = 4 ∧ v_ ≤ 9999) ∨ (j_ = 5 ∧ v_ ≤ 99999) ∨ (j_ = 6 ∧ v_ ≤ 999999) ∨ (j_ = 7 ∧ v_ ≤ 9999999))) → (NumG (M 79) (M 75 6) j_ v_) → (N_ = zput M 75 6 (M 75 6 + j_)) → Z RX7 cX7_part 4 (some .boolean) (2 * d_ + 2) (zQ (BI (QPa M))) 48 [some (vR 75), some (vI (hV (M 79) (M 75 5) (M 75 6))), some (vI v_), some (vI j_)] [] (N_) := fun v_ j_ N_ hj_ hn_ hz_ hv9_ hG_ hN_ => K48 ((7 - j_).toNat + 1) v_ j_ N_ (by omega) hj_ hn_ hz_ hv9_ hG_ hN_
      exact L48 _ _ _ (by omega) (by omega) (by intro _; rfl) (by omega) (by exact NumG_0) (by rw [Int.add_zero, zput_self])
  · refine z_aload_0 dX7_part_12 ?_
    refine z_dup rfl dX7_part_13 ?_
    refine z_getI fl_X7_192 zk_75 rfl dX7_part_14 ?_
    refine z_iconst dX7_part_17 ?_
    refine z_iadd dX7_part_18 ?_
    refine z_putI fl_X7_192 zk_75 rfl dX7_part_19 ?_
    refine z_aload_0 dX7_part_22 ?_
    refine z_iconst dX7_part_23 ?_
    refine z_iload_1 dX7_part_24 ?_
    refine z_cVN yv_X7_lays ml_X7_213 (c_X7_lays (M := (zput M 75 6 (M 75 6 + 1))) (by rw [zput_ne2 (by decide)]; omega)) zk_75 rfl rfl (by omega) (Nat.le_of_ble_eq_true rfl) dX7_part_25 ?_
    refine z_iconst dX7_part_28 ?_
    exact z_zret (by first | exact Or.inl rfl | exact Or.inr rfl | exact zb_01 | omega) dX7_part_29 (zBI (Q_name hB c9))

theorem c_X7_sumS {M : zM} {d_ : Nat} (hd5 : d_ ≤ 5) (h7 : M 75 7 = 5 - (d_ : Int)) (hB : PB M) (hPa : ∀ N : zM, PB N → N 75 7 = 5 - (d_ : Int) → Call yX7_part cX7_part 4 (some .boolean) (2 * d_ + 2) [vR 75] N (BI (QPa N))) : Call yX7_sum cX7_sum 2 (some .boolean) (2 * d_ + 3) [vR 75] (M) (BI (QSu M)) := by
  refine Call.of2 (own := RX7) (lv0 := [some (vR 75), none]) rfl (by decide) rfl (Nat.le_of_ble_eq_true rfl) ?_
  obtain ⟨⟨b0_, b1_⟩, ⟨b2_, b3_⟩, b4_, ⟨b5_, b6_⟩⟩ := id hB
  refine z_aload_0 dX7_sum_0 ?_
  refine z_sV yv_X7_part ml_X7_220 (hPa M hB h7) zk_75 rfl rfl (by omega) (Nat.le_of_ble_eq_true rfl) dX7_sum_1 (fun x_ P_ hq_ => ?_)
  rcases (QPa_c hq_) with ⟨rfl, q2_⟩ | ⟨rfl, q2_⟩
  · skip
    refine z_if_ne (tgt := 9) (by decide) dX7_sum_4 (by decide) (fun c4 => ?_) (fun c4 => absurd c4 (by decide))
    have K9 : ∀ (fuel_ : Nat) (N_ : zM), M 75 5 - N_ 75 6 < (fuel_ : Int) → (SuI M N_) → Z RX7 cX7_sum 2 (some .boolean) (2 * d_ + 3) (zQ (BI (QSu M))) 9 [some (vR 75), none] [] (N_) := by
      intro fuel_
      induction fuel_ with
      | zero => intro N_ hfuel_ hI_; exfalso; have := (SuI_PB hB hI_).1; have e_ : N_ 75 5 = M 75 5 := (by obtain ⟨_, _, l_, h1_, _⟩ := hI_; exact h1_.1.2 5 (by decide) (by decide) (by decide)); omega
      | succ fuel_ ih9 =>
        intro N_ hfuel_ hI_
        have hBN_ := SuI_PB hB hI_
        have hrn_ := hV_r (a := N_ 75 6) hBN_ hBN_.1.1
        have hlb_ := hBN_.1
        refine z_aload_0 dX7_sum_9 ?_
        refine z_cVI yv_X7_here ml_X7_195 (c_X7_here (M := N_) hBN_) zk_75 rfl rfl (by omega) (Nat.le_of_ble_eq_true rfl) dX7_sum_10 ?_
        refine z_bipush dX7_sum_13 (by decide) ?_
        refine z_icmp_eq (tgt := 27) (by omega) (by decide) dX7_sum_15 (by decide) (fun c15 => ?_) (fun c15 => ?_)
        · refine z_aload_0 dX7_sum_27 ?_
          refine z_cVI yv_X7_here ml_X7_195 (c_X7_here (M := N_) hBN_) zk_75 rfl rfl (by omega) (Nat.le_of_ble_eq_true rfl) dX7_sum_28 ?_
          refine z_istore_1 rfl dX7_sum_31 ?_
          refine z_aload_0 dX7_sum_32 ?_
          refine z_dup rfl dX7_sum_33 ?_
          refine z_getI fl_X7_192 zk_75 rfl dX7_sum_34 ?_
          refine z_iconst dX7_sum_37 ?_
          refine z_iadd dX7_sum_38 ?_
          refine z_putI fl_X7_192 zk_75 rfl dX7_sum_39 ?_
          refine z_aload_0 dX7_sum_42 ?_
          refine z_sV yv_X7_part ml_X7_220 (hPa (zput N_ 75 6 (N_ 75 6 + 1)) (Pg_PB hBN_ (Pg_adv hBN_ (by decide) (by have := (hV_lt (t := N_ 79) (n := N_ 75 5) (a := N_ 75 6) (by omega)).1; omega)) (by decide)) (by rw [zput_ne2 (by decide), hI_.2.1]; exact h7)) zk_75 rfl rfl (by omega) (Nat.le_of_ble_eq_true rfl) dX7_sum_43 (fun x_ K_ hq_ => ?_)
          rcases (QPa_c hq_) with ⟨rfl, q3_⟩ | ⟨rfl, q3_⟩
          · skip
            refine z_if_ne (tgt := 51) (by decide) dX7_sum_46 (by decide) (fun c46 => ?_) (fun c46 => absurd c46 (by decide))
            refine z_aload_0 dX7_sum_51 ?_
            refine z_iconst dX7_sum_52 ?_
            refine z_iload_1 dX7_sum_53 ?_
            refine z_cVN yv_X7_lays ml_X7_213 (c_X7_lays (M := K_) (by have := (QPa_PB (Pg_PB hBN_ (Pg_adv hBN_ (by decide) (by have := (hV_lt (t := N_ 79) (n := N_ 75 5) (a := N_ 75 6) (by omega)).1; omega)) (by decide)) q3_); have h1_ := this.1; have h2_ := this.2.1; have h3_ := this.2.2.2; omega)) zk_75 rfl rfl (by omega) (Nat.le_of_ble_eq_true rfl) dX7_sum_54 ?_
            refine z_goto (tgt := 9) dX7_sum_57 (by decide) ?_
            refine z_drop_1 ?_
            exact ih9 _ (by rw [lays_6]; have h1_ := (QPa_1 q3_).1; rw [zput_eq] at h1_; omega) (by exact SuI_m hB hI_ rfl (by omega) q3_)
          · skip
            refine z_if_ne (tgt := 51) (by decide) dX7_sum_46 (by decide) (fun c46 => absurd c46 (by decide)) (fun c46 => ?_)
            refine z_iconst dX7_sum_49 ?_
            exact z_zret (by first | exact Or.inl rfl | exact Or.inr rfl | exact zb_01 | omega) dX7_sum_50 (zBI (S_m0 hB hI_ rfl (by omega) q3_))
        · refine z_aload_0 dX7_sum_18 ?_
          refine z_cVI yv_X7_here ml_X7_195 (c_X7_here (M := N_) hBN_) zk_75 rfl rfl (by omega) (Nat.le_of_ble_eq_true rfl) dX7_sum_19 ?_
          refine z_bipush dX7_sum_22 (by decide) ?_
          refine z_icmp_ne (tgt := 60) (by omega) (by decide) dX7_sum_24 (by decide) (fun c24 => ?_) (fun c24 => ?_)
          · refine z_iconst dX7_sum_60 ?_
            exact z_zret (by first | exact Or.inl rfl | exact Or.inr rfl | exact zb_01 | omega) dX7_sum_61 (zBI (S_end hB hI_ (by omega) (by omega)))
          · refine z_aload_0 dX7_sum_27 ?_
            refine z_cVI yv_X7_here ml_X7_195 (c_X7_here (M := N_) hBN_) zk_75 rfl rfl (by omega) (Nat.le_of_ble_eq_true rfl) dX7_sum_28 ?_
            refine z_istore_1 rfl dX7_sum_31 ?_
            refine z_aload_0 dX7_sum_32 ?_
            refine z_dup rfl dX7_sum_33 ?_
            refine z_getI fl_X7_192 zk_75 rfl dX7_sum_34 ?_
            refine z_iconst dX7_sum_37 ?_
            refine z_iadd dX7_sum_38 ?_
            refine z_putI fl_X7_192 zk_75 rfl dX7_sum_39 ?_
            refine z_aload_0 dX7_sum_42 ?_
            refine z_sV yv_X7_part ml_X7_220 (hPa (zput N_ 75 6 (N_ 75 6 + 1)) (Pg_PB hBN_ (Pg_adv hBN_ (by decide) (by have := (hV_lt (t := N_ 79) (n := N_ 75 5) (a := N_ 75 6) (by omega)).1; omega)) (by decide)) (by rw [zput_ne2 (by decide), hI_.2.1]; exact h7)) zk_75 rfl rfl (by omega) (Nat.le_of_ble_eq_true rfl) dX7_sum_43 (fun x_ K_ hq_ => ?_)
            rcases (QPa_c hq_) with ⟨rfl, q3_⟩ | ⟨rfl, q3_⟩
            · skip
              refine z_if_ne (tgt := 51) (by decide) dX7_sum_46 (by decide) (fun c46 => ?_) (fun c46 => absurd c46 (by decide))
              refine z_aload_0 dX7_sum_51 ?_
              refine z_iconst dX7_sum_52 ?_
              refine z_iload_1 dX7_sum_53 ?_
              refine z_cVN yv_X7_lays ml_X7_213 (c_X7_lays (M := K_) (by have := (QPa_PB (Pg_PB hBN_ (Pg_adv hBN_ (by decide) (by have := (hV_lt (t := N_ 79) (n := N_ 75 5) (a := N_ 75 6) (by omega)).1; omega)) (by decide)) q3_); have h1_ := this.1; have h2_ := this.2.1; have h3_ := this.2.2.2; omega)) zk_75 rfl rfl (by omega) (Nat.le_of_ble_eq_true rfl) dX7_sum_54 ?_
              refine z_goto (tgt := 9) dX7_sum_57 (by decide) ?_
              refine z_drop_1 ?_
              exact ih9 _ (by rw [lays_6]; have h1_ := (QPa_1 q3_).1; rw [zput_eq] at h1_; omega) (by exact SuI_m hB hI_ rfl (by omega) q3_)
            · skip
              refine z_if_ne (tgt := 51) (by decide) dX7_sum_46 (by decide) (fun c46 => absurd c46 (by decide)) (fun c46 => ?_)
              refine z_iconst dX7_sum_49 ?_
              exact z_zret (by first | exact Or.inl rfl | exact Or.inr rfl | exact zb_01 | omega) dX7_sum_50 (zBI (S_m0 hB hI_ rfl (by omega) q3_))
    have L9 : ∀ (N_ : zM), (SuI M N_) → Z RX7 cX7_sum 2 (some .boolean) (2 * d_ + 3) (zQ (BI (QSu M))) 9 [some (vR 75), none] [] (N_) := fun N_ hI_ => K9 ((M 75 5 - N_ 75 6).toNat + 1) N_ (by omega) hI_
    exact L9 _ (by exact SuI_1 q2_)
  · skip
    refine z_if_ne (tgt := 9) (by decide) dX7_sum_4 (by decide) (fun c4 => absurd c4 (by decide)) (fun c4 => ?_)
    refine z_iconst dX7_sum_7 ?_
    exact z_zret (by first | exact Or.inl rfl | exact Or.inr rfl | exact zb_01 | omega) dX7_sum_8 (zBI (S_0 q2_))
theorem c_X7_ps : ∀ d_ : Nat, d_ ≤ 5 → (∀ M : zM, PB M → M 75 7 = 5 - (d_ : Int) → Call yX7_part cX7_part 4 (some .boolean) (2 * d_ + 2) [vR 75] M (BI (QPa M))) ∧ (∀ M : zM, PB M → M 75 7 = 5 - (d_ : Int) → Call yX7_sum cX7_sum 2 (some .boolean) (2 * d_ + 3) [vR 75] M (BI (QSu M)))
  | 0, h => by
    have hp : ∀ M : zM, PB M → M 75 7 = 5 - ((0 : Nat) : Int) → Call yX7_part cX7_part 4 (some .boolean) (2 * 0 + 2) [vR 75] M (BI (QPa M)) := fun M hB h7 => c_X7_partS (d_ := 0) h h7 hB (fun N hn => absurd hn (by decide)) (fun N hn => absurd hn (by decide))
    exact ⟨hp, fun M hB h7 => c_X7_sumS (d_ := 0) h h7 hB hp⟩
  | d_ + 1, h => by
    have i := c_X7_ps d_ (by omega)
    have hp : ∀ M : zM, PB M → M 75 7 = 5 - ((d_ + 1 : Nat) : Int) → Call yX7_part cX7_part 4 (some .boolean) (2 * (d_ + 1) + 2) [vR 75] M (BI (QPa M)) := fun M hB h7 => c_X7_partS (d_ := d_ + 1) h h7 hB (fun N _ hb h8 => i.1 N hb (by rw [h8, Nat.add_sub_cancel])) (fun N _ hb h8 => i.2 N hb (by rw [h8, Nat.add_sub_cancel]))
    exact ⟨hp, fun M hB h7 => c_X7_sumS (d_ := d_ + 1) h h7 hB hp⟩
