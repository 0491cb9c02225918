abbrev BI (Q : Int → zM → Prop) : Option zV → zM → Prop := fun r M2 => ∃ x : Int, r = some (vI x) ∧ Q x M2
theorem zBI {Q : Int → zM → Prop} {x : Int} {M : zM} (h : Q x M) : BI Q (some (vI x)) M := ⟨x, rfl, h⟩
section
variable {own : String} {cc : ByteArray} {mL : Nat} {rt : Option FieldType} {d : Nat} {F : zF} {pc : Nat} {lv lv2 : List (Option zV)} {st : List zV} {M : zM}
theorem z_sV {y : MethodName} {cb : ByteArray} {mb db idx n t b : Nat} {rb : Option FieldType} {as st0 : List zV} {Q : Int → zM → Prop} (hy : zYv y cb mb rb n t) (hl : Cond.methodLink own idx y ∈ zt) (hc : Call y cb mb rb db (vR b :: as) M (BI Q)) (hb : zKT b t) (hst : st0 = as.reverse ++ vR b :: st) (hna : as.length = n) (hdb : db + 1 ≤ d) (hw : (st.map zcat).sum ≤ 8) (hd : decode cc pc = .ok (.invokevirtual idx, 3)) (k : ∀ x g, Q x g → Z own cc mL rt d F (pc + 3) lv (vI x :: st) g) : Z own cc mL rt d F pc lv st0 M := by
  refine z_callV hy hl hc hb hst hna hdb hw hd (fun r M2 h => ?_)
  obtain ⟨x, rfl, h⟩ := h
  exact k x _ h
theorem z_sS {y : MethodName} {cb : ByteArray} {mb db idx n : Nat} {rb : Option FieldType} {as st0 : List zV} {Q : Int → zM → Prop} (hy : zYs y cb mb rb n) (hl : Cond.methodLink own idx y ∈ zt) (hc : Call y cb mb rb db as M (BI Q)) (hst : st0 = as.reverse ++ st) (hna : as.length = n) (hdb : db + 1 ≤ d) (hw : (st.map zcat).sum ≤ 8) (hd : decode cc pc = .ok (.invokestatic idx, 3)) (k : ∀ x g, Q x g → Z own cc mL rt d F (pc + 3) lv (vI x :: st) g) : Z own cc mL rt d F pc lv st0 M := by
  refine z_callS hy hl hc hst hna hdb hw hd (fun r M2 h => ?_)
  obtain ⟨x, rfl, h⟩ := h
  exact k x _ h
end
def exL (P : List (Int × Int) → Prop) : Prop := ∃ l, P l
/-! the reference's reader: field 5 taped, 6 at, 7 opened, 8 many; 79 the tape, 80 the steps -/
def PB (M : zM) : Prop := (0 ≤ M 75 6 ∧ M 75 6 ≤ M 75 5) ∧ (0 ≤ M 75 5 ∧ M 75 5 ≤ 60) ∧ (∀ j : Int, 0 ≤ j → j < 60 → 0 ≤ M 79 j ∧ M 79 j ≤ 255) ∧ (0 ≤ M 75 8 ∧ M 75 8 ≤ M 75 6)
def hV (t : Int → Int) (n a : Int) : Int := if a < n then t a else -1
theorem hV_r {M : zM} {a : Int} (h : PB M) (ha : 0 ≤ a) : -1 ≤ hV (M 79) (M 75 5) a ∧ hV (M 79) (M 75 5) a ≤ 255 := by
  unfold hV
  split
  · have := h.2.2.1 a ha (by have := h.2.1; omega)
    omega
  · omega
theorem hV_lt {t : Int → Int} {n a : Int} (h : hV t n a ≠ -1) : a < n ∧ hV t n a = t a := by
  unfold hV at h ⊢
  split at h
  · rename_i q
    exact ⟨q, if_pos q⟩
  · exact absurd rfl h
theorem hV_of {t : Int → Int} {n a : Int} (h : a < n) : hV t n a = t a := if_pos h
abbrev laysM (M : zM) (w v : Int) : zM := zput (zput (zput M 80 (2 * M 75 8) w) 80 (2 * M 75 8 + 1) v) 75 8 (M 75 8 + 1)
def FrP (N M : zM) : Prop := (∀ k : Nat, k ≠ 75 → k ≠ 80 → N k = M k) ∧ (∀ j : Int, j ≠ 6 → j ≠ 7 → j ≠ 8 → N 75 j = M 75 j)
theorem FrP_tr {K N M : zM} (h1 : FrP N M) (h2 : FrP K N) : FrP K M := ⟨fun k a b => (h2.1 k a b).trans (h1.1 k a b), fun j a b c => (h2.2 j a b c).trans (h1.2 j a b c)⟩
theorem FrP_rf {M : zM} : FrP M M := ⟨fun _ _ _ => rfl, fun _ _ _ _ => rfl⟩
abbrev okE (e : Int × Int) : Prop := (0 ≤ e.1 ∧ e.1 ≤ 4) ∧ (e.1 = 3 → 0 ≤ e.2 ∧ e.2 ≤ 255) ∧ (0 ≤ e.2 ∧ e.2 ≤ 99999999)
def okL (l : List (Int × Int)) : Prop := ∀ e ∈ l, okE e
theorem okL_nil : okL [] := fun e h => by cases h
theorem okL_app {l l2 : List (Int × Int)} (h : okL l) (h2 : okL l2) : okL (l ++ l2) := fun e he => by
  rcases List.mem_append.mp he with q | q
  · exact h e q
  · exact h2 e q
theorem okL_1 {w v : Int} (h : (0 ≤ w ∧ w ≤ 4) ∧ (w = 3 → 0 ≤ v ∧ v ≤ 255) ∧ (0 ≤ v ∧ v ≤ 99999999)) : okL [(w, v)] := fun e he => by
  rw [List.mem_singleton.mp he]
  exact h
/-- a way forward: the steps l are laid, and c more bytes than steps are gone by -/
def Pg (M N : zM) (l : List (Int × Int)) (c : Int) : Prop := FrP N M ∧ (M 75 6 ≤ N 75 6 ∧ N 75 6 ≤ M 75 5) ∧ 0 ≤ N 75 8 ∧ M 75 6 - M 75 8 + c ≤ N 75 6 - N 75 8 ∧ stL (N 80) (N 75 8).toNat = stL (M 80) (M 75 8).toNat ++ l ∧ okL l
theorem Pg_rf {M : zM} (h : PB M) : Pg M M [] 0 := ⟨FrP_rf, ⟨Int.le_refl _, h.1.2⟩, h.2.2.2.1, by omega, by rw [List.append_nil], okL_nil⟩
theorem Pg_tr {M N K : zM} {l l2 : List (Int × Int)} {c c2 : Int} (h1 : Pg M N l c) (h2 : Pg N K l2 c2) : Pg M K (l ++ l2) (c + c2) := by
  obtain ⟨a1, a2, a3, a4, a5⟩ := h1
  obtain ⟨b1, b2, b3, b4, b5⟩ := h2
  have e := a1.2 5 (by decide) (by decide) (by decide)
  exact ⟨FrP_tr a1 b1, by omega, b3, by omega, by rw [b5.1, a5.1, List.append_assoc], okL_app a5.2 b5.2⟩
theorem Pg_PB {M N : zM} {l : List (Int × Int)} {c : Int} (h : PB M) (hp : Pg M N l c) (hc : 0 ≤ c) : PB N := by
  obtain ⟨a1, a2, a3, a4, a5⟩ := hp
  have e := a1.2 5 (by decide) (by decide) (by decide)
  have h1 := h.1
  have h2 := h.2.2.2
  exact ⟨by omega, by rw [e]; exact h.2.1, by rw [a1.1 79 (by decide) (by decide)]; exact h.2.2.1, by omega⟩
theorem Pg_le {M N : zM} {l : List (Int × Int)} {c c2 : Int} (hp : Pg M N l c) (h : c2 ≤ c) : Pg M N l c2 := by
  obtain ⟨a1, a2, a3, a4, a5⟩ := hp
  exact ⟨a1, a2, a3, by omega, a5⟩
theorem Pg_adv {M : zM} {j : Int} (h : PB M) (hj : 0 ≤ j) (hn : M 75 6 + j ≤ M 75 5) : Pg M (zput M 75 6 (M 75 6 + j)) [] j := by
  refine ⟨⟨fun k a b => zput_ne a, fun i a b c => zput_ne2 a⟩, ?_, ?_, ?_, ?_⟩
  · rw [zput_eq]; omega
  · rw [zput_ne2 (by decide)]; exact h.2.2.2.1
  · rw [zput_eq, zput_ne2 (by decide)]; omega
  · rw [zput_ne (by decide), zput_ne2 (by decide), List.append_nil]; exact ⟨rfl, okL_nil⟩
theorem Pg_lay {M : zM} {w v : Int} (h : PB M) (hw : (0 ≤ w ∧ w ≤ 4) ∧ (w = 3 → 0 ≤ v ∧ v ≤ 255) ∧ (0 ≤ v ∧ v ≤ 99999999)) : Pg M (laysM M w v) [(w, v)] (-1) := by
  have h8 := h.2.2.2
  have h6 := h.1
  have e8 : laysM M w v 75 8 = M 75 8 + 1 := zput_eq
  have e6 : laysM M w v 75 6 = M 75 6 := by show zput _ _ _ _ 75 6 = _; rw [zput_ne2 (by decide), zput_ne (by decide), zput_ne (by decide)]
  refine ⟨⟨fun k a b => by show zput _ _ _ _ k = _; rw [zput_ne a, zput_ne b, zput_ne b], fun i a b c => by show zput _ _ _ _ 75 i = _; rw [zput_ne2 c, zput_ne (by decide), zput_ne (by decide)]⟩, by rw [e6]; omega, by rw [e8]; omega, by rw [e6, e8]; omega, ?_, okL_1 hw⟩
  rw [e8, show (M 75 8 + 1).toNat = (M 75 8).toNat + 1 by omega, stL]
  have r : laysM M w v 80 = zup (zup (M 80) (2 * M 75 8) w) (2 * M 75 8 + 1) v := by
    show zput _ _ _ _ 80 = _
    rw [zput_ne (by decide), zput_at, zput_at]
  have e0 : (((M 75 8).toNat : Nat) : Int) = M 75 8 := by omega
  rw [r, e0, zup_ne (show (2 * M 75 8 : Int) ≠ 2 * M 75 8 + 1 by omega), zup_eq, zup_eq]
  congr 1
  exact stL_congr _ (fun j a b => by rw [zup_ne (by omega), zup_ne (by omega)])
theorem stL_mem {f : Int → Int} : ∀ (n k : Nat), k < n → (f (2 * k), f (2 * k + 1)) ∈ stL f n
  | 0, k, h => absurd h (Nat.not_lt_zero k)
  | n + 1, k, h => by
    rw [stL]
    by_cases e : k = n
    · subst e
      exact List.mem_append_right _ List.mem_cons_self
    · exact List.mem_append_left _ (stL_mem n k (by omega))
theorem okL_r {f : Int → Int} {n : Nat} (h : okL (stL f n)) {j : Int} (h0 : 0 ≤ j) (h1 : j < 2 * n) : 0 ≤ f j ∧ f j ≤ 99999999 := by
  have m := h _ (stL_mem n (j / 2).toNat (by omega))
  have e : (((j / 2).toNat : Nat) : Int) = j / 2 := by omega
  rw [e] at m
  unfold okE at m
  simp only [] at m
  rcases (show j = 2 * (j / 2) ∨ j = 2 * (j / 2) + 1 by omega) with q | q
  · rw [← q] at m; omega
  · rw [← q] at m; omega
def Fl (M N : zM) : Prop := FrP N M ∧ M 75 6 ≤ N 75 6 ∧ N 75 6 ≤ M 75 5
theorem Pg_Fl {M N : zM} {l : List (Int × Int)} {c : Int} (h : Pg M N l c) : Fl M N := ⟨h.1, h.2.1.1, h.2.1.2⟩
theorem Fl_tr {M N K : zM} (h1 : Fl M N) (h2 : Fl N K) : Fl M K := by
  have e := h1.1.2 5 (by decide) (by decide) (by decide)
  exact ⟨FrP_tr h1.1 h2.1, Int.le_trans h1.2.1 h2.2.1, by have := h2.2.2; omega⟩
theorem Fl_rf {M : zM} (h : PB M) : Fl M M := ⟨FrP_rf, Int.le_refl _, h.1.2⟩
def QPa (M : zM) (x : Int) (N : zM) : Prop := (x = 1 ∧ M 75 6 < N 75 6 ∧ N 75 7 = M 75 7 ∧ exL (fun l => Pg M N l 0 ∧ PaOK (M 79) (M 75 5) (M 75 6) (N 75 6) (M 75 7).toNat l)) ∨ (x = 0 ∧ Fl M N ∧ PaNO (M 79) (M 75 5) (M 75 6) (N 75 6) (M 75 7).toNat)
def sEnd (t : Int → Int) (n b : Int) : Prop := b < n → t b ≠ 43 ∧ t b ≠ 45
def QSu (M : zM) (x : Int) (N : zM) : Prop := (x = 1 ∧ M 75 6 < N 75 6 ∧ N 75 7 = M 75 7 ∧ sEnd (M 79) (M 75 5) (N 75 6) ∧ exL (fun l => Pg M N l 0 ∧ SuOK (M 79) (M 75 5) (M 75 6) (N 75 6) (M 75 7).toNat l)) ∨ (x = 0 ∧ Fl M N ∧ SuNO (M 79) (M 75 5) (M 75 6) (N 75 6) (M 75 7).toNat)
theorem c_X7_here {M : zM} (hB : PB M) : Call yX7_here cX7_here 1 (some .int) 0 [vR 75] (M) (PI (hV (M 79) (M 75 5) (M 75 6)) M) := by
  refine Call.of2 (own := RX7) (lv0 := [some (vR 75)]) rfl (by decide) rfl (Nat.le_of_ble_eq_true rfl) ?_
  obtain ⟨⟨b0_, b1_⟩, ⟨b2_, b3_⟩, b4_, ⟨b5_, b6_⟩⟩ := id hB
  refine z_aload_0 dX7_here_0 ?_
  refine z_getI fl_X7_192 zk_75 rfl dX7_here_1 ?_
  refine z_aload_0 dX7_here_4 ?_
  refine z_getI fl_X7_188 zk_75 rfl dX7_here_5 ?_
  refine z_icmp_ge (tgt := 23) (by omega) (by omega) dX7_here_8 (by decide) (fun c8 => ?_) (fun c8 => ?_)
  · refine z_iconst dX7_here_23 ?_
    exact z_iret dX7_here_24 (zPI (by unfold hV; first | exact (if_pos (by omega)).symm | exact (if_neg (by omega)).symm) rfl)
  · refine z_aload_0 dX7_here_11 ?_
    refine z_getR (r := 79) fl_X7_20 zk_75 rfl rfl dX7_here_12 ?_
    refine z_aload_0 dX7_here_15 ?_
    refine z_getI fl_X7_192 zk_75 rfl dX7_here_16 ?_
    refine z_iald (n := 60) zk_79 rfl (by omega) dX7_here_19 ?_
    refine z_goto (tgt := 24) dX7_here_20 (by decide) ?_
    exact z_iret dX7_here_24 (zPI (by unfold hV; first | exact (if_pos (by omega)).symm | exact (if_neg (by omega)).symm) rfl)

theorem c_X7_isCompare {M : zM} (hB : PB M) : Call yX7_isCompare cX7_isCompare 1 (some .boolean) 1 [vR 75] (M) (PI (zb (isCm (hV (M 79) (M 75 5) (M 75 6)))) M) := by
  refine Call.of2 (own := RX7) (lv0 := [some (vR 75)]) rfl (by decide) rfl (Nat.le_of_ble_eq_true rfl) ?_
  have hr_ := hV_r (a := M 75 6) hB hB.1.1
  obtain ⟨⟨b0_, b1_⟩, ⟨b2_, b3_⟩, b4_, ⟨b5_, b6_⟩⟩ := id hB
  refine z_aload_0 dX7_isCompare_0 ?_
  refine z_cVI yv_X7_here ml_X7_195 (c_X7_here hB) zk_75 rfl rfl (by decide) (Nat.le_of_ble_eq_true rfl) dX7_isCompare_1 ?_
  refine z_bipush dX7_isCompare_4 (by decide) ?_
  refine z_icmp_eq (tgt := 27) (by omega) (by decide) dX7_isCompare_6 (by decide) (fun c6 => ?_) (fun c6 => ?_)
  · refine z_iconst dX7_isCompare_27 ?_
    refine z_goto (tgt := 32) dX7_isCompare_28 (by decide) ?_
    exact z_zret (by first | exact Or.inl rfl | exact Or.inr rfl | exact zb_01 | omega) dX7_isCompare_32 (zPI (by first | exact (zb_t (by omega)).symm | exact (zb_f (by omega)).symm) rfl)
  · refine z_aload_0 dX7_isCompare_9 ?_
    refine z_cVI yv_X7_here ml_X7_195 (c_X7_here hB) zk_75 rfl rfl (by decide) (Nat.le_of_ble_eq_true rfl) dX7_isCompare_10 ?_
    refine z_bipush dX7_isCompare_13 (by decide) ?_
    refine z_icmp_eq (tgt := 27) (by omega) (by decide) dX7_isCompare_15 (by decide) (fun c15 => ?_) (fun c15 => ?_)
    · refine z_iconst dX7_isCompare_27 ?_
      refine z_goto (tgt := 32) dX7_isCompare_28 (by decide) ?_
      exact z_zret (by first | exact Or.inl rfl | exact Or.inr rfl | exact zb_01 | omega) dX7_isCompare_32 (zPI (by first | exact (zb_t (by omega)).symm | exact (zb_f (by omega)).symm) rfl)
    · refine z_aload_0 dX7_isCompare_18 ?_
      refine z_cVI yv_X7_here ml_X7_195 (c_X7_here hB) zk_75 rfl rfl (by decide) (Nat.le_of_ble_eq_true rfl) dX7_isCompare_19 ?_
      refine z_bipush dX7_isCompare_22 (by decide) ?_
      refine z_icmp_ne (tgt := 31) (by omega) (by decide) dX7_isCompare_24 (by decide) (fun c24 => ?_) (fun c24 => ?_)
      · refine z_iconst dX7_isCompare_31 ?_
        exact z_zret (by first | exact Or.inl rfl | exact Or.inr rfl | exact zb_01 | omega) dX7_isCompare_32 (zPI (by first | exact (zb_t (by omega)).symm | exact (zb_f (by omega)).symm) rfl)
      · refine z_iconst dX7_isCompare_27 ?_
        refine z_goto (tgt := 32) dX7_isCompare_28 (by decide) ?_
        exact z_zret (by first | exact Or.inl rfl | exact Or.inr rfl | exact zb_01 | omega) dX7_isCompare_32 (zPI (by first | exact (zb_t (by omega)).symm | exact (zb_f (by omega)).symm) rfl)

theorem c_X7_takes {M : zM} {c_ : Int} (hB : PB M) (hc : 0 ≤ c_ ∧ c_ ≤ 255) : Call yX7_takes cX7_takes 2 (some .boolean) 1 [vR 75, vI c_] (M) (BI (fun x N => (x = 1 ∧ M 75 6 < M 75 5 ∧ M 79 (M 75 6) = c_ ∧ N = zput M 75 6 (M 75 6 + 1)) ∨ (x = 0 ∧ (M 75 6 < M 75 5 → M 79 (M 75 6) ≠ c_) ∧ N = M))) := by
  refine Call.of2 (own := RX7) (lv0 := [some (vR 75), some (vI c_)]) rfl (by decide) rfl (Nat.le_of_ble_eq_true rfl) ?_
  have hr_ := hV_r (a := M 75 6) hB hB.1.1
  obtain ⟨⟨b0_, b1_⟩, ⟨b2_, b3_⟩, b4_, ⟨b5_, b6_⟩⟩ := id hB
  refine z_aload_0 dX7_takes_0 ?_
  refine z_cVI yv_X7_here ml_X7_195 (c_X7_here hB) zk_75 rfl rfl (by decide) (Nat.le_of_ble_eq_true rfl) dX7_takes_1 ?_
  refine z_iload_1 dX7_takes_4 ?_
  refine z_icmp_eq (tgt := 10) (by omega) (by omega) dX7_takes_5 (by decide) (fun c5 => ?_) (fun c5 => ?_)
  · refine z_aload_0 dX7_takes_10 ?_
    refine z_dup rfl dX7_takes_11 ?_
    refine z_getI fl_X7_192 zk_75 rfl dX7_takes_12 ?_
    refine z_iconst dX7_takes_15 ?_
    refine z_iadd dX7_takes_16 ?_
    refine z_putI fl_X7_192 zk_75 rfl dX7_takes_17 ?_
    refine z_iconst dX7_takes_20 ?_
    exact z_zret (by first | exact Or.inl rfl | exact Or.inr rfl | exact zb_01 | omega) dX7_takes_21 (zBI (Or.inl ⟨rfl, (hV_lt (t := M 79) (n := M 75 5) (a := M 75 6) (by omega)).1, by rw [← (hV_lt (t := M 79) (n := M 75 5) (a := M 75 6) (by omega)).2]; exact c5, rfl⟩))
  · refine z_iconst dX7_takes_8 ?_
    exact z_zret (by first | exact Or.inl rfl | exact Or.inr rfl | exact zb_01 | omega) dX7_takes_9 (zBI (Or.inr ⟨rfl, fun h_ => by rw [hV_of h_] at c5; exact c5, rfl⟩))

theorem c_X7_lays {M : zM} {w_ v_ : Int} (h8 : 0 ≤ M 75 8 ∧ M 75 8 ≤ 64) : Call yX7_lays cX7_lays 3 none 0 [vR 75, vI w_, vI v_] (M) (PN (laysM M w_ v_)) := by
  refine Call.of2 (own := RX7) (lv0 := [some (vR 75), some (vI w_), some (vI v_)]) rfl (by decide) rfl (Nat.le_of_ble_eq_true rfl) ?_
  refine z_aload_0 dX7_lays_0 ?_
  refine z_getR (r := 80) fl_X7_23 zk_75 rfl rfl dX7_lays_1 ?_
  refine z_iconst dX7_lays_4 ?_
  refine z_aload_0 dX7_lays_5 ?_
  refine z_getI fl_X7_198 zk_75 rfl dX7_lays_6 ?_
  refine z_imul dX7_lays_9 ?_
  refine z_iload_1 dX7_lays_10 ?_
  refine z_iast (n := 130) zk_80 rfl (by omega) dX7_lays_11 ?_
  refine z_aload_0 dX7_lays_12 ?_
  refine z_getR (r := 80) fl_X7_23 zk_75 rfl rfl dX7_lays_13 ?_
  refine z_iconst dX7_lays_16 ?_
  refine z_aload_0 dX7_lays_17 ?_
  refine z_getIv (v := (M 75 8)) fl_X7_198 zk_75 rfl (by rw [zput_ne (by decide)]) dX7_lays_18 ?_
  refine z_imul dX7_lays_21 ?_
  refine z_iconst dX7_lays_22 ?_
  refine z_iadd dX7_lays_23 ?_
  refine z_iload_2 dX7_lays_24 ?_
  refine z_iast (n := 130) zk_80 rfl (by omega) dX7_lays_25 ?_
  refine z_aload_0 dX7_lays_26 ?_
  refine z_dup rfl dX7_lays_27 ?_
  refine z_getIv (v := (M 75 8)) fl_X7_198 zk_75 rfl (by rw [zput_ne (by decide), zput_ne (by decide)]) dX7_lays_28 ?_
  refine z_iconst dX7_lays_31 ?_
  refine z_iadd dX7_lays_32 ?_
  refine z_putI fl_X7_198 zk_75 rfl dX7_lays_33 ?_
  exact z_vret dX7_lays_36 (zPN rfl)

theorem c_X7_isName {M : zM} {c_ : Int} (hc : -1 ≤ c_ ∧ c_ ≤ 255) : Call yX7_isName cX7_isName 1 (some .boolean) 0 [vI c_] (M) (PI (zb (nmI c_ ≠ -1)) M) := by
  refine Call.of2 (own := RX7) (lv0 := [some (vI c_)]) rfl (by decide) rfl (Nat.le_of_ble_eq_true rfl) ?_
  refine z_iload_0 dX7_isName_0 ?_
  refine z_bipush dX7_isName_1 (by decide) ?_
  refine z_icmp_eq (tgt := 36) (by omega) (by decide) dX7_isName_3 (by decide) (fun c3 => ?_) (fun c3 => ?_)
  · refine z_iconst dX7_isName_36 ?_
    refine z_goto (tgt := 41) dX7_isName_37 (by decide) ?_
    exact z_zret (by first | exact Or.inl rfl | exact Or.inr rfl | exact zb_01 | omega) dX7_isName_41 (zPI (by unfold nmI; first | (rw [if_pos (by omega)]; rfl) | (rw [if_neg (by omega), if_pos (by omega)]; rfl) | (rw [if_neg (by omega), if_neg (by omega), if_pos (by omega)]; rfl) | (rw [if_neg (by omega), if_neg (by omega), if_neg (by omega), if_pos (by omega)]; rfl) | (rw [if_neg (by omega), if_neg (by omega), if_neg (by omega), if_neg (by omega), if_pos (by omega)]; rfl) | (rw [if_neg (by omega), if_neg (by omega), if_neg (by omega), if_neg (by omega), if_neg (by omega), if_pos (by omega)]; rfl) | (rw [if_neg (by omega), if_neg (by omega), if_neg (by omega), if_neg (by omega), if_neg (by omega), if_neg (by omega)]; rfl)) rfl)
  · refine z_iload_0 dX7_isName_6 ?_
    refine z_bipush dX7_isName_7 (by decide) ?_
    refine z_icmp_eq (tgt := 36) (by omega) (by decide) dX7_isName_9 (by decide) (fun c9 => ?_) (fun c9 => ?_)
    · refine z_iconst dX7_isName_36 ?_
      refine z_goto (tgt := 41) dX7_isName_37 (by decide) ?_
      exact z_zret (by first | exact Or.inl rfl | exact Or.inr rfl | exact zb_01 | omega) dX7_isName_41 (zPI (by unfold nmI; first | (rw [if_pos (by omega)]; rfl) | (rw [if_neg (by omega), if_pos (by omega)]; rfl) | (rw [if_neg (by omega), if_neg (by omega), if_pos (by omega)]; rfl) | (rw [if_neg (by omega), if_neg (by omega), if_neg (by omega), if_pos (by omega)]; rfl) | (rw [if_neg (by omega), if_neg (by omega), if_neg (by omega), if_neg (by omega), if_pos (by omega)]; rfl) | (rw [if_neg (by omega), if_neg (by omega), if_neg (by omega), if_neg (by omega), if_neg (by omega), if_pos (by omega)]; rfl) | (rw [if_neg (by omega), if_neg (by omega), if_neg (by omega), if_neg (by omega), if_neg (by omega), if_neg (by omega)]; rfl)) rfl)
    · refine z_iload_0 dX7_isName_12 ?_
      refine z_bipush dX7_isName_13 (by decide) ?_
      refine z_icmp_eq (tgt := 36) (by omega) (by decide) dX7_isName_15 (by decide) (fun c15 => ?_) (fun c15 => ?_)
      · refine z_iconst dX7_isName_36 ?_
        refine z_goto (tgt := 41) dX7_isName_37 (by decide) ?_
        exact z_zret (by first | exact Or.inl rfl | exact Or.inr rfl | exact zb_01 | omega) dX7_isName_41 (zPI (by unfold nmI; first | (rw [if_pos (by omega)]; rfl) | (rw [if_neg (by omega), if_pos (by omega)]; rfl) | (rw [if_neg (by omega), if_neg (by omega), if_pos (by omega)]; rfl) | (rw [if_neg (by omega), if_neg (by omega), if_neg (by omega), if_pos (by omega)]; rfl) | (rw [if_neg (by omega), if_neg (by omega), if_neg (by omega), if_neg (by omega), if_pos (by omega)]; rfl) | (rw [if_neg (by omega), if_neg (by omega), if_neg (by omega), if_neg (by omega), if_neg (by omega), if_pos (by omega)]; rfl) | (rw [if_neg (by omega), if_neg (by omega), if_neg (by omega), if_neg (by omega), if_neg (by omega), if_neg (by omega)]; rfl)) rfl)
      · refine z_iload_0 dX7_isName_18 ?_
        refine z_bipush dX7_isName_19 (by decide) ?_
        refine z_icmp_eq (tgt := 36) (by omega) (by decide) dX7_isName_21 (by decide) (fun c21 => ?_) (fun c21 => ?_)
        · refine z_iconst dX7_isName_36 ?_
          refine z_goto (tgt := 41) dX7_isName_37 (by decide) ?_
          exact z_zret (by first | exact Or.inl rfl | exact Or.inr rfl | exact zb_01 | omega) dX7_isName_41 (zPI (by unfold nmI; first | (rw [if_pos (by omega)]; rfl) | (rw [if_neg (by omega), if_pos (by omega)]; rfl) | (rw [if_neg (by omega), if_neg (by omega), if_pos (by omega)]; rfl) | (rw [if_neg (by omega), if_neg (by omega), if_neg (by omega), if_pos (by omega)]; rfl) | (rw [if_neg (by omega), if_neg (by omega), if_neg (by omega), if_neg (by omega), if_pos (by omega)]; rfl) | (rw [if_neg (by omega), if_neg (by omega), if_neg (by omega), if_neg (by omega), if_neg (by omega), if_pos (by omega)]; rfl) | (rw [if_neg (by omega), if_neg (by omega), if_neg (by omega), if_neg (by omega), if_neg (by omega), if_neg (by omega)]; rfl)) rfl)
        · refine z_iload_0 dX7_isName_24 ?_
          refine z_bipush dX7_isName_25 (by decide) ?_
          refine z_icmp_eq (tgt := 36) (by omega) (by decide) dX7_isName_27 (by decide) (fun c27 => ?_) (fun c27 => ?_)
          · refine z_iconst dX7_isName_36 ?_
            refine z_goto (tgt := 41) dX7_isName_37 (by decide) ?_
            exact z_zret (by first | exact Or.inl rfl | exact Or.inr rfl | exact zb_01 | omega) dX7_isName_41 (zPI (by unfold nmI; first | (rw [if_pos (by omega)]; rfl) | (rw [if_neg (by omega), if_pos (by omega)]; rfl) | (rw [if_neg (by omega), if_neg (by omega), if_pos (by omega)]; rfl) | (rw [if_neg (by omega), if_neg (by omega), if_neg (by omega), if_pos (by omega)]; rfl) | (rw [if_neg (by omega), if_neg (by omega), if_neg (by omega), if_neg (by omega), if_pos (by omega)]; rfl) | (rw [if_neg (by omega), if_neg (by omega), if_neg (by omega), if_neg (by omega), if_neg (by omega), if_pos (by omega)]; rfl) | (rw [if_neg (by omega), if_neg (by omega), if_neg (by omega), if_neg (by omega), if_neg (by omega), if_neg (by omega)]; rfl)) rfl)
          · refine z_iload_0 dX7_isName_30 ?_
            refine z_bipush dX7_isName_31 (by decide) ?_
            refine z_icmp_ne (tgt := 40) (by omega) (by decide) dX7_isName_33 (by decide) (fun c33 => ?_) (fun c33 => ?_)
            · refine z_iconst dX7_isName_40 ?_
              exact z_zret (by first | exact Or.inl rfl | exact Or.inr rfl | exact zb_01 | omega) dX7_isName_41 (zPI (by unfold nmI; first | (rw [if_pos (by omega)]; rfl) | (rw [if_neg (by omega), if_pos (by omega)]; rfl) | (rw [if_neg (by omega), if_neg (by omega), if_pos (by omega)]; rfl) | (rw [if_neg (by omega), if_neg (by omega), if_neg (by omega), if_pos (by omega)]; rfl) | (rw [if_neg (by omega), if_neg (by omega), if_neg (by omega), if_neg (by omega), if_pos (by omega)]; rfl) | (rw [if_neg (by omega), if_neg (by omega), if_neg (by omega), if_neg (by omega), if_neg (by omega), if_pos (by omega)]; rfl) | (rw [if_neg (by omega), if_neg (by omega), if_neg (by omega), if_neg (by omega), if_neg (by omega), if_neg (by omega)]; rfl)) rfl)
            · refine z_iconst dX7_isName_36 ?_
              refine z_goto (tgt := 41) dX7_isName_37 (by decide) ?_
              exact z_zret (by first | exact Or.inl rfl | exact Or.inr rfl | exact zb_01 | omega) dX7_isName_41 (zPI (by unfold nmI; first | (rw [if_pos (by omega)]; rfl) | (rw [if_neg (by omega), if_pos (by omega)]; rfl) | (rw [if_neg (by omega), if_neg (by omega), if_pos (by omega)]; rfl) | (rw [if_neg (by omega), if_neg (by omega), if_neg (by omega), if_pos (by omega)]; rfl) | (rw [if_neg (by omega), if_neg (by omega), if_neg (by omega), if_neg (by omega), if_pos (by omega)]; rfl) | (rw [if_neg (by omega), if_neg (by omega), if_neg (by omega), if_neg (by omega), if_neg (by omega), if_pos (by omega)]; rfl) | (rw [if_neg (by omega), if_neg (by omega), if_neg (by omega), if_neg (by omega), if_neg (by omega), if_neg (by omega)]; rfl)) rfl)

theorem c_X7_opens {M : zM} (h7 : 0 ≤ M 75 7 ∧ M 75 7 ≤ 5) : Call yX7_opens cX7_opens 1 (some .boolean) 0 [vR 75] (M) (BI (fun x N => (x = 1 ∧ M 75 7 ≠ 5 ∧ N = zput (zput M 75 7 (M 75 7 + 1)) 75 6 (M 75 6 + 1)) ∨ (x = 0 ∧ M 75 7 = 5 ∧ N = M))) := by
  refine Call.of2 (own := RX7) (lv0 := [some (vR 75)]) rfl (by decide) rfl (Nat.le_of_ble_eq_true rfl) ?_
  refine z_aload_0 dX7_opens_0 ?_
  refine z_getI fl_X7_223 zk_75 rfl dX7_opens_1 ?_
  refine z_iconst dX7_opens_4 ?_
  refine z_icmp_ne (tgt := 10) (by omega) (by decide) dX7_opens_5 (by decide) (fun c5 => ?_) (fun c5 => ?_)
  · refine z_aload_0 dX7_opens_10 ?_
    refine z_dup rfl dX7_opens_11 ?_
    refine z_getI fl_X7_223 zk_75 rfl dX7_opens_12 ?_
    refine z_iconst dX7_opens_15 ?_
    refine z_iadd dX7_opens_16 ?_
    refine z_putI fl_X7_223 zk_75 rfl dX7_opens_17 ?_
    refine z_aload_0 dX7_opens_20 ?_
    refine z_dup rfl dX7_opens_21 ?_
    refine z_getIv (v := (M 75 6)) fl_X7_192 zk_75 rfl (by rw [zput_ne2 (by decide)]) dX7_opens_22 ?_
    refine z_iconst dX7_opens_25 ?_
    refine z_iadd dX7_opens_26 ?_
    refine z_putI fl_X7_192 zk_75 rfl dX7_opens_27 ?_
    refine z_iconst dX7_opens_30 ?_
    exact z_zret (by first | exact Or.inl rfl | exact Or.inr rfl | exact zb_01 | omega) dX7_opens_31 (zBI (Or.inl ⟨rfl, c5, rfl⟩))
  · refine z_iconst dX7_opens_8 ?_
    exact z_zret (by first | exact Or.inl rfl | exact Or.inr rfl | exact zb_01 | omega) dX7_opens_9 (zBI (Or.inr ⟨rfl, c5, rfl⟩))
