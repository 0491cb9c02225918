def bSm (D : va_G) (e e' : va_E) : Prop := ∀ (q : Nat) (H : Heap), va_at D vwCl (q, e) H → va_at D vwCl (q, e') H
theorem bSm_eq {D : va_G} {e e' : va_E} (h : e = e') : bSm D e e' := fun _ _ k => h ▸ k
theorem arrV_same {c n : Nat} {f g : Nat → Value} (h : ∀ j, j < n → f j = g j) : arrV c n f = arrV c n g := by
  unfold arrV
  have e : (fun j : Fin n => f j.val) = (fun j : Fin n => g j.val) := funext (fun j => h j.1 j.2)
  rw [e]
theorem bSm_B {D : va_G} {ct ad : Nat → Nat} {M : zM} {k n : Nat} {f : Nat → Int32} (hT : zT k = 8) (hN : zN k = n) (h : ∀ j : Nat, j < n → f j = Int32.ofInt (M k (j : Int))) : bSm D (.inl (ct 0, n, .inl f)) (zcell ct ad M k) := by
  intro q H hq
  subst hN
  rw [zc_8 hT]
  show H[q]? = some (vp_cell _ _)
  rw [vp_cell_i, ← arrV_same (fun j hj => congrArg Value.int (h j hj))]
  exact hq
theorem bSm_I {D : va_G} {ct ad : Nat → Nat} {M : zM} {k n : Nat} {f : Nat → Int32} (hT : zT k = 9) (hN : zN k = n) (h : ∀ j : Nat, j < n → f j = Int32.ofInt (M k (j : Int))) : bSm D (.inl (ct 1, n, .inl f)) (zcell ct ad M k) := by
  intro q H hq
  subst hN
  rw [zc_9 hT]
  show H[q]? = some (vp_cell _ _)
  rw [vp_cell_i, ← arrV_same (fun j hj => congrArg Value.int (h j hj))]
  exact hq
theorem bSm_J {D : va_G} {ct ad : Nat → Nat} {M : zM} {k n : Nat} {f : Nat → Int64} (hT : zT k = 10) (hN : zN k = n) (h : ∀ j : Nat, j < n → f j = Int64.ofInt (M k (j : Int))) : bSm D (.inl (ct 2, n, .inr (.inl f))) (zcell ct ad M k) := by
  intro q H hq
  subst hN
  rw [zc_10 hT]
  show H[q]? = some (vp_cell _ _)
  rw [vp_cell_l, ← arrV_same (fun j hj => congrArg Value.long (h j hj))]
  exact hq
theorem bSm_S {D : va_G} {ct ad : Nat → Nat} {M : zM} {k n : Nat} {f : Nat → Option Nat} (hT : zT k = 11) (hN : zN k = n) (h : ∀ j : Nat, j < n → f j = some (ad (zR k j))) : bSm D (.inl (ct 3, n, .inr (.inr (.inr (.inr f))))) (zcell ct ad M k) := by
  intro q H hq
  subst hN
  rw [zc_11 hT]
  show H[q]? = some (vp_cell _ _)
  rw [vp_cell_q, ← arrV_same (fun j hj => congrArg va_rf (h j hj))]
  exact hq
theorem bSm_W {D : va_G} {ct ad : Nat → Nat} {M : zM} {k n : Nat} {f : Nat → Option Nat} (hT : zT k = 12) (hN : zN k = n) (h : ∀ j : Nat, j < n → f j = some (ad (zR k j))) : bSm D (.inl (ct 4, n, .inr (.inr (.inr (.inr f))))) (zcell ct ad M k) := by
  intro q H hq
  subst hN
  rw [zc_12 hT]
  show H[q]? = some (vp_cell _ _)
  rw [vp_cell_q, ← arrV_same (fun j hj => congrArg va_rf (h j hj))]
  exact hq
theorem M0_0 {k : Nat} (h : (k == 11 || k == 12 || k == 13 || k == 76 || k == 7) = false) (j : Int) : M0 k j = 0 := by
  simp only [Bool.or_eq_false_iff, beq_eq_false_iff_ne] at h
  exact M0_z h.1.1.1.1 h.1.1.1.2 h.1.1.2 h.1.2 h.2
theorem M0_I {k n : Nat} (h : (k == 11 || k == 12 || k == 13 || k == 76 || k == 7) = false) : ∀ j : Nat, j < n → (0 : Int32) = Int32.ofInt (M0 k (j : Int)) := fun j _ => by rw [M0_0 h]; rfl
theorem M0_J {k n : Nat} (h : (k == 11 || k == 12 || k == 13 || k == 76 || k == 7) = false) : ∀ j : Nat, j < n → (0 : Int64) = Int64.ofInt (M0 k (j : Int)) := fun j _ => by rw [M0_0 h]; rfl
theorem zc_M0 {ct ad : Nat → Nat} {k : Nat} (h : (k == 11 || k == 12 || k == 13 || k == 76 || k == 7) = false) : zcell ct ad M0 k = zcell ct ad (fun _ _ => 0) k := zcell_congr (funext (fun j => (M0_0 h j).symm)) |>.symm
theorem M0_pl : ∀ k, (k == 11 || k == 12 || k == 13) = true → ∀ j : Nat, j < 6 → (upd (upd (upd (upd (upd (upd (fun _ => 0) 0 1) 1 100) 2 10) 3 1000000) 4 0) 5 9) j = Int32.ofInt (M0 k (j : Int)) := by
  intro k hk j hj
  have e : M0 k (j : Int) = pl0 j := by
    simp only [Bool.or_eq_true, beq_iff_eq] at hk
    unfold M0
    rw [if_pos (by omega)]
  rw [e]
  match j, hj with
  | 0, _ => rfl
  | 1, _ => rfl
  | 2, _ => rfl
  | 3, _ => rfl
  | 4, _ => rfl
  | 5, _ => rfl
  | j + 6, hj => exact absurd hj (by omega)
theorem M0_76 : ∀ j : Nat, j < 214 → (vp_updL (vp_updL (vp_updL (vp_updL (vp_updL (fun _ => 0) 2 1) 3 100) 4 10) 5 1000000) 7 9) j = Int64.ofInt (M0 76 (j : Int)) := by
  intro j _
  rw [M0_s]
  by_cases h : j < 8
  · match j, h with
    | 0, _ => rfl
    | 1, _ => rfl
    | 2, _ => rfl
    | 3, _ => rfl
    | 4, _ => rfl
    | 5, _ => rfl
    | 6, _ => rfl
    | 7, _ => rfl
    | j + 8, hj => exact absurd hj (by omega)
  · unfold vp_updL pl0
    rw [if_neg (by omega), if_neg (by omega), if_neg (by omega), if_neg (by omega), if_neg (by omega), if_neg (by omega), if_neg (by omega), if_neg (by omega), if_neg (by omega), if_neg (by omega)]
    rfl
theorem b_conv {D : va_G} {A : Nat → Prop} {ws : va_W} {H : Heap} {ct ad : Nat → Nat} {M : zM} (pl inv : Nat → Nat) (hinv : ∀ i, i < 93 → inv (pl i) = i) (hE : ∀ k, k < 93 → ∃ e, ws[pl k]? = some (ad k, e) ∧ bSm D e (zcell ct ad M k)) (hP : va_P D vwCl ws H) (hD : va_D A ws) : va_P D vwCl (zws ct ad M) H ∧ va_D A (zws ct ad M) := by
  have hlt : ∀ (k : Nat) (q : Nat × va_E), (zws ct ad M)[k]? = some q → k < 93 := fun k q hq => by
    have := (List.getElem?_eq_some_iff.mp hq).1
    simpa [zws] using this
  refine ⟨fun k q hq => ?_, fun i j p q hi hj h => ?_, fun k q hq => ?_⟩
  · have hk := hlt k q hq
    rw [zws_get hk] at hq
    cases hq
    obtain ⟨e, h1, h2⟩ := hE k hk
    exact h2 _ _ (hP _ _ h1)
  · have hi2 := hlt _ _ hi
    have hj2 := hlt _ _ hj
    rw [zws_get hi2] at hi
    rw [zws_get hj2] at hj
    cases hi
    cases hj
    obtain ⟨e, h1, -⟩ := hE i hi2
    obtain ⟨e', h1', -⟩ := hE j hj2
    have := hD.1 _ _ _ _ h1 h1' h
    rw [← hinv i hi2, ← hinv j hj2, this]
  · have hk := hlt k q hq
    rw [zws_get hk] at hq
    cases hq
    obtain ⟨e, h1, -⟩ := hE k hk
    exact hD.2 _ (ad k, e) h1
def bPl (k : Nat) : Nat := [0, 59, 43, 27, 26, 1, 25, 21, 17, 11, 10, 60, 44, 28, 61, 45, 29, 62, 46, 30, 63, 64, 65, 66, 67, 68, 69, 70, 71, 72, 73, 74, 47, 48, 49, 50, 51, 52, 53, 54, 55, 56, 57, 58, 31, 32, 33, 34, 35, 36, 37, 38, 39, 40, 41, 42, 8, 6, 4, 2, 9, 7, 5, 3, 22, 23, 24, 18, 19, 20, 12, 13, 14, 15, 16, 75, 76, 92, 91, 90, 89, 88, 87, 86, 85, 84, 83, 82, 81, 80, 79, 78, 77].getD k 0
def bIn (k : Nat) : Nat := [0, 5, 59, 63, 58, 62, 57, 61, 56, 60, 10, 9, 70, 71, 72, 73, 74, 8, 67, 68, 69, 7, 64, 65, 66, 6, 4, 3, 13, 16, 19, 44, 45, 46, 47, 48, 49, 50, 51, 52, 53, 54, 55, 2, 12, 15, 18, 32, 33, 34, 35, 36, 37, 38, 39, 40, 41, 42, 43, 1, 11, 14, 17, 20, 21, 22, 23, 24, 25, 26, 27, 28, 29, 30, 31, 75, 76, 92, 91, 90, 89, 88, 87, 86, 85, 84, 83, 82, 81, 80, 79, 78, 77].getD k 0
theorem bIn_Pl : ∀ i, i < 93 → bIn (bPl i) = i := by decide +kernel
/-- the addresses by the cells' numbers -/
def bAd (x : Nat) (a : Nat → Nat) (y : Nat) (b : Nat → Nat) (t1 t2 t3 sc : Nat) (k : Nat) : Nat := [x, (a 58), (a 42), (a 26), (a 25), (a 0), (a 24), (a 20), (a 16), (a 10), (a 9), (a 59), (a 43), (a 27), (a 60), (a 44), (a 28), (a 61), (a 45), (a 29), (a 62), (a 63), (a 64), (a 65), (a 66), (a 67), (a 68), (a 69), (a 70), (a 71), (a 72), (a 73), (a 46), (a 47), (a 48), (a 49), (a 50), (a 51), (a 52), (a 53), (a 54), (a 55), (a 56), (a 57), (a 30), (a 31), (a 32), (a 33), (a 34), (a 35), (a 36), (a 37), (a 38), (a 39), (a 40), (a 41), (a 7), (a 5), (a 3), (a 1), (a 8), (a 6), (a 4), (a 2), (a 21), (a 22), (a 23), (a 17), (a 18), (a 19), (a 11), (a 12), (a 13), (a 14), (a 15), y, (b 0), (b 16), (b 15), (b 14), (b 13), (b 12), (b 11), (b 10), (b 9), (b 8), (b 7), (b 6), (b 5), (b 4), (b 3), (b 2), (b 1), t1, t2, t3, sc].getD k 0
