abbrev s0A (nu lf cp va : Int) : aK × aO := ((1, nu, 0, 0, 1, []), (0, lf, cp, 1, 0, va))
def pick (F : Int → Int) (m : Nat) (P : List Int) (co va : Int) : Prop := ∀ z : Int, evO F (List.replicate m (4, 0)) (z :: P) = some [if co ≠ 0 then va else z]
abbrev isCm (c : Int) : Prop := c = 60 ∨ c = 61 ∨ c = 62
def TopH (t : Int → Int) (b : Int) (l : List (Int × Int)) (m : Nat) : Prop := ∀ (F : Int → Int) (nu0 lf0 cp0 va0 : Int), ∃ (nu lf cp co va : Int) (P : List Int), Go F t 0 (s0A nu0 lf0 cp0 va0) b ((1, nu, 0, 0, 1, []), (0, lf, cp, 1, co, va)) ∧ evO F l [] = some P ∧ pick F m P co va
def TopS (t : Int → Int) (n b : Int) (l : List (Int × Int)) (m : Nat) : Prop := ∀ (F : Int → Int) (nu0 lf0 cp0 va0 : Int), ∃ (k2 : aK) (x g lf cp co va : Int) (P : List Int), Go F t 0 (s0A nu0 lf0 cp0 va0) b (k2, (0, lf, cp, 1, co, va)) ∧ kNum k2 = (0, 0, 0, x, g, []) ∧ evO F l [] = some (x :: P) ∧ pick F m P co va ∧ PD F t n b k2
def TopC (t : Int → Int) (n b : Int) (l : List (Int × Int)) (m : Nat) : Prop := ∀ (F : Int → Int) (nu0 lf0 cp0 va0 : Int), ∃ (k2 : aK) (y g lf cp ho co va : Int) (P : List Int), Go F t 0 (s0A nu0 lf0 cp0 va0) b (k2, (1, lf, cp, ho, co, va)) ∧ kNum k2 = (0, 0, 0, y, g, []) ∧ evO F l [] = some ((if ho ≠ 0 ∧ cpR lf cp y ≠ 0 then 1 else 0) :: P) ∧ pick F m P co va ∧ PD F t n b k2
def TopA (t : Int → Int) (n b : Int) (l : List (Int × Int)) (m : Nat) : Prop := ∀ (F : Int → Int) (nu0 lf0 cp0 va0 : Int), ∃ (k2 : aK) (x g lf cp ho co va : Int) (P : List Int), Go F t 0 (s0A nu0 lf0 cp0 va0) b (k2, (2, lf, cp, ho, co, va)) ∧ kNum k2 = (0, 0, 0, x, g, []) ∧ evO F l [] = some (x :: ho :: P) ∧ (ho = 0 ∨ ho = 1) ∧ pick F m P co va ∧ PD F t n b k2
def TopQ (t : Int → Int) (n b : Int) (l : List (Int × Int)) (m : Nat) : Prop := ∀ (F : Int → Int) (nu0 lf0 cp0 va0 : Int), ∃ (k2 : aK) (x g lf cp ho co va : Int) (P : List Int), Go F t 0 (s0A nu0 lf0 cp0 va0) b (k2, (3, lf, cp, ho, co, va)) ∧ kNum k2 = (0, 0, 0, x, g, []) ∧ evO F l [] = some (x :: ho :: P) ∧ (ho = 0 ∨ ho = 1) ∧ pick F m P co va ∧ PD F t n b k2
def TopNO (t : Int → Int) (n b : Int) : Prop := ∀ (F : Int → Int) (nu0 lf0 cp0 va0 : Int), ∃ s2, Go F t 0 (s0A nu0 lf0 cp0 va0) b s2 ∧ Stuck F t n b s2
theorem cpR_01 {x c y : Int} : cpR x c y = 0 ∨ cpR x c y = 1 := by
  unfold cpR
  split
  · exact zb_01
  · split
    · exact zb_01
    · exact zb_01
theorem join_cp {x c y : Int} (h : isCm c) : joinI c x y = cpR x c y := by
  unfold joinI cpR
  rcases h with h | h | h
  · rw [h, if_neg (by decide), if_neg (by decide), if_pos rfl, if_pos rfl]
  · rw [h, if_neg (by decide), if_neg (by decide), if_neg (by decide), if_neg (by decide), if_pos rfl, if_neg (by decide), if_neg (by decide)]
  · rw [h, if_neg (by decide), if_neg (by decide), if_neg (by decide), if_pos rfl, if_neg (by decide), if_pos rfl]
theorem TopH_0 {t : Int → Int} : TopH t 0 [] 0 := by
  intro F nu0 lf0 cp0 va0
  refine ⟨nu0, lf0, cp0, 0, va0, [], Go_rf, rfl, fun z => ?_⟩
  rfl
theorem TopS_of {t : Int → Int} {n b c : Int} {l l2 : List (Int × Int)} {m : Nat} (h : TopH t b l m) (h2 : SuOK t n b c 0 l2) : TopS t n c (l ++ l2) m := by
  intro F nu0 lf0 cp0 va0
  obtain ⟨nu, lf, cp, co, va, P, g1, g2, g3⟩ := h F nu0 lf0 cp0 va0
  obtain ⟨k2, v, g, f1, f2, f0, f3, f4⟩ := h2 F nu [] (0, lf, cp, 1, co, va) rfl solid_nil
  refine ⟨k2, v, g, lf, cp, co, va, P, Go_tr g1 f1, f2, ?_, g3, f4⟩
  rw [evO_app, g2]
  exact f3 P
theorem TopNO_H {t : Int → Int} {n b c : Int} {l : List (Int × Int)} {m : Nat} (h : TopH t b l m) (h2 : SuNO t n b c 0) : TopNO t n c := by
  intro F nu0 lf0 cp0 va0
  obtain ⟨nu, lf, cp, co, va, P, g1, g2, g3⟩ := h F nu0 lf0 cp0 va0
  obtain ⟨s2, f1, f2⟩ := h2 F nu [] (0, lf, cp, 1, co, va) rfl solid_nil
  exact ⟨s2, Go_tr g1 f1, f2⟩
theorem cm_c {c : Int} (h : isCm c) : ¬ isDg c ∧ c ≠ 43 ∧ c ≠ 45 := by omega
theorem ou_0 {lf cp ho co va x c : Int} (h : isCm c) : ouO (0, lf, cp, ho, co, va) x c = some (1, x, c, ho, co, va) := by
  unfold ouO plB
  simp only [if_pos h]
  rfl
theorem ou_2 {lf cp ho co va x c : Int} (h : isCm c) : ouO (2, lf, cp, ho, co, va) x c = some (1, x, c, ho, co, va) := by
  unfold ouO plB
  simp only [if_pos h]
  rfl
theorem ou_1a {lf cp ho co va y : Int} : ouO (1, lf, cp, ho, co, va) y 38 = some (2, lf, cp, (if ho ≠ 0 ∧ cpR lf cp y ≠ 0 then 1 else 0), co, va) := rfl
theorem ou_1q {lf cp ho co va y : Int} : ouO (1, lf, cp, ho, co, va) y 63 = some (3, lf, cp, (if ho ≠ 0 ∧ cpR lf cp y ≠ 0 then 1 else 0), co, va) := rfl
theorem ou_3 {lf cp ho co va v : Int} : ouO (3, lf, cp, ho, co, va) v 58 = some (0, lf, cp, 1, (if co ≠ 0 ∨ ho ≠ 0 then 1 else 0), (if ho ≠ 0 ∧ co = 0 then v else va)) := rfl
theorem TopC_of {t : Int → Int} {n b c : Int} {l l2 : List (Int × Int)} {m : Nat} (h : TopS t n b l m) (hc : isCm (t b)) (h2 : SuOK t n (b + 1) c 0 l2) : TopC t n c (l ++ (l2 ++ [(3, t b)])) m := by
  intro F nu0 lf0 cp0 va0
  obtain ⟨k2, x, g, lf, cp, co, va, P, g1, g2, g3, g4, g5⟩ := h F nu0 lf0 cp0 va0
  obtain ⟨d1, d2, d3⟩ := cm_c hc
  obtain ⟨k3, y, g', f1, f2, f0, f3, f4⟩ := h2 F 0 [] (1, x, t b, 1, co, va) rfl solid_nil
  refine ⟨k3, y, g', x, t b, 1, co, va, P, Go_tr g1 (Go_tr (Go_1 (stA_out g2 d1 d2 d3 (ou_0 hc))) f1), f2, ?_, g4, f4⟩
  rw [evO_app, g3]
  show evO F (l2 ++ [(3, t b)]) (x :: P) = _
  rw [evO_app, f3]
  show some (joinI (t b) x y :: P) = _
  rw [join_cp hc]
  rcases cpR_01 (x := x) (c := t b) (y := y) with e | e <;> rw [e] <;> rfl
theorem TopC_A {t : Int → Int} {n b c : Int} {l l2 : List (Int × Int)} {m : Nat} (h : TopA t n b l m) (hc : isCm (t b)) (h2 : SuOK t n (b + 1) c 0 l2) : TopC t n c ((l ++ (l2 ++ [(3, t b)])) ++ [(3, 38)]) m := by
  intro F nu0 lf0 cp0 va0
  obtain ⟨k2, x, g, lf, cp, ho, co, va, P, g1, g2, g3, gh, g4, g5⟩ := h F nu0 lf0 cp0 va0
  obtain ⟨d1, d2, d3⟩ := cm_c hc
  obtain ⟨k3, y, g', f1, f2, f0, f3, f4⟩ := h2 F 0 [] (1, x, t b, ho, co, va) rfl solid_nil
  refine ⟨k3, y, g', x, t b, ho, co, va, P, Go_tr g1 (Go_tr (Go_1 (stA_out g2 d1 d2 d3 (ou_2 hc))) f1), f2, ?_, g4, f4⟩
  rw [evO_app, evO_app, g3]
  show (evO F (l2 ++ [(3, t b)]) (x :: ho :: P)).bind _ = _
  rw [evO_app, f3]
  show some (joinI 38 ho (joinI (t b) x y) :: P) = _
  rw [join_cp hc]
  rcases cpR_01 (x := x) (c := t b) (y := y) with e | e <;> rw [e] <;> rcases gh with e2 | e2 <;> rw [e2] <;> rfl
theorem TopNO_S {t : Int → Int} {n b c : Int} {l : List (Int × Int)} {m : Nat} (h : TopS t n b l m) (hc : isCm (t b)) (h2 : SuNO t n (b + 1) c 0) : TopNO t n c := by
  intro F nu0 lf0 cp0 va0
  obtain ⟨k2, x, g, lf, cp, co, va, P, g1, g2, g3, g4, g5⟩ := h F nu0 lf0 cp0 va0
  obtain ⟨d1, d2, d3⟩ := cm_c hc
  obtain ⟨s2, f1, f2⟩ := h2 F 0 [] (1, x, t b, 1, co, va) rfl solid_nil
  exact ⟨s2, Go_tr g1 (Go_tr (Go_1 (stA_out g2 d1 d2 d3 (ou_0 hc))) f1), f2⟩
theorem TopNO_A {t : Int → Int} {n b c : Int} {l : List (Int × Int)} {m : Nat} (h : TopA t n b l m) (hc : isCm (t b)) (h2 : SuNO t n (b + 1) c 0) : TopNO t n c := by
  intro F nu0 lf0 cp0 va0
  obtain ⟨k2, x, g, lf, cp, ho, co, va, P, g1, g2, g3, gh, g4, g5⟩ := h F nu0 lf0 cp0 va0
  obtain ⟨d1, d2, d3⟩ := cm_c hc
  obtain ⟨s2, f1, f2⟩ := h2 F 0 [] (1, x, t b, ho, co, va) rfl solid_nil
  exact ⟨s2, Go_tr g1 (Go_tr (Go_1 (stA_out g2 d1 d2 d3 (ou_2 hc))) f1), f2⟩
theorem TopNO_A1 {t : Int → Int} {n b : Int} {l : List (Int × Int)} {m : Nat} (h : TopA t n b l m) (hbn : b ≤ n) (hs : b < n → t b ≠ 43 ∧ t b ≠ 45) (hc : b < n → ¬ isCm (t b)) : TopNO t n b := by
  intro F nu0 lf0 cp0 va0
  obtain ⟨k2, x, g, lf, cp, ho, co, va, P, g1, g2, g3, gh, g4, g5⟩ := h F nu0 lf0 cp0 va0
  refine ⟨_, g1, ?_⟩
  by_cases hb : b < n
  · refine Or.inl ⟨hb, stA_no g2 g5 hb (hs hb).1 (hs hb).2 (Or.inr ⟨rfl, ?_⟩)⟩
    unfold ouO plB
    simp only [if_neg (hc hb)]
    by_cases e1 : t b = 38
    · rw [e1]; rfl
    · by_cases e2 : t b = 63
      · rw [e2]; rfl
      · by_cases e3 : t b = 58
        · rw [e3]; rfl
        · simp [e1, e2, e3]
  · refine Or.inr ⟨by omega, fun q => ?_⟩
    have := q.2.2
    simp only [] at this
    omega
theorem TopA_of {t : Int → Int} {n b c : Int} {l l2 : List (Int × Int)} {m : Nat} (h : TopC t n b l m) (hc : t b = 38) (h2 : SuOK t n (b + 1) c 0 l2) : TopA t n c (l ++ l2) m := by
  intro F nu0 lf0 cp0 va0
  obtain ⟨k2, y, g, lf, cp, ho, co, va, P, g1, g2, g3, g4, g5⟩ := h F nu0 lf0 cp0 va0
  obtain ⟨k3, x, g', f1, f2, f0, f3, f4⟩ := h2 F 0 [] (2, lf, cp, (if ho ≠ 0 ∧ cpR lf cp y ≠ 0 then 1 else 0), co, va) rfl solid_nil
  refine ⟨k3, x, g', lf, cp, (if ho ≠ 0 ∧ cpR lf cp y ≠ 0 then 1 else 0), co, va, P, Go_tr g1 (Go_tr (Go_1 (by rw [hc]; exact stA_out g2 (by omega) (by omega) (by omega) ou_1a)) f1), f2, ?_, by split <;> simp, g4, f4⟩
  rw [evO_app, g3]
  exact f3 _
theorem TopNO_C1 {t : Int → Int} {n b c : Int} {l : List (Int × Int)} {m : Nat} (h : TopC t n b l m) (hc : t b = 38) (h2 : SuNO t n (b + 1) c 0) : TopNO t n c := by
  intro F nu0 lf0 cp0 va0
  obtain ⟨k2, y, g, lf, cp, ho, co, va, P, g1, g2, g3, g4, g5⟩ := h F nu0 lf0 cp0 va0
  obtain ⟨s2, f1, f2⟩ := h2 F 0 [] (2, lf, cp, (if ho ≠ 0 ∧ cpR lf cp y ≠ 0 then 1 else 0), co, va) rfl solid_nil
  exact ⟨s2, Go_tr g1 (Go_tr (Go_1 (by rw [hc]; exact stA_out g2 (by omega) (by omega) (by omega) ou_1a)) f1), f2⟩
theorem TopQ_of {t : Int → Int} {n b c : Int} {l l2 : List (Int × Int)} {m : Nat} (h : TopC t n b l m) (hc : t b = 63) (h2 : SuOK t n (b + 1) c 0 l2) : TopQ t n c (l ++ l2) m := by
  intro F nu0 lf0 cp0 va0
  obtain ⟨k2, y, g, lf, cp, ho, co, va, P, g1, g2, g3, g4, g5⟩ := h F nu0 lf0 cp0 va0
  obtain ⟨k3, x, g', f1, f2, f0, f3, f4⟩ := h2 F 0 [] (3, lf, cp, (if ho ≠ 0 ∧ cpR lf cp y ≠ 0 then 1 else 0), co, va) rfl solid_nil
  refine ⟨k3, x, g', lf, cp, (if ho ≠ 0 ∧ cpR lf cp y ≠ 0 then 1 else 0), co, va, P, Go_tr g1 (Go_tr (Go_1 (by rw [hc]; exact stA_out g2 (by omega) (by omega) (by omega) ou_1q)) f1), f2, ?_, by split <;> simp, g4, f4⟩
  rw [evO_app, g3]
  exact f3 _
theorem TopNO_C3 {t : Int → Int} {n b c : Int} {l : List (Int × Int)} {m : Nat} (h : TopC t n b l m) (hc : t b = 63) (h2 : SuNO t n (b + 1) c 0) : TopNO t n c := by
  intro F nu0 lf0 cp0 va0
  obtain ⟨k2, y, g, lf, cp, ho, co, va, P, g1, g2, g3, g4, g5⟩ := h F nu0 lf0 cp0 va0
  obtain ⟨s2, f1, f2⟩ := h2 F 0 [] (3, lf, cp, (if ho ≠ 0 ∧ cpR lf cp y ≠ 0 then 1 else 0), co, va) rfl solid_nil
  exact ⟨s2, Go_tr g1 (Go_tr (Go_1 (by rw [hc]; exact stA_out g2 (by omega) (by omega) (by omega) ou_1q)) f1), f2⟩
theorem TopNO_C2 {t : Int → Int} {n b : Int} {l : List (Int × Int)} {m : Nat} (h : TopC t n b l m) (hbn : b ≤ n) (hs : b < n → t b ≠ 43 ∧ t b ≠ 45) (ha : b < n → t b ≠ 38) (hq : b < n → t b ≠ 63) : TopNO t n b := by
  intro F nu0 lf0 cp0 va0
  obtain ⟨k2, y, g, lf, cp, ho, co, va, P, g1, g2, g3, g4, g5⟩ := h F nu0 lf0 cp0 va0
  refine ⟨_, g1, ?_⟩
  by_cases hb : b < n
  · refine Or.inl ⟨hb, stA_no g2 g5 hb (hs hb).1 (hs hb).2 (Or.inr ⟨rfl, ?_⟩)⟩
    unfold ouO plB
    by_cases e0 : t b = 60 ∨ t b = 61 ∨ t b = 62
    · simp [e0]
    · by_cases e3 : t b = 58
      · rw [e3]; rfl
      · simp [e0, ha hb, hq hb, e3]
  · refine Or.inr ⟨by omega, fun q => ?_⟩
    have := q.2.2
    simp only [] at this
    omega
theorem TopH_Q {t : Int → Int} {n b : Int} {l : List (Int × Int)} {m : Nat} (h : TopQ t n b l m) (hc : t b = 58) : TopH t (b + 1) l (m + 1) := by
  intro F nu0 lf0 cp0 va0
  obtain ⟨k2, x, g, lf, cp, ho, co, va, P, g1, g2, g3, gh, g4, g5⟩ := h F nu0 lf0 cp0 va0
  refine ⟨0, lf, cp, (if co ≠ 0 ∨ ho ≠ 0 then 1 else 0), (if ho ≠ 0 ∧ co = 0 then x else va), x :: ho :: P, Go_tr g1 (Go_1 (by rw [hc]; exact stA_out g2 (by omega) (by omega) (by omega) ou_3)), g3, fun z => ?_⟩
  show (ev1 F (4, 0) (z :: x :: ho :: P)).bind (evO F (List.replicate m (4, 0))) = _
  show evO F (List.replicate m (4, 0)) ((if zw ho ≠ 0 then x else z) :: P) = _
  rw [g4]
  congr 2
  have w : zw ho = ho := zw_of (by omega)
  rw [w]
  by_cases h1 : co = 0
  · by_cases h2 : ho = 0
    · simp [h1, h2]
    · simp [h1, h2]
  · by_cases h2 : ho = 0
    · simp [h1, h2]
    · simp [h1, h2]
theorem TopNO_Q {t : Int → Int} {n b : Int} {l : List (Int × Int)} {m : Nat} (h : TopQ t n b l m) (hbn : b ≤ n) (hs : b < n → t b ≠ 43 ∧ t b ≠ 45) (hc : b < n → t b ≠ 58) : TopNO t n b := by
  intro F nu0 lf0 cp0 va0
  obtain ⟨k2, x, g, lf, cp, ho, co, va, P, g1, g2, g3, gh, g4, g5⟩ := h F nu0 lf0 cp0 va0
  refine ⟨_, g1, ?_⟩
  by_cases hb : b < n
  · refine Or.inl ⟨hb, stA_no g2 g5 hb (hs hb).1 (hs hb).2 (Or.inr ⟨rfl, ?_⟩)⟩
    unfold ouO plB
    by_cases e0 : t b = 60 ∨ t b = 61 ∨ t b = 62
    · simp [e0]
    · by_cases e1 : t b = 38
      · rw [e1]; rfl
      · by_cases e2 : t b = 63
        · rw [e2]; rfl
        · simp [e0, e1, e2, hc hb]
  · refine Or.inr ⟨by omega, fun q => ?_⟩
    have := q.2.2
    simp only [] at this
    omega
/-- a rule that was read: how far it goes, and what it tells -/
def TopF (t : Int → Int) (n b : Int) (l : List (Int × Int)) : Prop := ∀ (F : Int → Int) (nu0 lf0 cp0 va0 : Int), ∃ (k2 : aK) (x g lf cp co va : Int), Go F t 0 (s0A nu0 lf0 cp0 va0) b (k2, (0, lf, cp, 1, co, va)) ∧ kNum k2 = (0, 0, 0, x, g, []) ∧ evO F l [] = some [if co ≠ 0 then va else x] ∧ (b < n → stA F (k2, (0, lf, cp, 1, co, va)) (t b) = none)
theorem TopF_of {t : Int → Int} {n b : Int} {l : List (Int × Int)} {m : Nat} (h : TopS t n b l m) (hs : b < n → t b ≠ 43 ∧ t b ≠ 45) (hc : b < n → ¬ isCm (t b)) : TopF t n b (l ++ List.replicate m (4, 0)) := by
  intro F nu0 lf0 cp0 va0
  obtain ⟨k2, x, g, lf, cp, co, va, P, g1, g2, g3, g4, g5⟩ := h F nu0 lf0 cp0 va0
  refine ⟨k2, x, g, lf, cp, co, va, g1, g2, ?_, fun hb => ?_⟩
  · rw [evO_app, g3]
    exact g4 x
  · refine stA_no g2 g5 hb (hs hb).1 (hs hb).2 (Or.inr ⟨rfl, ?_⟩)
    unfold ouO plB
    simp only [if_neg (hc hb)]
    by_cases e1 : t b = 38
    · rw [e1]; rfl
    · by_cases e2 : t b = 63
      · rw [e2]; rfl
      · by_cases e3 : t b = 58
        · rw [e3]; rfl
        · simp [e1, e2, e3]
