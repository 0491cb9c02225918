theorem nm_dg {c : Int} (h : nmI c ≠ -1) : ¬ isDg c := by
  intro q
  unfold nmI at h
  rw [if_neg (by omega), if_neg (by omega), if_neg (by omega), if_neg (by omega), if_neg (by omega), if_neg (by omega)] at h
  exact h rfl
theorem stK_n {F : Int → Int} {k : aK} {c : Int} (h : ¬ isDg c) : stK F k c = inK F (kNum k) c := by unfold stK; rw [if_neg h]
theorem PD_end {F t : Int → Int} {n b : Int} {k : aK} (h : k.1 = 0) : PD F t n b k := fun _ hd => by
  unfold stK
  rw [if_pos hd, if_pos (Or.inl h)]
theorem PaOK_name {t : Int → Int} {n a : Int} {dp : Nat} (h : nmI (t a) ≠ -1) : PaOK t n a (a + 1) dp [(1, t a)] := by
  intro F k o h1 h2 h3 h4
  refine ⟨kEnd k (F (nmI (t a))), F (nmI (t a)), Go_1 (stA_K ?_), kNum_end, fun p => ?_, PD_end rfl⟩
  · rw [stK_n (nm_dg h), kNum_0 h2]
    unfold inK
    rw [if_pos (by omega), if_pos h]
  · show (ev1 F (1, t a) p).bind (evO F []) = _
    unfold ev1
    rw [if_neg (show ¬ (1 : Int) = 0 by decide), if_pos rfl, if_pos h]
    rfl
def NumG (t : Int → Int) (a j V : Int) : Prop := ∀ (F : Int → Int) (nu su sg : Int) (st : List (Int × Int)) (o : aO), Go F t a ((1, nu, 0, su, sg, st), o) (a + j) ((1, (if j = 0 then nu else V), j, su, sg, st), o)
theorem NumG_0 {t : Int → Int} {a : Int} : NumG t a 0 0 := by
  intro F nu su sg st o
  rw [Int.add_zero, if_pos rfl]
  exact Go_rf
theorem NumG_1 {t : Int → Int} {a j V : Int} (h : NumG t a j V) (hj : 0 ≤ j ∧ j < 7) (hV : j = 0 → V = 0) (hd : isDg (t (a + j))) : NumG t a (j + 1) (10 * V + t (a + j) - 48) := by
  intro F nu su sg st o
  have h1 := h F nu su sg st o
  refine Go_tr h1 ?_
  rw [← Int.add_assoc]
  refine Go_1 (stA_K ?_)
  unfold stK
  rw [if_pos hd, if_neg (by intro q; rcases q with q | q <;> simp only [] at q <;> omega), if_neg (show ¬ j + 1 = 0 by omega)]
  by_cases e : j = 0
  · subst e
    have e2 := hV rfl
    subst e2
    simp
  · simp only [if_neg e]
    congr 3
    omega
theorem PaOK_num {t : Int → Int} {n a j V : Int} {dp : Nat} (h : NumG t a j V) (hj : 1 ≤ j ∧ j ≤ 7) (hs : j = 7 ∨ ¬ (a + j < n ∧ isDg (t (a + j)))) : PaOK t n a (a + j) dp [(0, V)] := by
  intro F k o h1 h2 h3 h4
  obtain ⟨wp, nu, di, su, sg, st⟩ := k
  simp only [] at h1 h2 h3 h4
  subst h1 h2
  refine ⟨(1, V, j, su, sg, st), V, ?_, ?_, fun p => rfl, fun hb hd => ?_⟩
  · have := h F nu su sg st o
    rwa [if_neg (by omega)] at this
  · unfold kNum
    rw [if_pos (by show 0 < j; omega)]
    rfl
  · rcases hs with hs | hs
    · unfold stK
      rw [if_pos hd, if_pos (Or.inr hs)]
    · exact absurd ⟨hb, hd⟩ hs
theorem ePop_0 {s v : Int} {r : List (Int × Int)} : ePop ((s, 0) :: r) v = ePop r (-v) := by
  show (if (0 : Int) = 0 then ePop r (-v) else _) = _
  rw [if_pos rfl]
theorem nm_45 : nmI 45 = -1 := by decide
theorem nm_40 : nmI 40 = -1 := by decide
theorem st_45 {F : Int → Int} {k : aK} {o : aO} (h1 : k.1 = 1) (h2 : k.2.2.1 = 0) (h4 : (kSt k).length < 5) : stA F (k, o) 45 = some ((k.1, k.2.1, k.2.2.1, k.2.2.2.1, k.2.2.2.2.1, (k.2.2.2.1, 0) :: k.2.2.2.2.2), o) := by
  refine stA_K ?_
  rw [stK_n (by omega), kNum_0 h2]
  unfold inK
  rw [if_pos (by omega), if_neg (by rw [nm_45]; simp), if_pos ⟨Or.inl rfl, h4⟩, if_pos rfl]
theorem st_40 {F : Int → Int} {k : aK} {o : aO} (h1 : k.1 = 1) (h2 : k.2.2.1 = 0) (h4 : (kSt k).length < 5) : stA F (k, o) 40 = some ((k.1, k.2.1, k.2.2.1, 0, 1, (k.2.2.2.1, k.2.2.2.2.1) :: k.2.2.2.2.2), o) := by
  refine stA_K ?_
  rw [stK_n (by omega), kNum_0 h2]
  unfold inK
  rw [if_pos (by omega), if_neg (by rw [nm_40]; simp), if_pos ⟨Or.inr rfl, h4⟩, if_neg (by decide)]
theorem PaOK_minus {t : Int → Int} {n a b : Int} {dp : Nat} {l : List (Int × Int)} (hc : t a = 45) (hd : dp < 5) (h : PaOK t n (a + 1) b (dp + 1) l) : PaOK t n a b dp (l ++ [(2, 0)]) := by
  intro F k o h1 h2 h3 h4
  obtain ⟨k2, v, g1, g2, g3, g4⟩ := h F (k.1, k.2.1, k.2.2.1, k.2.2.2.1, k.2.2.2.2.1, (k.2.2.2.1, 0) :: k.2.2.2.2.2) o h1 h2 h3 (by show (kSt k).length + 1 = dp + 1; omega)
  refine ⟨k2, -v, Go_tr (Go_1 (by rw [hc]; exact st_45 h1 h2 (by omega))) g1, ?_, fun p => ?_, g4⟩
  · rw [g2]
    unfold kEnd
    simp only [ePop_0]
  · rw [evO_app, g3]
    rfl
theorem PaNO_minus {t : Int → Int} {n a b : Int} {dp : Nat} (hc : t a = 45) (hd : dp < 5) (h : PaNO t n (a + 1) b (dp + 1)) : PaNO t n a b dp := by
  intro F k o h1 h2 h3 h4
  obtain ⟨s2, g1, g2⟩ := h F (k.1, k.2.1, k.2.2.1, k.2.2.2.1, k.2.2.2.2.1, (k.2.2.2.1, 0) :: k.2.2.2.2.2) o h1 h2 h3 (by show (kSt k).length + 1 = dp + 1; omega)
  exact ⟨s2, Go_tr (Go_1 (by rw [hc]; exact st_45 h1 h2 (by omega))) g1, g2⟩
theorem PaOK_par {t : Int → Int} {n a b : Int} {dp : Nat} {l : List (Int × Int)} (hc : t a = 40) (hd : dp < 5) (h : SuOK t n (a + 1) b (dp + 1) l) (he : t b = 41) : PaOK t n a (b + 1) dp l := by
  intro F k o h1 h2 h3 h4
  obtain ⟨wp, nu, di, su, sg, st⟩ := k
  simp only [] at h1 h2 h3 h4
  subst h1 h2
  obtain ⟨k2, v, g, g1, g2, g0, g3, g4⟩ := h F nu ((su, sg) :: st) o (by show st.length + 1 = dp + 1; have : st.length = dp := h4; omega) (solid_cons h3)
  refine ⟨kEnd (1, nu, 0, su, sg, st) v, v, Go_tr (Go_1 (by rw [hc]; exact st_40 (k := (1, nu, 0, su, sg, st)) rfl rfl (by show st.length < 5; have : st.length = dp := h4; omega))) (Go_tr g1 (Go_1 (stA_K ?_))), kNum_end, g3, PD_end rfl⟩
  rw [he, stK_n (by omega), g2]
  rfl
theorem PaNO_par1 {t : Int → Int} {n a b : Int} {dp : Nat} (hc : t a = 40) (hd : dp < 5) (h : SuNO t n (a + 1) b (dp + 1)) : PaNO t n a b dp := by
  intro F k o h1 h2 h3 h4
  obtain ⟨wp, nu, di, su, sg, st⟩ := k
  simp only [] at h1 h2 h3 h4
  subst h1 h2
  obtain ⟨s2, g1, g2⟩ := h F nu ((su, sg) :: st) o (by show st.length + 1 = dp + 1; have : st.length = dp := h4; omega) (solid_cons h3)
  exact ⟨s2, Go_tr (Go_1 (by rw [hc]; exact st_40 (k := (1, nu, 0, su, sg, st)) rfl rfl (by show st.length < 5; have : st.length = dp := h4; omega))) g1, g2⟩
/-- behind a sum nothing goes on but what is told -/
theorem stA_no {F t : Int → Int} {n b : Int} {k2 : aK} {o : aO} {y g : Int} {st : List (Int × Int)} (hk : kNum k2 = (0, 0, 0, y, g, st)) (hp : PD F t n b k2) (hb : b < n) (h1 : t b ≠ 43) (h2 : t b ≠ 45) (h3 : (st ≠ [] ∧ t b ≠ 41) ∨ (st = [] ∧ ouO o y (t b) = none)) : stA F (k2, o) (t b) = none := by
  have e : stK F k2 (t b) = none := by
    by_cases hd : isDg (t b)
    · exact hp hb hd
    · rw [stK_n hd, hk]
      unfold inK
      rw [if_neg (by simp), if_neg (by omega)]
      by_cases q : t b = 41
      · rw [if_pos q]
        rcases h3 with h3 | h3
        · exact absurd q h3.2
        · rw [h3.1]
      · rw [if_neg q]
  unfold stA
  simp only [e, hk]
  by_cases hd : isDg (t b)
  · rw [if_pos hd]
  · rw [if_neg hd]
    rcases h3 with h3 | h3
    · rw [if_neg (fun q => h3.1 q.2)]
    · rw [if_pos ⟨trivial, h3.1⟩, h3.2]
theorem stA_out {F : Int → Int} {k2 : aK} {o o2 : aO} {c y g : Int} (hk : kNum k2 = (0, 0, 0, y, g, [])) (hd : ¬ isDg c) (h1 : c ≠ 43) (h2 : c ≠ 45) (ho : ouO o y c = some o2) : stA F (k2, o) c = some ((1, 0, 0, 0, 1, []), o2) := by
  have e : stK F k2 c = none := by
    rw [stK_n hd, hk]
    unfold inK
    rw [if_neg (by simp), if_neg (by omega)]
    by_cases q : c = 41
    · rw [if_pos q]
    · rw [if_neg q]
  unfold stA
  simp only [e, hk]
  rw [if_neg hd, if_pos ⟨trivial, trivial⟩, ho]
theorem PaNO_par2 {t : Int → Int} {n a b : Int} {dp : Nat} {l : List (Int × Int)} (hc : t a = 40) (hd : dp < 5) (h : SuOK t n (a + 1) b (dp + 1) l) (hbn : b ≤ n) (hs : b < n → t b ≠ 43 ∧ t b ≠ 45) (he : b < n → t b ≠ 41) : PaNO t n a b dp := by
  intro F k o h1 h2 h3 h4
  obtain ⟨wp, nu, di, su, sg, st⟩ := k
  simp only [] at h1 h2 h3 h4
  subst h1 h2
  obtain ⟨k2, v, g, g1, g2, g0, g3, g4⟩ := h F nu ((su, sg) :: st) o (by show st.length + 1 = dp + 1; have : st.length = dp := h4; omega) (solid_cons h3)
  refine ⟨(k2, o), Go_tr (Go_1 (by rw [hc]; exact st_40 (k := (1, nu, 0, su, sg, st)) rfl rfl (by show st.length < 5; have : st.length = dp := h4; omega))) g1, ?_⟩
  by_cases hb : b < n
  · exact Or.inl ⟨hb, stA_no g2 g4 hb (hs hb).1 (hs hb).2 (Or.inl ⟨by simp, he hb⟩)⟩
  · refine Or.inr ⟨by omega, fun q => ?_⟩
    have := q.2.1
    simp only [g2] at this
    cases this
theorem PaNO_bad {t : Int → Int} {n a : Int} {dp : Nat} (han : a ≤ n) (h : a < n → nmI (t a) = -1 ∧ ¬ isDg (t a) ∧ ¬ ((t a = 45 ∨ t a = 40) ∧ dp < 5)) : PaNO t n a a dp := by
  intro F k o h1 h2 h3 h4
  refine ⟨(k, o), Go_rf, ?_⟩
  by_cases hb : a < n
  · obtain ⟨q1, q2, q3⟩ := h hb
    refine Or.inl ⟨hb, ?_⟩
    have e : stK F k (t a) = none := by
      rw [stK_n q2, kNum_0 h2]
      unfold inK
      rw [if_pos (by omega), if_neg (by rw [q1]; simp), if_neg (by rw [← h4] at q3; exact q3)]
    unfold stA
    simp only [e, kNum_0 h2]
    rw [if_neg q2, if_neg (fun q => by have := q.1; omega)]
  · refine Or.inr ⟨by omega, fun q => ?_⟩
    have := q.1
    simp only [kNum_0 h2] at this
    omega
theorem SuOK_1 {t : Int → Int} {n a b : Int} {dp : Nat} {l : List (Int × Int)} (h : PaOK t n a b dp l) : SuOK t n a b dp l := by
  intro F nu st o h1 h2
  obtain ⟨k2, v, g1, g2, g3, g4⟩ := h F (1, nu, 0, 0, 1, st) o rfl rfl (show (1 : Int) ≠ 0 by decide) h1
  refine ⟨k2, v, 1, g1, ?_, by decide, g3, g4⟩
  rw [g2]
  unfold kEnd
  simp only [h2 v]
  rw [show (0 : Int) + 1 * v = v by omega]
theorem SuNO_1 {t : Int → Int} {n a b : Int} {dp : Nat} (h : PaNO t n a b dp) : SuNO t n a b dp := by
  intro F nu st o h1 h2
  exact h F (1, nu, 0, 0, 1, st) o rfl rfl (show (1 : Int) ≠ 0 by decide) h1
theorem st_sgn {F : Int → Int} {k2 : aK} {o : aO} {c v g : Int} {st : List (Int × Int)} (hk : kNum k2 = (0, 0, 0, v, g, st)) (hc : c = 43 ∨ c = 45) : stA F (k2, o) c = some ((1, 0, 0, v, (if c = 43 then 1 else -1), st), o) := by
  refine stA_K ?_
  rw [stK_n (by omega), hk]
  unfold inK
  rw [if_neg (by simp), if_pos hc]
theorem SuOK_more {t : Int → Int} {n a b c : Int} {dp : Nat} {l l2 : List (Int × Int)} (h : SuOK t n a b dp l) (hc : t b = 43 ∨ t b = 45) (h2 : PaOK t n (b + 1) c dp l2) : SuOK t n a c dp (l ++ (l2 ++ [(3, t b)])) := by
  intro F nu st o h1 h3
  obtain ⟨k2, v, g, g1, g2, g0, g3, g4⟩ := h F nu st o h1 h3
  obtain ⟨k3, w, f1, f2, f3, f4⟩ := h2 F (1, 0, 0, v, (if t b = 43 then 1 else -1), st) o rfl rfl (by show (if t b = 43 then (1 : Int) else -1) ≠ 0; split <;> decide) h1
  refine ⟨k3, joinI (t b) v w, (if t b = 43 then 1 else -1), Go_tr g1 (Go_tr (Go_1 (st_sgn g2 hc)) f1), ?_, by split <;> decide, fun p => ?_, f4⟩
  · rw [f2]
    unfold kEnd
    simp only [h3 w]
    unfold joinI
    rcases hc with hc | hc
    · rw [hc, if_pos rfl, if_pos rfl, show v + 1 * w = v + w by omega]
    · rw [hc, if_neg (by decide), if_neg (by decide), if_pos rfl, show v + -1 * w = v - w by omega]
  · rw [evO_app, g3]
    show evO F (l2 ++ [(3, t b)]) (v :: p) = _
    rw [evO_app, f3]
    rfl
theorem SuNO_more {t : Int → Int} {n a b c : Int} {dp : Nat} {l : List (Int × Int)} (h : SuOK t n a b dp l) (hc : t b = 43 ∨ t b = 45) (h2 : PaNO t n (b + 1) c dp) : SuNO t n a c dp := by
  intro F nu st o h1 h3
  obtain ⟨k2, v, g, g1, g2, g0, g3, g4⟩ := h F nu st o h1 h3
  obtain ⟨s2, f1, f2⟩ := h2 F (1, 0, 0, v, (if t b = 43 then 1 else -1), st) o rfl rfl (by show (if t b = 43 then (1 : Int) else -1) ≠ 0; split <;> decide) h1
  exact ⟨s2, Go_tr g1 (Go_tr (Go_1 (st_sgn g2 hc)) f1), f2⟩
