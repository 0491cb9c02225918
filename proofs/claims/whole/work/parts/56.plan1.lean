def mvI (k : Int) : Int := if k % 2 = 1 then -((k + 1) / 2) else k / 2
theorem mvI_abs {k : Int} (h : 0 ≤ k) : zabs (mvI k) = (k + 1) / 2 := by
  unfold mvI
  split
  · have := zabs_cases (-((k + 1) / 2))
    omega
  · have := zabs_cases (k / 2)
    omega
/-- a move's place in the order -/
def ordM (m : Int) : Nat := if m < 0 then (2 * (-m) - 1).toNat else (2 * m).toNat
theorem mvI_ord (m : Int) : mvI (ordM m : Nat) = m := by
  unfold ordM mvI
  split <;> split <;> omega
theorem ordM_le {m : Int} (h : zabs m ≤ 24) : ordM m ≤ 48 := by
  have := zabs_cases m
  unfold ordM
  split <;> omega
theorem ordM_mv (j : Nat) : ordM (mvI j) = j := by
  unfold ordM mvI
  split <;> split <;> omega
def bC (G : Int → Int) (E : Int → Int → Int) (p l m : Int) : Int := G (p + m) * 64 + E (p + m) (l - zabs m) - zabs m
abbrev okM (p l m : Int) : Prop := (0 ≤ p + m ∧ p + m ≤ 24) ∧ zabs m ≤ l
/-- the first best of the moves by their order: its value, itself -/
def bF (G : Int → Int) (E : Int → Int → Int) (p l : Int) : Nat → Int × Int
  | 0 => (bC G E p l 0, 0)
  | n + 1 => if okM p l (mvI ((n + 1 : Nat) : Int)) ∧ (bF G E p l n).1 < bC G E p l (mvI ((n + 1 : Nat) : Int)) then (bC G E p l (mvI ((n + 1 : Nat) : Int)), mvI ((n + 1 : Nat) : Int)) else bF G E p l n
theorem mvI_0 : mvI 0 = 0 := rfl
theorem bF_at {G : Int → Int} {E : Int → Int → Int} {p l : Int} (hp : 0 ≤ p ∧ p ≤ 24) (hl : 0 ≤ l) : ∀ n : Nat, okM p l (bF G E p l n).2 ∧ (bF G E p l n).1 = bC G E p l (bF G E p l n).2
  | 0 => ⟨⟨⟨by show 0 ≤ p + 0; omega, by show p + 0 ≤ 24; omega⟩, by show zabs 0 ≤ l; exact hl⟩, rfl⟩
  | n + 1 => by
    unfold bF
    split
    · rename_i h
      exact ⟨h.1, rfl⟩
    · exact bF_at hp hl n
theorem bF_max {G : Int → Int} {E : Int → Int → Int} {p l : Int} : ∀ (n j : Nat), j ≤ n → okM p l (mvI (j : Int)) → bC G E p l (mvI (j : Int)) ≤ (bF G E p l n).1
  | 0, j, hj, _ => by
    have : j = 0 := by omega
    subst this
    exact Int.le_refl _
  | n + 1, j, hj, ho => by
    unfold bF
    split
    · rename_i h
      show _ ≤ bC G E p l (mvI ((n + 1 : Nat) : Int))
      by_cases e : j = n + 1
      · rw [e]; exact Int.le_refl _
      · have := bF_max (G := G) (E := E) n j (by omega) ho
        omega
    · rename_i h
      by_cases e : j = n + 1
      · rw [e] at ho ⊢
        exact Int.not_lt.mp (fun q => h ⟨ho, q⟩)
      · exact bF_max n j (by omega) ho
theorem bF_first {G : Int → Int} {E : Int → Int → Int} {p l : Int} : ∀ n : Nat, ∃ j : Nat, j ≤ n ∧ (bF G E p l n).2 = mvI (j : Int) ∧ ∀ i : Nat, i < j → okM p l (mvI (i : Int)) → bC G E p l (mvI (i : Int)) < (bF G E p l n).1
  | 0 => ⟨0, Nat.le_refl _, rfl, fun i hi => absurd hi (Nat.not_lt_zero i)⟩
  | n + 1 => by
    unfold bF
    split
    · rename_i h
      exact ⟨n + 1, Nat.le_refl _, rfl, fun i hi ho => Int.lt_of_le_of_lt (bF_max n i (by omega) ho) h.2⟩
    · obtain ⟨j, h1, h2, h3⟩ := bF_first (G := G) (E := E) (p := p) (l := l) n
      exact ⟨j, by omega, h2, h3⟩
theorem bF_le {G : Int → Int} {E : Int → Int → Int} {p l m : Int} (hm : zabs m ≤ 24) (ho : okM p l m) : bC G E p l m ≤ (bF G E p l 48).1 := by
  have := bF_max (G := G) (E := E) (p := p) (l := l) 48 (ordM m) (ordM_le hm) (by rw [mvI_ord]; exact ho)
  rwa [mvI_ord] at this
theorem bF_2 {G : Int → Int} {E : Int → Int → Int} {p l : Int} (hp : 0 ≤ p ∧ p ≤ 24) (hl : 0 ≤ l) : zabs (bF G E p l 48).2 ≤ 24 := by
  obtain ⟨j, h1, h2, h3⟩ := bF_first (G := G) (E := E) (p := p) (l := l) 48
  rw [h2, mvI_abs (by omega)]
  omega
theorem bF_un {G : Int → Int} {E : Int → Int → Int} {p l m : Int} (hp : 0 ≤ p ∧ p ≤ 24) (hl : 0 ≤ l) (ho : okM p l m) (hC : bC G E p l m = (bF G E p l 48).1) (hlt : ∀ m2 : Int, okM p l m2 → zabs m2 < zabs m → bC G E p l m2 ≠ (bF G E p l 48).1) (hneg : 0 < m → okM p l (-m) → bC G E p l (-m) ≠ (bF G E p l 48).1) : m = (bF G E p l 48).2 := by
  obtain ⟨j, h1, h2, h3⟩ := bF_first (G := G) (E := E) (p := p) (l := l) 48
  have h4 := bF_at (G := G) (E := E) hp hl 48
  generalize hb : (bF G E p l 48).2 = b at h2 h4 ⊢
  have h5 : ¬ zabs b < zabs m := fun q => hlt b h4.1 q h4.2.symm
  have h6 : ∀ m2 : Int, okM p l m2 → bC G E p l m2 = (bF G E p l 48).1 → ¬ ordM m2 < j := fun m2 o2 e2 q => by
    have := h3 (ordM m2) q (by rw [mvI_ord]; exact o2)
    rw [mvI_ord, e2] at this
    omega
  have h7 := h6 m ho hC
  have h8 : ordM b = j := by rw [h2, ordM_mv]
  have zb := zabs_cases b
  have zm := zabs_cases m
  rw [← h8] at h7
  unfold ordM at h7
  by_cases e : b = -m
  · by_cases hm : 0 < m
    · exact absurd h4.2.symm (by rw [e] at h4 ⊢; exact hneg hm h4.1)
    · split at h7 <;> split at h7 <;> omega
  · split at h7 <;> split at h7 <;> omega
/-- k days are left: what the best is worth, and how many steps it takes -/
def bst (G : Nat → Int → Int) : Nat → Int → Int → Int × Int
  | 0 => fun _ _ => (0, 0)
  | k + 1 => fun p l => (G k (p + (bF (G k) (fun p2 l2 => (bst G k p2 l2).1 * 64 - (bst G k p2 l2).2) p l 48).2) + (bst G k (p + (bF (G k) (fun p2 l2 => (bst G k p2 l2).1 * 64 - (bst G k p2 l2).2) p l 48).2) (l - zabs (bF (G k) (fun p2 l2 => (bst G k p2 l2).1 * 64 - (bst G k p2 l2).2) p l 48).2)).1, zabs (bF (G k) (fun p2 l2 => (bst G k p2 l2).1 * 64 - (bst G k p2 l2).2) p l 48).2 + (bst G k (p + (bF (G k) (fun p2 l2 => (bst G k p2 l2).1 * 64 - (bst G k p2 l2).2) p l 48).2) (l - zabs (bF (G k) (fun p2 l2 => (bst G k p2 l2).1 * 64 - (bst G k p2 l2).2) p l 48).2)).2)
def bE (G : Nat → Int → Int) (k : Nat) (p l : Int) : Int := (bst G k p l).1 * 64 - (bst G k p l).2
def bM (G : Nat → Int → Int) (k : Nat) (p l : Int) : Int := (bF (G k) (bE G k) p l 48).2
theorem bst_1 {G : Nat → Int → Int} {k : Nat} {p l : Int} : bst G (k + 1) p l = (G k (p + bM G k p l) + (bst G k (p + bM G k p l) (l - zabs (bM G k p l))).1, zabs (bM G k p l) + (bst G k (p + bM G k p l) (l - zabs (bM G k p l))).2) := rfl
theorem bE_0 {G : Nat → Int → Int} {p l : Int} : bE G 0 p l = 0 := rfl
theorem bM_ok {G : Nat → Int → Int} {k : Nat} {p l : Int} (hp : 0 ≤ p ∧ p ≤ 24) (hl : 0 ≤ l) : okM p l (bM G k p l) := (bF_at hp hl 48).1
theorem bE_1 {G : Nat → Int → Int} {k : Nat} {p l : Int} (hp : 0 ≤ p ∧ p ≤ 24) (hl : 0 ≤ l) : bE G (k + 1) p l = (bF (G k) (bE G k) p l 48).1 := by
  rw [(bF_at hp hl 48).2]
  unfold bE bC
  rw [bst_1]
  show _ = G k (p + bM G k p l) * 64 + ((bst G k (p + bM G k p l) (l - zabs (bM G k p l))).1 * 64 - (bst G k (p + bM G k p l) (l - zabs (bM G k p l))).2) - zabs (bM G k p l)
  simp only []
  omega
theorem bst_s {G : Nat → Int → Int} : ∀ (k : Nat) (p l : Int), 0 ≤ p ∧ p ≤ 24 → 0 ≤ l → 0 ≤ (bst G k p l).2 ∧ (bst G k p l).2 ≤ l
  | 0, p, l, _, hl => ⟨Int.le_refl _, hl⟩
  | k + 1, p, l, hp, hl => by
    have h1 := bM_ok (G := G) (k := k) hp hl
    have h2 := bst_s (G := G) k (p + bM G k p l) (l - zabs (bM G k p l)) h1.1 (by have := h1.2; omega)
    have h3 := zabs_le (x := bM G k p l)
    rw [bst_1]
    simp only []
    omega
theorem bst_v {G : Nat → Int → Int} {b : Int} (hG : ∀ (k : Nat) (p : Int), 0 ≤ p ∧ p ≤ 24 → -b ≤ G k p ∧ G k p ≤ b) : ∀ (k : Nat) (p l : Int), 0 ≤ p ∧ p ≤ 24 → 0 ≤ l → -(b * k) ≤ (bst G k p l).1 ∧ (bst G k p l).1 ≤ b * k
  | 0, p, l, _, hl => by
    show -(b * (0 : Nat)) ≤ (0 : Int) ∧ (0 : Int) ≤ b * (0 : Nat)
    simp
  | k + 1, p, l, hp, hl => by
    have h1 := bM_ok (G := G) (k := k) hp hl
    have h2 := bst_v hG k (p + bM G k p l) (l - zabs (bM G k p l)) h1.1 (by have := h1.2; omega)
    have h3 := hG k _ h1.1
    rw [bst_1]
    simp only []
    rw [show b * ((k + 1 : Nat) : Int) = b * (k : Int) + b by push_cast; rw [Int.mul_add, Int.mul_one]]
    omega
theorem bE_mono {G : Nat → Int → Int} : ∀ (k : Nat) (p l : Int), 0 ≤ p ∧ p ≤ 24 → 0 ≤ l → bE G k p l ≤ bE G k p (l + 1)
  | 0, p, l, _, _ => Int.le_refl _
  | k + 1, p, l, hp, hl => by
    have h1 := bM_ok (G := G) (k := k) hp hl
    have h2 := bF_2 (G := G k) (E := bE G k) hp hl
    have h3 := bF_le (G := G k) (E := bE G k) (p := p) (l := l + 1) (m := bM G k p l) h2 ⟨h1.1, by have := h1.2; omega⟩
    have h4 := bE_mono (G := G) k (p + bM G k p l) (l - zabs (bM G k p l)) h1.1 (by have := h1.2; omega)
    rw [bE_1 hp hl, bE_1 hp (by omega), (bF_at hp hl 48).2]
    refine Int.le_trans ?_ h3
    show bC (G k) (bE G k) p l (bM G k p l) ≤ _
    unfold bC
    rw [show l + 1 - zabs (bM G k p l) = l - zabs (bM G k p l) + 1 by omega]
    omega
/-- a move that is spread from place to place: all upwards, then all downwards -/
theorem spread_max {S U D : Int → Int → Int} {B : Int} (hm : ∀ p l : Int, 0 ≤ p ∧ p ≤ 24 → 0 ≤ l → l + 1 ≤ B → S p l ≤ S p (l + 1))
    (hU1 : ∀ l : Int, 0 ≤ l → l ≤ B → U 24 l = S 24 l) (hU2 : ∀ p : Int, 0 ≤ p ∧ p ≤ 24 → U p 0 = S p 0) (hU : ∀ p l : Int, 0 ≤ p → p < 24 → 1 ≤ l → l ≤ B → U p l = if U (p + 1) (l - 1) - 1 < S p l then S p l else U (p + 1) (l - 1) - 1)
    (hD1 : ∀ l : Int, 0 ≤ l → l ≤ B → D 0 l = U 0 l) (hD2 : ∀ p : Int, 0 ≤ p ∧ p ≤ 24 → D p 0 = U p 0) (hD : ∀ p l : Int, 1 ≤ p → p ≤ 24 → 1 ≤ l → l ≤ B → D p l = if D (p - 1) (l - 1) - 1 < U p l then U p l else D (p - 1) (l - 1) - 1) :
    ∀ p l : Int, 0 ≤ p ∧ p ≤ 24 → 0 ≤ l → l ≤ B → (∀ m : Int, okM p l m → S (p + m) (l - zabs m) - zabs m ≤ D p l) ∧ ∃ m : Int, okM p l m ∧ D p l ≤ S (p + m) (l - zabs m) - zabs m := by
  have hmm : ∀ (n : Nat) (p l : Int), 0 ≤ p ∧ p ≤ 24 → 0 ≤ l → l + n ≤ B → S p l ≤ S p (l + n) := by
    intro n
    induction n with
    | zero => intro p l _ _ _; simp
    | succ n ih =>
      intro p l hp hl hB
      have h1 := ih p l hp hl (by omega)
      have h2 := hm p (l + n) hp (by omega) (by omega)
      rw [show l + ((n + 1 : Nat) : Int) = l + n + 1 by omega]
      omega
  have up : ∀ (n : Nat) (l : Int), n ≤ 24 → 0 ≤ l → l ≤ B → (∀ k : Int, 0 ≤ k → k ≤ n → k ≤ l → S (24 - n + k) (l - k) - k ≤ U (24 - n) l) ∧ ∃ k : Int, (0 ≤ k ∧ k ≤ n) ∧ k ≤ l ∧ U (24 - n) l = S (24 - n + k) (l - k) - k := by
    intro n
    induction n with
    | zero =>
      intro l _ h0 h1
      refine ⟨fun k a b c => ?_, 0, by omega, h0, ?_⟩
      · have : k = 0 := by omega
        subst this
        simp
        rw [hU1 l h0 h1]
        exact Int.le_refl _
      · simp
        exact hU1 l h0 h1
    | succ n ih =>
      intro l hn h0 h1
      by_cases hl : l = 0
      · subst hl
        refine ⟨fun k a b c => ?_, 0, by omega, Int.le_refl _, ?_⟩
        · have : k = 0 := by omega
          subst this
          simp
          rw [hU2 _ (by omega)]
          exact Int.le_refl _
        · simp
          exact hU2 _ (by omega)
      · have i := ih (l - 1) (by omega) (by omega) (by omega)
        have e := hU (24 - (n + 1 : Nat)) l (by omega) (by omega) (by omega) h1
        rw [show (24 : Int) - ((n + 1 : Nat) : Int) + 1 = 24 - n by omega] at e
        constructor
        · intro k a b c
          by_cases hk : k = 0
          · subst hk
            simp only [Int.add_zero, Int.sub_zero]
            rw [e]
            split <;> omega
          · have := i.1 (k - 1) (by omega) (by omega) (by omega)
            rw [show (24 : Int) - n + (k - 1) = 24 - ((n + 1 : Nat) : Int) + k by omega, show l - 1 - (k - 1) = l - k by omega] at this
            rw [e]
            split <;> omega
        · by_cases hq : U (24 - n) (l - 1) - 1 < S (24 - ((n + 1 : Nat) : Int)) l
          · rw [if_pos hq] at e
            exact ⟨0, by omega, h0, by simpa using e⟩
          · rw [if_neg hq] at e
            obtain ⟨k, k1, k2, k3⟩ := i.2
            refine ⟨k + 1, by omega, by omega, ?_⟩
            rw [e, k3, show (24 : Int) - ((n + 1 : Nat) : Int) + (k + 1) = 24 - n + k by omega, show l - (k + 1) = l - 1 - k by omega]
            omega
  have dn : ∀ (n : Nat) (l : Int), n ≤ 24 → 0 ≤ l → l ≤ B → (∀ m : Int, okM n l m → S (n + m) (l - zabs m) - zabs m ≤ D n l) ∧ ∃ m : Int, okM n l m ∧ D n l ≤ S (n + m) (l - zabs m) - zabs m := by
    intro n
    have ge : ∀ l : Int, n ≤ 24 → 0 ≤ l → l ≤ B → (∀ m : Int, 0 ≤ m → okM n l m → S (n + m) (l - zabs m) - zabs m ≤ U n l) ∧ ∃ m : Int, okM n l m ∧ U n l ≤ S (n + m) (l - zabs m) - zabs m := by
      intro l hn h0 h1
      have u := up (24 - n) l (by omega) h0 h1
      rw [show (24 : Int) - ((24 - n : Nat) : Int) = n by omega] at u
      refine ⟨fun m hm0 ho => ?_, ?_⟩
      · have zm := zabs_cases m
        have := u.1 m hm0 (by omega) (by omega)
        rw [show zabs m = m by omega]
        exact this
      · obtain ⟨k, k1, k2, k3⟩ := u.2
        have zk := zabs_cases k
        exact ⟨k, ⟨by omega, by omega⟩, by rw [show zabs k = k by omega, k3]; exact Int.le_refl _⟩
    induction n with
    | zero =>
      intro l hn h0 h1
      have g := ge l hn h0 h1
      have e := hD1 l h0 h1
      refine ⟨fun m ho => ?_, ?_⟩
      · show _ ≤ D 0 l
        rw [e]
        exact g.1 m (by have := ho.1.1; simpa using this) ho
      · obtain ⟨m, m1, m2⟩ := g.2
        refine ⟨m, m1, ?_⟩
        show D 0 l ≤ _
        rw [e]
        exact m2
    | succ n ih =>
      intro l hn h0 h1
      have g := ge l hn h0 h1
      by_cases hl : l = 0
      · subst hl
        have e := hD2 ((n + 1 : Nat) : Int) (by omega)
        rw [e]
        refine ⟨fun m ho => ?_, g.2⟩
        have zm := zabs_cases m
        exact g.1 m (by have := ho.2; omega) ho
      · have i := ih (fun l a b c => by
          have u := up (24 - n) l (by omega) b c
          rw [show (24 : Int) - ((24 - n : Nat) : Int) = n by omega] at u
          refine ⟨fun m hm0 ho => ?_, ?_⟩
          · have zm := zabs_cases m
            have := u.1 m hm0 (by omega) (by omega)
            rw [show zabs m = m by omega]
            exact this
          · obtain ⟨k, k1, k2, k3⟩ := u.2
            have zk := zabs_cases k
            exact ⟨k, ⟨by omega, by omega⟩, by rw [show zabs k = k by omega, k3]; exact Int.le_refl _⟩) (l - 1) (by omega) (by omega) (by omega)
        have e := hD ((n + 1 : Nat) : Int) l (by omega) (by omega) (by omega) h1
        rw [show ((n + 1 : Nat) : Int) - 1 = n by omega] at e
        constructor
        · intro m ho
          have zm := zabs_cases m
          by_cases hm0 : 0 ≤ m
          · have := g.1 m hm0 ho
            rw [e]
            split <;> omega
          · have zm1 := zabs_cases (m + 1)
            have := i.1 (m + 1) ⟨by have := ho.1; omega, by have := ho.2; omega⟩
            rw [show (n : Int) + (m + 1) = ((n + 1 : Nat) : Int) + m by omega, show l - 1 - zabs (m + 1) = l - zabs m by omega] at this
            rw [e]
            split <;> omega
        · by_cases hq : D n (l - 1) - 1 < U ((n + 1 : Nat) : Int) l
          · rw [if_pos hq] at e
            rw [e]
            exact g.2
          · rw [if_neg hq] at e
            obtain ⟨m, m1, m2⟩ := i.2
            have zm := zabs_cases m
            have zm1 := zabs_cases (m - 1)
            refine ⟨m - 1, ⟨by have := m1.1; omega, by have := m1.2; omega⟩, ?_⟩
            rw [e, show ((n + 1 : Nat) : Int) + (m - 1) = n + m by omega]
            have m3 := m1.2
            have := hmm (l - zabs (m - 1) - (l - 1 - zabs m)).toNat (n + m) (l - 1 - zabs m) m1.1 (by omega) (by omega)
            rw [show l - 1 - zabs m + ((l - zabs (m - 1) - (l - 1 - zabs m)).toNat : Int) = l - zabs (m - 1) by omega] at this
            omega
  intro p l hp h0 h1
  have := dn p.toNat l (by omega) h0 h1
  rw [Int.toNat_of_nonneg hp.1] at this
  exact this
theorem spread_bE {G : Nat → Int → Int} {k : Nat} {D : Int → Int → Int} {p l B : Int} (hp : 0 ≤ p ∧ p ≤ 24) (hl : 0 ≤ l ∧ l ≤ B) (hB : B ≤ 60)
    (h : (∀ m : Int, okM p l m → G k (p + m) * 64 + bE G k (p + m) (l - zabs m) - zabs m ≤ D p l) ∧ ∃ m : Int, okM p l m ∧ D p l ≤ G k (p + m) * 64 + bE G k (p + m) (l - zabs m) - zabs m) : D p l = bE G (k + 1) p l := by
  rw [bE_1 hp hl.1]
  have h1 := bM_ok (G := G) (k := k) hp hl.1
  have h2 := h.1 _ h1
  have h3 := (bF_at (G := G k) (E := bE G k) hp hl.1 48).2
  obtain ⟨m, m1, m2⟩ := h.2
  have zm := zabs_cases m
  have h4 := bF_le (G := G k) (E := bE G k) (p := p) (l := l) (m := m) (by have := m1.1; omega) m1
  have h5 : (bF (G k) (bE G k) p l 48).1 = G k (p + bM G k p l) * 64 + bE G k (p + bM G k p l) (l - zabs (bM G k p l)) - zabs (bM G k p l) := h3
  have h6 : bC (G k) (bE G k) p l m = G k (p + m) * 64 + bE G k (p + m) (l - zabs m) - zabs m := rfl
  omega
