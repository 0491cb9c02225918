abbrev ixP (d p l : Int) : Int := (d * 25 + p) * 61 + l
def stF (f : Int → Int) (a b : Int) : Int → Int := fun j => if f (j + (b - a) * 61 - 1) - 1 < f j then f j else f (j + (b - a) * 61 - 1) - 1
/-- what a step of the spreading leaves of the row of values -/
def stR (f : Int → Int) (B d a b : Int) : Int → Int := zfillA (stF f a b) f ((d * 25 + a) * 61 + 1) B
theorem stR_in {f : Int → Int} {B d a b l : Int} (h : 1 ≤ l ∧ l ≤ B) : stR f B d a b (ixP d a l) = if f (ixP d b (l - 1)) - 1 < f (ixP d a l) then f (ixP d a l) else f (ixP d b (l - 1)) - 1 := by
  unfold stR zfillA stF
  rw [if_pos (by unfold ixP; omega), show ixP d a l + (b - a) * 61 - 1 = ixP d b (l - 1) by unfold ixP; omega]
theorem stR_out {f : Int → Int} {B d a b p l : Int} (hB : B ≤ 60) (hl : 0 ≤ l ∧ l ≤ 60) (h : p ≠ a ∨ l < 1) : stR f B d a b (ixP d p l) = f (ixP d p l) := by
  unfold stR zfillA
  rw [if_neg (by unfold ixP; omega)]
theorem stR_far {f : Int → Int} {B d a b j : Int} (hB : B ≤ 60) (ha : 0 ≤ a ∧ a ≤ 24) (h : j < d * 1525 ∨ d * 1525 + 1525 ≤ j) : stR f B d a b j = f j := by
  unfold stR zfillA
  rw [if_neg (by omega)]
def rngV (f : Int → Int) (d B : Int) : Prop := ∀ p l : Int, 0 ≤ p ∧ p ≤ 24 → 0 ≤ l → l ≤ B → -1000000000000 ≤ f (ixP d p l) ∧ f (ixP d p l) ≤ 1000000000000
theorem stR_rng {f : Int → Int} {B d a b : Int} (hB : B ≤ 60) (hb : 0 ≤ b ∧ b ≤ 24) (h : rngV f d B) : rngV (stR f B d a b) d B := by
  intro p l hp h0 h1
  by_cases e : p ≠ a ∨ l < 1
  · rw [stR_out hB ⟨h0, by omega⟩ e]
    exact h p l hp h0 h1
  · have e1 : p = a := by omega
    subst e1
    rw [stR_in ⟨by omega, h1⟩]
    have h2 := h p l hp h0 h1
    have h3 := h b (l - 1) hb (by omega) (by omega)
    split <;> omega
def spU (f : Int → Int) (B d : Int) : Nat → Int → Int
  | 0 => f
  | n + 1 => stR (spU f B d n) B d (23 - n) (23 - n + 1)
def spD (f : Int → Int) (B d : Int) : Nat → Int → Int
  | 0 => f
  | n + 1 => stR (spD f B d n) B d (1 + n) (1 + n - 1)
theorem spU_rng {f : Int → Int} {B d : Int} (hB : B ≤ 60) (h : rngV f d B) : ∀ n : Nat, n ≤ 24 → rngV (spU f B d n) d B
  | 0, _ => h
  | n + 1, hn => stR_rng hB (by omega) (spU_rng hB h n (by omega))
theorem spD_rng {f : Int → Int} {B d : Int} (hB : B ≤ 60) (h : rngV f d B) : ∀ n : Nat, n ≤ 24 → rngV (spD f B d n) d B
  | 0, _ => h
  | n + 1, hn => stR_rng hB (by omega) (spD_rng hB h n (by omega))
theorem spU_far {f : Int → Int} {B d j : Int} (hB : B ≤ 60) (h : j < d * 1525 ∨ d * 1525 + 1525 ≤ j) : ∀ n : Nat, n ≤ 24 → spU f B d n j = f j
  | 0, _ => rfl
  | n + 1, hn => by rw [spU, stR_far hB (by omega) h, spU_far hB h n (by omega)]
theorem spD_far {f : Int → Int} {B d j : Int} (hB : B ≤ 60) (h : j < d * 1525 ∨ d * 1525 + 1525 ≤ j) : ∀ n : Nat, n ≤ 24 → spD f B d n j = f j
  | 0, _ => rfl
  | n + 1, hn => by rw [spD, stR_far hB (by omega) h, spD_far hB h n (by omega)]
theorem spU_v {f : Int → Int} {B d : Int} (hB : B ≤ 60) : ∀ (n : Nat), n ≤ 24 → ∀ p l : Int, 0 ≤ p ∧ p ≤ 24 → 0 ≤ l → l ≤ B → ((p = 24 ∨ l = 0 ∨ p < 24 - n) → spU f B d n (ixP d p l) = f (ixP d p l)) ∧ (p < 24 → 1 ≤ l → 24 - n ≤ p → spU f B d n (ixP d p l) = if spU f B d n (ixP d (p + 1) (l - 1)) - 1 < f (ixP d p l) then f (ixP d p l) else spU f B d n (ixP d (p + 1) (l - 1)) - 1)
  | 0, _, p, l, hp, h0, h1 => ⟨fun _ => rfl, fun a b c => by omega⟩
  | n + 1, hn, p, l, hp, h0, h1 => by
    have i := spU_v (f := f) (d := d) hB n (by omega) p l hp h0 h1
    constructor
    · intro h
      rw [spU, stR_out hB ⟨h0, by omega⟩ (by omega)]
      exact i.1 (by omega)
    · intro a b c
      by_cases e : p = 23 - n
      · subst e
        rw [spU, stR_in ⟨b, h1⟩, stR_out hB (by omega) (by omega), i.1 (by omega)]
      · rw [spU, stR_out hB (by omega) (by omega), stR_out hB (by omega) (by omega)]
        exact i.2 a b (by omega)
theorem spD_v {f : Int → Int} {B d : Int} (hB : B ≤ 60) : ∀ (n : Nat), n ≤ 24 → ∀ p l : Int, 0 ≤ p ∧ p ≤ 24 → 0 ≤ l → l ≤ B → ((p = 0 ∨ l = 0 ∨ n < p) → spD f B d n (ixP d p l) = f (ixP d p l)) ∧ (1 ≤ p → 1 ≤ l → p ≤ n → spD f B d n (ixP d p l) = if spD f B d n (ixP d (p - 1) (l - 1)) - 1 < f (ixP d p l) then f (ixP d p l) else spD f B d n (ixP d (p - 1) (l - 1)) - 1)
  | 0, _, p, l, hp, h0, h1 => ⟨fun _ => rfl, fun a b c => by omega⟩
  | n + 1, hn, p, l, hp, h0, h1 => by
    have i := spD_v (f := f) (d := d) hB n (by omega) p l hp h0 h1
    constructor
    · intro h
      rw [spD, stR_out hB ⟨h0, by omega⟩ (by omega)]
      exact i.1 (by omega)
    · intro a b c
      by_cases e : p = 1 + n
      · subst e
        rw [spD, stR_in ⟨b, h1⟩, stR_out hB (by omega) (by omega), i.1 (by omega)]
      · rw [spD, stR_out hB (by omega) (by omega), stR_out hB (by omega) (by omega)]
        exact i.2 a b (by omega)
def sprR (f : Int → Int) (B d : Int) : Int → Int := spD (spU f B d 24) B d 24
theorem sprR_bE {f : Int → Int} {B d : Int} {G : Nat → Int → Int} {k : Nat} (hB : 0 ≤ B ∧ B ≤ 60) (hf : ∀ p l : Int, 0 ≤ p ∧ p ≤ 24 → 0 ≤ l → l ≤ B → f (ixP d p l) = G k p * 64 + bE G k p l) : ∀ p l : Int, 0 ≤ p ∧ p ≤ 24 → 0 ≤ l → l ≤ B → sprR f B d (ixP d p l) = bE G (k + 1) p l := by
  intro p l hp h0 h1
  refine spread_bE (D := fun p l => sprR f B d (ixP d p l)) (B := B) hp ⟨h0, h1⟩ hB.2 ?_
  have h := spread_max (S := fun p l => G k p * 64 + bE G k p l) (U := fun p l => spU f B d 24 (ixP d p l)) (D := fun p l => sprR f B d (ixP d p l)) (B := B)
    (fun p l hp h0 h1 => by have := bE_mono (G := G) k p l hp h0; omega)
    (fun l h0 h1 => by rw [(spU_v hB.2 24 (by decide) 24 l (by decide) h0 h1).1 (by omega), hf _ _ (by decide) h0 h1])
    (fun p hp => by rw [(spU_v hB.2 24 (by decide) p 0 hp (by decide) hB.1).1 (by omega), hf _ _ hp (by decide) hB.1])
    (fun p l a b c e => by rw [(spU_v hB.2 24 (by decide) p l (by omega) (by omega) e).2 b c (by omega), hf _ _ (by omega) (by omega) e])
    (fun l h0 h1 => by unfold sprR; rw [(spD_v hB.2 24 (by decide) 0 l (by decide) h0 h1).1 (by omega)])
    (fun p hp => by unfold sprR; rw [(spD_v hB.2 24 (by decide) p 0 hp (by decide) hB.1).1 (by omega)])
    (fun p l a b c e => by unfold sprR; rw [(spD_v hB.2 24 (by decide) p l (by omega) (by omega) e).2 a c (by omega)])
    p l hp h0 h1
  refine ⟨fun m ho => ?_, ?_⟩
  · exact h.1 m ho
  · exact h.2
/-- gains by how many days are left -/
def GW (p : Int → Int) (nW : Nat) (g : Nat → Int → Int) (t : Int) (k : Nat) (x : Int) : Int := worthS p nW g (t - k) (x - 12)
theorem worthS_le {p : Int → Int} {nW : Nat} {g : Nat → Int → Int} {day h : Int} (hp : pOK p) (hg : ∀ i, i < nW → wOK (g i)) : -100000000 ≤ worthS p nW g day h ∧ worthS p nW g day h ≤ 100000000 := by
  have h1 := useS_le (h := h) hp
  have h2 := danger_le (day := day) (h := h) hg
  have h3 := hp.2.2.2.1
  have h4 := mul_box h3.1 h3.2 h2.1 h2.2
  unfold worthS
  omega
theorem worthN {M N : zM} {w : Nat} {day h : Int} (hw : isW w) (hn : WN M w) (hk : ∀ k : Nat, k ≤ 55 → N k = M k) : worthS (N (10 + w)) (N w 6).toNat (gW N w) day h = worthS (M (10 + w)) (M w 6).toNat (gW M w) day h := by
  have hw3 : w ≤ 3 := by rcases hw with rfl | rfl | rfl <;> decide
  unfold worthS
  rw [hk (10 + w) (by omega), hk w (by omega), danger_congr (g2 := gW M w) (fun i hi f _ _ => by
    have h1 := hn.1
    show N (12 * w + 8 + i) f = M (12 * w + 8 + i) f
    rw [hk _ (by omega)])]
theorem WN_N {M N : zM} {w : Nat} (hw : isW w) (hn : WN M w) (hk : ∀ k : Nat, k ≤ 55 → N k = M k) : WN N w := by
  have hw3 : w ≤ 3 := by rcases hw with rfl | rfl | rfl <;> decide
  have h1 := hn.1
  refine ⟨by rw [hk w (by omega)]; exact hn.1, fun i hi => ?_⟩
  rw [hk w (by omega)] at hi
  rw [hk _ (by omega)]
  exact hn.2 i hi
abbrev vF (M : zM) (d p l : Int) : Int := if d < M 8 2 then M 68 ((d * 25 + p) * 61 + l) else 0
/-- the way: where it is ahead of day i (from 0 on), with so many steps left -/
def pth (G : Nat → Int → Int) (n : Nat) (p l : Int) : Nat → Int × Int
  | 0 => (p, l)
  | i + 1 => ((pth G n p l i).1 + bM G (n - 1 - i) (pth G n p l i).1 (pth G n p l i).2, (pth G n p l i).2 - zabs (bM G (n - 1 - i) (pth G n p l i).1 (pth G n p l i).2))
def pmv (G : Nat → Int → Int) (n : Nat) (p l : Int) (i : Nat) : Int := bM G (n - 1 - i) (pth G n p l i).1 (pth G n p l i).2
def pmc (G : Nat → Int → Int) (n : Nat) (p l : Int) : Nat → Int
  | 0 => 0
  | i + 1 => pmc G n p l i + if pmv G n p l i = 0 then 0 else 1
theorem pth_ok {G : Nat → Int → Int} {n : Nat} {p l : Int} (hp : 0 ≤ p ∧ p ≤ 24) (hl : 0 ≤ l) : ∀ i : Nat, (0 ≤ (pth G n p l i).1 ∧ (pth G n p l i).1 ≤ 24) ∧ 0 ≤ (pth G n p l i).2 ∧ (pth G n p l i).2 ≤ l
  | 0 => ⟨hp, hl, Int.le_refl _⟩
  | i + 1 => by
    have h := pth_ok (G := G) (n := n) hp hl i
    have h2 := bM_ok (G := G) (k := n - 1 - i) h.1 h.2.1
    have h3 := zabs_le (x := bM G (n - 1 - i) (pth G n p l i).1 (pth G n p l i).2)
    exact ⟨h2.1, by show 0 ≤ (pth G n p l i).2 - _; have := h2.2; omega, by show (pth G n p l i).2 - _ ≤ l; omega⟩
/-- worth and steps so far, and what is left, are those of the whole -/
theorem pth_sum {G : Nat → Int → Int} {n : Nat} {p l : Int} {i : Nat} (hi : i < n) : bst G (n - i) (pth G n p l i).1 (pth G n p l i).2 = (G (n - 1 - i) (pth G n p l (i + 1)).1 + (bst G (n - (i + 1)) (pth G n p l (i + 1)).1 (pth G n p l (i + 1)).2).1, zabs (pmv G n p l i) + (bst G (n - (i + 1)) (pth G n p l (i + 1)).1 (pth G n p l (i + 1)).2).2) := by
  rw [show n - i = (n - 1 - i) + 1 by omega, bst_1, show n - (i + 1) = n - 1 - i by omega]
  rfl
theorem leftS_le {p : Int → Int} (h : pOK p) : 0 ≤ leftS p ∧ leftS p ≤ 60 := by
  obtain ⟨h0, _, _, _, h4, h5⟩ := h
  unfold leftS
  split
  · omega
  · refine ⟨Int.ediv_nonneg (by omega) (by omega), ?_⟩
    exact Int.le_trans (Int.ediv_le_self _ (by omega)) (by omega)
