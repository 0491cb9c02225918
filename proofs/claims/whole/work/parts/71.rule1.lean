/-! the reading of a rule, byte by byte: a state, a step, a run -/
abbrev aK : Type := Int × Int × Int × Int × Int × List (Int × Int)
abbrev aO : Type := Int × Int × Int × Int × Int × Int
def ePop : List (Int × Int) → Int → List (Int × Int) × Int
  | [], v => ([], v)
  | e :: r, v => if e.2 = 0 then ePop r (-v) else (e :: r, v)
def kEnd (k : aK) (v : Int) : aK := (0, 0, 0, k.2.2.2.1 + k.2.2.2.2.1 * (ePop k.2.2.2.2.2 v).2, k.2.2.2.2.1, (ePop k.2.2.2.2.2 v).1)
def kNum (k : aK) : aK := if 0 < k.2.2.1 then kEnd k k.2.1 else k
def nmI (c : Int) : Int := if c = 99 then 0 else if c = 100 then 1 else if c = 102 then 2 else if c = 104 then 3 else if c = 110 then 4 else if c = 116 then 5 else -1
def inK (F : Int → Int) (k : aK) (c : Int) : Option aK :=
  if k.1 ≠ 0 then
    (if nmI c ≠ -1 then some (kEnd k (F (nmI c)))
     else if (c = 45 ∨ c = 40) ∧ k.2.2.2.2.2.length < 5 then some (if c = 45 then (k.1, k.2.1, k.2.2.1, k.2.2.2.1, k.2.2.2.2.1, (k.2.2.2.1, 0) :: k.2.2.2.2.2) else (k.1, k.2.1, k.2.2.1, 0, 1, (k.2.2.2.1, k.2.2.2.2.1) :: k.2.2.2.2.2))
     else none)
  else if c = 43 ∨ c = 45 then some (1, k.2.1, k.2.2.1, k.2.2.2.1, (if c = 43 then 1 else -1), k.2.2.2.2.2)
  else if c = 41 then
    (match k.2.2.2.2.2 with
     | [] => none
     | e :: r => some (kEnd (0, 0, 0, e.1, e.2, r) k.2.2.2.1))
  else none
abbrev isDg (c : Int) : Prop := 48 ≤ c ∧ c ≤ 57
def stK (F : Int → Int) (k : aK) (c : Int) : Option aK :=
  if isDg c then (if k.1 = 0 ∨ k.2.2.1 = 7 then none else some (k.1, (if k.2.2.1 = 0 then c - 48 else 10 * k.2.1 + (c - 48)), k.2.2.1 + 1, k.2.2.2.1, k.2.2.2.2.1, k.2.2.2.2.2)) else inK F (kNum k) c
def plB (pl c : Int) : Int := if c = 60 ∨ c = 61 ∨ c = 62 then (if pl = 0 ∨ pl = 2 then 1 else -1) else if c = 38 then (if pl = 1 then 2 else -1) else if c = 63 then (if pl = 1 then 3 else -1) else if c = 58 then (if pl = 3 then 0 else -1) else -1
def cpR (lf cp su : Int) : Int := if cp = 60 then zb (zw lf < zw su) else if cp = 62 then zb (zw su < zw lf) else zb (zw lf = zw su)
def ouO (o : aO) (su c : Int) : Option aO :=
  if plB o.1 c = -1 then none
  else some (if o.1 = 1 then (plB o.1 c, o.2.1, o.2.2.1, (if o.2.2.2.1 ≠ 0 ∧ cpR o.2.1 o.2.2.1 su ≠ 0 then 1 else 0), o.2.2.2.2.1, o.2.2.2.2.2)
    else if o.1 = 3 then (plB o.1 c, o.2.1, o.2.2.1, 1, (if o.2.2.2.2.1 ≠ 0 ∨ o.2.2.2.1 ≠ 0 then 1 else 0), (if o.2.2.2.1 ≠ 0 ∧ o.2.2.2.2.1 = 0 then su else o.2.2.2.2.2))
    else (plB o.1 c, su, c, o.2.2.2.1, o.2.2.2.2.1, o.2.2.2.2.2))
def stA (F : Int → Int) (s : aK × aO) (c : Int) : Option (aK × aO) :=
  match stK F s.1 c with
  | some k => some (k, s.2)
  | none => if isDg c then none else if (kNum s.1).1 = 0 ∧ (kNum s.1).2.2.2.2.2 = [] then
      (match ouO s.2 (kNum s.1).2.2.2.1 c with
       | some o => some ((1, (kNum s.1).2.1, (kNum s.1).2.2.1, 0, 1, []), o)
       | none => none) else none
def goA (F t : Int → Int) : Nat → Int → aK × aO → Option (aK × aO)
  | 0, _, s => some s
  | n + 1, a, s => (stA F s (t a)).bind (goA F t n (a + 1))
def Go (F t : Int → Int) (a : Int) (s : aK × aO) (b : Int) (s2 : aK × aO) : Prop := a ≤ b ∧ goA F t (b - a).toNat a s = some s2
theorem Go_rf {F t : Int → Int} {a : Int} {s : aK × aO} : Go F t a s a s := by
  refine ⟨Int.le_refl _, ?_⟩
  rw [Int.sub_self]
  rfl
theorem Go_1 {F t : Int → Int} {a : Int} {s s2 : aK × aO} (h : stA F s (t a) = some s2) : Go F t a s (a + 1) s2 := by
  refine ⟨by omega, ?_⟩
  rw [show (a + 1 - a).toNat = 0 + 1 by omega, goA, h]
  rfl
theorem goA_add {F t : Int → Int} : ∀ (n m : Nat) (a : Int) (s s2 : aK × aO), goA F t n a s = some s2 → goA F t (n + m) a s = goA F t m (a + n) s2
  | 0, m, a, s, s2, h => by
    have e : s = s2 := by simpa [goA] using h
    rw [e, Nat.zero_add]
    simp
  | n + 1, m, a, s, s2, h => by
    rw [goA] at h
    rw [show n + 1 + m = (n + m) + 1 by omega, goA]
    cases hs : stA F s (t a) with
    | none => rw [hs] at h; cases h
    | some s1 =>
      rw [hs] at h
      have := goA_add n m (a + 1) s1 s2 h
      show goA F t (n + m) (a + 1) s1 = _
      rw [this, show a + 1 + (n : Int) = a + ((n + 1 : Nat) : Int) by omega]
theorem Go_tr {F t : Int → Int} {a b c : Int} {s s2 s3 : aK × aO} (h1 : Go F t a s b s2) (h2 : Go F t b s2 c s3) : Go F t a s c s3 := by
  refine ⟨by have := h1.1; have := h2.1; omega, ?_⟩
  have e := goA_add (b - a).toNat (c - b).toNat a s s2 h1.2
  have h3 := h1.1
  have h4 := h2.1
  rw [show (c - a).toNat = (b - a).toNat + (c - b).toNat by omega, e, show a + ((b - a).toNat : Int) = b by omega]
  exact h2.2
def mEnd (s : aK × aO) : Prop := (kNum s.1).1 = 0 ∧ (kNum s.1).2.2.2.2.2 = [] ∧ s.2.1 = 0
def Stuck (F t : Int → Int) (n b : Int) (s : aK × aO) : Prop := (b < n ∧ stA F s (t b) = none) ∨ (b = n ∧ ¬ mEnd s)
def PD (F t : Int → Int) (n b : Int) (k : aK) : Prop := b < n → isDg (t b) → stK F k (t b) = none
/-! the steps of the reference, and what they leave on the pile (its top first) -/
def joinI (c x y : Int) : Int := if c = 43 then x + y else if c = 45 then x - y else if c = 60 then zb (zw x < zw y) else if c = 62 then zb (zw y < zw x) else if c = 61 then zb (zw x = zw y) else zand x y
def ev1 (F : Int → Int) (e : Int × Int) (p : List Int) : Option (List Int) :=
  if e.1 = 0 then some (e.2 :: p)
  else if e.1 = 1 then (if nmI e.2 ≠ -1 then some (F (nmI e.2) :: p) else none)
  else if e.1 = 2 then (match p with | x :: r => some (-x :: r) | _ => none)
  else if e.1 = 3 then (match p with | y :: x :: r => some (joinI e.2 x y :: r) | _ => none)
  else (match p with | z :: y :: x :: r => some ((if zw x ≠ 0 then y else z) :: r) | _ => none)
def evO (F : Int → Int) : List (Int × Int) → List Int → Option (List Int)
  | [], p => some p
  | e :: l, p => (ev1 F e p).bind (evO F l)
theorem evO_app {F : Int → Int} : ∀ (l l2 : List (Int × Int)) (p : List Int), evO F (l ++ l2) p = (evO F l p).bind (evO F l2)
  | [], l2, p => rfl
  | e :: l, l2, p => by
    show (ev1 F e p).bind (evO F (l ++ l2)) = ((ev1 F e p).bind (evO F l)).bind (evO F l2)
    cases ev1 F e p with
    | none => rfl
    | some q => exact evO_app l l2 q
def stL (f : Int → Int) : Nat → List (Int × Int)
  | 0 => []
  | n + 1 => stL f n ++ [(f (2 * n), f (2 * n + 1))]
theorem stL_congr {f g : Int → Int} : ∀ n : Nat, (∀ j : Int, 0 ≤ j → j < 2 * n → f j = g j) → stL f n = stL g n
  | 0, _ => rfl
  | n + 1, h => by
    rw [stL, stL, stL_congr n (fun j a b => h j a (by omega)), h (2 * n) (by omega) (by omega), h (2 * n + 1) (by omega) (by omega)]
theorem stL_len {f : Int → Int} : ∀ n : Nat, (stL f n).length = n
  | 0 => rfl
  | n + 1 => by rw [stL, List.length_append, stL_len n]; rfl
/-! what a part, a sum, a failing reading must show -/
abbrev kSt (k : aK) : List (Int × Int) := k.2.2.2.2.2
def PaOK (t : Int → Int) (n a b : Int) (dp : Nat) (l : List (Int × Int)) : Prop := ∀ (F : Int → Int) (k : aK) (o : aO), k.1 = 1 → k.2.2.1 = 0 → k.2.2.2.2.1 ≠ 0 → (kSt k).length = dp → ∃ (k2 : aK) (v : Int), Go F t a (k, o) b (k2, o) ∧ kNum k2 = kEnd k v ∧ (∀ p, evO F l p = some (v :: p)) ∧ PD F t n b k2
def PaNO (t : Int → Int) (n a b : Int) (dp : Nat) : Prop := ∀ (F : Int → Int) (k : aK) (o : aO), k.1 = 1 → k.2.2.1 = 0 → k.2.2.2.2.1 ≠ 0 → (kSt k).length = dp → ∃ s2, Go F t a (k, o) b s2 ∧ Stuck F t n b s2
def solid (st : List (Int × Int)) : Prop := ∀ v, ePop st v = (st, v)
def SuOK (t : Int → Int) (n a b : Int) (dp : Nat) (l : List (Int × Int)) : Prop := ∀ (F : Int → Int) (nu : Int) (st : List (Int × Int)) (o : aO), st.length = dp → solid st → ∃ (k2 : aK) (v g : Int), Go F t a ((1, nu, 0, 0, 1, st), o) b (k2, o) ∧ kNum k2 = (0, 0, 0, v, g, st) ∧ g ≠ 0 ∧ (∀ p, evO F l p = some (v :: p)) ∧ PD F t n b k2
def SuNO (t : Int → Int) (n a b : Int) (dp : Nat) : Prop := ∀ (F : Int → Int) (nu : Int) (st : List (Int × Int)) (o : aO), st.length = dp → solid st → ∃ s2, Go F t a ((1, nu, 0, 0, 1, st), o) b s2 ∧ Stuck F t n b s2
theorem kNum_0 {k : aK} (h : k.2.2.1 = 0) : kNum k = k := by unfold kNum; rw [if_neg (by omega)]
theorem kNum_end {k : aK} {v : Int} : kNum (kEnd k v) = kEnd k v := kNum_0 rfl
theorem stA_K {F : Int → Int} {k k2 : aK} {o : aO} {c : Int} (h : stK F k c = some k2) : stA F (k, o) c = some (k2, o) := by
  unfold stA
  simp only [h]
theorem solid_nil : solid [] := fun _ => rfl
theorem solid_cons {e : Int × Int} {r : List (Int × Int)} (h : e.2 ≠ 0) : solid (e :: r) := fun v => by
  unfold ePop
  rw [if_neg h]
