theorem zPI {x f : Int} {M g : zM} (h : x = f) (hM : M = g) : PI f g (some (vI x)) M := ⟨congrArg (fun v => some (vI v)) h, hM⟩
theorem zPJ {x f : Int} {M g : zM} (h : x = f) (hM : M = g) : PJ f g (some (vJ x)) M := ⟨congrArg (fun v => some (vJ v)) h, hM⟩
theorem zPN {M g : zM} (hM : M = g) : PN g none M := ⟨rfl, hM⟩
theorem zabs_le {x : Int} : 0 ≤ zabs x := by unfold zabs; split <;> omega
theorem zabs_cases (x : Int) : (x < 0 ∧ zabs x = -x) ∨ (0 ≤ x ∧ zabs x = x) := by unfold zabs; split <;> omega
/-- CHANCE times (WIDTH and 1, less d) by (WIDTH and 1), 0 if d is above WIDTH -/
def plainS (chance width d : Int) : Int := if width < d then 0 else chance * (width + 1 - d) / (width + 1)
def closeS (v : Int) : Int := if 1000000 < v + v / 2 then 1000000 else v + v / 2
def farS (kind d : Int) : Int := if kind = 3 then d / 2 else if (kind = 2 ∨ kind = 4) ∧ 0 < d then d + 1 else d
def strike (kind at_ width chance h : Int) : Int :=
  if kind = 1 then closeS (plainS chance width (farS kind (zabs (h - at_))))
  else if kind = 4 then plainS chance width (farS kind (zabs (h - at_))) / 2
  else if kind = 5 then closeS (plainS chance width (farS kind (zabs (h - at_)))) / 4
  else plainS chance width (farS kind (zabs (h - at_)))
/-- a warning as it must be: kind, day, at, width, chance, looks -/
def wOK (g : Int → Int) : Prop := (0 ≤ g 0 ∧ g 0 ≤ 5) ∧ (0 ≤ g 1 ∧ g 1 ≤ 999) ∧ (-12 ≤ g 2 ∧ g 2 ≤ 12) ∧ (0 ≤ g 3 ∧ g 3 ≤ 9) ∧ (0 ≤ g 4 ∧ g 4 ≤ 1000000) ∧ (0 ≤ g 5 ∧ g 5 ≤ 1000000)
def strikeG (g : Int → Int) (h : Int) : Int := strike (g 0) (g 2) (g 3) (g 4) h
theorem mul_box {a b A B : Int} (h1 : 0 ≤ a) (h2 : a ≤ A) (h3 : 0 ≤ b) (h4 : b ≤ B) : 0 ≤ a * b ∧ a * b ≤ A * B := ⟨Int.mul_nonneg h1 h3, Int.mul_le_mul h2 h4 h3 (by omega)⟩
theorem plainS_le {c w d : Int} (hc : 0 ≤ c ∧ c ≤ 1000000) (hw : 0 ≤ w) (hd : 0 ≤ d) : 0 ≤ plainS c w d ∧ plainS c w d ≤ 1000000 := by
  unfold plainS
  split
  · omega
  · have h1 : 0 ≤ c * (w + 1 - d) := Int.mul_nonneg hc.1 (by omega)
    have h2 : c * (w + 1 - d) ≤ c * (w + 1) := Int.mul_le_mul_of_nonneg_left (by omega) hc.1
    refine ⟨Int.ediv_nonneg h1 (by omega), ?_⟩
    have h3 : c * (w + 1 - d) / (w + 1) ≤ c := Int.ediv_le_of_le_mul (by omega) h2
    omega
theorem closeS_le {v : Int} (h : 0 ≤ v) : 0 ≤ closeS v ∧ closeS v ≤ 1000000 := by
  unfold closeS
  split <;> omega
theorem farS_le {k d : Int} (h : 0 ≤ d) : 0 ≤ farS k d ∧ farS k d ≤ d + 1 := by
  unfold farS
  split
  · omega
  · split <;> omega
theorem strike_le {k a w c h : Int} (hc : 0 ≤ c ∧ c ≤ 1000000) (hw : 0 ≤ w) : 0 ≤ strike k a w c h ∧ strike k a w c h ≤ 1000000 := by
  have h1 := plainS_le (d := farS k (zabs (h - a))) hc hw (farS_le zabs_le).1
  have h2 := closeS_le h1.1
  unfold strike
  split
  · omega
  · split
    · omega
    · split <;> omega
def dsum (g : Nat → Int → Int) (day h : Int) : Nat → Int
  | 0 => 0
  | n + 1 => dsum g day h n + if g n 1 = day then strikeG (g n) h else 0
def danger (n : Nat) (g : Nat → Int → Int) (day h : Int) : Int := if 1000000 < dsum g day h n then 1000000 else dsum g day h n
theorem dsum_le {g : Nat → Int → Int} {day h : Int} : ∀ n : Nat, (∀ i, i < n → wOK (g i)) → 0 ≤ dsum g day h n ∧ dsum g day h n ≤ 1000000 * n
  | 0, _ => by simp [dsum]
  | n + 1, hg => by
    have h1 := dsum_le (day := day) (h := h) n (fun i hi => hg i (by omega))
    have h2 := hg n (by omega)
    have h3 : 0 ≤ strikeG (g n) h ∧ strikeG (g n) h ≤ 1000000 := strike_le h2.2.2.2.2.1 h2.2.2.2.1.1
    unfold dsum
    split <;> (push_cast; omega)
theorem danger_le {n : Nat} {g : Nat → Int → Int} {day h : Int} (hg : ∀ i, i < n → wOK (g i)) : 0 ≤ danger n g day h ∧ danger n g day h ≤ 1000000 := by
  have := dsum_le (day := day) (h := h) n hg
  unfold danger
  split <;> omega
theorem dsum_congr {g g2 : Nat → Int → Int} {day h : Int} : ∀ n : Nat, (∀ i, i < n → ∀ f, 0 ≤ f → f ≤ 5 → g i f = g2 i f) → dsum g day h n = dsum g2 day h n
  | 0, _ => rfl
  | n + 1, hg => by
    have h1 := dsum_congr (day := day) (h := h) n (fun i hi => hg i (by omega))
    have h2 := hg n (by omega)
    unfold dsum strikeG
    rw [h1, h2 0 (by omega) (by omega), h2 1 (by omega) (by omega), h2 2 (by omega) (by omega), h2 3 (by omega) (by omega), h2 4 (by omega) (by omega)]
theorem danger_congr {n : Nat} {g g2 : Nat → Int → Int} {day h : Int} (hg : ∀ i, i < n → ∀ f, 0 ≤ f → f ≤ 5 → g i f = g2 i f) : danger n g day h = danger n g2 day h := by
  unfold danger
  rw [dsum_congr n hg]
