def pl0 (j : Int) : Int := if j = 0 then 1 else if j = 1 then 100 else if j = 2 then 10 else if j = 3 then 1000000 else if j = 5 then 9 else 0
/-- the memory after both constructors -/
def M0 : zM := fun k j => if k = 11 ∨ k = 12 ∨ k = 13 then pl0 j else if k = 76 then pl0 (j - 2) else if k = 7 then (if j = 1 then -1 else if j = 3 ∨ j = 7 ∨ j = 13 then 1 else if j = 12 then 61 else 0) else 0
theorem M0_z {k : Nat} {j : Int} (a : k ≠ 11) (b : k ≠ 12) (c : k ≠ 13) (d : k ≠ 76) (e : k ≠ 7) : M0 k j = 0 := by
  unfold M0
  rw [if_neg (by omega), if_neg d, if_neg e]
theorem M0_p {j : Int} : M0 (10 + 1) j = pl0 j := by
  unfold M0
  rw [if_pos (by omega)]
theorem M0_s {j : Int} : M0 76 j = pl0 (j - 2) := by
  unfold M0
  rw [if_neg (by omega), if_pos rfl]
theorem Sim_0 : Sim M0 := by
  have z0 : ∀ j : Int, M0 0 j = 0 := fun j => M0_z (by omega) (by omega) (by omega) (by omega) (by omega)
  have z1 : ∀ j : Int, M0 1 j = 0 := fun j => M0_z (by omega) (by omega) (by omega) (by omega) (by omega)
  have z75 : ∀ j : Int, M0 75 j = 0 := fun j => M0_z (by omega) (by omega) (by omega) (by omega) (by omega)
  have s10 : M0 76 10 = 0 := by decide
  refine ⟨⟨⟨by decide, by decide, ⟨by decide, fun i hi => ?_⟩, ?_⟩, by decide, ⟨by decide, by decide, by decide, by decide, by decide, fun j a b => ?_, fun i hi f a b => ?_⟩, Or.inl ⟨by decide, by decide⟩, Or.inl (by decide), fun j a b => ?_⟩, ⟨by decide, Or.inl (by decide), fun j a b => ?_, fun q => ?_⟩, ⟨by decide, by decide, fun j a b => ?_, fun j a b => ?_, fun j a b => ?_⟩, ⟨fun i hi => ?_, fun k a b => ?_, fun k hk => ?_⟩, fun k a b => ?_, ⟨by decide, by decide⟩, ⟨fun j a b => ?_, ⟨fun j a b => ?_, fun j a b => ?_, fun j a b => ?_⟩, fun j a b => ?_⟩⟩
  · rw [s10] at hi; omega
  · unfold pOK; decide
  · rw [M0_p, M0_s, show 2 + j - 2 = j by omega]
  · rw [s10] at hi; omega
  · rw [M0_z (by omega) (by omega) (by omega) (by omega) (by omega)]; decide
  · rw [M0_z (by omega) (by omega) (by omega) (by omega) (by omega)]; decide
  · rw [z75] at q; omega
  · rw [z75] at b; omega
  · rw [M0_z (by omega) (by omega) (by omega) (by omega) (by omega)]; decide
  · rw [M0_z (by omega) (by omega) (by omega) (by omega) (by omega)]; decide
  · rw [M0_z (by omega) (by omega) (by omega) (by omega) (by omega), M0_z (by omega) (by omega) (by omega) (by omega) (by omega)]
    exact ⟨Or.inl rfl, by decide, fun j a b => by rw [M0_z (by omega) (by omega) (by omega) (by omega) (by omega)]; decide⟩
  · rw [M0_z (by omega) (by omega) (by omega) (by omega) (by omega), M0_z (by omega) (by omega) (by omega) (by omega) (by omega)]
    exact ⟨Or.inl rfl, by decide, fun j a b => by rw [M0_z (by omega) (by omega) (by omega) (by omega) (by omega)]; decide⟩
  · rw [M0_z (by omega) (by omega) (by omega) (by omega) (by omega), M0_z (by omega) (by omega) (by omega) (by omega) (by omega), M0_z (by omega) (by omega) (by omega) (by omega) (by omega), M0_z (by omega) (by omega) (by omega) (by omega) (by omega)]
    exact ⟨rfl, rfl, fun j a b => by rw [M0_z (by omega) (by omega) (by omega) (by omega) (by omega), M0_z (by omega) (by omega) (by omega) (by omega) (by omega)]⟩
  · rw [M0_z (by omega) (by omega) (by omega) (by omega) (by omega), M0_z (by omega) (by omega) (by omega) (by omega) (by omega)]
  · rw [M0_z (by omega) (by omega) (by omega) (by omega) (by omega)]; decide
  · rw [M0_z (by omega) (by omega) (by omega) (by omega) (by omega)]; decide
  · rw [M0_z (by omega) (by omega) (by omega) (by omega) (by omega)]; decide
  · rw [M0_z (by omega) (by omega) (by omega) (by omega) (by omega)]; decide
  · rw [M0_z (by omega) (by omega) (by omega) (by omega) (by omega)]; decide
theorem Lk_0 : Lk M0 0 := by
  refine ⟨fun i hi => ?_, fun q => ?_⟩
  · rw [show M0 76 10 = 0 by decide] at hi; omega
  · rw [M0_z (by omega) (by omega) (by omega) (by omega) (by omega)] at q; omega
