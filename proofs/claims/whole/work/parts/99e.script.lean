section
variable {own : String} {cc : ByteArray} {mL d pc : Nat} {rt : Option FieldType} {F : zF} {lv : List (Option zV)} {st : List zV} {M : zM}
/-- the script, at the place that no cell has -/
def zScr (F : zF) (n : Nat) (S : Nat → Int) : Prop := ∀ (ad : Nat → Nat) (A : Nat → Prop) (args : Array Value) (s : State), F.2.2.2 ad A args s → va_T .int (ad 96) n (fun j => .int (Int32.ofInt (S j))) A s s.heap
theorem z_scrl {S : Nat → Int} {n : Nat} {x : Int} (hF : zScr F n S) (hn2 : n < 2 ^ 31) (hx : 0 ≤ x ∧ x < n) (hd : decode cc pc = .ok (.iaload, 1)) (kk : Z own cc mL rt d F (pc + 1) lv (vI (S x.toNat) :: st) M) : Z own cc mL rt d F pc lv (vI x :: vR 96 :: st) M := by
  intro p l e R s m args below meth c D ct ad A H locs ls hE hl hn hP hD hS
  exact va_ti hE.1 hE.2.1 (hF ad A args s hE.2.2.2.2.2.2.2.2.2.2) hS (zi_in hx (by omega)) (by rw [zi_nat (n := n) hx (by omega)]; rfl) hd (kk p l e R s m args below meth c D ct ad A H locs ls hE hl hn hP hD hS)
theorem z_scrn {S : Nat → Int} {n : Nat} (hF : zScr F n S) (hd : decode cc pc = .ok (.arraylength, 1)) (kk : Z own cc mL rt d F (pc + 1) lv (vI (n : Int) :: st) M) : Z own cc mL rt d F pc lv (vR 96 :: st) M := by
  intro p l e R s m args below meth c D ct ad A H locs ls hE hl hn hP hD hS
  exact va_tlen hE.1 hE.2.1 (hF ad A args s hE.2.2.2.2.2.2.2.2.2.2) hS (v := Int32.ofInt (n : Int)) Int32.ofInt_eq_ofNat.symm hd (kk p l e R s m args below meth c D ct ad A H locs ls hE hl hn hP hD hS)
end
