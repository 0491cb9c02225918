abbrev RI (f : Int) (P : zM → Prop) : Option zV → zM → Prop := fun r M2 => r = some (vI f) ∧ P M2
abbrev RJ (f : Int) (P : zM → Prop) : Option zV → zM → Prop := fun r M2 => r = some (vJ f) ∧ P M2
abbrev RN (P : zM → Prop) : Option zV → zM → Prop := fun r M2 => r = none ∧ P M2
theorem zRI {x f : Int} {P : zM → Prop} {M : zM} (h : x = f) (hM : P M) : RI f P (some (vI x)) M := ⟨congrArg (fun v => some (vI v)) h, hM⟩
theorem zRJ {x f : Int} {P : zM → Prop} {M : zM} (h : x = f) (hM : P M) : RJ f P (some (vJ x)) M := ⟨congrArg (fun v => some (vJ v)) h, hM⟩
theorem zRN {P : zM → Prop} {M : zM} (hM : P M) : RN P none M := ⟨rfl, hM⟩
/-- what the machine makes of a number -/
def zw (x : Int) : Int := (Int32.ofInt x).toInt
theorem zw_r (x : Int) : -2147483648 ≤ zw x ∧ zw x < 2147483648 := ⟨by have := Int32.le_toInt (Int32.ofInt x); unfold zw; omega, by have := Int32.toInt_lt (Int32.ofInt x); unfold zw; omega⟩
theorem zw_of {x : Int} (h : -2147483648 ≤ x ∧ x < 2147483648) : zw x = x := zi_r h
theorem zc_w (ad : Nat → Nat) (x : Int) : zc ad (vI (zw x)) = zc ad (vI x) := by
  show Value.int (Int32.ofInt (zw x)) = Value.int (Int32.ofInt x)
  unfold zw
  rw [Int32.ofInt_toInt]
section
variable {own : String} {cc : ByteArray} {mL : Nat} {rt : Option FieldType} {d : Nat} {F : zF} {pc : Nat} {lv lv2 : List (Option zV)} {st : List zV} {M : zM}
theorem z_wrap {x : Int} (k : Z own cc mL rt d F pc lv (vI (zw x) :: st) M) : Z own cc mL rt d F pc lv (vI x :: st) M := by
  intro p l e R s m args below meth c D ct ad A H locs ls hE hl hn hP hD hS
  have := k p l e R s m args below meth c D ct ad A H locs ls hE hl hn hP hD hS
  rw [List.map_cons, zc_w] at this
  exact this
theorem z_wrap2 {v : zV} {x : Int} (k : Z own cc mL rt d F pc lv (v :: vI (zw x) :: st) M) : Z own cc mL rt d F pc lv (v :: vI x :: st) M := by
  intro p l e R s m args below meth c D ct ad A H locs ls hE hl hn hP hD hS
  have := k p l e R s m args below meth c D ct ad A H locs ls hE hl hn hP hD hS
  rw [List.map_cons, List.map_cons, zc_w] at this
  exact this
theorem z_rVI {y : MethodName} {cb : ByteArray} {mb db idx n t b : Nat} {rb : Option FieldType} {as st0 : List zV} {f : Int} {P : zM → Prop} (hy : zYv y cb mb rb n t) (hl : Cond.methodLink own idx y ∈ zt) (hc : Call y cb mb rb db (vR b :: as) M (RI f P)) (hb : zKT b t) (hst : st0 = as.reverse ++ vR b :: st) (hna : as.length = n) (hdb : db + 1 ≤ d) (hw : (st.map zcat).sum ≤ 8) (hd : decode cc pc = .ok (.invokevirtual idx, 3)) (k : ∀ g, P g → Z own cc mL rt d F (pc + 3) lv (vI f :: st) g) : Z own cc mL rt d F pc lv st0 M := by
  refine z_callV hy hl hc hb hst hna hdb hw hd (fun r M2 h => ?_)
  obtain ⟨rfl, h⟩ := h
  exact k _ h
theorem z_rSI {y : MethodName} {cb : ByteArray} {mb db idx n : Nat} {rb : Option FieldType} {as st0 : List zV} {f : Int} {P : zM → Prop} (hy : zYs y cb mb rb n) (hl : Cond.methodLink own idx y ∈ zt) (hc : Call y cb mb rb db as M (RI f P)) (hst : st0 = as.reverse ++ st) (hna : as.length = n) (hdb : db + 1 ≤ d) (hw : (st.map zcat).sum ≤ 8) (hd : decode cc pc = .ok (.invokestatic idx, 3)) (k : ∀ g, P g → Z own cc mL rt d F (pc + 3) lv (vI f :: st) g) : Z own cc mL rt d F pc lv st0 M := by
  refine z_callS hy hl hc hst hna hdb hw hd (fun r M2 h => ?_)
  obtain ⟨rfl, h⟩ := h
  exact k _ h
theorem z_rVJ {y : MethodName} {cb : ByteArray} {mb db idx n t b : Nat} {rb : Option FieldType} {as st0 : List zV} {f : Int} {P : zM → Prop} (hy : zYv y cb mb rb n t) (hl : Cond.methodLink own idx y ∈ zt) (hc : Call y cb mb rb db (vR b :: as) M (RJ f P)) (hb : zKT b t) (hst : st0 = as.reverse ++ vR b :: st) (hna : as.length = n) (hdb : db + 1 ≤ d) (hw : (st.map zcat).sum ≤ 8) (hd : decode cc pc = .ok (.invokevirtual idx, 3)) (k : ∀ g, P g → Z own cc mL rt d F (pc + 3) lv (vJ f :: st) g) : Z own cc mL rt d F pc lv st0 M := by
  refine z_callV hy hl hc hb hst hna hdb hw hd (fun r M2 h => ?_)
  obtain ⟨rfl, h⟩ := h
  exact k _ h
theorem z_rSJ {y : MethodName} {cb : ByteArray} {mb db idx n : Nat} {rb : Option FieldType} {as st0 : List zV} {f : Int} {P : zM → Prop} (hy : zYs y cb mb rb n) (hl : Cond.methodLink own idx y ∈ zt) (hc : Call y cb mb rb db as M (RJ f P)) (hst : st0 = as.reverse ++ st) (hna : as.length = n) (hdb : db + 1 ≤ d) (hw : (st.map zcat).sum ≤ 8) (hd : decode cc pc = .ok (.invokestatic idx, 3)) (k : ∀ g, P g → Z own cc mL rt d F (pc + 3) lv (vJ f :: st) g) : Z own cc mL rt d F pc lv st0 M := by
  refine z_callS hy hl hc hst hna hdb hw hd (fun r M2 h => ?_)
  obtain ⟨rfl, h⟩ := h
  exact k _ h
theorem z_rVN {y : MethodName} {cb : ByteArray} {mb db idx n t b : Nat} {rb : Option FieldType} {as st0 : List zV} {P : zM → Prop} (hy : zYv y cb mb rb n t) (hl : Cond.methodLink own idx y ∈ zt) (hc : Call y cb mb rb db (vR b :: as) M (RN P)) (hb : zKT b t) (hst : st0 = as.reverse ++ vR b :: st) (hna : as.length = n) (hdb : db + 1 ≤ d) (hw : (st.map zcat).sum ≤ 8) (hd : decode cc pc = .ok (.invokevirtual idx, 3)) (k : ∀ g, P g → Z own cc mL rt d F (pc + 3) lv (st) g) : Z own cc mL rt d F pc lv st0 M := by
  refine z_callV hy hl hc hb hst hna hdb hw hd (fun r M2 h => ?_)
  obtain ⟨rfl, h⟩ := h
  exact k _ h
theorem z_rSN {y : MethodName} {cb : ByteArray} {mb db idx n : Nat} {rb : Option FieldType} {as st0 : List zV} {P : zM → Prop} (hy : zYs y cb mb rb n) (hl : Cond.methodLink own idx y ∈ zt) (hc : Call y cb mb rb db as M (RN P)) (hst : st0 = as.reverse ++ st) (hna : as.length = n) (hdb : db + 1 ≤ d) (hw : (st.map zcat).sum ≤ 8) (hd : decode cc pc = .ok (.invokestatic idx, 3)) (k : ∀ g, P g → Z own cc mL rt d F (pc + 3) lv (st) g) : Z own cc mL rt d F pc lv st0 M := by
  refine z_callS hy hl hc hst hna hdb hw hd (fun r M2 h => ?_)
  obtain ⟨rfl, h⟩ := h
  exact k _ h
end
