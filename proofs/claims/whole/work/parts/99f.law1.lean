/-! THE CLAIM OUT OF ONE WALK OF THE LAW'S BODY. Your part is whole_start (and what it stands on); all else here is the same for every law, but numbers. -/
def R_law : String := "FuelTurnsLaw"
def lw_P (b : Addr) (xs : List Int32) (args : Array Value) (s : State) : Prop := args = #[.ref b] ∧ s.IntsAt b xs ∧ xs.length ≤ 3072 ∧ (Jvm.Cond.and given_1 narrow_1).before args s = true
def lw_Q (_ : Array Value) (s : State) (o : Outcome) (t : State) : Prop := o = .returned (some (.int 1)) ∧ Framed s o t [] 600000 7302250
def lw_Z (below : List Frame) (a : Array Value) (s : State) : State → Prop := fun t => ∃ o, t.status = .running ∧ Ended t below o ∧ lw_Q a s o t
/-- the law's own end, with 1 on the stack, nothing written that was there before, its room as the claim has it -/
theorem lw_ret {p : Program} {l : Launch} {e : Env} {s : State} {m : MethodId} {below : List Frame} {meth : Method} {c : Code} {b : Nat} (hx : p.tables.exec = Jvm.exec) (hb : c.code = code) (hr : meth.sig.returnType = ret) (hlocks : meth.locks = false) {pc : Nat} {H : Heap} {ls : Array Slot} (hdg : decode code pc = .ok (.ireturn, 1)) : W p l e room_1 s m #[Value.ref b] below meth c H [] 600000 7302250 (lw_Z below #[Value.ref b] s) (F0 m pc ls [.int 1]) := by
  intro T hT X
  obtain ⟨fs, hret, hrun, hended, hW, hframe⟩ := X.leave (v := some (.int 1)) (hlocks := hlocks) (fun h => by rw [hr] at h; cases h)
  have hmeth' : T.vm.method? m = some meth := X.method'
  refine ⟨T.setFrames fs, ?_, .returned (some (.int 1)), hrun, hended, rfl, ⟨_, rfl⟩, hW, hframe⟩
  jvm_step X.here [X.here.top, hx, hb, hdg, hmeth', hr, ret, narrow_b1]
  (try refine ⟨rfl, ?_⟩); (try refine ⟨rfl, ?_⟩)
  first | (intro acts; rw [hret _ acts rfl rfl rfl]) | rw [hret _ _ rfl rfl rfl]
  exact Steps.refl _
/-- what holds at the law's entry: the machine, the code, the tables' words (any of lw_tbl by 'hts w (by decide +kernel)'), the script of L ints xs at the cell b, what the Statement gives of the start (any of its parts by flat_of_before) -/
def lw_At (p : Program) (s : State) (m : MethodId) (meth : Method) (c : Code) (b L : Nat) (xs : Nat → Int32) : Prop :=
  p.tables.exec = Jvm.exec ∧ c.code = code ∧ meth.sig.returnType = ret ∧ c.maxLocals = 4 ∧ s.vm.findClass R_law = some m.cls ∧ (∀ w ∈ lw_tbl, w.before #[Value.ref b] s = true) ∧ va_X b L xs s s.heap ∧ b < s.heap.size ∧ meth.locks = false ∧ (Jvm.Cond.and given_1 narrow_1).before #[Value.ref b] s = true
/-- the law's own end, with 1 on the stack, nothing written that was there before, its room as the claim has it -/
theorem lw_retR {p : Program} {l : Launch} {e : Env} {R : Room} {s : State} {m : MethodId} {below : List Frame} {meth : Method} {c : Code} {b : Nat} (hx : p.tables.exec = Jvm.exec) (hb : c.code = code) (hr : meth.sig.returnType = ret) (hlocks : meth.locks = false) {pc : Nat} {H : Heap} {ls : Array Slot} (hdg : decode code pc = .ok (.ireturn, 1)) : W p l e R s m #[Value.ref b] below meth c H [] 600000 7302250 (lw_Z below #[Value.ref b] s) (F0 m pc ls [.int 1]) := by
  intro T hT X
  obtain ⟨fs, hret, hrun, hended, hW, hframe⟩ := X.leave (v := some (.int 1)) (hlocks := hlocks) (fun h => by rw [hr] at h; cases h)
  have hmeth' : T.vm.method? m = some meth := X.method'
  refine ⟨T.setFrames fs, ?_, .returned (some (.int 1)), hrun, hended, rfl, ⟨_, rfl⟩, hW, hframe⟩
  jvm_step X.here [X.here.top, hx, hb, hdg, hmeth', hr, ret, narrow_b1]
  (try refine ⟨rfl, ?_⟩); (try refine ⟨rfl, ?_⟩)
  first | (intro acts; rw [hret _ acts rfl rfl rfl]) | rw [hret _ _ rfl rfl rfl]
  exact Steps.refl _

def zwl (x : Int) : Int := (Int64.ofInt x).toInt
theorem zwl_r (x : Int) : -9223372036854775808 ≤ zwl x ∧ zwl x < 9223372036854775808 := ⟨by have := Int64.le_toInt (Int64.ofInt x); unfold zwl; omega, by have := Int64.toInt_lt (Int64.ofInt x); unfold zwl; omega⟩
theorem zc_wl (ad : Nat → Nat) (x : Int) : zc ad (vJ (zwl x)) = zc ad (vJ x) := by
  show Value.long (Int64.ofInt (zwl x)) = Value.long (Int64.ofInt x)
  unfold zwl
  rw [Int64.ofInt_toInt]
section
variable {own : String} {cc : ByteArray} {mL : Nat} {rt : Option FieldType} {d : Nat} {F : zF} {pc : Nat} {lv lv2 : List (Option zV)} {st : List zV} {M : zM}
theorem z_wrapJ {x : Int} (k : Z own cc mL rt d F pc lv (vJ (zwl x) :: st) M) : Z own cc mL rt d F pc lv (vJ x :: st) M := by
  intro p l e R s m args below meth c D ct ad A H locs ls hE hl hn hP hD hS
  have := k p l e R s m args below meth c D ct ad A H locs ls hE hl hn hP hD hS
  rw [List.map_cons, zc_wl] at this
  exact this
theorem z_wrapJ2 {v : zV} {x : Int} (k : Z own cc mL rt d F pc lv (v :: vJ (zwl x) :: st) M) : Z own cc mL rt d F pc lv (v :: vJ x :: st) M := by
  intro p l e R s m args below meth c D ct ad A H locs ls hE hl hn hP hD hS
  have := k p l e R s m args below meth c D ct ad A H locs ls hE hl hn hP hD hS
  rw [List.map_cons, List.map_cons, zc_wl] at this
  exact this
/-- two answers that are one: the comparison goes on -/
theorem z_sameI {v off : Int} {tgt : Nat} (hd : decode cc pc = .ok (.if_icmp .eq off, 3)) (ht : (pc : Int) + off = (tgt : Int)) (k : Z own cc mL rt d F tgt lv st M) : Z own cc mL rt d F pc lv (vI v :: vI v :: st) M :=
  z_wrap (z_wrap2 (z_icmp_eq (zw_r v) (zw_r v) hd ht (fun _ => k) (fun c => absurd rfl c)))
theorem z_sameJ {v off : Int} {tgt : Nat} (hd0 : decode cc pc = .ok (.lcmp, 1)) (hd : decode cc (pc + 1) = .ok (.ifCond .eq off, 3)) (ht : ((pc + 1 : Nat) : Int) + off = (tgt : Int)) (k : Z own cc mL rt d F tgt lv st M) : Z own cc mL rt d F pc lv (vJ v :: vJ v :: st) M :=
  z_wrapJ (z_wrapJ2 (z_lcmp_eq (zwl_r v) (zwl_r v) hd0 hd ht (fun _ => k) (fun c => absurd rfl c)))
end
/-- the law's own end, its room, and what its start gives -/
def lawF (b n : Nat) (S : Nat → Int) : zF := (600000, 7302250, fun below args s _ _ _ _ => lw_Z below args s, fun ad A args s => args = #[Value.ref b] ∧ (∀ q : Nat, A q → s.heap.size ≤ q) ∧ va_T .int (ad 96) n (fun j => .int (Int32.ofInt (S j))) A s s.heap)
theorem lawF_scr {b n : Nat} {S : Nat → Int} : zScr (lawF b n S) n S := fun _ _ _ _ h => h.2.2
theorem z_lawret {b n d pc : Nat} {S : Nat → Int} {lv : List (Option zV)} {M : zM} (hd : decode cL_law pc = .ok (.ireturn, 1)) : Z RL cL_law 4 (some .boolean) d (lawF b n S) pc lv [vI 1] M := by
  intro p l e R s m args below meth c D ct ad A H locs ls hE hl hn hP hD hS
  have hx := hE.2.2.2.2.2.2.2.2.2.2
  have ha : args = #[Value.ref b] := hx.1
  subst ha
  refine va_forget (fun q hq => hx.2.1 _ (hS.2.2 q hq)) ?_
  exact lw_retR hE.1 hE.2.1 hE.2.2.2.2.2.2.2.2.1.2 hE.2.2.2.2.2.2.2.2.1.1 hd
