/-- what the constructors need of the tables beyond the words that every step keeps -/
def bNx (U : State) : Prop := va_AO "FuelTurns$Warning" U ∧ va_AO "FuelTurns$Sheet" U ∧ va_Nw (.methodLinkNest RX5 46 yX4_init RX6) U ∧ va_Nw (.methodLinkNest RX6 46 yX1_init RX6) U ∧ va_Nw (.methodLinkNest RX6 53 yX0_init RX6) U ∧ va_Nw (.methodLinkNest RX6 60 yX3_init RX6) U ∧ va_Nw (.methodLinkNest RX6 68 yX2_init RX6) U
theorem bNx.warm {s U : State} (hW : s.WarmedH U.vm) (h : bNx s) : bNx U := ⟨h.1.moved hW.alike, h.2.1.moved hW.alike, va_Nw.warmM hW h.2.2.1, va_Nw.warmM hW h.2.2.2.1, va_Nw.warmM hW h.2.2.2.2.1, va_Nw.warmM hW h.2.2.2.2.2.1, va_Nw.warmM hW h.2.2.2.2.2.2⟩
theorem bNx.same {u U : State} (e : u.vm = U.vm) (h : bNx u) : bNx U := ⟨h.1.moved (by rw [e]; exact Vm.Alike.refl _), h.2.1.moved (by rw [e]; exact Vm.Alike.refl _), va_Nw.same rfl e h.2.2.1, va_Nw.same rfl e h.2.2.2.1, va_Nw.same rfl e h.2.2.2.2.1, va_Nw.same rfl e h.2.2.2.2.2.1, va_Nw.same rfl e h.2.2.2.2.2.2⟩
def bCx (own : String) (cc : ByteArray) (mL : Nat) (p : Program) (s : State) (m : MethodId) (args : Array Value) (c : Code) (D : va_G) (ct : Nat → Nat) (A : Nat → Prop) : Prop :=
  p.tables.exec = Jvm.exec ∧ c.code = cc ∧ c.maxLocals = mL ∧ s.vm.findClass own = some m.cls ∧ (∀ w ∈ zt, w.before args s = true) ∧ va_K D vwCl (ztys ct) s ∧ (∀ q : Nat, s.heap.size ≤ q → A q) ∧ bNx s
def bJx (s : State) (D : va_G) (A : Nat → Prop) (ws : va_W) (H : Heap) (locs : List Loc) : Prop := va_P D vwCl ws H ∧ va_D A ws ∧ va_S A s.heap H locs
def bIx (meth : Method) : Prop := meth.locks = false ∧ meth.sig.returnType = none ∧ meth.name = "<init>"
def bPc (D : va_G) (ct : Nat → Nat) (t : Nat) (fs : List Value) (h0 sz : Nat) : Array Value → State → Prop := va_Pc [.ref h0] (fun U => U.heap.size = sz ∧ va_P D vwCl [(h0, .inr (t, fs))] U.heap ∧ va_K D vwCl (ztys ct) U ∧ va_D (fun _ => True) [(h0, .inr (t, fs))] ∧ bNx U)
def bQc (D : va_G) (A : Nat → Prop) (w : (Nat → Nat) → va_W) : Array Value → State → Outcome → State → Prop := va_Qv (fun _ : Nat → Nat => True) (fun a t => va_P D vwCl (w a) t.heap ∧ va_D A (w a)) A
def bRm (d mc ms : Nat) : Room := { frames := d, cells := mc, slots := ms, locals := 40 * d }
/-- a constructor's contract: of an object with the fields fs it makes the world w -/
def bMet (l : Launch) (y : MethodName) (cb : ByteArray) (mb d mc ms t : Nat) (fs : List Value) (w : (Nat → Nat) → Nat → (Nat → Nat) → va_W) : Prop :=
  ∀ (D : va_G) (ct : Nat → Nat) (h0 sz : Nat), Met l y (.code y cb mb none :: zt) (bRm d mc ms) (bPc D ct t fs h0 sz) (bQc D (va_A [(h0, .inr (t, fs))] sz) (w ct h0)) mc ms (va_A [(h0, .inr (t, fs))] sz)
theorem bPc_blind {D : va_G} {ct : Nat → Nat} {t : Nat} {fs : List Value} {h0 sz : Nat} : FrameBlind (bPc D ct t fs h0 sz) := by
  intro a U g mk h
  obtain ⟨h1, h2, h3, h4, h5, h6⟩ := h
  exact ⟨h1, h2, h3, va_K.moved (u := U) (U := U.calling g mk a) (Vm.Alike.refl U.vm) h4, h5, bNx.same (u := U) (U := U.calling g mk a) rfl h6⟩
theorem bMet.of {l : Launch} {y : MethodName} {cb : ByteArray} {mb d mc ms t : Nat} {fs : List Value} {w : (Nat → Nat) → Nat → (Nat → Nat) → va_W} (hy : plainName y.cls = true) (hyn : y.name = "<init>") (hm : 1 ≤ mb)
    (k : ∀ (p : Program) (e : Env) (s : State) (m : MethodId) (args : Array Value) (below : List Frame) (meth : Method) (c : Code) (D : va_G) (ct : Nat → Nat) (A : Nat → Prop) (H : Heap) (ls : Array Slot) (h0 : Nat), bCx y.cls cb mb p s m args c D ct A → bIx meth → lv_has ls mb [(0, .ref h0)] → bJx s D A [(h0, .inr (t, fs))] H [] → W p l e (bRm d mc ms) s m args below meth c H [] 0 0 (MQ below (bQc D A (w ct h0)) args s mc ms A) (F0 m 0 ls [])) : bMet l y cb mb d mc ms t fs w := by
  intro D ct h0 sz
  refine Met.ofW (cc := cb) (maxL := mb) (ret := none) hy rfl ?_
  intro p e s m args below meth c s₁ B hml hv
  obtain ⟨rfl, hsz, hP, hK, hD0, hN⟩ := hv
  subst hsz
  have hts := atoms_spec (ws := .code y cb mb none :: zt) B.pre
  have hl := lv_entry ([.ref h0]) (n := mb) hm
  rw [lg_entry_eq]
  generalize (lg_sl ([.ref h0]) ++ List.replicate (mb - (lg_sl ([.ref h0])).length) Slot.unset).toArray = ls at hl ⊢
  refine k p e s m _ below meth c D ct _ s.heap ls h0 ⟨B.exec, B.bytes, hml, findClass_of_methodNamed B.named, fun w hw => hts w (List.mem_cons_of_mem _ hw), hK, fun q h => Or.inr h, hN⟩ ⟨B.notSynchronized, B.returns, ?_⟩ hl ⟨hP, hD0.self, va_S.rf⟩
  rw [(name_of_methodNamed B.named B.method).1]
  exact hyn
theorem b_nd : ∀ l : List Nat, l.Nodup → va_nd l = true
  | [], _ => rfl
  | a :: l, h => by
    have h2 := List.nodup_cons.mp h
    simp only [va_nd, Bool.and_eq_true, decide_eq_true_eq]
    exact ⟨h2.1, b_nd l h2.2⟩
theorem b_range {ws : va_W} {x : Nat × va_E} : (List.range ws.length).map (fun i => (ws ++ [x])[i]?) = ws.map some := by
  apply List.ext_getElem?
  intro i
  rw [List.getElem?_map, List.getElem?_map]
  by_cases hi : i < ws.length
  · rw [List.getElem?_range hi]
    simp [List.getElem?_append_left hi, hi]
  · rw [List.getElem?_eq_none_iff.mpr (by simpa using hi), List.getElem?_eq_none_iff.mpr (by omega)]
    rfl
section
variable {p : Program} {l : Launch} {e : Env} {R : Room} {s : State} {m : MethodId} {args : Array Value} {below : List Frame} {meth : Method} {c : Code} {D : va_G} {ct : Nat → Nat} {A : Nat → Prop} {H : Heap} {locs : List Loc} {cells slots : Nat} {Q : State → Prop} {pc : Nat} {ls : Array Slot} {rest : List Value} {own : String} {cc : ByteArray} {mL : Nat} {ws : va_W}
theorem b_ret {w : (Nat → Nat) → va_W} {mc ms : Nat} (a : Nat → Nat) (C : bCx own cc mL p s m args c D ct A) (hM : bIx meth) (h1 : cells ≤ mc) (h2 : slots ≤ ms) (J : bJx s D A (w a) H locs) (hd : decode cc pc = .ok (.return_, 1)) : W p l e R s m args below meth c H locs cells slots (MQ below (bQc D A w) args s mc ms A) (F0 m pc ls []) := by
  refine W.widen h1 h2 ?_
  exact W.vret C.1 C.2.1 hM.2.1 (fun t ht hW => ⟨⟨a, rfl, trivial, by rw [ht]; exact J.1, J.2.1⟩, J.2.2.F ht⟩) J.2.2.2.2 hd hM.1
theorem b_put {t j idx a : Nat} {ji : Int} {x : Int32} {fs : List Value} (C : bCx own cc mL p s m args c D ct A) (J : bJx s D A ws H locs) (hF : zFl own idx t j ji) (hj : (zfk t).getD j 9 = 0) (q0 : Nat) (he : ws[q0]? = some (a, .inr (t, fs))) (hl : j < fs.length) (hd : decode cc pc = .ok (.putfield idx, 3)) (kk : ∀ (H1 : Heap) (locs1 : List Loc), bJx s D A (ws.set q0 (a, .inr (t, fs.set j (.int x)))) H1 locs1 → W p l e R s m args below meth c H1 locs1 cells slots Q (F0 m (pc + 3) ls rest)) : W p l e R s m args below meth c H locs cells slots Q (F0 m pc ls (.int x :: .ref a :: rest)) := by
  obtain ⟨C', T, N, ty, h1, h2, h3, h4, h5, h6, h7, h8, h9, h10, h11, rfl⟩ := hF
  rw [hj] at h10 h11
  exact va_put C.1 C.2.1 C.2.2.2.2.1 h6 ty h8 h9 C.2.2.2.1 C.2.2.2.2.2.1 J.1 J.2.1 J.2.2 q0 he h1 j h2 (C.2.2.2.2.1 _ h4) (fun x hx => by rw [h5] at hx; exact hx) h10 (ty := .int) (v := .int x) (by rw [h8 j h2]; exact congrArg some h11) rfl rfl hl hd (fun H1 locs1 hP1 hD1 hS1 => kk H1 locs1 ⟨hP1, hD1, hS1⟩)
theorem b_putJ {t j idx a : Nat} {ji : Int} {x : Int64} {fs : List Value} (C : bCx own cc mL p s m args c D ct A) (J : bJx s D A ws H locs) (hF : zFl own idx t j ji) (hj : (zfk t).getD j 9 = 1) (q0 : Nat) (he : ws[q0]? = some (a, .inr (t, fs))) (hl : j < fs.length) (hd : decode cc pc = .ok (.putfield idx, 3)) (kk : ∀ (H1 : Heap) (locs1 : List Loc), bJx s D A (ws.set q0 (a, .inr (t, fs.set j (.long x)))) H1 locs1 → W p l e R s m args below meth c H1 locs1 cells slots Q (F0 m (pc + 3) ls rest)) : W p l e R s m args below meth c H locs cells slots Q (F0 m pc ls (.long x :: .ref a :: rest)) := by
  obtain ⟨C', T, N, ty, h1, h2, h3, h4, h5, h6, h7, h8, h9, h10, h11, rfl⟩ := hF
  rw [hj] at h10 h11
  exact va_put C.1 C.2.1 C.2.2.2.2.1 h6 ty h8 h9 C.2.2.2.1 C.2.2.2.2.2.1 J.1 J.2.1 J.2.2 q0 he h1 j h2 (C.2.2.2.2.1 _ h4) (fun x hx => by rw [h5] at hx; exact hx) h10 (ty := .long) (v := .long x) (by rw [h8 j h2]; exact congrArg some h11) rfl rfl hl hd (fun H1 locs1 hP1 hD1 hS1 => kk H1 locs1 ⟨hP1, hD1, hS1⟩)
theorem b_putZ {t j idx a : Nat} {ji : Int} {x : Int32} {fs : List Value} (C : bCx own cc mL p s m args c D ct A) (J : bJx s D A ws H locs) (hF : zFl own idx t j ji) (hj : (zfk t).getD j 9 = 2) (hx : narrow .boolean (.int x) = .int x) (hfi : fits .boolean (.int x) = true) (q0 : Nat) (he : ws[q0]? = some (a, .inr (t, fs))) (hl : j < fs.length) (hd : decode cc pc = .ok (.putfield idx, 3)) (kk : ∀ (H1 : Heap) (locs1 : List Loc), bJx s D A (ws.set q0 (a, .inr (t, fs.set j (.int x)))) H1 locs1 → W p l e R s m args below meth c H1 locs1 cells slots Q (F0 m (pc + 3) ls rest)) : W p l e R s m args below meth c H locs cells slots Q (F0 m pc ls (.int x :: .ref a :: rest)) := by
  obtain ⟨C', T, N, ty, h1, h2, h3, h4, h5, h6, h7, h8, h9, h10, h11, rfl⟩ := hF
  rw [hj] at h10 h11
  exact va_put C.1 C.2.1 C.2.2.2.2.1 h6 ty h8 h9 C.2.2.2.1 C.2.2.2.2.2.1 J.1 J.2.1 J.2.2 q0 he h1 j h2 (C.2.2.2.2.1 _ h4) (fun x hx => by rw [h5] at hx; exact hx) h10 (ty := .boolean) (v := .int x) (by rw [h8 j h2]; exact congrArg some h11) hx hfi hl hd (fun H1 locs1 hP1 hD1 hS1 => kk H1 locs1 ⟨hP1, hD1, hS1⟩)
theorem b_putR {t j idx a q : Nat} {ji : Int} {τ : FieldType} {fs : List Value} (C : bCx own cc mL p s m args c D ct A) (hM : bIx meth) (J : bJx s D A ws H locs) (hF : zFl own idx t j ji) (hj : (zfk t).getD j 9 = 3) (hp : ∀ (Cn : String) (T : u_T) (N : Nat), vwCl[t]? = some (Cn, T, N) → Cn = own ∧ parseFieldDescriptor (T j).2.2.1 = some τ) (hn : narrow τ (.ref q) = .ref q) (hfit : fits τ (.ref q) = true) (q0 : Nat) (he : ws[q0]? = some (a, .inr (t, fs))) (hl : j < fs.length) (hd : decode cc pc = .ok (.putfield idx, 3)) (kk : ∀ (H1 : Heap) (locs1 : List Loc), bJx s D A (ws.set q0 (a, .inr (t, fs.set j (.ref q)))) H1 locs1 → W p l e R s m args below meth c H1 locs1 cells slots Q (F0 m (pc + 3) ls rest)) : W p l e R s m args below meth c H locs cells slots Q (F0 m pc ls (.ref q :: .ref a :: rest)) := by
  obtain ⟨C', T, N, ty, h1, h2, h3, h4, h5, h6, h7, h8, h9, h10, h11, rfl⟩ := hF
  rw [hj] at h10
  obtain ⟨ho, hτ⟩ := hp _ _ _ h1
  exact va_putF C.1 C.2.1 C.2.2.2.2.1 h6 ty h8 h9 C.2.2.2.1 C.2.2.2.2.2.1 J.1 J.2.1 J.2.2 q0 he h1 j h2 (C.2.2.2.2.1 _ h4) (fun x hx => by rw [h5] at hx; exact hx) h10 hM.2.2 (h5.trans ho) (ty := τ) (v := .ref q) hτ hn hfit hl hd (fun H1 locs1 hP1 hD1 hS1 => kk H1 locs1 ⟨hP1, hD1, hS1⟩)
theorem b_get {t j idx a : Nat} {ji : Int} {v : Value} {fs : List Value} (C : bCx own cc mL p s m args c D ct A) (J : bJx s D A ws H locs) (hF : zFl own idx t j ji) (q0 : Nat) (he : ws[q0]? = some (a, .inr (t, fs))) (hv : fs[j]? = some v) (hd : decode cc pc = .ok (.getfield idx, 3)) (kk : W p l e R s m args below meth c H locs cells slots Q (F0 m (pc + 3) ls (v :: rest))) : W p l e R s m args below meth c H locs cells slots Q (F0 m pc ls (.ref a :: rest)) := by
  obtain ⟨C', T, N, ty, h1, h2, h3, h4, h5, h6, h7, h8, h9, h10, h11, rfl⟩ := hF
  exact va_get C.1 C.2.1 C.2.2.2.2.1 h6 C.2.2.2.1 C.2.2.2.2.2.1 J.1 q0 he h1 j h2 (C.2.2.2.2.1 _ h4) (fun x hx => by rw [h5] at hx; exact hx) hv hd kk
theorem b_newB {n : Int32} {N : Nat} (C : bCx own cc mL p s m args c D ct A) (J : bJx s D A ws H locs) (hn : ¬ n < 0) (hN : n.toNatClampNeg = N) (hby : N * componentBytes .byte ≤ 536870912) (hcells : cells + 1 ≤ R.cells) (hslots : slots + N ≤ R.slots) (hd : decode cc pc = .ok (.newarray .byte, 2)) (kk : ∀ (q : Nat) (H1 : Heap), bJx s D A (ws ++ [(q, .inl (ct 0, N, .inl (fun _ => 0)))]) H1 locs → W p l e R s m args below meth c H1 locs (cells + 1) (slots + N) Q (F0 m (pc + 2) ls (.ref q :: rest))) : W p l e R s m args below meth c H locs cells slots Q (F0 m pc ls (.int n :: rest)) := by
  refine va_newa (atype := .byte) (ty := .byte) (a0 := (N, .inl (fun _ => 0))) C.1 C.2.1 (C.2.2.2.2.1 _ (zt_of (lw_tb (i := 61) (by decide +kernel)) rfl)) rfl C.2.2.2.2.2.1 J.1 J.2.1 J.2.2 C.2.2.2.2.2.2.1 (fun _ => rfl) hn hN hby hcells hslots hd (fun q cA H1 hK hP hD hS => ?_)
  have e1 : s.vm.findClass ("[" ++ FieldType.toString .byte) = some cA := (hK.2 5 (cA, .byte) rfl).2
  have e2 : s.vm.findClass ("[" ++ FieldType.toString .byte) = some (ct 0) := (C.2.2.2.2.2.1.2 0 (ct 0, .byte) rfl).2
  have e3 : cA = ct 0 := Option.some.inj (e1.symm.trans e2)
  subst e3
  exact kk q H1 ⟨hP, hD, hS⟩
theorem b_newI {n : Int32} {N : Nat} (C : bCx own cc mL p s m args c D ct A) (J : bJx s D A ws H locs) (hn : ¬ n < 0) (hN : n.toNatClampNeg = N) (hby : N * componentBytes .int ≤ 536870912) (hcells : cells + 1 ≤ R.cells) (hslots : slots + N ≤ R.slots) (hd : decode cc pc = .ok (.newarray .int, 2)) (kk : ∀ (q : Nat) (H1 : Heap), bJx s D A (ws ++ [(q, .inl (ct 1, N, .inl (fun _ => 0)))]) H1 locs → W p l e R s m args below meth c H1 locs (cells + 1) (slots + N) Q (F0 m (pc + 2) ls (.ref q :: rest))) : W p l e R s m args below meth c H locs cells slots Q (F0 m pc ls (.int n :: rest)) := by
  refine va_newa (atype := .int) (ty := .int) (a0 := (N, .inl (fun _ => 0))) C.1 C.2.1 (C.2.2.2.2.1 _ (zt_of (lw_tb (i := 60) (by decide +kernel)) rfl)) rfl C.2.2.2.2.2.1 J.1 J.2.1 J.2.2 C.2.2.2.2.2.2.1 (fun _ => rfl) hn hN hby hcells hslots hd (fun q cA H1 hK hP hD hS => ?_)
  have e1 : s.vm.findClass ("[" ++ FieldType.toString .int) = some cA := (hK.2 5 (cA, .int) rfl).2
  have e2 : s.vm.findClass ("[" ++ FieldType.toString .int) = some (ct 1) := (C.2.2.2.2.2.1.2 1 (ct 1, .int) rfl).2
  have e3 : cA = ct 1 := Option.some.inj (e1.symm.trans e2)
  subst e3
  exact kk q H1 ⟨hP, hD, hS⟩
theorem b_newJ {n : Int32} {N : Nat} (C : bCx own cc mL p s m args c D ct A) (J : bJx s D A ws H locs) (hn : ¬ n < 0) (hN : n.toNatClampNeg = N) (hby : N * componentBytes .long ≤ 536870912) (hcells : cells + 1 ≤ R.cells) (hslots : slots + N ≤ R.slots) (hd : decode cc pc = .ok (.newarray .long, 2)) (kk : ∀ (q : Nat) (H1 : Heap), bJx s D A (ws ++ [(q, .inl (ct 2, N, .inr (.inl (fun _ => 0))))]) H1 locs → W p l e R s m args below meth c H1 locs (cells + 1) (slots + N) Q (F0 m (pc + 2) ls (.ref q :: rest))) : W p l e R s m args below meth c H locs cells slots Q (F0 m pc ls (.int n :: rest)) := by
  refine va_newa (atype := .long) (ty := .long) (a0 := (N, .inr (.inl (fun _ => 0)))) C.1 C.2.1 (C.2.2.2.2.1 _ (zt_of (lw_tb (i := 198) (by decide +kernel)) rfl)) rfl C.2.2.2.2.2.1 J.1 J.2.1 J.2.2 C.2.2.2.2.2.2.1 (fun _ => rfl) hn hN hby hcells hslots hd (fun q cA H1 hK hP hD hS => ?_)
  have e1 : s.vm.findClass ("[" ++ FieldType.toString .long) = some cA := (hK.2 5 (cA, .long) rfl).2
  have e2 : s.vm.findClass ("[" ++ FieldType.toString .long) = some (ct 2) := (C.2.2.2.2.2.1.2 2 (ct 2, .long) rfl).2
  have e3 : cA = ct 2 := Option.some.inj (e1.symm.trans e2)
  subst e3
  exact kk q H1 ⟨hP, hD, hS⟩
theorem b_newqS {idx : Nat} {n : Int32} {N : Nat} (C : bCx own cc mL p s m args c D ct A) (J : bJx s D A ws H locs) (hcl : Cond.classLink own idx "FuelTurns$Sheet" ∈ zt) (hn : ¬ n < 0) (hN : n.toNatClampNeg = N) (hby : N * 4 ≤ 536870912) (hcells : cells + 1 ≤ R.cells) (hslots : slots + N ≤ R.slots) (hd : decode cc pc = .ok (.anewarray idx, 3)) (kk : ∀ (q : Nat) (H1 : Heap), bJx s D A (ws ++ [(q, .inl (ct 3, N, .inr (.inr (.inr (.inr (fun _ => none))))))]) H1 locs → W p l e R s m args below meth c H1 locs (cells + 1) (slots + N) Q (F0 m (pc + 3) ls (.ref q :: rest))) : W p l e R s m args below meth c H locs cells slots Q (F0 m pc ls (.int n :: rest)) := by
  refine va_newq C.1 C.2.1 C.2.2.2.1 (C.2.2.2.2.1 _ hcl) C.2.2.2.2.2.2.2.2.1 C.2.2.2.2.2.1 J.1 J.2.1 J.2.2 C.2.2.2.2.2.2.1 hn hN hby hcells hslots hd (fun q cA H1 hK hP hD hS => ?_)
  obtain ⟨-, -, -, -, -, e1⟩ := (hK.2 5 (cA, .object "FuelTurns$Sheet") rfl).2
  obtain ⟨-, -, -, -, -, e2⟩ := (C.2.2.2.2.2.1.2 3 (ct 3, .object "FuelTurns$Sheet") rfl).2
  have e3 : cA = ct 3 := Option.some.inj (e1.symm.trans e2)
  subst e3
  exact kk q H1 ⟨hP, hD, hS⟩
theorem b_newqW {idx : Nat} {n : Int32} {N : Nat} (C : bCx own cc mL p s m args c D ct A) (J : bJx s D A ws H locs) (hcl : Cond.classLink own idx "FuelTurns$Warning" ∈ zt) (hn : ¬ n < 0) (hN : n.toNatClampNeg = N) (hby : N * 4 ≤ 536870912) (hcells : cells + 1 ≤ R.cells) (hslots : slots + N ≤ R.slots) (hd : decode cc pc = .ok (.anewarray idx, 3)) (kk : ∀ (q : Nat) (H1 : Heap), bJx s D A (ws ++ [(q, .inl (ct 4, N, .inr (.inr (.inr (.inr (fun _ => none))))))]) H1 locs → W p l e R s m args below meth c H1 locs (cells + 1) (slots + N) Q (F0 m (pc + 3) ls (.ref q :: rest))) : W p l e R s m args below meth c H locs cells slots Q (F0 m pc ls (.int n :: rest)) := by
  refine va_newq C.1 C.2.1 C.2.2.2.1 (C.2.2.2.2.1 _ hcl) C.2.2.2.2.2.2.2.1 C.2.2.2.2.2.1 J.1 J.2.1 J.2.2 C.2.2.2.2.2.2.1 hn hN hby hcells hslots hd (fun q cA H1 hK hP hD hS => ?_)
  obtain ⟨-, -, -, -, -, e1⟩ := (hK.2 5 (cA, .object "FuelTurns$Warning") rfl).2
  obtain ⟨-, -, -, -, -, e2⟩ := (C.2.2.2.2.2.1.2 4 (ct 4, .object "FuelTurns$Warning") rfl).2
  have e3 : cA = ct 4 := Option.some.inj (e1.symm.trans e2)
  subst e3
  exact kk q H1 ⟨hP, hD, hS⟩
theorem b_new {t N idx : Nat} {Cn : String} {Tn : u_T} {ty : Nat → FieldType} {fs : List Value} (C : bCx own cc mL p s m args c D ct A) (J : bJx s D A ws H locs) (hc : vwCl[t]? = some (Cn, Tn, N)) (hin : ∀ w ∈ u_ws Cn Tn N, w ∈ zt) (hty : ∀ k, k < N → parseFieldDescriptor (Tn k).2.2.1 = some (ty k)) (hcl : Cond.classLink own idx Cn ∈ zt) (hinst : Cond.instantiable Cn N ∈ zt) (hini : Cond.initialized Cn ∈ zt) (hfs : ∀ j, j < N → defaultValue (ty j) = vp_V fs j) (hcells : cells + 1 ≤ R.cells) (hslots : slots + N ≤ R.slots) (hd : decode cc pc = .ok (.new idx, 3)) (kk : ∀ (q : Nat) (H1 : Heap), bJx s D A (ws ++ [(q, .inr (t, fs))]) H1 locs → W p l e R s m args below meth c H1 locs (cells + 1) (slots + N) Q (F0 m (pc + 3) ls (.ref q :: rest))) : W p l e R s m args below meth c H locs cells slots Q (F0 m pc ls rest) :=
  va_new C.1 C.2.1 C.2.2.2.2.1 hin ty hty C.2.2.2.1 (C.2.2.2.2.1 _ hcl) (C.2.2.2.2.1 _ hinst) (C.2.2.2.2.1 _ hini) C.2.2.2.2.2.1 J.1 J.2.1 J.2.2 C.2.2.2.2.2.2.1 hc hfs hcells hslots hd (fun q H1 hP hD hS => kk q H1 ⟨hP, hD, hS⟩)
theorem b_iast {a n : Nat} {i x : Int32} {f : Nat → Int32} (C : bCx own cc mL p s m args c D ct A) (J : bJx s D A ws H locs) (q0 : Nat) (ha : ws[q0]? = some (a, .inl (ct 1, n, .inl f))) (hin : vp_in i n) (hd : decode cc pc = .ok (.iastore, 1)) (kk : ∀ (H1 : Heap) (locs1 : List Loc), bJx s D A (ws.set q0 (a, .inl (ct 1, n, .inl (upd f i.toNatClampNeg x)))) H1 locs1 → W p l e R s m args below meth c H1 locs1 cells slots Q (F0 m (pc + 1) ls rest)) : W p l e R s m args below meth c H locs cells slots Q (F0 m pc ls (.int x :: .int i :: .ref a :: rest)) :=
  va_iast C.1 C.2.1 C.2.2.2.2.2.1 J.1 J.2.1 J.2.2 q0 1 ha rfl hin hd (fun H1 locs1 hP hD hS => kk H1 locs1 ⟨hP, hD, hS⟩)
theorem b_last {a n : Nat} {i : Int32} {x : Int64} {f : Nat → Int64} (C : bCx own cc mL p s m args c D ct A) (J : bJx s D A ws H locs) (q0 : Nat) (ha : ws[q0]? = some (a, .inl (ct 2, n, .inr (.inl f)))) (hin : vp_in i n) (hd : decode cc pc = .ok (.lastore, 1)) (kk : ∀ (H1 : Heap) (locs1 : List Loc), bJx s D A (ws.set q0 (a, .inl (ct 2, n, .inr (.inl (vp_updL f i.toNatClampNeg x))))) H1 locs1 → W p l e R s m args below meth c H1 locs1 cells slots Q (F0 m (pc + 1) ls rest)) : W p l e R s m args below meth c H locs cells slots Q (F0 m pc ls (.long x :: .int i :: .ref a :: rest)) :=
  va_last C.1 C.2.1 C.2.2.2.2.2.1 J.1 J.2.1 J.2.2 q0 2 ha rfl hin hd (fun H1 locs1 hP hD hS => kk H1 locs1 ⟨hP, hD, hS⟩)
theorem b_astW {a n v : Nat} {i : Int32} {vs : List Value} {f : Nat → Option Nat} (C : bCx own cc mL p s m args c D ct A) (J : bJx s D A ws H locs) (q0 qk : Nat) (ha : ws[q0]? = some (a, .inl (ct 4, n, .inr (.inr (.inr (.inr f)))))) (hv : ws[qk]? = some (v, .inr (4, vs))) (hin : vp_in i n) (hd : decode cc pc = .ok (.aastore, 1)) (kk : ∀ (H1 : Heap) (locs1 : List Loc), bJx s D A (ws.set q0 (a, .inl (ct 4, n, .inr (.inr (.inr (.inr (va_up f i.toNatClampNeg (some v)))))))) H1 locs1 → W p l e R s m args below meth c H1 locs1 cells slots Q (F0 m (pc + 1) ls rest)) : W p l e R s m args below meth c H locs cells slots Q (F0 m pc ls (.ref v :: .int i :: .ref a :: rest)) :=
  va_astq (r := (RX4, TX4, 6)) C.1 C.2.1 C.2.2.2.2.2.1 J.1 J.2.1 J.2.2 q0 4 qk 4 ha rfl hv rfl hin hd (fun H1 locs1 hP hD hS => kk H1 locs1 ⟨hP, hD, hS⟩)
theorem b_astS {a n v : Nat} {i : Int32} {vs : List Value} {f : Nat → Option Nat} (C : bCx own cc mL p s m args c D ct A) (J : bJx s D A ws H locs) (q0 qk : Nat) (ha : ws[q0]? = some (a, .inl (ct 3, n, .inr (.inr (.inr (.inr f)))))) (hv : ws[qk]? = some (v, .inr (2, vs))) (hin : vp_in i n) (hd : decode cc pc = .ok (.aastore, 1)) (kk : ∀ (H1 : Heap) (locs1 : List Loc), bJx s D A (ws.set q0 (a, .inl (ct 3, n, .inr (.inr (.inr (.inr (va_up f i.toNatClampNeg (some v)))))))) H1 locs1 → W p l e R s m args below meth c H1 locs1 cells slots Q (F0 m (pc + 1) ls rest)) : W p l e R s m args below meth c H locs cells slots Q (F0 m pc ls (.ref v :: .int i :: .ref a :: rest)) :=
  va_astq (r := (RX2, TX2, 3)) C.1 C.2.1 C.2.2.2.2.2.1 J.1 J.2.1 J.2.2 q0 3 qk 2 ha rfl hv rfl hin hd (fun H1 locs1 hP hD hS => kk H1 locs1 ⟨hP, hD, hS⟩)
theorem b_back {y : MethodName} {mc ms t q : Nat} {fs : List Value} {a : Array Value} {w : (Nat → Nat) → Nat → (Nat → Nat) → va_W} {st0 : List Value} (C : bCx own cc mL p s m args c D ct A) (J : bJx s D A (ws ++ [(q, .inr (t, fs))]) H locs)
    (hr : va_Run p l e R s m args below meth c H locs cells slots mc ms (F0 m pc ls st0) rest (bQc D (va_A [(q, .inr (t, fs))] H.size) (w ct q) a) (va_A [(q, .inr (t, fs))] H.size)) (kk : ∀ (u : Nat → Nat) (H1 : Heap) (locs1 : List Loc), bJx s D A (ws ++ w ct q u) H1 locs1 → W p l e R s m args below meth c H1 locs1 (cells + mc) (slots + ms) Q (F0 m (pc + 3) ls rest)) : W p l e R s m args below meth c H locs cells slots Q (F0 m pc ls st0) := by
  have hFc := va_free (wc := [(q, .inr (t, fs))]) J.2.1 J.2.2 C.2.2.2.2.2.2.1 [ws.length] (by simp)
  refine va_callv hr J.2.2 (fun q _ h => hFc q h) hFc (fun u t H1 locs ht hvm _ hB hz1 hk1 hS => ?_)
  obtain ⟨hP1, hD1⟩ := hB
  rw [ht] at hP1
  obtain ⟨hP, hD⟩ := va_join (wr := ws) (w1 := w ct q u) J.1 J.2.1 [ws.length] (List.range ws.length) (by simp) b_range (b_nd _ List.nodup_range) (fun i hi => by have := List.mem_range.mp hi; simp; omega) hk1 hFc hP1 hD1
  exact kk u H1 locs ⟨hP, hD, hS⟩
theorem b_pre {t q : Nat} {fs : List Value} (C : bCx own cc mL p s m args c D ct A) (J : bJx s D A (ws ++ [(q, .inr (t, fs))]) H locs) : ∀ U : State, U.heap = H → s.WarmedH U.vm → bPc D ct t fs q H.size ([Value.ref q] : List Value).toArray U := by
  intro U hU hW
  refine ⟨rfl, by rw [hU], ?_, va_K.moved hW.alike C.2.2.2.2.2.1, ?_, C.2.2.2.2.2.2.2.warm hW⟩
  · rw [hU]
    exact J.1.sub [ws.length] (by simp)
  · exact (J.2.1.sub (ws' := [(q, .inr (t, fs))]) [ws.length] rfl (by simp)).weaken (fun _ _ _ _ => trivial)
/-- what the tables say of a constructor -/
def zYi (y : MethodName) (cb : ByteArray) (mb : Nat) : Prop := mb ≤ 21 ∧ Cond.code y cb mb none ∈ zt ∧ Cond.initialized y.cls ∈ zt ∧ Cond.instanceMethod y ∈ zt ∧ y.name = "<init>" ∧ y.cls ≠ "java/lang/invoke/MethodHandle" ∧ y.cls ≠ "java/lang/invoke/VarHandle" ∧ (parseMethodDescriptor y.desc).map (fun d => d.parameters.length) = some 0
theorem b_good {y : MethodName} {cb : ByteArray} {mb : Nat} (h : Cond.code y cb mb none ∈ zt) : GoodIn zt (.code y cb mb none :: zt) := fun w hw => by
  rcases List.mem_cons.mp hw with rfl | hw
  · exact lw_good _ h
  · exact lw_good _ hw
theorem b_call {y : MethodName} {cb : ByteArray} {mb db mc ms t q idx : Nat} {fs : List Value} {w : (Nat → Nat) → Nat → (Nat → Nat) → va_W} (C : bCx own cc mL p s m args c D ct A) (J : bJx s D A (ws ++ [(q, .inr (t, fs))]) H locs) (hM : bMet l y cb mb db mc ms t fs w) (hy : zYi y cb mb) (hl : Cond.methodLink own idx y ∈ zt) (hR : db + 1 ≤ R.frames ∧ 8 + (mb + 11) + 40 * db ≤ R.locals) (hs : ls.size = mL) (hw : (rest.map fun v => v.category).sum ≤ 8) (hf : cells + mc ≤ R.cells ∧ slots + ms ≤ R.slots) (hd : decode cc pc = .ok (.invokespecial idx, 3)) (kk : ∀ (u : Nat → Nat) (H1 : Heap) (locs1 : List Loc), bJx s D A (ws ++ w ct q u) H1 locs1 → W p l e R s m args below meth c H1 locs1 (cells + mc) (slots + ms) Q (F0 m (pc + 3) ls rest)) : W p l e R s m args below meth c H locs cells slots Q (F0 m pc ls (.ref q :: rest)) := by
  have hts := C.2.2.2.2.1
  exact b_back (y := y) C J (va_runI (As := []) (rest := rest) ⟨C.1, C.2.1, C.2.2.1, C.2.2.2.1, hts⟩ (hM D ct q H.size) (cwI 0 hts (b_good hy.2.1) rfl rfl rfl (hts _ hy.2.2.1) (hts _ hl) (hts _ hy.2.2.2.1) hy.2.2.2.2.1 hy.2.2.2.2.2 hR) ⟨bPc_blind, b_pre C J⟩ rfl rfl hs rfl (lv_room hw) hd hf) kk
theorem b_callN {y : MethodName} {host : String} {cb : ByteArray} {mb db mc ms t q idx : Nat} {fs : List Value} {w : (Nat → Nat) → Nat → (Nat → Nat) → va_W} (C : bCx own cc mL p s m args c D ct A) (J : bJx s D A (ws ++ [(q, .inr (t, fs))]) H locs) (hM : bMet l y cb mb db mc ms t fs w) (hy : zYi y cb mb) (hl : va_Nw (.methodLinkNest own idx y host) s) (hR : db + 1 ≤ R.frames ∧ 8 + (mb + 11) + 40 * db ≤ R.locals) (hs : ls.size = mL) (hw : (rest.map fun v => v.category).sum ≤ 8) (hf : cells + mc ≤ R.cells ∧ slots + ms ≤ R.slots) (hd : decode cc pc = .ok (.invokespecial idx, 3)) (kk : ∀ (u : Nat → Nat) (H1 : Heap) (locs1 : List Loc), bJx s D A (ws ++ w ct q u) H1 locs1 → W p l e R s m args below meth c H1 locs1 (cells + mc) (slots + ms) Q (F0 m (pc + 3) ls rest)) : W p l e R s m args below meth c H locs cells slots Q (F0 m pc ls (.ref q :: rest)) := by
  have hts := C.2.2.2.2.1
  exact b_back (y := y) C J (va_runIN (As := []) (rest := rest) ⟨C.1, C.2.1, C.2.2.1, C.2.2.2.1, hts⟩ (hM D ct q H.size) ⟨va_cnB 0 hts (b_good hy.2.1) rfl rfl rfl hl (hts _ hy.2.2.1) hy.2.2.2.2.2 hR, hy.2.2.2.2.1, hts _ hy.2.2.2.1⟩ ⟨bPc_blind, b_pre C J⟩ rfl rfl hs rfl (lv_room hw) hd hf) kk
theorem b_obj {a idx : Nat} (C : bCx own cc mL p s m args c D ct A) (hl : Cond.methodLink own idx Lib.objectInit ∈ zt) (hs : ls.size = mL) (hR : 1 ≤ R.frames ∧ 40 ≤ R.locals) (hd : decode cc pc = .ok (.invokespecial idx, 3)) (kk : W p l e R s m args below meth c H locs cells slots Q (F0 m (pc + 3) ls [])) : W p l e R s m args below meth c H locs cells slots Q (F0 m pc ls [.ref a]) := by
  have hts := C.2.2.2.2.1
  refine W.objInit C.1 C.2.1 C.2.2.2.1 (hts _ hl) (hts _ (zt_of (lw_tb (i := 17) (by decide +kernel)) rfl)) (hts _ (zt_of (lw_tb (i := 18) (by decide +kernel)) rfl)) rfl (by rw [C.2.2.1]; exact hs) rfl hd hR.1 (Nat.le_trans (Nat.add_le_add_right (lv_room (st := []) (Nat.zero_le _)) 12) (Nat.le_trans (by decide) hR.2)) ?_
  exact kk
end
set_option maxRecDepth 100000 in
theorem yi_0 : zYi yX0_init cX0_init 1 := ⟨by decide, zt_of (lw_tb (i := 167) rfl) rfl, zt_of (lw_tb (i := 5) (by decide +kernel)) rfl, zt_of (lw_tb (i := 166) (by decide +kernel)) rfl, rfl, by decide, by decide, by decide +kernel⟩
theorem yn_0 : Cond.initialized RX0 ∈ zt := zt_of (lw_tb (i := 5) (by decide +kernel)) rfl
theorem ys_0 : Cond.instantiable RX0 8 ∈ zt := zt_of (lw_tb (i := 164) (by decide +kernel)) rfl
theorem yo_0 : Cond.methodLink RX0 3 Lib.objectInit ∈ zt := zt_of (lw_tb (i := 168) (by decide +kernel)) rfl
set_option maxRecDepth 100000 in
theorem yi_1 : zYi yX1_init cX1_init 1 := ⟨by decide, zt_of (lw_tb (i := 112) rfl) rfl, zt_of (lw_tb (i := 4) (by decide +kernel)) rfl, zt_of (lw_tb (i := 111) (by decide +kernel)) rfl, rfl, by decide, by decide, by decide +kernel⟩
theorem yn_1 : Cond.initialized RX1 ∈ zt := zt_of (lw_tb (i := 4) (by decide +kernel)) rfl
theorem ys_1 : Cond.instantiable RX1 16 ∈ zt := zt_of (lw_tb (i := 109) (by decide +kernel)) rfl
theorem yo_1 : Cond.methodLink RX1 3 Lib.objectInit ∈ zt := zt_of (lw_tb (i := 113) (by decide +kernel)) rfl
set_option maxRecDepth 100000 in
theorem yi_2 : zYi yX2_init cX2_init 1 := ⟨by decide, zt_of (lw_tb (i := 245) rfl) rfl, zt_of (lw_tb (i := 7) (by decide +kernel)) rfl, zt_of (lw_tb (i := 244) (by decide +kernel)) rfl, rfl, by decide, by decide, by decide +kernel⟩
theorem yn_2 : Cond.initialized RX2 ∈ zt := zt_of (lw_tb (i := 7) (by decide +kernel)) rfl
theorem ys_2 : Cond.instantiable RX2 3 ∈ zt := zt_of (lw_tb (i := 242) (by decide +kernel)) rfl
theorem yo_2 : Cond.methodLink RX2 3 Lib.objectInit ∈ zt := zt_of (lw_tb (i := 246) (by decide +kernel)) rfl
set_option maxRecDepth 100000 in
theorem yi_3 : zYi yX3_init cX3_init 1 := ⟨by decide, zt_of (lw_tb (i := 203) rfl) rfl, zt_of (lw_tb (i := 6) (by decide +kernel)) rfl, zt_of (lw_tb (i := 202) (by decide +kernel)) rfl, rfl, by decide, by decide, by decide +kernel⟩
theorem yn_3 : Cond.initialized RX3 ∈ zt := zt_of (lw_tb (i := 6) (by decide +kernel)) rfl
theorem ys_3 : Cond.instantiable RX3 11 ∈ zt := zt_of (lw_tb (i := 200) (by decide +kernel)) rfl
theorem yo_3 : Cond.methodLink RX3 3 Lib.objectInit ∈ zt := zt_of (lw_tb (i := 204) (by decide +kernel)) rfl
set_option maxRecDepth 100000 in
theorem yi_4 : zYi yX4_init cX4_init 1 := ⟨by decide, zt_of (lw_tb (i := 31) rfl) rfl, zt_of (lw_tb (i := 3) (by decide +kernel)) rfl, zt_of (lw_tb (i := 30) (by decide +kernel)) rfl, rfl, by decide, by decide, by decide +kernel⟩
theorem yn_4 : Cond.initialized RX4 ∈ zt := zt_of (lw_tb (i := 3) (by decide +kernel)) rfl
theorem ys_4 : Cond.instantiable RX4 6 ∈ zt := zt_of (lw_tb (i := 28) (by decide +kernel)) rfl
theorem yo_4 : Cond.methodLink RX4 3 Lib.objectInit ∈ zt := zt_of (lw_tb (i := 32) (by decide +kernel)) rfl
set_option maxRecDepth 100000 in
theorem yi_5 : zYi yX5_init cX5_init 2 := ⟨by decide, zt_of (lw_tb (i := 23) rfl) rfl, zt_of (lw_tb (i := 2) (by decide +kernel)) rfl, zt_of (lw_tb (i := 22) (by decide +kernel)) rfl, rfl, by decide, by decide, by decide +kernel⟩
theorem yn_5 : Cond.initialized RX5 ∈ zt := zt_of (lw_tb (i := 2) (by decide +kernel)) rfl
theorem ys_5 : Cond.instantiable RX5 9 ∈ zt := zt_of (lw_tb (i := 20) (by decide +kernel)) rfl
theorem yo_5 : Cond.methodLink RX5 3 Lib.objectInit ∈ zt := zt_of (lw_tb (i := 24) (by decide +kernel)) rfl
set_option maxRecDepth 100000 in
theorem yi_6 : zYi yX6_init cX6_init 2 := ⟨by decide, zt_of (lw_tb (i := 15) rfl) rfl, zt_of (lw_tb (i := 1) (by decide +kernel)) rfl, zt_of (lw_tb (i := 14) (by decide +kernel)) rfl, rfl, by decide, by decide, by decide +kernel⟩
theorem yn_6 : Cond.initialized RX6 ∈ zt := zt_of (lw_tb (i := 1) (by decide +kernel)) rfl
theorem ys_6 : Cond.instantiable RX6 12 ∈ zt := zt_of (lw_tb (i := 12) (by decide +kernel)) rfl
theorem yo_6 : Cond.methodLink RX6 1 Lib.objectInit ∈ zt := zt_of (lw_tb (i := 16) (by decide +kernel)) rfl
set_option maxRecDepth 100000 in
theorem yi_7 : zYi yX7_init cX7_init 1 := ⟨by decide, zt_of (lw_tb (i := 804) rfl) rfl, zt_of (lw_tb (i := 8) (by decide +kernel)) rfl, zt_of (lw_tb (i := 803) (by decide +kernel)) rfl, rfl, by decide, by decide, by decide +kernel⟩
theorem yn_7 : Cond.initialized RX7 ∈ zt := zt_of (lw_tb (i := 8) (by decide +kernel)) rfl
theorem ys_7 : Cond.instantiable RX7 23 ∈ zt := zt_of (lw_tb (i := 801) (by decide +kernel)) rfl
theorem yo_7 : Cond.methodLink RX7 1 Lib.objectInit ∈ zt := zt_of (lw_tb (i := 805) (by decide +kernel)) rfl
theorem cl_L_7 : Cond.classLink RL 7 RX6 ∈ zt := zt_of (lw_tb (i := 11) (by decide +kernel)) rfl
theorem cl_X6_7 : Cond.classLink RX6 7 RX5 ∈ zt := zt_of (lw_tb (i := 19) (by decide +kernel)) rfl
theorem cl_X5_30 : Cond.classLink RX5 30 RX4 ∈ zt := zt_of (lw_tb (i := 26) (by decide +kernel)) rfl
theorem cl_X6_34 : Cond.classLink RX6 34 RX2 ∈ zt := zt_of (lw_tb (i := 106) (by decide +kernel)) rfl
theorem cl_X6_44 : Cond.classLink RX6 44 RX1 ∈ zt := zt_of (lw_tb (i := 108) (by decide +kernel)) rfl
theorem cl_X6_51 : Cond.classLink RX6 51 RX0 ∈ zt := zt_of (lw_tb (i := 163) (by decide +kernel)) rfl
theorem cl_X6_58 : Cond.classLink RX6 58 RX3 ∈ zt := zt_of (lw_tb (i := 199) (by decide +kernel)) rfl
theorem cl_L_10 : Cond.classLink RL 10 RX7 ∈ zt := zt_of (lw_tb (i := 800) (by decide +kernel)) rfl
