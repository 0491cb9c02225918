def zrm (d : Nat) : Room := { frames := d, cells := 0, slots := 0, locals := 40 * d }
def zQc (D : va_G) (ct ad : Nat → Nat) (A : Nat → Prop) (Q : Option zV → zM → Prop) : Array Value → State → Outcome → State → Prop := fun _ st o t => (∃ (r : Option zV) (M2 : zM), o = .returned (r.map (zc ad)) ∧ Q r M2 ∧ va_P D vwCl (zws ct ad M2) t.heap) ∧ va_F A st t
def zQ (Q : Option zV → zM → Prop) : zF := (0, 0, fun below args s D ct ad A => MQ below (zQc D ct ad A Q) args s 0 0 A, fun _ _ _ _ => True)
def zPc (av : List zV) (M : zM) (D : va_G) (ct ad : Nat → Nat) (sz : Nat) : Array Value → State → Prop := fun v U => v = (av.map (zc ad)).toArray ∧ U.heap.size = sz ∧ va_P D vwCl (zws ct ad M) U.heap ∧ va_K D vwCl (ztys ct) U ∧ va_D (fun _ => True) (zws ct ad M) ∧ zSt ad (va_A (zws ct ad M) sz) U U.heap
/-- a method's contract: from the memory M, with these arguments, it returns with Q -/
def Call (y : MethodName) (cc : ByteArray) (mL : Nat) (rt : Option FieldType) (d : Nat) (av : List zV) (M : zM) (Q : Option zV → zM → Prop) : Prop :=
  ∀ (l : Launch) (D : va_G) (ct ad : Nat → Nat) (sz : Nat), Met l y (.code y cc mL rt :: zt) (zrm d) (zPc av M D ct ad sz) (zQc D ct ad (va_A (zws ct ad M) sz) Q) 0 0 (va_A (zws ct ad M) sz)
def zal : List zV → List (Option zV)
  | [] => []
  | .inr (.inl x) :: r => some (.inr (.inl x)) :: none :: zal r
  | v :: r => some v :: zal r
theorem zlv_none {ad : Nat → Nat} : ∀ (n i : Nat), zlv ad i (List.replicate n none) = []
  | 0, _ => rfl
  | n + 1, i => by rw [List.replicate_succ]; exact zlv_none n (i + 1)
theorem zal_in {ad : Nat → Nat} {n : Nat} : ∀ (av : List zV) (i : Nat), ∀ q ∈ zlv ad i (zal av ++ List.replicate n none), q ∈ lv_args i (av.map (zc ad))
  | [], i, q, h => by
    rw [zal, List.nil_append, zlv_none] at h
    cases h
  | .inl x :: r, i, q, h => by
    rcases List.mem_cons.mp h with h | h
    · subst h
      exact List.mem_cons_self
    · exact List.mem_cons_of_mem _ (zal_in r (i + 1) q h)
  | .inr (.inr x) :: r, i, q, h => by
    rcases List.mem_cons.mp h with h | h
    · subst h
      exact List.mem_cons_self
    · exact List.mem_cons_of_mem _ (zal_in r (i + 1) q h)
  | .inr (.inl x) :: r, i, q, h => by
    rcases List.mem_cons.mp h with h | h
    · subst h
      exact List.mem_cons_self
    · exact List.mem_cons_of_mem _ (zal_in r (i + 2) q h)
theorem zal_len {ad : Nat → Nat} : ∀ (av : List zV), (lg_sl (av.map (zc ad))).length = (zal av).length
  | [] => rfl
  | .inl x :: r => congrArg (· + 1) (zal_len r)
  | .inr (.inr x) :: r => congrArg (· + 1) (zal_len r)
  | .inr (.inl x) :: r => congrArg (· + 2) (zal_len r)
theorem Call.of {y : MethodName} {cc : ByteArray} {mL : Nat} {rt : Option FieldType} {d : Nat} {av : List zV} {M : zM} {Q : Option zV → zM → Prop} {lv0 : List (Option zV)} (hy : plainName y.cls = true) (hlv : zal av ++ List.replicate (mL - (zal av).length) none = lv0) (hm : (zal av).length ≤ mL) (k : Z y.cls cc mL rt d (zQ Q) 0 lv0 [] M) : Call y cc mL rt d av M Q := by
  intro l D ct ad sz
  refine Met.ofW (cc := cc) (maxL := mL) (ret := rt) hy rfl ?_
  intro p e s m args below meth c s₁ B hml hv
  obtain ⟨rfl, hsz, hP, hK, hD0, hSt⟩ := hv
  subst hsz
  subst hlv
  have hts := atoms_spec (ws := .code y cc mL rt :: zt) B.pre
  have hl0 := lv_entry (av.map (zc ad)) (n := mL) (by rw [zal_len]; exact hm)
  rw [lg_entry_eq]
  generalize (lg_sl (av.map (zc ad)) ++ List.replicate (mL - (lg_sl (av.map (zc ad))).length) Slot.unset).toArray = ls at hl0 ⊢
  refine k p l e _ s m _ below meth c D ct ad (va_A (zws ct ad M) s.heap.size) s.heap [] ls ⟨B.exec, B.bytes, hml, findClass_of_methodNamed B.named, fun w hw => hts w (List.mem_cons_of_mem _ hw), hK, hSt, ⟨Nat.le_refl _, Nat.le_refl _, Nat.le_refl _, Nat.le_refl _⟩, ⟨B.notSynchronized, B.returns⟩, fun q hq => Or.inr hq, trivial⟩ ?_ ?_ hP hD0.self va_S.rf
  · exact zhas_sub hl0 (zal_in av 0)
  · rw [List.length_append, List.length_replicate]
    omega
section
variable {own : String} {cc : ByteArray} {mL : Nat} {rt : Option FieldType} {d : Nat} {F : zF} {pc : Nat} {lv lv2 : List (Option zV)} {st : List zV} {M : zM}
variable {Q : Option zV → zM → Prop}
theorem zret_q {x : Option zV} {D : va_G} {ct ad : Nat → Nat} {A : Nat → Prop} {s : State} {H : Heap} {locs : List Loc} {args : Array Value} (h : Q x M) (hP : va_P D vwCl (zws ct ad M) H) (hS : va_S A s.heap H locs) : ∀ t : State, t.heap = H → s.WarmedH t.vm → zQc D ct ad A Q args s (.returned (x.map (zc ad))) t := by
  intro t ht _
  exact ⟨⟨x, M, rfl, h, by rw [ht]; exact hP⟩, by rw [ht]; exact hS.1, fun q h1 h2 => by rw [ht]; exact hS.2.1 q h1 h2⟩
theorem z_iret {x : Int} (hd : decode cc pc = .ok (.ireturn, 1)) (h : Q (some (vI x)) M) : Z own cc mL (some .int) d (zQ Q) pc lv [vI x] M := by
  intro p l e R s m args below meth c D ct ad A H locs ls hE hl hn hP hD hS
  exact W.iret hE.1 hE.2.1 hE.2.2.2.2.2.2.2.2.1.2 (zret_q (x := some (vI x)) h hP hS) hS.2.2 hd hE.2.2.2.2.2.2.2.2.1.1
theorem z_zret {x : Int} (hx : x = 0 ∨ x = 1) (hd : decode cc pc = .ok (.ireturn, 1)) (h : Q (some (vI x)) M) : Z own cc mL (some .boolean) d (zQ Q) pc lv [vI x] M := by
  intro p l e R s m args below meth c D ct ad A H locs ls hE hl hn hP hD hS
  exact W.zret hE.1 hE.2.1 hE.2.2.2.2.2.2.2.2.1.2 (by rcases hx with rfl | rfl <;> rfl) (zret_q (x := some (vI x)) h hP hS) hS.2.2 hd hE.2.2.2.2.2.2.2.2.1.1
theorem z_lret {x : Int} (hd : decode cc pc = .ok (.lreturn, 1)) (h : Q (some (vJ x)) M) : Z own cc mL (some .long) d (zQ Q) pc lv [vJ x] M := by
  intro p l e R s m args below meth c D ct ad A H locs ls hE hl hn hP hD hS
  exact W.lret hE.1 hE.2.1 hE.2.2.2.2.2.2.2.2.1.2 (zret_q (x := some (vJ x)) h hP hS) hS.2.2 hd hE.2.2.2.2.2.2.2.2.1.1
theorem z_vret (hd : decode cc pc = .ok (.return_, 1)) (h : Q none M) : Z own cc mL none d (zQ Q) pc lv [] M := by
  intro p l e R s m args below meth c D ct ad A H locs ls hE hl hn hP hD hS
  exact W.vret hE.1 hE.2.1 hE.2.2.2.2.2.2.2.2.1.2 (zret_q (x := none) h hP hS) hS.2.2 hd hE.2.2.2.2.2.2.2.2.1.1
end
theorem lw_good : GoodIn zt zt := fun w hw => ⟨hw, good_of_word (List.mem_filter.mp hw).2⟩
/-- what the tables say of a method that is called on an object of the class t -/
def zYv (y : MethodName) (cb : ByteArray) (mb : Nat) (rb : Option FieldType) (n t : Nat) : Prop := ∃ q : vw_C, vwCl[t]? = some q ∧ q.1 = y.cls ∧ t < 8 ∧ mb ≤ 21 ∧ Cond.code y cb mb rb ∈ zt ∧ Cond.instanceMethod y ∈ zt ∧ Cond.selects y.cls y y ∈ zt ∧ Cond.initialized y.cls ∈ zt ∧ y.cls ≠ "java/lang/invoke/MethodHandle" ∧ y.cls ≠ "java/lang/invoke/VarHandle" ∧ (parseMethodDescriptor y.desc).map (fun d => d.parameters.length) = some n
def zYs (y : MethodName) (cb : ByteArray) (mb : Nat) (rb : Option FieldType) (n : Nat) : Prop := mb ≤ 21 ∧ Cond.code y cb mb rb ∈ zt ∧ Cond.static y ∈ zt ∧ Cond.initialized y.cls ∈ zt ∧ y.cls ≠ "java/lang/invoke/MethodHandle" ∧ y.cls ≠ "java/lang/invoke/VarHandle" ∧ (parseMethodDescriptor y.desc).map (fun d => d.parameters.length) = some n
section
variable {own : String} {cc : ByteArray} {mL : Nat} {rt : Option FieldType} {d : Nat} {F : zF} {pc : Nat} {lv lv2 : List (Option zV)} {st : List zV} {M : zM}
theorem zPc_blind {av : List zV} {D : va_G} {ct ad : Nat → Nat} {sz : Nat} : FrameBlind (zPc av M D ct ad sz) := by
  intro a U g mk h
  obtain ⟨h1, h2, h3, h4, h5, h6⟩ := h
  exact ⟨h1, h2, h3, va_K.moved (u := U) (U := U.calling g mk a) (Vm.Alike.refl U.vm) h4, h5, zSt.moved (u := U) (U := U.calling g mk a) (Vm.Alike.refl U.vm) h6⟩
theorem z_free {ct ad : Nat → Nat} {A : Nat → Prop} {s : State} {H : Heap} {locs : List Loc} (hD : va_D A (zws ct ad M)) (hS : va_S A s.heap H locs) (hA : ∀ q : Nat, s.heap.size ≤ q → A q) : ∀ q, va_A (zws ct ad M) H.size q → A q := by
  intro q h
  rcases h with ⟨k, e, h⟩ | h
  · exact hD.2 k _ h
  · exact hA q (Nat.le_trans hS.1 h)
theorem z_pre {av : List zV} {D : va_G} {ct ad : Nat → Nat} {A : Nat → Prop} {s : State} {H : Heap} {locs : List Loc} (hP : va_P D vwCl (zws ct ad M) H) (hD : va_D A (zws ct ad M)) (hS : va_S A s.heap H locs) (hA : ∀ q : Nat, s.heap.size ≤ q → A q) (hK : va_K D vwCl (ztys ct) s) (hSt : zSt ad A s s.heap) : ∀ U : State, U.heap = H → s.WarmedH U.vm → zPc av M D ct ad H.size (av.map (zc ad)).toArray U := by
  intro U hU hW
  subst hU
  exact ⟨rfl, rfl, hP, va_K.moved hW.alike hK, ⟨hD.1, fun _ _ _ => trivial⟩, zSt.moved hW.alike ((hSt.kept hS.2.1).narrow (z_free hD hS hA))⟩
theorem zcat_sum (ad : Nat → Nat) (st : List zV) : ((st.map (zc ad)).map fun v => v.category).sum = (st.map zcat).sum := by
  rw [List.map_map]
  congr 1
  exact List.map_congr_left (fun v _ => zcat_c ad v)
/-- behind a call -/
theorem z_back {p : Program} {l : Launch} {e : Env} {R : Room} {s : State} {m : MethodId} {args : Array Value} {below : List Frame} {meth : Method} {c : Code} {D : va_G} {ct ad : Nat → Nat} {A : Nat → Prop} {H : Heap} {locs : List Loc} {ls : Array Slot} {Q : Option zV → zM → Prop} {a : Array Value} {st0 : List Value} {Qf : State → Prop} {cells slots : Nat}
    (hr : va_Run p l e R s m args below meth c H locs cells slots 0 0 (F0 m pc ls st0) (st.map (zc ad)) (zQc D ct ad (va_A (zws ct ad M) H.size) Q a) (va_A (zws ct ad M) H.size)) (hD : va_D A (zws ct ad M)) (hS : va_S A s.heap H locs) (hA : ∀ q : Nat, s.heap.size ≤ q → A q)
    (kk : ∀ (r : Option zV) (M2 : zM) (H1 : Heap) (locs1 : List Loc), Q r M2 → va_P D vwCl (zws ct ad M2) H1 → va_D A (zws ct ad M2) → va_S A s.heap H1 locs1 → W p l e R s m args below meth c H1 locs1 cells slots Qf (F0 m (pc + 3) ls ((r.toList ++ st).map (zc ad)))) : W p l e R s m args below meth c H locs cells slots Qf (F0 m pc ls st0) := by
  have hF := z_free hD hS hA
  intro T hT X
  obtain ⟨v, st₀, t, T2, L, h0, X2, hL, e1, e2, ⟨⟨r, M2, hv, hq, hP2⟩, hz, hk⟩, hgo⟩ := hr T hT X
  cases hv
  rw [h0] at hz hk
  have hD2 : va_D A (zws ct ad M2) := by
    refine ⟨fun i j p q hi hj h => ?_, fun k q hq => ?_⟩
    · have hi2 : i < 93 := by
        have := (List.getElem?_eq_some_iff.mp hi).1
        simpa [zws] using this
      have hj2 : j < 93 := by
        have := (List.getElem?_eq_some_iff.mp hj).1
        simpa [zws] using this
      rw [zws_get hi2] at hi
      rw [zws_get hj2] at hj
      cases hi
      cases hj
      exact hD.1 i j _ _ (zws_get hi2) (zws_get hj2) h
    · have hk2 : k < 93 := by
        have := (List.getElem?_eq_some_iff.mp hq).1
        simpa [zws] using this
      rw [zws_get hk2] at hq
      cases hq
      exact hD.2 k (ad k, zcell ct ad M k) (zws_get hk2)
  obtain ⟨t2, a1, b1⟩ := kk r M2 T2.heap (locs ++ L) hq (by rw [e1]; exact hP2) hD2
    ⟨Nat.le_trans hS.1 (by rw [e1]; exact hz), fun q h1 h2 => by rw [e1, hk q (Nat.lt_of_lt_of_le h1 hS.1) (fun z => h2 (hF q z))]; exact hS.2.1 q h1 h2, fun q hq => by
      rcases List.mem_append.mp hq with h | h
      · exact hS.2.2 q h
      · exact hF _ (hL q h)⟩ T2 rfl X2
  refine ⟨t2, hgo t2 ?_, b1⟩
  have e3 : ((r.toList ++ st).map (zc ad)) = (r.map (zc ad)).toList ++ st.map (zc ad) := by
    cases r <;> simp
  rw [e3] at a1
  exact a1
theorem z_callV {y : MethodName} {cb : ByteArray} {mb db idx n t b : Nat} {rb : Option FieldType} {as st0 : List zV} {Qc : Option zV → zM → Prop} (hy : zYv y cb mb rb n t) (hl : Cond.methodLink own idx y ∈ zt) (hc : Call y cb mb rb db (vR b :: as) M Qc) (hb : zKT b t) (hst : st0 = as.reverse ++ vR b :: st) (hna : as.length = n) (hdb : db + 1 ≤ d) (hw : (st.map zcat).sum ≤ 8) (hd : decode cc pc = .ok (.invokevirtual idx, 3))
    (kk : ∀ (r : Option zV) (M2 : zM), Qc r M2 → Z own cc mL rt d F (pc + 3) lv (r.toList ++ st) M2) : Z own cc mL rt d F pc lv st0 M := by
  intro p l e R s m args below meth c D ct ad A H locs ls hE hlv hn hP hD hS
  subst hst
  obtain ⟨q, h1, h2, h3, h4, h5, h6, h7, h8, h9, h10, h11⟩ := hy
  have hg := zws_get (ct := ct) (ad := ad) (M := M) hb.1
  rw [zc_o hb.2 h3] at hg
  have hts := hE.2.2.2.2.1
  have hR := hE.2.2.2.2.2.2.2.1
  have hrecv := va_recv hE.2.2.2.2.2.1 hP h1 hg
  rw [h2] at hrecv
  have cw : CallW R s args own y.cls idx y cb mb rb (.code y cb mb rb :: zt) (zrm db) 0 0 n :=
    ⟨callB_of n hts (fun w hw => by
      rcases List.mem_cons.mp hw with rfl | hw
      · exact lw_good _ h5
      · exact lw_good _ hw) rfl rfl rfl (hts _ h8) (hts _ hl) ⟨h9, h10, h11⟩ ⟨Nat.le_trans hdb hR.1, Nat.le_trans (show 8 + (mb + 11) + 40 * db ≤ 40 * d by omega) hR.2.1⟩, hts _ h6, hts _ h7⟩
  have hpre := z_pre (av := vR b :: as) hP hD hS hE.2.2.2.2.2.2.2.2.2.1 hE.2.2.2.2.2.1 hE.2.2.2.2.2.2.1
  refine z_back (st := st) (va_runV (As := as.map (zc ad)) (rest := st.map (zc ad)) ⟨hE.1, hE.2.1, hE.2.2.1, hE.2.2.2.1, hts⟩ (hc l D ct ad H.size) cw ⟨zPc_blind, hrecv, hpre⟩ rfl (by rw [List.length_map]; exact hna) hlv.1 (by simp [zc]) (by rw [zcat_sum]; exact (Nat.zero_add _).symm ▸ hw) hd ⟨hR.2.2.1, hR.2.2.2⟩) hD hS hE.2.2.2.2.2.2.2.2.2.1 (fun r M2 H1 locs1 hq hP1 hD1 hS1 => ?_)
  exact kk r M2 hq p l e R s m args below meth c D ct ad A H1 locs1 ls hE hlv hn hP1 hD1 hS1
theorem z_callS {y : MethodName} {cb : ByteArray} {mb db idx n : Nat} {rb : Option FieldType} {as st0 : List zV} {Qc : Option zV → zM → Prop} (hy : zYs y cb mb rb n) (hl : Cond.methodLink own idx y ∈ zt) (hc : Call y cb mb rb db as M Qc) (hst : st0 = as.reverse ++ st) (hna : as.length = n) (hdb : db + 1 ≤ d) (hw : (st.map zcat).sum ≤ 8) (hd : decode cc pc = .ok (.invokestatic idx, 3))
    (kk : ∀ (r : Option zV) (M2 : zM), Qc r M2 → Z own cc mL rt d F (pc + 3) lv (r.toList ++ st) M2) : Z own cc mL rt d F pc lv st0 M := by
  intro p l e R s m args below meth c D ct ad A H locs ls hE hlv hn hP hD hS
  subst hst
  obtain ⟨h4, h5, h6, h8, h9, h10, h11⟩ := hy
  have hts := hE.2.2.2.2.1
  have hR := hE.2.2.2.2.2.2.2.1
  have cw : CallB R s args own idx y cb mb rb (.code y cb mb rb :: zt) (zrm db) 0 0 n ∧ (Cond.static y).before args s = true :=
    ⟨callB_of n hts (fun w hw => by
      rcases List.mem_cons.mp hw with rfl | hw
      · exact lw_good _ h5
      · exact lw_good _ hw) rfl rfl rfl (hts _ h8) (hts _ hl) ⟨h9, h10, h11⟩ ⟨Nat.le_trans hdb hR.1, Nat.le_trans (show 8 + (mb + 11) + 40 * db ≤ 40 * d by omega) hR.2.1⟩, hts _ h6⟩
  have hpre := z_pre (av := as) hP hD hS hE.2.2.2.2.2.2.2.2.2.1 hE.2.2.2.2.2.1 hE.2.2.2.2.2.2.1
  refine z_back (st := st) (va_runS (As := as.map (zc ad)) (rest := st.map (zc ad)) ⟨hE.1, hE.2.1, hE.2.2.1, hE.2.2.2.1, hts⟩ (hc l D ct ad H.size) cw ⟨zPc_blind, hpre⟩ rfl (by rw [List.length_map]; exact hna) hlv.1 (by simp [zc]) (by rw [zcat_sum]; exact (Nat.zero_add _).symm ▸ hw) hd ⟨hR.2.2.1, hR.2.2.2⟩) hD hS hE.2.2.2.2.2.2.2.2.2.1 (fun r M2 H1 locs1 hq hP1 hD1 hS1 => ?_)
  exact kk r M2 hq p l e R s m args below meth c D ct ad A H1 locs1 ls hE hlv hn hP1 hD1 hS1
end
