abbrev PI (f : Int) (g : zM) : Option zV → zM → Prop := fun r M2 => r = some (vI f) ∧ M2 = g
abbrev PJ (f : Int) (g : zM) : Option zV → zM → Prop := fun r M2 => r = some (vJ f) ∧ M2 = g
abbrev PN (g : zM) : Option zV → zM → Prop := fun r M2 => r = none ∧ M2 = g
def zb (P : Prop) [Decidable P] : Int := if P then 1 else 0
theorem zb_t {P : Prop} [Decidable P] (h : P) : zb P = 1 := if_pos h
theorem zb_f {P : Prop} [Decidable P] (h : ¬ P) : zb P = 0 := if_neg h
theorem zb_01 {P : Prop} [Decidable P] : zb P = 0 ∨ zb P = 1 := by
  unfold zb
  split
  · exact Or.inr rfl
  · exact Or.inl rfl
theorem zb_congr {P Q : Prop} [Decidable P] [Decidable Q] (h : P ↔ Q) : zb P = zb Q := by
  unfold zb
  by_cases hp : P
  · rw [if_pos hp, if_pos (h.mp hp)]
  · rw [if_neg hp, if_neg (fun q => hp (h.mpr q))]
theorem zb_le {P : Prop} [Decidable P] : 0 ≤ zb P ∧ zb P ≤ 1 := by
  rcases zb_01 (P := P) with h | h <;> rw [h] <;> decide
theorem Call.of2 {y : MethodName} {own : String} {cc : ByteArray} {mL : Nat} {rt : Option FieldType} {d : Nat} {av : List zV} {M : zM} {Q : Option zV → zM → Prop} {lv0 : List (Option zV)} (ho : y.cls = own) (hy : plainName own = true) (hlv : zal av ++ List.replicate (mL - (zal av).length) none = lv0) (hm : (zal av).length ≤ mL) (k : Z own cc mL rt d (zQ Q) 0 lv0 [] M) : Call y cc mL rt d av M Q := by
  subst ho
  exact Call.of hy hlv hm k
theorem Call.mono {y : MethodName} {cc : ByteArray} {mL : Nat} {rt : Option FieldType} {d : Nat} {av : List zV} {M : zM} {Q Q2 : Option zV → zM → Prop} (h : Call y cc mL rt d av M Q) (hq : ∀ r M2, Q r M2 → Q2 r M2) : Call y cc mL rt d av M Q2 := by
  intro l D ct ad sz p e ha hc hk s m args below hf happ hpre hK
  obtain ⟨k, o, h1, h2, h3, ⟨⟨⟨r, M2, e1, e2, e3⟩, e4⟩, e5⟩⟩ := h l D ct ad sz p e ha hc hk s m args below hf happ hpre hK
  exact ⟨k, o, h1, h2, h3, ⟨⟨⟨r, M2, e1, hq _ _ e2, e3⟩, e4⟩, e5⟩⟩
section
variable {own : String} {cc : ByteArray} {mL : Nat} {rt : Option FieldType} {d : Nat} {F : zF} {pc : Nat} {lv lv2 : List (Option zV)} {st : List zV} {M : zM}
theorem z_topI {x y : Int} (h : x = y) (k : Z own cc mL rt d F pc lv (vI y :: st) M) : Z own cc mL rt d F pc lv (vI x :: st) M := h ▸ k
theorem z_topJ {x y : Int} (h : x = y) (k : Z own cc mL rt d F pc lv (vJ y :: st) M) : Z own cc mL rt d F pc lv (vJ x :: st) M := h ▸ k
theorem z_top2I {v : zV} {x y : Int} (h : x = y) (k : Z own cc mL rt d F pc lv (v :: vI y :: st) M) : Z own cc mL rt d F pc lv (v :: vI x :: st) M := h ▸ k
theorem z_mem {M2 : zM} (h : M = M2) (k : Z own cc mL rt d F pc lv st M2) : Z own cc mL rt d F pc lv st M := h ▸ k
theorem z_lv {lv2 : List (Option zV)} (h : lv = lv2) (k : Z own cc mL rt d F pc lv2 st M) : Z own cc mL rt d F pc lv st M := h ▸ k
theorem z_getIv {k t j idx : Nat} {ji v : Int} (hF : zFl own idx t j ji) (hk : zKT k t) (hj : ((zfk t).getD j 9 == 0 || (zfk t).getD j 9 == 2) = true) (hv : M k ji = v) (hd : decode cc pc = .ok (.getfield idx, 3)) (kk : Z own cc mL rt d F (pc + 3) lv (vI v :: st) M) : Z own cc mL rt d F pc lv (vR k :: st) M := z_getI hF hk hj hd (hv.symm ▸ kk)
theorem z_getJv {k t j idx : Nat} {ji v : Int} (hF : zFl own idx t j ji) (hk : zKT k t) (hj : (zfk t).getD j 9 = 1) (hv : M k ji = v) (hd : decode cc pc = .ok (.getfield idx, 3)) (kk : Z own cc mL rt d F (pc + 3) lv (vJ v :: st) M) : Z own cc mL rt d F pc lv (vR k :: st) M := z_getJ hF hk hj hd (hv.symm ▸ kk)
theorem z_ialdv {k n : Nat} {x v : Int} (hk : zKT k 9) (hN : zN k = n) (hx : 0 ≤ x ∧ x < (n : Int)) (hv : M k x = v) (hd : decode cc pc = .ok (.iaload, 1)) (kk : Z own cc mL rt d F (pc + 1) lv (vI v :: st) M) : Z own cc mL rt d F pc lv (vI x :: vR k :: st) M := z_iald hk hN hx hd (hv.symm ▸ kk)
theorem z_baldv {k n : Nat} {x v : Int} (hk : zKT k 8) (hN : zN k = n) (hx : 0 ≤ x ∧ x < (n : Int)) (hv : M k x = v) (hd : decode cc pc = .ok (.baload, 1)) (kk : Z own cc mL rt d F (pc + 1) lv (vI v :: st) M) : Z own cc mL rt d F pc lv (vI x :: vR k :: st) M := z_bald hk hN hx hd (hv.symm ▸ kk)
theorem z_laldv {k n : Nat} {x v : Int} (hk : zKT k 10) (hN : zN k = n) (hx : 0 ≤ x ∧ x < (n : Int)) (hv : M k x = v) (hd : decode cc pc = .ok (.laload, 1)) (kk : Z own cc mL rt d F (pc + 1) lv (vJ v :: st) M) : Z own cc mL rt d F pc lv (vI x :: vR k :: st) M := z_lald hk hN hx hd (hv.symm ▸ kk)
theorem z_ifb_eq {P : Prop} [Decidable P] {off : Int} {tgt : Nat} (hd : decode cc pc = .ok (.ifCond .eq off, 3)) (ht : (pc : Int) + off = (tgt : Int)) (kt : ¬ P → Z own cc mL rt d F tgt lv st M) (kf : P → Z own cc mL rt d F (pc + 3) lv st M) : Z own cc mL rt d F pc lv (vI (zb P) :: st) M := by
  have hz := zb_le (P := P)
  refine z_if_eq (by omega) hd ht (fun h => kt (fun hp => ?_)) (fun h => kf ?_)
  · rw [zb_t hp] at h
    omega
  · by_cases hp : P
    · exact hp
    · exact absurd (zb_f hp) h
theorem z_ifb_ne {P : Prop} [Decidable P] {off : Int} {tgt : Nat} (hd : decode cc pc = .ok (.ifCond .ne off, 3)) (ht : (pc : Int) + off = (tgt : Int)) (kt : P → Z own cc mL rt d F tgt lv st M) (kf : ¬ P → Z own cc mL rt d F (pc + 3) lv st M) : Z own cc mL rt d F pc lv (vI (zb P) :: st) M := by
  have hz := zb_le (P := P)
  refine z_if_ne (by omega) hd ht (fun h => kt ?_) (fun h => kf (fun hp => ?_))
  · by_cases hp : P
    · exact hp
    · exact absurd (zb_f hp) h
  · rw [zb_t hp] at h
    omega
theorem z_cVI {y : MethodName} {cb : ByteArray} {mb db idx n t b : Nat} {rb : Option FieldType} {as st0 : List zV} {f : Int} {g : zM} (hy : zYv y cb mb rb n t) (hl : Cond.methodLink own idx y ∈ zt) (hc : Call y cb mb rb db (vR b :: as) M (PI f g)) (hb : zKT b t) (hst : st0 = as.reverse ++ vR b :: st) (hna : as.length = n) (hdb : db + 1 ≤ d) (hw : (st.map zcat).sum ≤ 8) (hd : decode cc pc = .ok (.invokevirtual idx, 3)) (k : Z own cc mL rt d F (pc + 3) lv (vI f :: st) g) : Z own cc mL rt d F pc lv st0 M := by
  refine z_callV hy hl hc hb hst hna hdb hw hd (fun r M2 h => ?_)
  obtain ⟨rfl, rfl⟩ := h
  exact k
theorem z_cSI {y : MethodName} {cb : ByteArray} {mb db idx n : Nat} {rb : Option FieldType} {as st0 : List zV} {f : Int} {g : zM} (hy : zYs y cb mb rb n) (hl : Cond.methodLink own idx y ∈ zt) (hc : Call y cb mb rb db as M (PI f g)) (hst : st0 = as.reverse ++ st) (hna : as.length = n) (hdb : db + 1 ≤ d) (hw : (st.map zcat).sum ≤ 8) (hd : decode cc pc = .ok (.invokestatic idx, 3)) (k : Z own cc mL rt d F (pc + 3) lv (vI f :: st) g) : Z own cc mL rt d F pc lv st0 M := by
  refine z_callS hy hl hc hst hna hdb hw hd (fun r M2 h => ?_)
  obtain ⟨rfl, rfl⟩ := h
  exact k
theorem z_cVJ {y : MethodName} {cb : ByteArray} {mb db idx n t b : Nat} {rb : Option FieldType} {as st0 : List zV} {f : Int} {g : zM} (hy : zYv y cb mb rb n t) (hl : Cond.methodLink own idx y ∈ zt) (hc : Call y cb mb rb db (vR b :: as) M (PJ f g)) (hb : zKT b t) (hst : st0 = as.reverse ++ vR b :: st) (hna : as.length = n) (hdb : db + 1 ≤ d) (hw : (st.map zcat).sum ≤ 8) (hd : decode cc pc = .ok (.invokevirtual idx, 3)) (k : Z own cc mL rt d F (pc + 3) lv (vJ f :: st) g) : Z own cc mL rt d F pc lv st0 M := by
  refine z_callV hy hl hc hb hst hna hdb hw hd (fun r M2 h => ?_)
  obtain ⟨rfl, rfl⟩ := h
  exact k
theorem z_cSJ {y : MethodName} {cb : ByteArray} {mb db idx n : Nat} {rb : Option FieldType} {as st0 : List zV} {f : Int} {g : zM} (hy : zYs y cb mb rb n) (hl : Cond.methodLink own idx y ∈ zt) (hc : Call y cb mb rb db as M (PJ f g)) (hst : st0 = as.reverse ++ st) (hna : as.length = n) (hdb : db + 1 ≤ d) (hw : (st.map zcat).sum ≤ 8) (hd : decode cc pc = .ok (.invokestatic idx, 3)) (k : Z own cc mL rt d F (pc + 3) lv (vJ f :: st) g) : Z own cc mL rt d F pc lv st0 M := by
  refine z_callS hy hl hc hst hna hdb hw hd (fun r M2 h => ?_)
  obtain ⟨rfl, rfl⟩ := h
  exact k
theorem z_cVN {y : MethodName} {cb : ByteArray} {mb db idx n t b : Nat} {rb : Option FieldType} {as st0 : List zV} {g : zM} (hy : zYv y cb mb rb n t) (hl : Cond.methodLink own idx y ∈ zt) (hc : Call y cb mb rb db (vR b :: as) M (PN g)) (hb : zKT b t) (hst : st0 = as.reverse ++ vR b :: st) (hna : as.length = n) (hdb : db + 1 ≤ d) (hw : (st.map zcat).sum ≤ 8) (hd : decode cc pc = .ok (.invokevirtual idx, 3)) (k : Z own cc mL rt d F (pc + 3) lv (st) g) : Z own cc mL rt d F pc lv st0 M := by
  refine z_callV hy hl hc hb hst hna hdb hw hd (fun r M2 h => ?_)
  obtain ⟨rfl, rfl⟩ := h
  exact k
theorem z_cSN {y : MethodName} {cb : ByteArray} {mb db idx n : Nat} {rb : Option FieldType} {as st0 : List zV} {g : zM} (hy : zYs y cb mb rb n) (hl : Cond.methodLink own idx y ∈ zt) (hc : Call y cb mb rb db as M (PN g)) (hst : st0 = as.reverse ++ st) (hna : as.length = n) (hdb : db + 1 ≤ d) (hw : (st.map zcat).sum ≤ 8) (hd : decode cc pc = .ok (.invokestatic idx, 3)) (k : Z own cc mL rt d F (pc + 3) lv (st) g) : Z own cc mL rt d F pc lv st0 M := by
  refine z_callS hy hl hc hst hna hdb hw hd (fun r M2 h => ?_)
  obtain ⟨rfl, rfl⟩ := h
  exact k
end
def isW (w : Nat) : Prop := w = 1 ∨ w = 2 ∨ w = 3
theorem zw_k {w : Nat} (h : isW w) : zKT w 5 := by rcases h with rfl | rfl | rfl <;> exact ⟨by decide, rfl⟩
theorem zw_p {w : Nat} (h : isW w) : zKT (10 + w) 9 := by rcases h with rfl | rfl | rfl <;> exact ⟨by decide, rfl⟩
theorem zw_a {w : Nat} (h : isW w) : zKT (13 + w) 12 := by rcases h with rfl | rfl | rfl <;> exact ⟨by decide, rfl⟩
theorem zw_t {w : Nat} (h : isW w) : zKT (16 + w) 8 := by rcases h with rfl | rfl | rfl <;> exact ⟨by decide, rfl⟩
theorem zw_pR {w : Nat} (h : isW w) : zR w 4 = 10 + w := by rcases h with rfl | rfl | rfl <;> rfl
theorem zw_aR {w : Nat} (h : isW w) : zR w 5 = 13 + w := by rcases h with rfl | rfl | rfl <;> rfl
theorem zw_tR {w : Nat} (h : isW w) : zR w 7 = 16 + w := by rcases h with rfl | rfl | rfl <;> rfl
theorem zw_pN {w : Nat} (h : isW w) : zN (10 + w) = 6 := by rcases h with rfl | rfl | rfl <;> rfl
theorem zw_aN {w : Nat} (h : isW w) : zN (13 + w) = 12 := by rcases h with rfl | rfl | rfl <;> rfl
theorem zw_tN {w : Nat} (h : isW w) : zN (16 + w) = 60 := by rcases h with rfl | rfl | rfl <;> rfl
theorem zw_wR {w : Nat} (h : isW w) {i : Nat} (hi : i < 12) : zR (13 + w) i = 12 * w + 8 + i := by
  have : ∀ i, i < 12 → zR 14 i = 20 + i ∧ zR 15 i = 32 + i ∧ zR 16 i = 44 + i := by decide
  rcases h with rfl | rfl | rfl
  · exact (this i hi).1
  · exact (this i hi).2.1
  · exact (this i hi).2.2
theorem zw_w {w : Nat} (h : isW w) {i : Nat} (hi : i < 12) : zKT (12 * w + 8 + i) 4 := by
  have : ∀ i, i < 12 → zKT (20 + i) 4 ∧ zKT (32 + i) 4 ∧ zKT (44 + i) 4 := by decide
  rcases h with rfl | rfl | rfl
  · exact (this i hi).1
  · exact (this i hi).2.1
  · exact (this i hi).2.2
