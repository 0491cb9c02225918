/-- the tables' words that no step can change -/
def zt : List Cond := lw_tbl.filter goodWord
theorem zt_of {w : Cond} (h : w ∈ lw_tbl) (hg : goodWord w = true) : w ∈ zt := List.mem_filter.mpr ⟨h, hg⟩
theorem zt_all {ws : List Cond} (h : ∀ w ∈ ws, w ∈ lw_tbl) (hg : ws.all goodWord = true) : ∀ w ∈ ws, w ∈ zt := fun w hw => zt_of (h w hw) (List.all_eq_true.mp hg w hw)
abbrev zV : Type := Int ⊕ (Int ⊕ Nat)
abbrev vI (x : Int) : zV := Sum.inl x
abbrev vJ (x : Int) : zV := Sum.inr (Sum.inl x)
abbrev vR (k : Nat) : zV := Sum.inr (Sum.inr k)
/-- memory: by cell and place -/
abbrev zM : Type := Nat → Int → Int
def zput (M : zM) (k : Nat) (j v : Int) : zM := fun a b => if a = k ∧ b = j then v else M a b
def zc (ad : Nat → Nat) (v : zV) : Value := match v with
  | .inl x => .int (Int32.ofInt x)
  | .inr (.inl x) => .long (Int64.ofInt x)
  | .inr (.inr k) => .ref (ad k)
/-- kinds of a class's fields: 0 an int, 1 a long, 2 a boolean, 3 a reference -/
def zfk (t : Nat) : List Nat := match t with
  | 0 => [3, 3, 0, 0, 3, 1, 0, 0]
  | 1 => [3, 0, 0, 2, 0, 0, 0, 0, 3, 3, 0, 0, 0, 2, 2, 0]
  | 2 => [0, 0, 3]
  | 3 => [3, 3, 3, 3, 3, 0, 0, 0, 0, 0, 0]
  | 4 => [0, 0, 0, 0, 0, 0]
  | 5 => [0, 0, 1, 1, 3, 3, 0, 3, 0]
  | 6 => [3, 3, 3, 2, 3, 0, 3, 3, 3, 3, 3, 3]
  | 7 => [3, 3, 2, 3, 3, 0, 0, 0, 0, 3, 3, 3, 3, 3, 3, 3, 2, 3, 3, 3, 3, 3, 3]
  | _ => []
def zTl : List Nat := [6, 5, 5, 5, 8, 11, 9, 1, 0, 3, 9, 9, 9, 9, 12, 12, 12, 8, 8, 8, 4, 4, 4, 4, 4, 4, 4, 4, 4, 4, 4, 4, 4, 4, 4, 4, 4, 4, 4, 4, 4, 4, 4, 4, 4, 4, 4, 4, 4, 4, 4, 4, 4, 4, 4, 4, 2, 2, 2, 2, 10, 10, 10, 10, 9, 9, 9, 10, 10, 9, 9, 9, 9, 9, 9, 7, 10, 10, 9, 9, 9, 9, 9, 10, 9, 9, 10, 9, 9, 10, 10, 9, 9]
def zNl : List Nat := [0, 0, 0, 0, 60, 4, 7, 0, 0, 0, 100, 6, 6, 6, 12, 12, 12, 60, 60, 60, 0, 0, 0, 0, 0, 0, 0, 0, 0, 0, 0, 0, 0, 0, 0, 0, 0, 0, 0, 0, 0, 0, 0, 0, 0, 0, 0, 0, 0, 0, 0, 0, 0, 0, 0, 0, 0, 0, 0, 0, 40, 40, 40, 40, 6, 5, 5, 200, 12200, 8, 12, 492, 41, 41, 12, 0, 214, 214, 7, 60, 130, 128, 70, 13725, 13725, 13725, 25, 4, 4, 160, 40, 492, 492]
def zRl : List (List Nat) := [[1, 2, 3, 0, 4, 0, 5, 6, 7, 8, 9, 10], [0, 0, 0, 0, 11, 14, 0, 17], [0, 0, 0, 0, 12, 15, 0, 18], [0, 0, 0, 0, 13, 16, 0, 19], [], [56, 57, 58, 59], [], [64, 0, 0, 0, 0, 0, 0, 0, 65, 66], [67, 68, 0, 0, 69], [70, 71, 72, 73, 74], [], [], [], [], [20, 21, 22, 23, 24, 25, 26, 27, 28, 29, 30, 31], [32, 33, 34, 35, 36, 37, 38, 39, 40, 41, 42, 43], [44, 45, 46, 47, 48, 49, 50, 51, 52, 53, 54, 55], [], [], [], [], [], [], [], [], [], [], [], [], [], [], [], [], [], [], [], [], [], [], [], [], [], [], [], [], [], [], [], [], [], [], [], [], [], [], [], [0, 0, 60], [0, 0, 61], [0, 0, 62], [0, 0, 63], [], [], [], [], [], [], [], [], [], [], [], [], [], [], [], [76, 77, 0, 78, 79, 0, 0, 0, 0, 80, 81, 82, 83, 84, 85, 86, 0, 87, 88, 89, 90, 91, 92], [], [], [], [], [], [], [], [], [], [], [], [], [], [], [], [], []]
def zT (k : Nat) : Nat := zTl.getD k 99
def zN (k : Nat) : Nat := zNl.getD k 0
def zR (k j : Nat) : Nat := (zRl.getD k []).getD j 0
def zfv (ad : Nat → Nat) (M : zM) (k j : Nat) : Value := match (zfk (zT k)).getD j 9 with
  | 1 => .long (Int64.ofInt (M k (j : Int)))
  | 3 => .ref (ad (zR k j))
  | _ => .int (Int32.ofInt (M k (j : Int)))
def zcell (ct ad : Nat → Nat) (M : zM) (k : Nat) : va_E :=
  if zT k = 8 then .inl (ct 0, zN k, .inl (fun j => Int32.ofInt (M k (j : Int))))
  else if zT k = 9 then .inl (ct 1, zN k, .inl (fun j => Int32.ofInt (M k (j : Int))))
  else if zT k = 10 then .inl (ct 2, zN k, .inr (.inl (fun j => Int64.ofInt (M k (j : Int)))))
  else if zT k = 11 then .inl (ct 3, zN k, .inr (.inr (.inr (.inr (fun j => some (ad (zR k j)))))))
  else if zT k = 12 then .inl (ct 4, zN k, .inr (.inr (.inr (.inr (fun j => some (ad (zR k j)))))))
  else .inr (zT k, (List.range (zfk (zT k)).length).map (zfv ad M k))
abbrev ztys (ct : Nat → Nat) : List (ClassId × FieldType) := [(ct 0, .byte), (ct 1, .int), (ct 2, .long), (ct 3, .object "FuelTurns$Sheet"), (ct 4, .object "FuelTurns$Warning")]
def zws (ct ad : Nat → Nat) (M : zM) : va_W := (List.range 93).map (fun k => (ad k, zcell ct ad M k))
def zsl : List (List Int) := [[1, 0, 0, 0, 0, 0], [9, 9999, 999, 99999999, 60, 60], [0, 0, 0, 0, 2, 1]]
def zs (k j : Nat) : Int := (zsl.getD k []).getD j 0
def zSt (ad : Nat → Nat) (A : Nat → Prop) (U : State) (H : Heap) : Prop :=
  (va_Z "FuelTurns" "PLAN_LEAST" "[I" (.ref (ad 93)) A U H ∧ va_T .int (ad 93) 6 (fun j => .int (Int32.ofInt (zs 0 j))) A U H) ∧ (va_Z "FuelTurns" "PLAN_MOST" "[I" (.ref (ad 94)) A U H ∧ va_T .int (ad 94) 6 (fun j => .int (Int32.ofInt (zs 1 j))) A U H) ∧ (va_Z "FuelTurns$Warning" "ABOVE" "[I" (.ref (ad 95)) A U H ∧ va_T .int (ad 95) 6 (fun j => .int (Int32.ofInt (zs 2 j))) A U H)
theorem zSt.moved {ad : Nat → Nat} {A : Nat → Prop} {u U : State} {H : Heap} (hvm : u.vm.Alike U.vm) (h : zSt ad A u H) : zSt ad A U H :=
  ⟨⟨h.1.1.moved hvm, h.1.2.moved hvm⟩, ⟨h.2.1.1.moved hvm, h.2.1.2.moved hvm⟩, ⟨h.2.2.1.moved hvm, h.2.2.2.moved hvm⟩⟩
theorem zSt.kept {ad : Nat → Nat} {A : Nat → Prop} {U : State} {H H1 : Heap} (h : zSt ad A U H) (hq : ∀ a : Nat, a < H.size → ¬ A a → H1[a]? = H[a]?) : zSt ad A U H1 :=
  ⟨⟨h.1.1.kept hq, h.1.2.kept hq⟩, ⟨h.2.1.1.kept hq, h.2.1.2.kept hq⟩, ⟨h.2.2.1.kept hq, h.2.2.2.kept hq⟩⟩
theorem zSt.narrow {ad : Nat → Nat} {A B : Nat → Prop} {U : State} {H : Heap} (h : zSt ad A U H) (hAB : ∀ q, B q → A q) : zSt ad B U H :=
  ⟨⟨h.1.1.narrow hAB, h.1.2.narrow hAB⟩, ⟨h.2.1.1.narrow hAB, h.2.1.2.narrow hAB⟩, ⟨h.2.2.1.narrow hAB, h.2.2.2.narrow hAB⟩⟩
theorem zput_ne {M : zM} {k : Nat} {j v : Int} {a : Nat} (h : a ≠ k) : zput M k j v a = M a := by
  funext b
  simp [zput, h]
theorem zput_eq {M : zM} {k : Nat} {j v : Int} : zput M k j v k j = v := by simp [zput]
theorem zput_ne2 {M : zM} {k : Nat} {j v : Int} {a : Nat} {b : Int} (h : b ≠ j) : zput M k j v a b = M a b := by simp [zput, h]
theorem zcell_congr {ct ad : Nat → Nat} {M M' : zM} {k : Nat} (h : M' k = M k) : zcell ct ad M' k = zcell ct ad M k := by
  unfold zcell zfv
  rw [h]
theorem zws_get {ct ad : Nat → Nat} {M : zM} {k : Nat} (hk : k < 93) : (zws ct ad M)[k]? = some (ad k, zcell ct ad M k) := by
  simp [zws, List.getElem?_map, List.getElem?_range hk]
theorem zws_set {ct ad : Nat → Nat} {M M' : zM} {k : Nat} (h : ∀ a, a ≠ k → M' a = M a) : (zws ct ad M).set k (ad k, zcell ct ad M' k) = zws ct ad M' := by
  apply List.ext_getElem?
  intro i
  rw [List.getElem?_set]
  by_cases hi : i < 93
  · by_cases hki : k = i
    · subst hki
      rw [if_pos rfl, if_pos (by simp [zws]; exact hi), zws_get hi]
    · rw [if_neg hki, zws_get hi, zws_get hi, zcell_congr (h i (fun e => hki e.symm))]
  · have e1 : ∀ N : zM, (zws ct ad N)[i]? = none := fun N => by
      rw [List.getElem?_eq_none_iff]
      simp [zws]
      omega
    rw [e1, e1]
    by_cases hki : k = i
    · rw [if_pos hki, if_neg (by simp [zws]; omega)]
    · rw [if_neg hki]
theorem zws_put {ct ad : Nat → Nat} {M : zM} {k : Nat} {j v : Int} {e : va_E} (he : zcell ct ad (zput M k j v) k = e) : (zws ct ad M).set k (ad k, e) = zws ct ad (zput M k j v) := by
  rw [← he]
  exact zws_set (fun a ha => zput_ne ha)
theorem zc_8 {ct ad : Nat → Nat} {M : zM} {k : Nat} (h : zT k = 8) : zcell ct ad M k = .inl (ct 0, zN k, .inl (fun j => Int32.ofInt (M k (j : Int)))) := by simp [zcell, h]
theorem zc_9 {ct ad : Nat → Nat} {M : zM} {k : Nat} (h : zT k = 9) : zcell ct ad M k = .inl (ct 1, zN k, .inl (fun j => Int32.ofInt (M k (j : Int)))) := by simp [zcell, h]
theorem zc_10 {ct ad : Nat → Nat} {M : zM} {k : Nat} (h : zT k = 10) : zcell ct ad M k = .inl (ct 2, zN k, .inr (.inl (fun j => Int64.ofInt (M k (j : Int))))) := by simp [zcell, h]
theorem zc_11 {ct ad : Nat → Nat} {M : zM} {k : Nat} (h : zT k = 11) : zcell ct ad M k = .inl (ct 3, zN k, .inr (.inr (.inr (.inr (fun j => some (ad (zR k j))))))) := by simp [zcell, h]
theorem zc_12 {ct ad : Nat → Nat} {M : zM} {k : Nat} (h : zT k = 12) : zcell ct ad M k = .inl (ct 4, zN k, .inr (.inr (.inr (.inr (fun j => some (ad (zR k j))))))) := by simp [zcell, h]
theorem zc_o {ct ad : Nat → Nat} {M : zM} {k t : Nat} (h : zT k = t) (ht : t < 8) : zcell ct ad M k = .inr (t, (List.range (zfk t).length).map (zfv ad M k)) := by
  subst h
  unfold zcell
  rw [if_neg (by omega), if_neg (by omega), if_neg (by omega), if_neg (by omega), if_neg (by omega)]
theorem zfs_get {ad : Nat → Nat} {M : zM} {k j n : Nat} (h : j < n) : ((List.range n).map (zfv ad M k))[j]? = some (zfv ad M k j) := by
  simp [List.getElem?_map, List.getElem?_range h]
theorem zfs_set {ad : Nat → Nat} {M : zM} {k j n : Nat} {v : Int} {w : Value} (hw : zfv ad (zput M k j v) k j = w) : ((List.range n).map (zfv ad M k)).set j w = (List.range n).map (zfv ad (zput M k j v) k) := by
  apply List.ext_getElem?
  intro i
  rw [List.getElem?_set]
  by_cases hi : i < n
  · by_cases hji : j = i
    · subst hji
      rw [if_pos rfl, if_pos (by simp; exact hi), zfs_get hi, hw]
    · have e : zfv ad (zput M k j v) k i = zfv ad M k i := by
        have h : zput M k (j : Int) v k (i : Int) = M k (i : Int) := zput_ne2 (by omega)
        unfold zfv
        rw [h]
      rw [if_neg hji, zfs_get hi, zfs_get hi, e]
  · have e1 : ∀ N : zM, ((List.range n).map (zfv ad N k))[i]? = none := fun N => by
      rw [List.getElem?_eq_none_iff]
      simp
      omega
    rw [e1, e1]
    by_cases hji : j = i
    · rw [if_pos hji, if_neg (by simp; omega)]
    · rw [if_neg hji]
/-! ===== the judgement ===== -/
abbrev zF : Type := Nat × Nat × (List Frame → Array Value → State → va_G → (Nat → Nat) → (Nat → Nat) → (Nat → Prop) → State → Prop) × ((Nat → Nat) → (Nat → Prop) → Array Value → State → Prop)
def zE (own : String) (cc : ByteArray) (mL : Nat) (rt : Option FieldType) (d : Nat) (F : zF) (p : Program) (R : Room) (s : State) (m : MethodId) (args : Array Value) (meth : Method) (c : Code) (D : va_G) (ct ad : Nat → Nat) (A : Nat → Prop) : Prop :=
  p.tables.exec = Jvm.exec ∧ c.code = cc ∧ c.maxLocals = mL ∧ s.vm.findClass own = some m.cls ∧ (∀ w ∈ zt, w.before args s = true) ∧ va_K D vwCl (ztys ct) s ∧ zSt ad A s s.heap ∧ (d ≤ R.frames ∧ 40 * d ≤ R.locals ∧ F.1 ≤ R.cells ∧ F.2.1 ≤ R.slots) ∧ (meth.locks = false ∧ meth.sig.returnType = rt) ∧ (∀ q : Nat, s.heap.size ≤ q → A q) ∧ F.2.2.2 ad A args s
def zlv (ad : Nat → Nat) : Nat → List (Option zV) → List (Nat × Value)
  | _, [] => []
  | i, none :: r => zlv ad (i + 1) r
  | i, some v :: r => (i, zc ad v) :: zlv ad (i + 1) r
def Z (own : String) (cc : ByteArray) (mL : Nat) (rt : Option FieldType) (d : Nat) (F : zF) (pc : Nat) (lv : List (Option zV)) (st : List zV) (M : zM) : Prop :=
  ∀ (p : Program) (l : Launch) (e : Env) (R : Room) (s : State) (m : MethodId) (args : Array Value) (below : List Frame) (meth : Method) (c : Code) (D : va_G) (ct ad : Nat → Nat) (A : Nat → Prop) (H : Heap) (locs : List Loc) (ls : Array Slot),
    zE own cc mL rt d F p R s m args meth c D ct ad A → lv_has ls mL (zlv ad 0 lv) → lv.length ≤ mL → va_P D vwCl (zws ct ad M) H → va_D A (zws ct ad M) → va_S A s.heap H locs →
    W p l e R s m args below meth c H locs F.1 F.2.1 (F.2.2.1 below args s D ct ad A) (F0 m pc ls (st.map (zc ad)))
theorem zlv_mem {ad : Nat → Nat} : ∀ (lv : List (Option zV)) (i n : Nat) (v : zV), lv[n]? = some (some v) → (i + n, zc ad v) ∈ zlv ad i lv
  | [], _, _, _, h => by simp at h
  | none :: r, i, 0, v, h => by simp at h
  | none :: r, i, n + 1, v, h => by
    have := zlv_mem (ad := ad) r (i + 1) n v (by simpa using h)
    rw [show i + (n + 1) = i + 1 + n by omega]
    exact this
  | some w :: r, i, 0, v, h => by
    have e : w = v := by simpa using h
    subst e
    exact List.mem_cons_self
  | some w :: r, i, n + 1, v, h => by
    have := zlv_mem (ad := ad) r (i + 1) n v (by simpa using h)
    rw [show i + (n + 1) = i + 1 + n by omega]
    exact List.mem_cons_of_mem _ this
theorem zlv_of {ad : Nat → Nat} : ∀ (lv : List (Option zV)) (i : Nat) (q : Nat × Value), q ∈ zlv ad i lv → ∃ n v, q = (i + n, zc ad v) ∧ lv[n]? = some (some v)
  | [], _, _, h => by cases h
  | none :: r, i, q, h => by
    obtain ⟨n, v, h1, h2⟩ := zlv_of r (i + 1) q h
    exact ⟨n + 1, v, by rw [h1, show i + (n + 1) = i + 1 + n by omega], by simpa using h2⟩
  | some w :: r, i, q, h => by
    rcases List.mem_cons.mp h with h | h
    · exact ⟨0, w, h, rfl⟩
    · obtain ⟨n, v, h1, h2⟩ := zlv_of r (i + 1) q h
      exact ⟨n + 1, v, by rw [h1, show i + (n + 1) = i + 1 + n by omega], by simpa using h2⟩
theorem zhas_sub {ls : Array Slot} {n : Nat} {l l' : List (Nat × Value)} (h : lv_has ls n l) (hs : ∀ q ∈ l', q ∈ l) : lv_has ls n l' := ⟨h.1, h.2.1, fun q hq => h.2.2 q (hs q hq)⟩
theorem zl_at {ad : Nat → Nat} {ls : Array Slot} {mL : Nat} {lv : List (Option zV)} (h : lv_has ls mL (zlv ad 0 lv)) {n : Nat} {v : zV} (hv : lv[n]? = some (some v)) : ls[n]? = some (.val (zc ad v)) := by
  have := h.2.2 _ (zlv_mem lv 0 n v hv)
  rwa [Nat.zero_add] at this
def zn2 : Option zV → Bool
  | some (.inr (.inl _)) => false
  | _ => true
/-- what a store into place i leaves -/
theorem zl_set {ad : Nat → Nat} {ls : Array Slot} {mL i : Nat} {lv : List (Option zV)} {v : zV} (hn : ∀ j, j + 1 = i → zn2 (lv.getD j none) = true) (h : lv_has ls mL ((i, zc ad v) :: (zlv ad 0 lv).filter (fun q => !(q.1 == i) && !(q.1 + 1 == i && q.2.category == 2)))) : lv_has ls mL (zlv ad 0 (lv.set i (some v))) := by
  refine zhas_sub h (fun q hq => ?_)
  obtain ⟨n, w, rfl, h2⟩ := zlv_of _ _ _ hq
  rw [Nat.zero_add]
  rw [List.getElem?_set] at h2
  by_cases hi : i = n
  · subst hi
    rw [if_pos rfl] at h2
    split at h2
    · cases h2
      exact List.mem_cons_self
    · cases h2
  · rw [if_neg hi] at h2
    refine List.mem_cons_of_mem _ (List.mem_filter.mpr ⟨?_, ?_⟩)
    · have := zlv_mem (ad := ad) lv 0 n w h2
      rwa [Nat.zero_add] at this
    · have hne : (n == i) = false := by simp; exact fun e => hi e.symm
      by_cases hm : n + 1 = i
      · have h3 := hn n hm
        rw [List.getD_eq_getElem?_getD, h2] at h3
        have h4 : (zc ad w).category = 1 := by
          rcases w with x | x | x
          · rfl
          · simp [zn2] at h3
          · rfl
        simp [hne, h4]
      · simp [hne, hm]
theorem zl_set2 {ad : Nat → Nat} {ls : Array Slot} {mL i : Nat} {lv : List (Option zV)} {v : zV} (hn : ∀ j, j + 1 = i → zn2 (lv.getD j none) = true) (h : lv_has ls mL ((i, zc ad v) :: (zlv ad 0 lv).filter (fun q => !(q.1 == i) && (!(q.1 == i + 1) && !(q.1 + 1 == i && q.2.category == 2))))) : lv_has ls mL (zlv ad 0 ((lv.set i (some v)).set (i + 1) none)) := by
  refine zhas_sub h (fun q hq => ?_)
  obtain ⟨n, w, rfl, h2⟩ := zlv_of _ _ _ hq
  rw [Nat.zero_add]
  rw [List.getElem?_set] at h2
  by_cases hi1 : i + 1 = n
  · rw [if_pos hi1] at h2
    split at h2 <;> cases h2
  rw [if_neg hi1, List.getElem?_set] at h2
  by_cases hi : i = n
  · subst hi
    rw [if_pos rfl] at h2
    split at h2
    · cases h2
      exact List.mem_cons_self
    · cases h2
  · rw [if_neg hi] at h2
    refine List.mem_cons_of_mem _ (List.mem_filter.mpr ⟨?_, ?_⟩)
    · have := zlv_mem (ad := ad) lv 0 n w h2
      rwa [Nat.zero_add] at this
    · have hne : (n == i) = false := by simp; exact fun e => hi e.symm
      have hne1 : (n == i + 1) = false := by simp; exact fun e => hi1 e.symm
      by_cases hm : n + 1 = i
      · have h3 := hn n hm
        rw [List.getD_eq_getElem?_getD, h2] at h3
        have h4 : (zc ad w).category = 1 := by
          rcases w with x | x | x
          · rfl
          · simp [zn2] at h3
          · rfl
        simp [hne, hne1, h4]
      · simp [hne, hne1, hm]
