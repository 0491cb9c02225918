theorem bJx.perm {s : State} {D : va_G} {A : Nat → Prop} {ws ws' : va_W} {H : Heap} {locs : List Loc} (h : ws.Perm ws') (J : bJx s D A ws H locs) : bJx s D A ws' H locs := by
  have hm : ∀ q, q ∈ ws' → q ∈ ws := fun q hq => h.mem_iff.mpr hq
  have hn : (ws'.map Prod.fst).Nodup := by
    refine (h.map Prod.fst).nodup_iff.mp ?_
    refine List.nodup_iff_pairwise_ne.mpr (List.pairwise_iff_getElem.mpr (fun i j hi hj hij e => ?_))
    have hi2 : i < ws.length := by simpa using hi
    have hj2 : j < ws.length := by simpa using hj
    have e2 : ws[i].1 = ws[j].1 := by simpa using e
    have := J.2.1.1 i j ws[i] ws[j] (List.getElem?_eq_getElem hi2) (List.getElem?_eq_getElem hj2) e2
    omega
  refine ⟨fun k q hq => ?_, ⟨fun i j p q hi hj e => ?_, fun k q hq => ?_⟩, J.2.2⟩
  · obtain ⟨k2, h2⟩ := List.mem_iff_getElem?.mp (hm q (List.mem_of_getElem? hq))
    exact J.1 k2 q h2
  · have a1 := (List.getElem?_eq_some_iff.mp hi).1
    refine (List.getElem?_inj (l := ws'.map Prod.fst) (i := i) (j := j) (by simpa using a1) hn).mp ?_
    rw [List.getElem?_map, List.getElem?_map, hi, hj]
    exact congrArg some e
  · obtain ⟨k2, h2⟩ := List.mem_iff_getElem?.mp (hm q (List.mem_of_getElem? hq))
    exact J.2.1.2 k2 q h2
theorem bJ1 {s : State} {D : va_G} {A : Nat → Prop} {x : Nat × va_E} {ws nw : va_W} {H : Heap} {locs : List Loc} (J : bJx s D A ((x :: ws) ++ nw) H locs) : bJx s D A (x :: (nw ++ ws)) H locs := bJx.perm (List.Perm.cons x List.perm_append_comm) J
theorem bJ2 {s : State} {D : va_G} {A : Nat → Prop} {x y : Nat × va_E} {ws nw : va_W} {H : Heap} {locs : List Loc} (J : bJx s D A ((x :: y :: ws) ++ nw) H locs) : bJx s D A (x :: y :: (nw ++ ws)) H locs := bJx.perm (List.Perm.cons x (List.Perm.cons y List.perm_append_comm)) J
