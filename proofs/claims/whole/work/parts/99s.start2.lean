/-- from the law's entry to its loop -/
theorem whole_start {p : Program} {e : Env} {s : State} {m : MethodId} {below : List Frame} {meth : Method} {c : Code} (l : Launch) (hflags : l.flags = flags0) {b L : Nat} {xs : Nat → Int32} (hL : L ≤ 3072) (C0 : lw_At p s m meth c b L xs) : W p l e room_1 s m #[Value.ref b] below meth c s.heap [] 0 0 (lw_Z below #[Value.ref b] s) (entryFrame m ([Value.ref b] : List Value).toArray 4) := by
  obtain ⟨hx, hb, hr, hml, hown, hts, hX, hbl, hlocks, hgv⟩ := id C0
  have hAn : ∀ a : Nat, a < s.heap.size → ¬ (fun q : Nat => s.heap.size ≤ q) a := fun a h => Nat.not_le.mpr h
  obtain ⟨D, ct, hK⟩ := b_known hts
  obtain ⟨t1, t2, t3, z1, z2, z3⟩ := b_stat hts hgv hAn
  have hT := b_scr hL hX (hAn b hbl)
  have hz : ∀ w ∈ zt, w.before #[Value.ref b] s = true := fun w hw => hts w (List.mem_filter.mp hw).1
  have C : bCx RL cL_law 4 p s m #[Value.ref b] c D ct (fun q : Nat => s.heap.size ≤ q) := ⟨hx, hb, hml, hown, hz, hK, fun _ h => h, b_nest hts⟩
  have hl := lv_entry ([.ref b]) (n := 4) (Nat.le_of_ble_eq_true rfl)
  rw [lg_entry_eq]
  generalize (lg_sl ([.ref b]) ++ List.replicate (4 - (lg_sl ([.ref b])).length) Slot.unset).toArray = ls at hl ⊢
  have hl : lv_has ls 4 [(0, .ref b)] := hl
  have J : bJx s D (fun q : Nat => s.heap.size ≤ q) [] s.heap [] := ⟨fun k q h => by simp at h, ⟨fun i j p q h => by simp at h, fun k q h => by simp at h⟩, va_S.rf⟩
  refine b_new (t := 6) (fs := [.null, .null, .null, .int 0, .null, .int 0, .null, .null, .null, .null, .null, .null]) C J rfl ztX6 tyX6_ok cl_L_7 ys_6 yn_6 bf_6 (by decide +kernel) (by decide +kernel) dL_law_0 (fun x_ H J => ?_)
  refine lv_dup hx hb dL_law_3 rfl ?_
  refine b_call C J (m_6 l) yi_6 ml_L_9 ⟨by decide, by decide⟩ hl.1 (Nat.le_of_ble_eq_true rfl) ⟨by decide +kernel, by decide +kernel⟩ dL_law_4 (fun a_ H locs J => ?_)
  refine lv_astore_n (lv' := [(1, .ref x_), (0, .ref b)]) hx hb dL_law_7 rfl hl (by decide) rfl (fun ls hl => ?_)
  refine b_new (t := 7) (fs := [.null, .null, .int 0, .null, .null, .int 0, .int 0, .int 0, .int 0, .null, .null, .null, .null, .null, .null, .null, .int 0, .null, .null, .null, .null, .null, .null]) C J rfl ztX7 tyX7_ok cl_L_10 ys_7 yn_7 bf_7 (by decide +kernel) (by decide +kernel) dL_law_8 (fun y_ H J => ?_)
  refine lv_dup hx hb dL_law_11 rfl ?_
  refine b_call C J (m_7 l) yi_7 ml_L_12 ⟨by decide, by decide⟩ hl.1 (Nat.le_of_ble_eq_true rfl) ⟨by decide +kernel, by decide +kernel⟩ dL_law_12 (fun b_ H locs J => ?_)
  refine lv_astore_n (lv' := [(2, .ref y_), (1, .ref x_), (0, .ref b)]) hx hb dL_law_15 rfl hl (by decide) rfl (fun ls hl => ?_)
  refine lv_iconst (v := 0) hx hb dL_law_16 (by decide) ?_
  refine lv_istore_n (lv' := [(3, .int 0), (2, .ref y_), (1, .ref x_), (0, .ref b)]) hx hb dL_law_17 rfl hl (by decide) rfl (fun ls hl => ?_)
  refine W.widen (k := 600000) (n := 7302250) (by decide +kernel) (by decide +kernel) ?_
  obtain ⟨hP, hD⟩ := b_conv (ad := bAd x_ a_ y_ b_ t1 t2 t3 b) (M := M0) bPl bIn bIn_Pl b_all J.1 J.2.1
  refine law_loop (b := b) (n := L) (S := fun j => (xs j).toInt) hL (fun j => ⟨Int32.le_toInt _, Int32.toInt_lt _⟩) (L + 1) 0 M0 (by omega) (by omega) (by omega) (by decide) Sim_0 Lk_0 p l e room_1 s m #[Value.ref b] below meth c D ct (bAd x_ a_ y_ b_ t1 t2 t3 b) (fun q : Nat => s.heap.size ≤ q) H locs ls ?_ ?_ (by decide) hP hD J.2.2
  · exact ⟨hx, hb, hml, hown, hz, hK, ⟨z1, z2, z3⟩, ⟨by decide +kernel, by decide +kernel, (by decide +kernel : (600000 : Nat) ≤ room_1.cells), (by decide +kernel : (7302250 : Nat) ≤ room_1.slots)⟩, ⟨hlocks, hr⟩, fun _ h => h, rfl, fun _ h => h, hT⟩
  · refine zhas_sub hl (fun q hq => ?_)
    have hq : q ∈ [(0, Value.ref b), (1, Value.ref x_), (2, Value.ref y_), (3, Value.int 0)] := hq
    simp only [List.mem_cons, List.not_mem_nil, or_false] at hq ⊢
    rcases hq with h | h | h | h
    · exact Or.inr (Or.inr (Or.inr h))
    · exact Or.inr (Or.inr (Or.inl h))
    · exact Or.inr (Or.inl h)
    · exact Or.inl h
