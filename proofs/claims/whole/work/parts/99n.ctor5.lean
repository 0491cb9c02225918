def wX6 (ct : Nat → Nat) (h0 : Nat) (a : Nat → Nat) : va_W := [(h0, .inr (6, [.ref (a 58), .ref (a 42), .ref (a 26), .int 0, .ref (a 25), .int 0, .ref (a 0), .ref (a 24), .ref (a 20), .ref (a 16), .ref (a 10), .ref (a 9)])), ((a 0), .inl (ct 3, 4, .inr (.inr (.inr (.inr (va_up (va_up (va_up (va_up (fun _ => none) 0 (some (a 7))) 1 (some (a 5))) 2 (some (a 3))) 3 (some (a 1)))))))), ((a 1), .inr (2, [.int 0, .int 0, .ref (a 2)])), ((a 2), .inl (ct 2, 40, .inr (.inl (fun _ => 0)))), ((a 3), .inr (2, [.int 0, .int 0, .ref (a 4)])), ((a 4), .inl (ct 2, 40, .inr (.inl (fun _ => 0)))), ((a 5), .inr (2, [.int 0, .int 0, .ref (a 6)])), ((a 6), .inl (ct 2, 40, .inr (.inl (fun _ => 0)))), ((a 7), .inr (2, [.int 0, .int 0, .ref (a 8)])), ((a 8), .inl (ct 2, 40, .inr (.inl (fun _ => 0)))), ((a 9), .inl (ct 1, 100, .inl (fun _ => 0))), ((a 10), .inr (3, [.ref (a 11), .ref (a 12), .ref (a 13), .ref (a 14), .ref (a 15), .int 0, .int 0, .int 0, .int 0, .int 0, .int 0])), ((a 11), .inl (ct 1, 12, .inl (fun _ => 0))), ((a 12), .inl (ct 1, 492, .inl (fun _ => 0))), ((a 13), .inl (ct 1, 41, .inl (fun _ => 0))), ((a 14), .inl (ct 1, 41, .inl (fun _ => 0))), ((a 15), .inl (ct 1, 12, .inl (fun _ => 0))), ((a 16), .inr (0, [.ref (a 17), .ref (a 18), .int 0, .int 0, .ref (a 19), .long 0, .int 0, .int 0])), ((a 17), .inl (ct 2, 200, .inr (.inl (fun _ => 0)))), ((a 18), .inl (ct 2, 12200, .inr (.inl (fun _ => 0)))), ((a 19), .inl (ct 1, 8, .inl (fun _ => 0))), ((a 20), .inr (1, [.ref (a 21), .int (-1), .int 0, .int 1, .int 0, .int 0, .int 0, .int 1, .ref (a 22), .ref (a 23), .int 0, .int 0, .int 61, .int 1, .int 0, .int 0])), ((a 21), .inl (ct 1, 6, .inl (fun _ => 0))), ((a 22), .inl (ct 1, 5, .inl (fun _ => 0))), ((a 23), .inl (ct 1, 5, .inl (fun _ => 0))), ((a 24), .inl (ct 1, 7, .inl (fun _ => 0))), ((a 25), .inl (ct 0, 60, .inl (fun _ => 0))), ((a 26), .inr (5, [.int 0, .int 0, .long 0, .long 0, .ref (a 27), .ref (a 28), .int 0, .ref (a 29), .int 0])), ((a 27), .inl (ct 1, 6, .inl (upd (upd (upd (upd (upd (upd (fun _ => 0) 0 1) 1 100) 2 10) 3 1000000) 4 0) 5 9))), ((a 28), .inl (ct 4, 12, .inr (.inr (.inr (.inr (va_up (va_up (va_up (va_up (va_up (va_up (va_up (va_up (va_up (va_up (va_up (va_up (fun _ => none) 0 (some (a 30))) 1 (some (a 31))) 2 (some (a 32))) 3 (some (a 33))) 4 (some (a 34))) 5 (some (a 35))) 6 (some (a 36))) 7 (some (a 37))) 8 (some (a 38))) 9 (some (a 39))) 10 (some (a 40))) 11 (some (a 41)))))))), ((a 29), .inl (ct 0, 60, .inl (fun _ => 0))), ((a 30), .inr (4, [.int 0, .int 0, .int 0, .int 0, .int 0, .int 0])), ((a 31), .inr (4, [.int 0, .int 0, .int 0, .int 0, .int 0, .int 0])), ((a 32), .inr (4, [.int 0, .int 0, .int 0, .int 0, .int 0, .int 0])), ((a 33), .inr (4, [.int 0, .int 0, .int 0, .int 0, .int 0, .int 0])), ((a 34), .inr (4, [.int 0, .int 0, .int 0, .int 0, .int 0, .int 0])), ((a 35), .inr (4, [.int 0, .int 0, .int 0, .int 0, .int 0, .int 0])), ((a 36), .inr (4, [.int 0, .int 0, .int 0, .int 0, .int 0, .int 0])), ((a 37), .inr (4, [.int 0, .int 0, .int 0, .int 0, .int 0, .int 0])), ((a 38), .inr (4, [.int 0, .int 0, .int 0, .int 0, .int 0, .int 0])), ((a 39), .inr (4, [.int 0, .int 0, .int 0, .int 0, .int 0, .int 0])), ((a 40), .inr (4, [.int 0, .int 0, .int 0, .int 0, .int 0, .int 0])), ((a 41), .inr (4, [.int 0, .int 0, .int 0, .int 0, .int 0, .int 0])), ((a 42), .inr (5, [.int 0, .int 0, .long 0, .long 0, .ref (a 43), .ref (a 44), .int 0, .ref (a 45), .int 0])), ((a 43), .inl (ct 1, 6, .inl (upd (upd (upd (upd (upd (upd (fun _ => 0) 0 1) 1 100) 2 10) 3 1000000) 4 0) 5 9))), ((a 44), .inl (ct 4, 12, .inr (.inr (.inr (.inr (va_up (va_up (va_up (va_up (va_up (va_up (va_up (va_up (va_up (va_up (va_up (va_up (fun _ => none) 0 (some (a 46))) 1 (some (a 47))) 2 (some (a 48))) 3 (some (a 49))) 4 (some (a 50))) 5 (some (a 51))) 6 (some (a 52))) 7 (some (a 53))) 8 (some (a 54))) 9 (some (a 55))) 10 (some (a 56))) 11 (some (a 57)))))))), ((a 45), .inl (ct 0, 60, .inl (fun _ => 0))), ((a 46), .inr (4, [.int 0, .int 0, .int 0, .int 0, .int 0, .int 0])), ((a 47), .inr (4, [.int 0, .int 0, .int 0, .int 0, .int 0, .int 0])), ((a 48), .inr (4, [.int 0, .int 0, .int 0, .int 0, .int 0, .int 0])), ((a 49), .inr (4, [.int 0, .int 0, .int 0, .int 0, .int 0, .int 0])), ((a 50), .inr (4, [.int 0, .int 0, .int 0, .int 0, .int 0, .int 0])), ((a 51), .inr (4, [.int 0, .int 0, .int 0, .int 0, .int 0, .int 0])), ((a 52), .inr (4, [.int 0, .int 0, .int 0, .int 0, .int 0, .int 0])), ((a 53), .inr (4, [.int 0, .int 0, .int 0, .int 0, .int 0, .int 0])), ((a 54), .inr (4, [.int 0, .int 0, .int 0, .int 0, .int 0, .int 0])), ((a 55), .inr (4, [.int 0, .int 0, .int 0, .int 0, .int 0, .int 0])), ((a 56), .inr (4, [.int 0, .int 0, .int 0, .int 0, .int 0, .int 0])), ((a 57), .inr (4, [.int 0, .int 0, .int 0, .int 0, .int 0, .int 0])), ((a 58), .inr (5, [.int 0, .int 0, .long 0, .long 0, .ref (a 59), .ref (a 60), .int 0, .ref (a 61), .int 0])), ((a 59), .inl (ct 1, 6, .inl (upd (upd (upd (upd (upd (upd (fun _ => 0) 0 1) 1 100) 2 10) 3 1000000) 4 0) 5 9))), ((a 60), .inl (ct 4, 12, .inr (.inr (.inr (.inr (va_up (va_up (va_up (va_up (va_up (va_up (va_up (va_up (va_up (va_up (va_up (va_up (fun _ => none) 0 (some (a 62))) 1 (some (a 63))) 2 (some (a 64))) 3 (some (a 65))) 4 (some (a 66))) 5 (some (a 67))) 6 (some (a 68))) 7 (some (a 69))) 8 (some (a 70))) 9 (some (a 71))) 10 (some (a 72))) 11 (some (a 73)))))))), ((a 61), .inl (ct 0, 60, .inl (fun _ => 0))), ((a 62), .inr (4, [.int 0, .int 0, .int 0, .int 0, .int 0, .int 0])), ((a 63), .inr (4, [.int 0, .int 0, .int 0, .int 0, .int 0, .int 0])), ((a 64), .inr (4, [.int 0, .int 0, .int 0, .int 0, .int 0, .int 0])), ((a 65), .inr (4, [.int 0, .int 0, .int 0, .int 0, .int 0, .int 0])), ((a 66), .inr (4, [.int 0, .int 0, .int 0, .int 0, .int 0, .int 0])), ((a 67), .inr (4, [.int 0, .int 0, .int 0, .int 0, .int 0, .int 0])), ((a 68), .inr (4, [.int 0, .int 0, .int 0, .int 0, .int 0, .int 0])), ((a 69), .inr (4, [.int 0, .int 0, .int 0, .int 0, .int 0, .int 0])), ((a 70), .inr (4, [.int 0, .int 0, .int 0, .int 0, .int 0, .int 0])), ((a 71), .inr (4, [.int 0, .int 0, .int 0, .int 0, .int 0, .int 0])), ((a 72), .inr (4, [.int 0, .int 0, .int 0, .int 0, .int 0, .int 0])), ((a 73), .inr (4, [.int 0, .int 0, .int 0, .int 0, .int 0, .int 0]))]
theorem bf_6 : ∀ j, j < 12 → defaultValue (tyX6 j) = vp_V [.null, .null, .null, .int 0, .null, .int 0, .null, .null, .null, .null, .null, .null] j := by
  intro j hj
  match j, hj with
  | 0, _ => rfl
  | 1, _ => rfl
  | 2, _ => rfl
  | 3, _ => rfl
  | 4, _ => rfl
  | 5, _ => rfl
  | 6, _ => rfl
  | 7, _ => rfl
  | 8, _ => rfl
  | 9, _ => rfl
  | 10, _ => rfl
  | 11, _ => rfl
  | j + 12, hj => exact absurd hj (by omega)
set_option maxHeartbeats 4000000 in
set_option maxRecDepth 100000 in
theorem m_6 (l : Launch) : bMet l yX6_init cX6_init 2 3 74 13877 6 [.null, .null, .null, .int 0, .null, .int 0, .null, .null, .null, .null, .null, .null] wX6 := by
  refine bMet.of rfl rfl (by decide) ?_
  intro p e s m args below meth c D ct A H ls h0 C hM hl J
  generalize hlo : ([] : List Loc) = locs at J ⊢
  refine lv_aload_n C.1 C.2.1 dX6_init_0 rfl (lv_at hl 0 rfl) ?_
  refine b_obj C yo_6 hl.1 ⟨by decide, by decide⟩ dX6_init_1 ?_
  refine lv_aload_n C.1 C.2.1 dX6_init_4 rfl (lv_at hl 0 rfl) ?_
  refine b_new (t := 5) (fs := [.int 0, .int 0, .long 0, .long 0, .null, .null, .int 0, .null, .int 0]) C J rfl ztX5 tyX5_ok cl_X6_7 ys_5 yn_5 bf_5 (by decide +kernel) (by decide +kernel) dX6_init_5 (fun n1 H J => ?_)
  refine lv_dup C.1 C.2.1 dX6_init_8 rfl ?_
  refine b_call C J (m_5 l) yi_5 ml_X6_9 ⟨by decide, by decide⟩ hl.1 (Nat.le_of_ble_eq_true rfl) ⟨by decide +kernel, by decide +kernel⟩ dX6_init_9 (fun u1 H locs J => ?_)
  have J := bJ1 J
  have J : bJx s D A ((h0, .inr (6, [.null, .null, .null, .int 0, .null, .int 0, .null, .null, .null, .null, .null, .null])) :: (wX5 ct n1 u1 ++ [])) H locs := J
  refine b_putR (τ := (.object "FuelTurns$World")) C hM J fl_X6_10 rfl (fun _ _ _ h => by cases h; exact ⟨rfl, by decide +kernel⟩) rfl rfl 0 rfl (Nat.le_of_ble_eq_true rfl) dX6_init_12 (fun H locs J => ?_)
  have J : bJx s D A ((h0, .inr (6, [.ref n1, .null, .null, .int 0, .null, .int 0, .null, .null, .null, .null, .null, .null])) :: (wX5 ct n1 u1 ++ [])) H locs := J
  refine lv_aload_n C.1 C.2.1 dX6_init_15 rfl (lv_at hl 0 rfl) ?_
  refine b_new (t := 5) (fs := [.int 0, .int 0, .long 0, .long 0, .null, .null, .int 0, .null, .int 0]) C J rfl ztX5 tyX5_ok cl_X6_7 ys_5 yn_5 bf_5 (by decide +kernel) (by decide +kernel) dX6_init_16 (fun n2 H J => ?_)
  refine lv_dup C.1 C.2.1 dX6_init_19 rfl ?_
  refine b_call C J (m_5 l) yi_5 ml_X6_9 ⟨by decide, by decide⟩ hl.1 (Nat.le_of_ble_eq_true rfl) ⟨by decide +kernel, by decide +kernel⟩ dX6_init_20 (fun u2 H locs J => ?_)
  have J := bJ1 J
  have J : bJx s D A ((h0, .inr (6, [.ref n1, .null, .null, .int 0, .null, .int 0, .null, .null, .null, .null, .null, .null])) :: (wX5 ct n2 u2 ++ (wX5 ct n1 u1 ++ []))) H locs := J
  refine b_putR (τ := (.object "FuelTurns$World")) C hM J fl_X6_16 rfl (fun _ _ _ h => by cases h; exact ⟨rfl, by decide +kernel⟩) rfl rfl 0 rfl (Nat.le_of_ble_eq_true rfl) dX6_init_23 (fun H locs J => ?_)
  have J : bJx s D A ((h0, .inr (6, [.ref n1, .ref n2, .null, .int 0, .null, .int 0, .null, .null, .null, .null, .null, .null])) :: (wX5 ct n2 u2 ++ (wX5 ct n1 u1 ++ []))) H locs := J
  refine lv_aload_n C.1 C.2.1 dX6_init_26 rfl (lv_at hl 0 rfl) ?_
  refine b_new (t := 5) (fs := [.int 0, .int 0, .long 0, .long 0, .null, .null, .int 0, .null, .int 0]) C J rfl ztX5 tyX5_ok cl_X6_7 ys_5 yn_5 bf_5 (by decide +kernel) (by decide +kernel) dX6_init_27 (fun n3 H J => ?_)
  refine lv_dup C.1 C.2.1 dX6_init_30 rfl ?_
  refine b_call C J (m_5 l) yi_5 ml_X6_9 ⟨by decide, by decide⟩ hl.1 (Nat.le_of_ble_eq_true rfl) ⟨by decide +kernel, by decide +kernel⟩ dX6_init_31 (fun u3 H locs J => ?_)
  have J := bJ1 J
  have J : bJx s D A ((h0, .inr (6, [.ref n1, .ref n2, .null, .int 0, .null, .int 0, .null, .null, .null, .null, .null, .null])) :: (wX5 ct n3 u3 ++ (wX5 ct n2 u2 ++ (wX5 ct n1 u1 ++ [])))) H locs := J
  refine b_putR (τ := (.object "FuelTurns$World")) C hM J fl_X6_19 rfl (fun _ _ _ h => by cases h; exact ⟨rfl, by decide +kernel⟩) rfl rfl 0 rfl (Nat.le_of_ble_eq_true rfl) dX6_init_34 (fun H locs J => ?_)
  have J : bJx s D A ((h0, .inr (6, [.ref n1, .ref n2, .ref n3, .int 0, .null, .int 0, .null, .null, .null, .null, .null, .null])) :: (wX5 ct n3 u3 ++ (wX5 ct n2 u2 ++ (wX5 ct n1 u1 ++ [])))) H locs := J
  refine lv_aload_n C.1 C.2.1 dX6_init_37 rfl (lv_at hl 0 rfl) ?_
  refine lv_iconst (v := 0) C.1 C.2.1 dX6_init_38 (by decide) ?_
  refine b_putZ C J fl_X6_22 rfl rfl rfl 0 rfl (Nat.le_of_ble_eq_true rfl) dX6_init_39 (fun H locs J => ?_)
  have J : bJx s D A ((h0, .inr (6, [.ref n1, .ref n2, .ref n3, .int 0, .null, .int 0, .null, .null, .null, .null, .null, .null])) :: (wX5 ct n3 u3 ++ (wX5 ct n2 u2 ++ (wX5 ct n1 u1 ++ [])))) H locs := J
  refine lv_aload_n C.1 C.2.1 dX6_init_42 rfl (lv_at hl 0 rfl) ?_
  refine lv_bipush (v := 60) C.1 C.2.1 dX6_init_43 (by decide) ?_
  refine b_newB (N := 60) C J (by decide) (by decide) (by decide) (by decide +kernel) (by decide +kernel) dX6_init_45 (fun q45 H J => ?_)
  have J := bJ1 J
  have J : bJx s D A ((h0, .inr (6, [.ref n1, .ref n2, .ref n3, .int 0, .null, .int 0, .null, .null, .null, .null, .null, .null])) :: ([(q45, .inl (ct 0, 60, .inl (fun _ => 0)))] ++ (wX5 ct n3 u3 ++ (wX5 ct n2 u2 ++ (wX5 ct n1 u1 ++ []))))) H locs := J
  refine b_putR (τ := (.array .byte)) C hM J fl_X6_26 rfl (fun _ _ _ h => by cases h; exact ⟨rfl, by decide +kernel⟩) rfl rfl 0 rfl (Nat.le_of_ble_eq_true rfl) dX6_init_47 (fun H locs J => ?_)
  have J : bJx s D A ((h0, .inr (6, [.ref n1, .ref n2, .ref n3, .int 0, .ref q45, .int 0, .null, .null, .null, .null, .null, .null])) :: ([(q45, .inl (ct 0, 60, .inl (fun _ => 0)))] ++ (wX5 ct n3 u3 ++ (wX5 ct n2 u2 ++ (wX5 ct n1 u1 ++ []))))) H locs := J
  refine lv_aload_n C.1 C.2.1 dX6_init_50 rfl (lv_at hl 0 rfl) ?_
  refine lv_iconst (v := 0) C.1 C.2.1 dX6_init_51 (by decide) ?_
  refine b_put C J fl_X6_30 rfl 0 rfl (Nat.le_of_ble_eq_true rfl) dX6_init_52 (fun H locs J => ?_)
  have J : bJx s D A ((h0, .inr (6, [.ref n1, .ref n2, .ref n3, .int 0, .ref q45, .int 0, .null, .null, .null, .null, .null, .null])) :: ([(q45, .inl (ct 0, 60, .inl (fun _ => 0)))] ++ (wX5 ct n3 u3 ++ (wX5 ct n2 u2 ++ (wX5 ct n1 u1 ++ []))))) H locs := J
  refine lv_aload_n C.1 C.2.1 dX6_init_55 rfl (lv_at hl 0 rfl) ?_
  refine lv_iconst (v := 4) C.1 C.2.1 dX6_init_56 (by decide) ?_
  refine b_newqS (N := 4) C J cl_X6_34 (by decide) (by decide) (by decide) (by decide +kernel) (by decide +kernel) dX6_init_57 (fun q57 H J => ?_)
  have J := bJ1 J
  have J : bJx s D A ((h0, .inr (6, [.ref n1, .ref n2, .ref n3, .int 0, .ref q45, .int 0, .null, .null, .null, .null, .null, .null])) :: (q57, .inl (ct 3, 4, .inr (.inr (.inr (.inr (fun _ => none)))))) :: ([(q45, .inl (ct 0, 60, .inl (fun _ => 0)))] ++ (wX5 ct n3 u3 ++ (wX5 ct n2 u2 ++ (wX5 ct n1 u1 ++ []))))) H locs := J
  refine b_putR (τ := (.array (.object "FuelTurns$Sheet"))) C hM J fl_X6_36 rfl (fun _ _ _ h => by cases h; exact ⟨rfl, by decide +kernel⟩) rfl rfl 0 rfl (Nat.le_of_ble_eq_true rfl) dX6_init_60 (fun H locs J => ?_)
  have J : bJx s D A ((h0, .inr (6, [.ref n1, .ref n2, .ref n3, .int 0, .ref q45, .int 0, .ref q57, .null, .null, .null, .null, .null])) :: (q57, .inl (ct 3, 4, .inr (.inr (.inr (.inr (fun _ => none)))))) :: ([(q45, .inl (ct 0, 60, .inl (fun _ => 0)))] ++ (wX5 ct n3 u3 ++ (wX5 ct n2 u2 ++ (wX5 ct n1 u1 ++ []))))) H locs := J
  refine lv_aload_n C.1 C.2.1 dX6_init_63 rfl (lv_at hl 0 rfl) ?_
  refine lv_bipush (v := 7) C.1 C.2.1 dX6_init_64 (by decide) ?_
  refine b_newI (N := 7) C J (by decide) (by decide) (by decide) (by decide +kernel) (by decide +kernel) dX6_init_66 (fun q66 H J => ?_)
  have J := bJ2 J
  have J : bJx s D A ((h0, .inr (6, [.ref n1, .ref n2, .ref n3, .int 0, .ref q45, .int 0, .ref q57, .null, .null, .null, .null, .null])) :: (q57, .inl (ct 3, 4, .inr (.inr (.inr (.inr (fun _ => none)))))) :: ([(q66, .inl (ct 1, 7, .inl (fun _ => 0)))] ++ ([(q45, .inl (ct 0, 60, .inl (fun _ => 0)))] ++ (wX5 ct n3 u3 ++ (wX5 ct n2 u2 ++ (wX5 ct n1 u1 ++ [])))))) H locs := J
  refine b_putR (τ := (.array .int)) C hM J fl_X6_40 rfl (fun _ _ _ h => by cases h; exact ⟨rfl, by decide +kernel⟩) rfl rfl 0 rfl (Nat.le_of_ble_eq_true rfl) dX6_init_68 (fun H locs J => ?_)
  have J : bJx s D A ((h0, .inr (6, [.ref n1, .ref n2, .ref n3, .int 0, .ref q45, .int 0, .ref q57, .ref q66, .null, .null, .null, .null])) :: (q57, .inl (ct 3, 4, .inr (.inr (.inr (.inr (fun _ => none)))))) :: ([(q66, .inl (ct 1, 7, .inl (fun _ => 0)))] ++ ([(q45, .inl (ct 0, 60, .inl (fun _ => 0)))] ++ (wX5 ct n3 u3 ++ (wX5 ct n2 u2 ++ (wX5 ct n1 u1 ++ [])))))) H locs := J
  refine lv_aload_n C.1 C.2.1 dX6_init_71 rfl (lv_at hl 0 rfl) ?_
  refine b_new (t := 1) (fs := [.null, .int 0, .int 0, .int 0, .int 0, .int 0, .int 0, .int 0, .null, .null, .int 0, .int 0, .int 0, .int 0, .int 0, .int 0]) C J rfl ztX1 tyX1_ok cl_X6_44 ys_1 yn_1 bf_1 (by decide +kernel) (by decide +kernel) dX6_init_72 (fun n4 H J => ?_)
  refine lv_dup C.1 C.2.1 dX6_init_75 rfl ?_
  refine b_callN C J (m_1 l) yi_1 C.2.2.2.2.2.2.2.2.2.2.1 ⟨by decide, by decide⟩ hl.1 (Nat.le_of_ble_eq_true rfl) ⟨by decide +kernel, by decide +kernel⟩ dX6_init_76 (fun u4 H locs J => ?_)
  have J := bJ2 J
  have J : bJx s D A ((h0, .inr (6, [.ref n1, .ref n2, .ref n3, .int 0, .ref q45, .int 0, .ref q57, .ref q66, .null, .null, .null, .null])) :: (q57, .inl (ct 3, 4, .inr (.inr (.inr (.inr (fun _ => none)))))) :: (wX1 ct n4 u4 ++ ([(q66, .inl (ct 1, 7, .inl (fun _ => 0)))] ++ ([(q45, .inl (ct 0, 60, .inl (fun _ => 0)))] ++ (wX5 ct n3 u3 ++ (wX5 ct n2 u2 ++ (wX5 ct n1 u1 ++ []))))))) H locs := J
  refine b_putR (τ := (.object "FuelTurns$RuleReader")) C hM J fl_X6_47 rfl (fun _ _ _ h => by cases h; exact ⟨rfl, by decide +kernel⟩) rfl rfl 0 rfl (Nat.le_of_ble_eq_true rfl) dX6_init_79 (fun H locs J => ?_)
  have J : bJx s D A ((h0, .inr (6, [.ref n1, .ref n2, .ref n3, .int 0, .ref q45, .int 0, .ref q57, .ref q66, .ref n4, .null, .null, .null])) :: (q57, .inl (ct 3, 4, .inr (.inr (.inr (.inr (fun _ => none)))))) :: (wX1 ct n4 u4 ++ ([(q66, .inl (ct 1, 7, .inl (fun _ => 0)))] ++ ([(q45, .inl (ct 0, 60, .inl (fun _ => 0)))] ++ (wX5 ct n3 u3 ++ (wX5 ct n2 u2 ++ (wX5 ct n1 u1 ++ []))))))) H locs := J
  refine lv_aload_n C.1 C.2.1 dX6_init_82 rfl (lv_at hl 0 rfl) ?_
  refine b_new (t := 0) (fs := [.null, .null, .int 0, .int 0, .null, .long 0, .int 0, .int 0]) C J rfl ztX0 tyX0_ok cl_X6_51 ys_0 yn_0 bf_0 (by decide +kernel) (by decide +kernel) dX6_init_83 (fun n5 H J => ?_)
  refine lv_dup C.1 C.2.1 dX6_init_86 rfl ?_
  refine b_callN C J (m_0 l) yi_0 C.2.2.2.2.2.2.2.2.2.2.2.1 ⟨by decide, by decide⟩ hl.1 (Nat.le_of_ble_eq_true rfl) ⟨by decide +kernel, by decide +kernel⟩ dX6_init_87 (fun u5 H locs J => ?_)
  have J := bJ2 J
  have J : bJx s D A ((h0, .inr (6, [.ref n1, .ref n2, .ref n3, .int 0, .ref q45, .int 0, .ref q57, .ref q66, .ref n4, .null, .null, .null])) :: (q57, .inl (ct 3, 4, .inr (.inr (.inr (.inr (fun _ => none)))))) :: (wX0 ct n5 u5 ++ (wX1 ct n4 u4 ++ ([(q66, .inl (ct 1, 7, .inl (fun _ => 0)))] ++ ([(q45, .inl (ct 0, 60, .inl (fun _ => 0)))] ++ (wX5 ct n3 u3 ++ (wX5 ct n2 u2 ++ (wX5 ct n1 u1 ++ [])))))))) H locs := J
  refine b_putR (τ := (.object "FuelTurns$Planner")) C hM J fl_X6_54 rfl (fun _ _ _ h => by cases h; exact ⟨rfl, by decide +kernel⟩) rfl rfl 0 rfl (Nat.le_of_ble_eq_true rfl) dX6_init_90 (fun H locs J => ?_)
  have J : bJx s D A ((h0, .inr (6, [.ref n1, .ref n2, .ref n3, .int 0, .ref q45, .int 0, .ref q57, .ref q66, .ref n4, .ref n5, .null, .null])) :: (q57, .inl (ct 3, 4, .inr (.inr (.inr (.inr (fun _ => none)))))) :: (wX0 ct n5 u5 ++ (wX1 ct n4 u4 ++ ([(q66, .inl (ct 1, 7, .inl (fun _ => 0)))] ++ ([(q45, .inl (ct 0, 60, .inl (fun _ => 0)))] ++ (wX5 ct n3 u3 ++ (wX5 ct n2 u2 ++ (wX5 ct n1 u1 ++ [])))))))) H locs := J
  refine lv_aload_n C.1 C.2.1 dX6_init_93 rfl (lv_at hl 0 rfl) ?_
  refine b_new (t := 3) (fs := [.null, .null, .null, .null, .null, .int 0, .int 0, .int 0, .int 0, .int 0, .int 0]) C J rfl ztX3 tyX3_ok cl_X6_58 ys_3 yn_3 bf_3 (by decide +kernel) (by decide +kernel) dX6_init_94 (fun n6 H J => ?_)
  refine lv_dup C.1 C.2.1 dX6_init_97 rfl ?_
  refine b_callN C J (m_3 l) yi_3 C.2.2.2.2.2.2.2.2.2.2.2.2.1 ⟨by decide, by decide⟩ hl.1 (Nat.le_of_ble_eq_true rfl) ⟨by decide +kernel, by decide +kernel⟩ dX6_init_98 (fun u6 H locs J => ?_)
  have J := bJ2 J
  have J : bJx s D A ((h0, .inr (6, [.ref n1, .ref n2, .ref n3, .int 0, .ref q45, .int 0, .ref q57, .ref q66, .ref n4, .ref n5, .null, .null])) :: (q57, .inl (ct 3, 4, .inr (.inr (.inr (.inr (fun _ => none)))))) :: (wX3 ct n6 u6 ++ (wX0 ct n5 u5 ++ (wX1 ct n4 u4 ++ ([(q66, .inl (ct 1, 7, .inl (fun _ => 0)))] ++ ([(q45, .inl (ct 0, 60, .inl (fun _ => 0)))] ++ (wX5 ct n3 u3 ++ (wX5 ct n2 u2 ++ (wX5 ct n1 u1 ++ []))))))))) H locs := J
  refine b_putR (τ := (.object "FuelTurns$Swarm")) C hM J fl_X6_61 rfl (fun _ _ _ h => by cases h; exact ⟨rfl, by decide +kernel⟩) rfl rfl 0 rfl (Nat.le_of_ble_eq_true rfl) dX6_init_101 (fun H locs J => ?_)
  have J : bJx s D A ((h0, .inr (6, [.ref n1, .ref n2, .ref n3, .int 0, .ref q45, .int 0, .ref q57, .ref q66, .ref n4, .ref n5, .ref n6, .null])) :: (q57, .inl (ct 3, 4, .inr (.inr (.inr (.inr (fun _ => none)))))) :: (wX3 ct n6 u6 ++ (wX0 ct n5 u5 ++ (wX1 ct n4 u4 ++ ([(q66, .inl (ct 1, 7, .inl (fun _ => 0)))] ++ ([(q45, .inl (ct 0, 60, .inl (fun _ => 0)))] ++ (wX5 ct n3 u3 ++ (wX5 ct n2 u2 ++ (wX5 ct n1 u1 ++ []))))))))) H locs := J
  refine lv_aload_n C.1 C.2.1 dX6_init_104 rfl (lv_at hl 0 rfl) ?_
  refine lv_bipush (v := 100) C.1 C.2.1 dX6_init_105 (by decide) ?_
  refine b_newI (N := 100) C J (by decide) (by decide) (by decide) (by decide +kernel) (by decide +kernel) dX6_init_107 (fun q107 H J => ?_)
  have J := bJ2 J
  have J : bJx s D A ((h0, .inr (6, [.ref n1, .ref n2, .ref n3, .int 0, .ref q45, .int 0, .ref q57, .ref q66, .ref n4, .ref n5, .ref n6, .null])) :: (q57, .inl (ct 3, 4, .inr (.inr (.inr (.inr (fun _ => none)))))) :: ([(q107, .inl (ct 1, 100, .inl (fun _ => 0)))] ++ (wX3 ct n6 u6 ++ (wX0 ct n5 u5 ++ (wX1 ct n4 u4 ++ ([(q66, .inl (ct 1, 7, .inl (fun _ => 0)))] ++ ([(q45, .inl (ct 0, 60, .inl (fun _ => 0)))] ++ (wX5 ct n3 u3 ++ (wX5 ct n2 u2 ++ (wX5 ct n1 u1 ++ [])))))))))) H locs := J
  refine b_putR (τ := (.array .int)) C hM J fl_X6_65 rfl (fun _ _ _ h => by cases h; exact ⟨rfl, by decide +kernel⟩) rfl rfl 0 rfl (Nat.le_of_ble_eq_true rfl) dX6_init_109 (fun H locs J => ?_)
  have J : bJx s D A ((h0, .inr (6, [.ref n1, .ref n2, .ref n3, .int 0, .ref q45, .int 0, .ref q57, .ref q66, .ref n4, .ref n5, .ref n6, .ref q107])) :: (q57, .inl (ct 3, 4, .inr (.inr (.inr (.inr (fun _ => none)))))) :: ([(q107, .inl (ct 1, 100, .inl (fun _ => 0)))] ++ (wX3 ct n6 u6 ++ (wX0 ct n5 u5 ++ (wX1 ct n4 u4 ++ ([(q66, .inl (ct 1, 7, .inl (fun _ => 0)))] ++ ([(q45, .inl (ct 0, 60, .inl (fun _ => 0)))] ++ (wX5 ct n3 u3 ++ (wX5 ct n2 u2 ++ (wX5 ct n1 u1 ++ [])))))))))) H locs := J
  refine lv_iconst (v := 0) C.1 C.2.1 dX6_init_112 (by decide) ?_
  refine lv_istore_n (lv' := [(1, .int 0), (0, .ref h0)]) C.1 C.2.1 dX6_init_113 rfl hl (by decide) rfl (fun ls hl => ?_)
  refine lv_iload_n C.1 C.2.1 dX6_init_114 rfl (lv_at hl 0 rfl) ?_
  refine lv_iconst (v := 4) C.1 C.2.1 dX6_init_115 (by decide) ?_
  refine lv_icmp_ge (tgt := 138) C.1 C.2.1 dX6_init_116 (by decide) (fun c_ => absurd c_ (by decide)) (fun _ => ?_)
  refine lv_aload_n C.1 C.2.1 dX6_init_119 rfl (lv_at hl 1 rfl) ?_
  refine b_get C J fl_X6_36 0 rfl rfl dX6_init_120 ?_
  refine lv_iload_n C.1 C.2.1 dX6_init_123 rfl (lv_at hl 0 rfl) ?_
  refine b_new (t := 2) (fs := [.int 0, .int 0, .null]) C J rfl ztX2 tyX2_ok cl_X6_34 ys_2 yn_2 bf_2 (by decide +kernel) (by decide +kernel) dX6_init_124 (fun n7 H J => ?_)
  refine lv_dup C.1 C.2.1 dX6_init_127 rfl ?_
  refine b_callN C J (m_2 l) yi_2 C.2.2.2.2.2.2.2.2.2.2.2.2.2 ⟨by decide, by decide⟩ hl.1 (Nat.le_of_ble_eq_true rfl) ⟨by decide +kernel, by decide +kernel⟩ dX6_init_128 (fun u7 H locs J => ?_)
  have J := bJ2 J
  have J : bJx s D A ((h0, .inr (6, [.ref n1, .ref n2, .ref n3, .int 0, .ref q45, .int 0, .ref q57, .ref q66, .ref n4, .ref n5, .ref n6, .ref q107])) :: (q57, .inl (ct 3, 4, .inr (.inr (.inr (.inr (fun _ => none)))))) :: (wX2 ct n7 u7 ++ ([(q107, .inl (ct 1, 100, .inl (fun _ => 0)))] ++ (wX3 ct n6 u6 ++ (wX0 ct n5 u5 ++ (wX1 ct n4 u4 ++ ([(q66, .inl (ct 1, 7, .inl (fun _ => 0)))] ++ ([(q45, .inl (ct 0, 60, .inl (fun _ => 0)))] ++ (wX5 ct n3 u3 ++ (wX5 ct n2 u2 ++ (wX5 ct n1 u1 ++ []))))))))))) H locs := J
  refine b_astS C J 1 2 rfl rfl (by unfold vp_in; decide) dX6_init_131 (fun H locs J => ?_)
  have J : bJx s D A ((h0, .inr (6, [.ref n1, .ref n2, .ref n3, .int 0, .ref q45, .int 0, .ref q57, .ref q66, .ref n4, .ref n5, .ref n6, .ref q107])) :: (q57, .inl (ct 3, 4, .inr (.inr (.inr (.inr (va_up (fun _ => none) 0 (some n7))))))) :: (wX2 ct n7 u7 ++ ([(q107, .inl (ct 1, 100, .inl (fun _ => 0)))] ++ (wX3 ct n6 u6 ++ (wX0 ct n5 u5 ++ (wX1 ct n4 u4 ++ ([(q66, .inl (ct 1, 7, .inl (fun _ => 0)))] ++ ([(q45, .inl (ct 0, 60, .inl (fun _ => 0)))] ++ (wX5 ct n3 u3 ++ (wX5 ct n2 u2 ++ (wX5 ct n1 u1 ++ []))))))))))) H locs := J
  refine lv_iinc (k := 0) (v := 1) (lv' := [(1, .int 1), (0, .ref h0)]) C.1 C.2.1 dX6_init_132 hl rfl (by decide) (by decide) rfl (fun ls hl => ?_)
  refine lv_goto (tgt := 114) C.1 C.2.1 dX6_init_135 (by decide) ?_
  refine lv_iload_n C.1 C.2.1 dX6_init_114 rfl (lv_at hl 0 rfl) ?_
  refine lv_iconst (v := 4) C.1 C.2.1 dX6_init_115 (by decide) ?_
  refine lv_icmp_ge (tgt := 138) C.1 C.2.1 dX6_init_116 (by decide) (fun c_ => absurd c_ (by decide)) (fun _ => ?_)
  refine lv_aload_n C.1 C.2.1 dX6_init_119 rfl (lv_at hl 1 rfl) ?_
  refine b_get C J fl_X6_36 0 rfl rfl dX6_init_120 ?_
  refine lv_iload_n C.1 C.2.1 dX6_init_123 rfl (lv_at hl 0 rfl) ?_
  refine b_new (t := 2) (fs := [.int 0, .int 0, .null]) C J rfl ztX2 tyX2_ok cl_X6_34 ys_2 yn_2 bf_2 (by decide +kernel) (by decide +kernel) dX6_init_124 (fun n8 H J => ?_)
  refine lv_dup C.1 C.2.1 dX6_init_127 rfl ?_
  refine b_callN C J (m_2 l) yi_2 C.2.2.2.2.2.2.2.2.2.2.2.2.2 ⟨by decide, by decide⟩ hl.1 (Nat.le_of_ble_eq_true rfl) ⟨by decide +kernel, by decide +kernel⟩ dX6_init_128 (fun u8 H locs J => ?_)
  have J := bJ2 J
  have J : bJx s D A ((h0, .inr (6, [.ref n1, .ref n2, .ref n3, .int 0, .ref q45, .int 0, .ref q57, .ref q66, .ref n4, .ref n5, .ref n6, .ref q107])) :: (q57, .inl (ct 3, 4, .inr (.inr (.inr (.inr (va_up (fun _ => none) 0 (some n7))))))) :: (wX2 ct n8 u8 ++ (wX2 ct n7 u7 ++ ([(q107, .inl (ct 1, 100, .inl (fun _ => 0)))] ++ (wX3 ct n6 u6 ++ (wX0 ct n5 u5 ++ (wX1 ct n4 u4 ++ ([(q66, .inl (ct 1, 7, .inl (fun _ => 0)))] ++ ([(q45, .inl (ct 0, 60, .inl (fun _ => 0)))] ++ (wX5 ct n3 u3 ++ (wX5 ct n2 u2 ++ (wX5 ct n1 u1 ++ [])))))))))))) H locs := J
  refine b_astS C J 1 2 rfl rfl (by unfold vp_in; decide) dX6_init_131 (fun H locs J => ?_)
  have J : bJx s D A ((h0, .inr (6, [.ref n1, .ref n2, .ref n3, .int 0, .ref q45, .int 0, .ref q57, .ref q66, .ref n4, .ref n5, .ref n6, .ref q107])) :: (q57, .inl (ct 3, 4, .inr (.inr (.inr (.inr (va_up (va_up (fun _ => none) 0 (some n7)) 1 (some n8))))))) :: (wX2 ct n8 u8 ++ (wX2 ct n7 u7 ++ ([(q107, .inl (ct 1, 100, .inl (fun _ => 0)))] ++ (wX3 ct n6 u6 ++ (wX0 ct n5 u5 ++ (wX1 ct n4 u4 ++ ([(q66, .inl (ct 1, 7, .inl (fun _ => 0)))] ++ ([(q45, .inl (ct 0, 60, .inl (fun _ => 0)))] ++ (wX5 ct n3 u3 ++ (wX5 ct n2 u2 ++ (wX5 ct n1 u1 ++ [])))))))))))) H locs := J
  refine lv_iinc (k := 0) (v := 2) (lv' := [(1, .int 2), (0, .ref h0)]) C.1 C.2.1 dX6_init_132 hl rfl (by decide) (by decide) rfl (fun ls hl => ?_)
  refine lv_goto (tgt := 114) C.1 C.2.1 dX6_init_135 (by decide) ?_
  refine lv_iload_n C.1 C.2.1 dX6_init_114 rfl (lv_at hl 0 rfl) ?_
  refine lv_iconst (v := 4) C.1 C.2.1 dX6_init_115 (by decide) ?_
  refine lv_icmp_ge (tgt := 138) C.1 C.2.1 dX6_init_116 (by decide) (fun c_ => absurd c_ (by decide)) (fun _ => ?_)
  refine lv_aload_n C.1 C.2.1 dX6_init_119 rfl (lv_at hl 1 rfl) ?_
  refine b_get C J fl_X6_36 0 rfl rfl dX6_init_120 ?_
  refine lv_iload_n C.1 C.2.1 dX6_init_123 rfl (lv_at hl 0 rfl) ?_
  refine b_new (t := 2) (fs := [.int 0, .int 0, .null]) C J rfl ztX2 tyX2_ok cl_X6_34 ys_2 yn_2 bf_2 (by decide +kernel) (by decide +kernel) dX6_init_124 (fun n9 H J => ?_)
  refine lv_dup C.1 C.2.1 dX6_init_127 rfl ?_
  refine b_callN C J (m_2 l) yi_2 C.2.2.2.2.2.2.2.2.2.2.2.2.2 ⟨by decide, by decide⟩ hl.1 (Nat.le_of_ble_eq_true rfl) ⟨by decide +kernel, by decide +kernel⟩ dX6_init_128 (fun u9 H locs J => ?_)
  have J := bJ2 J
  have J : bJx s D A ((h0, .inr (6, [.ref n1, .ref n2, .ref n3, .int 0, .ref q45, .int 0, .ref q57, .ref q66, .ref n4, .ref n5, .ref n6, .ref q107])) :: (q57, .inl (ct 3, 4, .inr (.inr (.inr (.inr (va_up (va_up (fun _ => none) 0 (some n7)) 1 (some n8))))))) :: (wX2 ct n9 u9 ++ (wX2 ct n8 u8 ++ (wX2 ct n7 u7 ++ ([(q107, .inl (ct 1, 100, .inl (fun _ => 0)))] ++ (wX3 ct n6 u6 ++ (wX0 ct n5 u5 ++ (wX1 ct n4 u4 ++ ([(q66, .inl (ct 1, 7, .inl (fun _ => 0)))] ++ ([(q45, .inl (ct 0, 60, .inl (fun _ => 0)))] ++ (wX5 ct n3 u3 ++ (wX5 ct n2 u2 ++ (wX5 ct n1 u1 ++ []))))))))))))) H locs := J
  refine b_astS C J 1 2 rfl rfl (by unfold vp_in; decide) dX6_init_131 (fun H locs J => ?_)
  have J : bJx s D A ((h0, .inr (6, [.ref n1, .ref n2, .ref n3, .int 0, .ref q45, .int 0, .ref q57, .ref q66, .ref n4, .ref n5, .ref n6, .ref q107])) :: (q57, .inl (ct 3, 4, .inr (.inr (.inr (.inr (va_up (va_up (va_up (fun _ => none) 0 (some n7)) 1 (some n8)) 2 (some n9))))))) :: (wX2 ct n9 u9 ++ (wX2 ct n8 u8 ++ (wX2 ct n7 u7 ++ ([(q107, .inl (ct 1, 100, .inl (fun _ => 0)))] ++ (wX3 ct n6 u6 ++ (wX0 ct n5 u5 ++ (wX1 ct n4 u4 ++ ([(q66, .inl (ct 1, 7, .inl (fun _ => 0)))] ++ ([(q45, .inl (ct 0, 60, .inl (fun _ => 0)))] ++ (wX5 ct n3 u3 ++ (wX5 ct n2 u2 ++ (wX5 ct n1 u1 ++ []))))))))))))) H locs := J
  refine lv_iinc (k := 0) (v := 3) (lv' := [(1, .int 3), (0, .ref h0)]) C.1 C.2.1 dX6_init_132 hl rfl (by decide) (by decide) rfl (fun ls hl => ?_)
  refine lv_goto (tgt := 114) C.1 C.2.1 dX6_init_135 (by decide) ?_
  refine lv_iload_n C.1 C.2.1 dX6_init_114 rfl (lv_at hl 0 rfl) ?_
  refine lv_iconst (v := 4) C.1 C.2.1 dX6_init_115 (by decide) ?_
  refine lv_icmp_ge (tgt := 138) C.1 C.2.1 dX6_init_116 (by decide) (fun c_ => absurd c_ (by decide)) (fun _ => ?_)
  refine lv_aload_n C.1 C.2.1 dX6_init_119 rfl (lv_at hl 1 rfl) ?_
  refine b_get C J fl_X6_36 0 rfl rfl dX6_init_120 ?_
  refine lv_iload_n C.1 C.2.1 dX6_init_123 rfl (lv_at hl 0 rfl) ?_
  refine b_new (t := 2) (fs := [.int 0, .int 0, .null]) C J rfl ztX2 tyX2_ok cl_X6_34 ys_2 yn_2 bf_2 (by decide +kernel) (by decide +kernel) dX6_init_124 (fun n10 H J => ?_)
  refine lv_dup C.1 C.2.1 dX6_init_127 rfl ?_
  refine b_callN C J (m_2 l) yi_2 C.2.2.2.2.2.2.2.2.2.2.2.2.2 ⟨by decide, by decide⟩ hl.1 (Nat.le_of_ble_eq_true rfl) ⟨by decide +kernel, by decide +kernel⟩ dX6_init_128 (fun u10 H locs J => ?_)
  have J := bJ2 J
  have J : bJx s D A ((h0, .inr (6, [.ref n1, .ref n2, .ref n3, .int 0, .ref q45, .int 0, .ref q57, .ref q66, .ref n4, .ref n5, .ref n6, .ref q107])) :: (q57, .inl (ct 3, 4, .inr (.inr (.inr (.inr (va_up (va_up (va_up (fun _ => none) 0 (some n7)) 1 (some n8)) 2 (some n9))))))) :: (wX2 ct n10 u10 ++ (wX2 ct n9 u9 ++ (wX2 ct n8 u8 ++ (wX2 ct n7 u7 ++ ([(q107, .inl (ct 1, 100, .inl (fun _ => 0)))] ++ (wX3 ct n6 u6 ++ (wX0 ct n5 u5 ++ (wX1 ct n4 u4 ++ ([(q66, .inl (ct 1, 7, .inl (fun _ => 0)))] ++ ([(q45, .inl (ct 0, 60, .inl (fun _ => 0)))] ++ (wX5 ct n3 u3 ++ (wX5 ct n2 u2 ++ (wX5 ct n1 u1 ++ [])))))))))))))) H locs := J
  refine b_astS C J 1 2 rfl rfl (by unfold vp_in; decide) dX6_init_131 (fun H locs J => ?_)
  have J : bJx s D A ((h0, .inr (6, [.ref n1, .ref n2, .ref n3, .int 0, .ref q45, .int 0, .ref q57, .ref q66, .ref n4, .ref n5, .ref n6, .ref q107])) :: (q57, .inl (ct 3, 4, .inr (.inr (.inr (.inr (va_up (va_up (va_up (va_up (fun _ => none) 0 (some n7)) 1 (some n8)) 2 (some n9)) 3 (some n10))))))) :: (wX2 ct n10 u10 ++ (wX2 ct n9 u9 ++ (wX2 ct n8 u8 ++ (wX2 ct n7 u7 ++ ([(q107, .inl (ct 1, 100, .inl (fun _ => 0)))] ++ (wX3 ct n6 u6 ++ (wX0 ct n5 u5 ++ (wX1 ct n4 u4 ++ ([(q66, .inl (ct 1, 7, .inl (fun _ => 0)))] ++ ([(q45, .inl (ct 0, 60, .inl (fun _ => 0)))] ++ (wX5 ct n3 u3 ++ (wX5 ct n2 u2 ++ (wX5 ct n1 u1 ++ [])))))))))))))) H locs := J
  refine lv_iinc (k := 0) (v := 4) (lv' := [(1, .int 4), (0, .ref h0)]) C.1 C.2.1 dX6_init_132 hl rfl (by decide) (by decide) rfl (fun ls hl => ?_)
  refine lv_goto (tgt := 114) C.1 C.2.1 dX6_init_135 (by decide) ?_
  refine lv_iload_n C.1 C.2.1 dX6_init_114 rfl (lv_at hl 0 rfl) ?_
  refine lv_iconst (v := 4) C.1 C.2.1 dX6_init_115 (by decide) ?_
  refine lv_icmp_ge (tgt := 138) C.1 C.2.1 dX6_init_116 (by decide) (fun _ => ?_) (fun c_ => absurd (by decide) c_)
  exact b_ret (fun k => [q57, n10, (u10 0), n9, (u9 0), n8, (u8 0), n7, (u7 0), q107, n6, (u6 0), (u6 1), (u6 2), (u6 3), (u6 4), n5, (u5 0), (u5 1), (u5 2), n4, (u4 0), (u4 1), (u4 2), q66, q45, n3, (u3 0), (u3 1), (u3 2), (u3 3), (u3 4), (u3 5), (u3 6), (u3 7), (u3 8), (u3 9), (u3 10), (u3 11), (u3 12), (u3 13), (u3 14), n2, (u2 0), (u2 1), (u2 2), (u2 3), (u2 4), (u2 5), (u2 6), (u2 7), (u2 8), (u2 9), (u2 10), (u2 11), (u2 12), (u2 13), (u2 14), n1, (u1 0), (u1 1), (u1 2), (u1 3), (u1 4), (u1 5), (u1 6), (u1 7), (u1 8), (u1 9), (u1 10), (u1 11), (u1 12), (u1 13), (u1 14)].getD k 0) C hM (by decide +kernel) (by decide +kernel) J dX6_init_138
