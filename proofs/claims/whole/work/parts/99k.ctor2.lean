def wX4 (ct : Nat → Nat) (h0 : Nat) (a : Nat → Nat) : va_W := [(h0, .inr (4, [.int 0, .int 0, .int 0, .int 0, .int 0, .int 0]))]
theorem bf_4 : ∀ j, j < 6 → defaultValue (tyX4 j) = vp_V [.int 0, .int 0, .int 0, .int 0, .int 0, .int 0] j := by
  intro j hj
  match j, hj with
  | 0, _ => rfl
  | 1, _ => rfl
  | 2, _ => rfl
  | 3, _ => rfl
  | 4, _ => rfl
  | 5, _ => rfl
  | j + 6, hj => exact absurd hj (by omega)
set_option maxHeartbeats 4000000 in
set_option maxRecDepth 100000 in
theorem m_4 (l : Launch) : bMet l yX4_init cX4_init 1 1 0 0 4 [.int 0, .int 0, .int 0, .int 0, .int 0, .int 0] wX4 := by
  refine bMet.of rfl rfl (by decide) ?_
  intro p e s m args below meth c D ct A H ls h0 C hM hl J
  generalize hlo : ([] : List Loc) = locs at J ⊢
  refine lv_aload_n C.1 C.2.1 dX4_init_0 rfl (lv_at hl 0 rfl) ?_
  refine b_obj C yo_4 hl.1 ⟨by decide, by decide⟩ dX4_init_1 ?_
  refine lv_aload_n C.1 C.2.1 dX4_init_4 rfl (lv_at hl 0 rfl) ?_
  refine lv_iconst (v := 0) C.1 C.2.1 dX4_init_5 (by decide) ?_
  refine b_put C J fl_X4_11 rfl 0 rfl (Nat.le_of_ble_eq_true rfl) dX4_init_6 (fun H locs J => ?_)
  have J : bJx s D A [(h0, .inr (4, [.int 0, .int 0, .int 0, .int 0, .int 0, .int 0]))] H locs := J
  refine lv_aload_n C.1 C.2.1 dX4_init_9 rfl (lv_at hl 0 rfl) ?_
  refine lv_iconst (v := 0) C.1 C.2.1 dX4_init_10 (by decide) ?_
  refine b_put C J fl_X4_15 rfl 0 rfl (Nat.le_of_ble_eq_true rfl) dX4_init_11 (fun H locs J => ?_)
  have J : bJx s D A [(h0, .inr (4, [.int 0, .int 0, .int 0, .int 0, .int 0, .int 0]))] H locs := J
  refine lv_aload_n C.1 C.2.1 dX4_init_14 rfl (lv_at hl 0 rfl) ?_
  refine lv_iconst (v := 0) C.1 C.2.1 dX4_init_15 (by decide) ?_
  refine b_put C J fl_X4_18 rfl 0 rfl (Nat.le_of_ble_eq_true rfl) dX4_init_16 (fun H locs J => ?_)
  have J : bJx s D A [(h0, .inr (4, [.int 0, .int 0, .int 0, .int 0, .int 0, .int 0]))] H locs := J
  refine lv_aload_n C.1 C.2.1 dX4_init_19 rfl (lv_at hl 0 rfl) ?_
  refine lv_iconst (v := 0) C.1 C.2.1 dX4_init_20 (by decide) ?_
  refine b_put C J fl_X4_21 rfl 0 rfl (Nat.le_of_ble_eq_true rfl) dX4_init_21 (fun H locs J => ?_)
  have J : bJx s D A [(h0, .inr (4, [.int 0, .int 0, .int 0, .int 0, .int 0, .int 0]))] H locs := J
  refine lv_aload_n C.1 C.2.1 dX4_init_24 rfl (lv_at hl 0 rfl) ?_
  refine lv_iconst (v := 0) C.1 C.2.1 dX4_init_25 (by decide) ?_
  refine b_put C J fl_X4_24 rfl 0 rfl (Nat.le_of_ble_eq_true rfl) dX4_init_26 (fun H locs J => ?_)
  have J : bJx s D A [(h0, .inr (4, [.int 0, .int 0, .int 0, .int 0, .int 0, .int 0]))] H locs := J
  refine lv_aload_n C.1 C.2.1 dX4_init_29 rfl (lv_at hl 0 rfl) ?_
  refine lv_iconst (v := 0) C.1 C.2.1 dX4_init_30 (by decide) ?_
  refine b_put C J fl_X4_27 rfl 0 rfl (Nat.le_of_ble_eq_true rfl) dX4_init_31 (fun H locs J => ?_)
  have J : bJx s D A [(h0, .inr (4, [.int 0, .int 0, .int 0, .int 0, .int 0, .int 0]))] H locs := J
  exact b_ret (fun k => [].getD k 0) C hM (Nat.le_of_ble_eq_true rfl) (Nat.le_of_ble_eq_true rfl) J dX4_init_34
def wX2 (ct : Nat → Nat) (h0 : Nat) (a : Nat → Nat) : va_W := [(h0, .inr (2, [.int 0, .int 0, .ref (a 0)])), ((a 0), .inl (ct 2, 40, .inr (.inl (fun _ => 0))))]
theorem bf_2 : ∀ j, j < 3 → defaultValue (tyX2 j) = vp_V [.int 0, .int 0, .null] j := by
  intro j hj
  match j, hj with
  | 0, _ => rfl
  | 1, _ => rfl
  | 2, _ => rfl
  | j + 3, hj => exact absurd hj (by omega)
set_option maxHeartbeats 4000000 in
set_option maxRecDepth 100000 in
theorem m_2 (l : Launch) : bMet l yX2_init cX2_init 1 1 1 40 2 [.int 0, .int 0, .null] wX2 := by
  refine bMet.of rfl rfl (by decide) ?_
  intro p e s m args below meth c D ct A H ls h0 C hM hl J
  generalize hlo : ([] : List Loc) = locs at J ⊢
  refine lv_aload_n C.1 C.2.1 dX2_init_0 rfl (lv_at hl 0 rfl) ?_
  refine b_obj C yo_2 hl.1 ⟨by decide, by decide⟩ dX2_init_1 ?_
  refine lv_aload_n C.1 C.2.1 dX2_init_4 rfl (lv_at hl 0 rfl) ?_
  refine lv_iconst (v := 0) C.1 C.2.1 dX2_init_5 (by decide) ?_
  refine b_put C J fl_X2_9 rfl 0 rfl (Nat.le_of_ble_eq_true rfl) dX2_init_6 (fun H locs J => ?_)
  have J : bJx s D A [(h0, .inr (2, [.int 0, .int 0, .null]))] H locs := J
  refine lv_aload_n C.1 C.2.1 dX2_init_9 rfl (lv_at hl 0 rfl) ?_
  refine lv_iconst (v := 0) C.1 C.2.1 dX2_init_10 (by decide) ?_
  refine b_put C J fl_X2_15 rfl 0 rfl (Nat.le_of_ble_eq_true rfl) dX2_init_11 (fun H locs J => ?_)
  have J : bJx s D A [(h0, .inr (2, [.int 0, .int 0, .null]))] H locs := J
  refine lv_aload_n C.1 C.2.1 dX2_init_14 rfl (lv_at hl 0 rfl) ?_
  refine lv_bipush (v := 40) C.1 C.2.1 dX2_init_15 (by decide) ?_
  refine b_newJ (N := 40) C J (by decide) (by decide) (by decide) (Nat.le_of_ble_eq_true rfl) (Nat.le_of_ble_eq_true rfl) dX2_init_17 (fun q17 H J => ?_)
  refine b_putR (τ := (.array .long)) C hM J fl_X2_18 rfl (fun _ _ _ h => by cases h; exact ⟨rfl, by decide +kernel⟩) rfl rfl 0 rfl (Nat.le_of_ble_eq_true rfl) dX2_init_19 (fun H locs J => ?_)
  have J : bJx s D A ([(h0, .inr (2, [.int 0, .int 0, .ref q17]))] ++ [(q17, .inl (ct 2, 40, .inr (.inl (fun _ => 0))))]) H locs := J
  exact b_ret (fun k => [q17].getD k 0) C hM (Nat.le_of_ble_eq_true rfl) (Nat.le_of_ble_eq_true rfl) J dX2_init_22
def wX0 (ct : Nat → Nat) (h0 : Nat) (a : Nat → Nat) : va_W := [(h0, .inr (0, [.ref (a 0), .ref (a 1), .int 0, .int 0, .ref (a 2), .long 0, .int 0, .int 0])), ((a 0), .inl (ct 2, 200, .inr (.inl (fun _ => 0)))), ((a 1), .inl (ct 2, 12200, .inr (.inl (fun _ => 0)))), ((a 2), .inl (ct 1, 8, .inl (fun _ => 0)))]
theorem bf_0 : ∀ j, j < 8 → defaultValue (tyX0 j) = vp_V [.null, .null, .int 0, .int 0, .null, .long 0, .int 0, .int 0] j := by
  intro j hj
  match j, hj with
  | 0, _ => rfl
  | 1, _ => rfl
  | 2, _ => rfl
  | 3, _ => rfl
  | 4, _ => rfl
  | 5, _ => rfl
  | 6, _ => rfl
  | 7, _ => rfl
  | j + 8, hj => exact absurd hj (by omega)
set_option maxHeartbeats 4000000 in
set_option maxRecDepth 100000 in
theorem m_0 (l : Launch) : bMet l yX0_init cX0_init 1 1 3 12408 0 [.null, .null, .int 0, .int 0, .null, .long 0, .int 0, .int 0] wX0 := by
  refine bMet.of rfl rfl (by decide) ?_
  intro p e s m args below meth c D ct A H ls h0 C hM hl J
  generalize hlo : ([] : List Loc) = locs at J ⊢
  refine lv_aload_n C.1 C.2.1 dX0_init_0 rfl (lv_at hl 0 rfl) ?_
  refine b_obj C yo_0 hl.1 ⟨by decide, by decide⟩ dX0_init_1 ?_
  refine lv_aload_n C.1 C.2.1 dX0_init_4 rfl (lv_at hl 0 rfl) ?_
  refine lv_sipush (v := 200) C.1 C.2.1 dX0_init_5 (by decide) ?_
  refine b_newJ (N := 200) C J (by decide) (by decide) (by decide) (Nat.le_of_ble_eq_true rfl) (Nat.le_of_ble_eq_true rfl) dX0_init_8 (fun q8 H J => ?_)
  refine b_putR (τ := (.array .long)) C hM J fl_X0_9 rfl (fun _ _ _ h => by cases h; exact ⟨rfl, by decide +kernel⟩) rfl rfl 0 rfl (Nat.le_of_ble_eq_true rfl) dX0_init_10 (fun H locs J => ?_)
  have J : bJx s D A ([(h0, .inr (0, [.ref q8, .null, .int 0, .int 0, .null, .long 0, .int 0, .int 0]))] ++ [(q8, .inl (ct 2, 200, .inr (.inl (fun _ => 0))))]) H locs := J
  refine lv_aload_n C.1 C.2.1 dX0_init_13 rfl (lv_at hl 0 rfl) ?_
  refine lv_sipush (v := 12200) C.1 C.2.1 dX0_init_14 (by decide) ?_
  refine b_newJ (N := 12200) C J (by decide) (by decide) (by decide) (Nat.le_of_ble_eq_true rfl) (Nat.le_of_ble_eq_true rfl) dX0_init_17 (fun q17 H J => ?_)
  refine b_putR (τ := (.array .long)) C hM J fl_X0_15 rfl (fun _ _ _ h => by cases h; exact ⟨rfl, by decide +kernel⟩) rfl rfl 0 rfl (Nat.le_of_ble_eq_true rfl) dX0_init_19 (fun H locs J => ?_)
  have J : bJx s D A (([(h0, .inr (0, [.ref q8, .ref q17, .int 0, .int 0, .null, .long 0, .int 0, .int 0]))] ++ [(q8, .inl (ct 2, 200, .inr (.inl (fun _ => 0))))]) ++ [(q17, .inl (ct 2, 12200, .inr (.inl (fun _ => 0))))]) H locs := J
  refine lv_aload_n C.1 C.2.1 dX0_init_22 rfl (lv_at hl 0 rfl) ?_
  refine lv_iconst (v := 0) C.1 C.2.1 dX0_init_23 (by decide) ?_
  refine b_put C J fl_X0_18 rfl 0 rfl (Nat.le_of_ble_eq_true rfl) dX0_init_24 (fun H locs J => ?_)
  have J : bJx s D A (([(h0, .inr (0, [.ref q8, .ref q17, .int 0, .int 0, .null, .long 0, .int 0, .int 0]))] ++ [(q8, .inl (ct 2, 200, .inr (.inl (fun _ => 0))))]) ++ [(q17, .inl (ct 2, 12200, .inr (.inl (fun _ => 0))))]) H locs := J
  refine lv_aload_n C.1 C.2.1 dX0_init_27 rfl (lv_at hl 0 rfl) ?_
  refine lv_iconst (v := 0) C.1 C.2.1 dX0_init_28 (by decide) ?_
  refine b_put C J fl_X0_22 rfl 0 rfl (Nat.le_of_ble_eq_true rfl) dX0_init_29 (fun H locs J => ?_)
  have J : bJx s D A (([(h0, .inr (0, [.ref q8, .ref q17, .int 0, .int 0, .null, .long 0, .int 0, .int 0]))] ++ [(q8, .inl (ct 2, 200, .inr (.inl (fun _ => 0))))]) ++ [(q17, .inl (ct 2, 12200, .inr (.inl (fun _ => 0))))]) H locs := J
  refine lv_aload_n C.1 C.2.1 dX0_init_32 rfl (lv_at hl 0 rfl) ?_
  refine lv_bipush (v := 8) C.1 C.2.1 dX0_init_33 (by decide) ?_
  refine b_newI (N := 8) C J (by decide) (by decide) (by decide) (Nat.le_of_ble_eq_true rfl) (Nat.le_of_ble_eq_true rfl) dX0_init_35 (fun q35 H J => ?_)
  refine b_putR (τ := (.array .int)) C hM J fl_X0_25 rfl (fun _ _ _ h => by cases h; exact ⟨rfl, by decide +kernel⟩) rfl rfl 0 rfl (Nat.le_of_ble_eq_true rfl) dX0_init_37 (fun H locs J => ?_)
  have J : bJx s D A ((([(h0, .inr (0, [.ref q8, .ref q17, .int 0, .int 0, .ref q35, .long 0, .int 0, .int 0]))] ++ [(q8, .inl (ct 2, 200, .inr (.inl (fun _ => 0))))]) ++ [(q17, .inl (ct 2, 12200, .inr (.inl (fun _ => 0))))]) ++ [(q35, .inl (ct 1, 8, .inl (fun _ => 0)))]) H locs := J
  refine lv_aload_n C.1 C.2.1 dX0_init_40 rfl (lv_at hl 0 rfl) ?_
  refine lv_lconst (v := 0) C.1 C.2.1 dX0_init_41 (by decide) ?_
  refine b_putJ C J fl_X0_29 rfl 0 rfl (Nat.le_of_ble_eq_true rfl) dX0_init_42 (fun H locs J => ?_)
  have J : bJx s D A ((([(h0, .inr (0, [.ref q8, .ref q17, .int 0, .int 0, .ref q35, .long 0, .int 0, .int 0]))] ++ [(q8, .inl (ct 2, 200, .inr (.inl (fun _ => 0))))]) ++ [(q17, .inl (ct 2, 12200, .inr (.inl (fun _ => 0))))]) ++ [(q35, .inl (ct 1, 8, .inl (fun _ => 0)))]) H locs := J
  refine lv_aload_n C.1 C.2.1 dX0_init_45 rfl (lv_at hl 0 rfl) ?_
  refine lv_iconst (v := 0) C.1 C.2.1 dX0_init_46 (by decide) ?_
  refine b_put C J fl_X0_33 rfl 0 rfl (Nat.le_of_ble_eq_true rfl) dX0_init_47 (fun H locs J => ?_)
  have J : bJx s D A ((([(h0, .inr (0, [.ref q8, .ref q17, .int 0, .int 0, .ref q35, .long 0, .int 0, .int 0]))] ++ [(q8, .inl (ct 2, 200, .inr (.inl (fun _ => 0))))]) ++ [(q17, .inl (ct 2, 12200, .inr (.inl (fun _ => 0))))]) ++ [(q35, .inl (ct 1, 8, .inl (fun _ => 0)))]) H locs := J
  refine lv_aload_n C.1 C.2.1 dX0_init_50 rfl (lv_at hl 0 rfl) ?_
  refine lv_iconst (v := 0) C.1 C.2.1 dX0_init_51 (by decide) ?_
  refine b_put C J fl_X0_36 rfl 0 rfl (Nat.le_of_ble_eq_true rfl) dX0_init_52 (fun H locs J => ?_)
  have J : bJx s D A ((([(h0, .inr (0, [.ref q8, .ref q17, .int 0, .int 0, .ref q35, .long 0, .int 0, .int 0]))] ++ [(q8, .inl (ct 2, 200, .inr (.inl (fun _ => 0))))]) ++ [(q17, .inl (ct 2, 12200, .inr (.inl (fun _ => 0))))]) ++ [(q35, .inl (ct 1, 8, .inl (fun _ => 0)))]) H locs := J
  exact b_ret (fun k => [q8, q17, q35].getD k 0) C hM (Nat.le_of_ble_eq_true rfl) (Nat.le_of_ble_eq_true rfl) J dX0_init_55
def wX1 (ct : Nat → Nat) (h0 : Nat) (a : Nat → Nat) : va_W := [(h0, .inr (1, [.ref (a 0), .int (-1), .int 0, .int 1, .int 0, .int 0, .int 0, .int 1, .ref (a 1), .ref (a 2), .int 0, .int 0, .int 61, .int 1, .int 0, .int 0])), ((a 0), .inl (ct 1, 6, .inl (fun _ => 0))), ((a 1), .inl (ct 1, 5, .inl (fun _ => 0))), ((a 2), .inl (ct 1, 5, .inl (fun _ => 0)))]
theorem bf_1 : ∀ j, j < 16 → defaultValue (tyX1 j) = vp_V [.null, .int 0, .int 0, .int 0, .int 0, .int 0, .int 0, .int 0, .null, .null, .int 0, .int 0, .int 0, .int 0, .int 0, .int 0] j := by
  intro j hj
  match j, hj with
  | 0, _ => rfl
  | 1, _ => rfl
  | 2, _ => rfl
  | 3, _ => rfl
  | 4, _ => rfl
  | 5, _ => rfl
  | 6, _ => rfl
  | 7, _ => rfl
  | 8, _ => rfl
  | 9, _ => rfl
  | 10, _ => rfl
  | 11, _ => rfl
  | 12, _ => rfl
  | 13, _ => rfl
  | 14, _ => rfl
  | 15, _ => rfl
  | j + 16, hj => exact absurd hj (by omega)
set_option maxHeartbeats 4000000 in
set_option maxRecDepth 100000 in
theorem m_1 (l : Launch) : bMet l yX1_init cX1_init 1 1 3 16 1 [.null, .int 0, .int 0, .int 0, .int 0, .int 0, .int 0, .int 0, .null, .null, .int 0, .int 0, .int 0, .int 0, .int 0, .int 0] wX1 := by
  refine bMet.of rfl rfl (by decide) ?_
  intro p e s m args below meth c D ct A H ls h0 C hM hl J
  generalize hlo : ([] : List Loc) = locs at J ⊢
  refine lv_aload_n C.1 C.2.1 dX1_init_0 rfl (lv_at hl 0 rfl) ?_
  refine b_obj C yo_1 hl.1 ⟨by decide, by decide⟩ dX1_init_1 ?_
  refine lv_aload_n C.1 C.2.1 dX1_init_4 rfl (lv_at hl 0 rfl) ?_
  refine lv_bipush (v := 6) C.1 C.2.1 dX1_init_5 (by decide) ?_
  refine b_newI (N := 6) C J (by decide) (by decide) (by decide) (Nat.le_of_ble_eq_true rfl) (Nat.le_of_ble_eq_true rfl) dX1_init_7 (fun q7 H J => ?_)
  refine b_putR (τ := (.array .int)) C hM J fl_X1_11 rfl (fun _ _ _ h => by cases h; exact ⟨rfl, by decide +kernel⟩) rfl rfl 0 rfl (Nat.le_of_ble_eq_true rfl) dX1_init_9 (fun H locs J => ?_)
  have J : bJx s D A ([(h0, .inr (1, [.ref q7, .int 0, .int 0, .int 0, .int 0, .int 0, .int 0, .int 0, .null, .null, .int 0, .int 0, .int 0, .int 0, .int 0, .int 0]))] ++ [(q7, .inl (ct 1, 6, .inl (fun _ => 0)))]) H locs := J
  refine lv_aload_n C.1 C.2.1 dX1_init_12 rfl (lv_at hl 0 rfl) ?_
  refine lv_iconst (v := -1) C.1 C.2.1 dX1_init_13 (by decide) ?_
  refine b_put C J fl_X1_15 rfl 0 rfl (Nat.le_of_ble_eq_true rfl) dX1_init_14 (fun H locs J => ?_)
  have J : bJx s D A ([(h0, .inr (1, [.ref q7, .int (-1), .int 0, .int 0, .int 0, .int 0, .int 0, .int 0, .null, .null, .int 0, .int 0, .int 0, .int 0, .int 0, .int 0]))] ++ [(q7, .inl (ct 1, 6, .inl (fun _ => 0)))]) H locs := J
  refine lv_aload_n C.1 C.2.1 dX1_init_17 rfl (lv_at hl 0 rfl) ?_
  refine lv_iconst (v := 0) C.1 C.2.1 dX1_init_18 (by decide) ?_
  refine b_put C J fl_X1_19 rfl 0 rfl (Nat.le_of_ble_eq_true rfl) dX1_init_19 (fun H locs J => ?_)
  have J : bJx s D A ([(h0, .inr (1, [.ref q7, .int (-1), .int 0, .int 0, .int 0, .int 0, .int 0, .int 0, .null, .null, .int 0, .int 0, .int 0, .int 0, .int 0, .int 0]))] ++ [(q7, .inl (ct 1, 6, .inl (fun _ => 0)))]) H locs := J
  refine lv_aload_n C.1 C.2.1 dX1_init_22 rfl (lv_at hl 0 rfl) ?_
  refine lv_iconst (v := 1) C.1 C.2.1 dX1_init_23 (by decide) ?_
  refine b_putZ C J fl_X1_22 rfl rfl rfl 0 rfl (Nat.le_of_ble_eq_true rfl) dX1_init_24 (fun H locs J => ?_)
  have J : bJx s D A ([(h0, .inr (1, [.ref q7, .int (-1), .int 0, .int 1, .int 0, .int 0, .int 0, .int 0, .null, .null, .int 0, .int 0, .int 0, .int 0, .int 0, .int 0]))] ++ [(q7, .inl (ct 1, 6, .inl (fun _ => 0)))]) H locs := J
  refine lv_aload_n C.1 C.2.1 dX1_init_27 rfl (lv_at hl 0 rfl) ?_
  refine lv_iconst (v := 0) C.1 C.2.1 dX1_init_28 (by decide) ?_
  refine b_put C J fl_X1_26 rfl 0 rfl (Nat.le_of_ble_eq_true rfl) dX1_init_29 (fun H locs J => ?_)
  have J : bJx s D A ([(h0, .inr (1, [.ref q7, .int (-1), .int 0, .int 1, .int 0, .int 0, .int 0, .int 0, .null, .null, .int 0, .int 0, .int 0, .int 0, .int 0, .int 0]))] ++ [(q7, .inl (ct 1, 6, .inl (fun _ => 0)))]) H locs := J
  refine lv_aload_n C.1 C.2.1 dX1_init_32 rfl (lv_at hl 0 rfl) ?_
  refine lv_iconst (v := 0) C.1 C.2.1 dX1_init_33 (by decide) ?_
  refine b_put C J fl_X1_29 rfl 0 rfl (Nat.le_of_ble_eq_true rfl) dX1_init_34 (fun H locs J => ?_)
  have J : bJx s D A ([(h0, .inr (1, [.ref q7, .int (-1), .int 0, .int 1, .int 0, .int 0, .int 0, .int 0, .null, .null, .int 0, .int 0, .int 0, .int 0, .int 0, .int 0]))] ++ [(q7, .inl (ct 1, 6, .inl (fun _ => 0)))]) H locs := J
  refine lv_aload_n C.1 C.2.1 dX1_init_37 rfl (lv_at hl 0 rfl) ?_
  refine lv_iconst (v := 0) C.1 C.2.1 dX1_init_38 (by decide) ?_
  refine b_put C J fl_X1_32 rfl 0 rfl (Nat.le_of_ble_eq_true rfl) dX1_init_39 (fun H locs J => ?_)
  have J : bJx s D A ([(h0, .inr (1, [.ref q7, .int (-1), .int 0, .int 1, .int 0, .int 0, .int 0, .int 0, .null, .null, .int 0, .int 0, .int 0, .int 0, .int 0, .int 0]))] ++ [(q7, .inl (ct 1, 6, .inl (fun _ => 0)))]) H locs := J
  refine lv_aload_n C.1 C.2.1 dX1_init_42 rfl (lv_at hl 0 rfl) ?_
  refine lv_iconst (v := 1) C.1 C.2.1 dX1_init_43 (by decide) ?_
  refine b_put C J fl_X1_35 rfl 0 rfl (Nat.le_of_ble_eq_true rfl) dX1_init_44 (fun H locs J => ?_)
  have J : bJx s D A ([(h0, .inr (1, [.ref q7, .int (-1), .int 0, .int 1, .int 0, .int 0, .int 0, .int 1, .null, .null, .int 0, .int 0, .int 0, .int 0, .int 0, .int 0]))] ++ [(q7, .inl (ct 1, 6, .inl (fun _ => 0)))]) H locs := J
  refine lv_aload_n C.1 C.2.1 dX1_init_47 rfl (lv_at hl 0 rfl) ?_
  refine lv_iconst (v := 5) C.1 C.2.1 dX1_init_48 (by decide) ?_
  refine b_newI (N := 5) C J (by decide) (by decide) (by decide) (Nat.le_of_ble_eq_true rfl) (Nat.le_of_ble_eq_true rfl) dX1_init_49 (fun q49 H J => ?_)
  refine b_putR (τ := (.array .int)) C hM J fl_X1_38 rfl (fun _ _ _ h => by cases h; exact ⟨rfl, by decide +kernel⟩) rfl rfl 0 rfl (Nat.le_of_ble_eq_true rfl) dX1_init_51 (fun H locs J => ?_)
  have J : bJx s D A (([(h0, .inr (1, [.ref q7, .int (-1), .int 0, .int 1, .int 0, .int 0, .int 0, .int 1, .ref q49, .null, .int 0, .int 0, .int 0, .int 0, .int 0, .int 0]))] ++ [(q7, .inl (ct 1, 6, .inl (fun _ => 0)))]) ++ [(q49, .inl (ct 1, 5, .inl (fun _ => 0)))]) H locs := J
  refine lv_aload_n C.1 C.2.1 dX1_init_54 rfl (lv_at hl 0 rfl) ?_
  refine lv_iconst (v := 5) C.1 C.2.1 dX1_init_55 (by decide) ?_
  refine b_newI (N := 5) C J (by decide) (by decide) (by decide) (Nat.le_of_ble_eq_true rfl) (Nat.le_of_ble_eq_true rfl) dX1_init_56 (fun q56 H J => ?_)
  refine b_putR (τ := (.array .int)) C hM J fl_X1_41 rfl (fun _ _ _ h => by cases h; exact ⟨rfl, by decide +kernel⟩) rfl rfl 0 rfl (Nat.le_of_ble_eq_true rfl) dX1_init_58 (fun H locs J => ?_)
  have J : bJx s D A ((([(h0, .inr (1, [.ref q7, .int (-1), .int 0, .int 1, .int 0, .int 0, .int 0, .int 1, .ref q49, .ref q56, .int 0, .int 0, .int 0, .int 0, .int 0, .int 0]))] ++ [(q7, .inl (ct 1, 6, .inl (fun _ => 0)))]) ++ [(q49, .inl (ct 1, 5, .inl (fun _ => 0)))]) ++ [(q56, .inl (ct 1, 5, .inl (fun _ => 0)))]) H locs := J
  refine lv_aload_n C.1 C.2.1 dX1_init_61 rfl (lv_at hl 0 rfl) ?_
  refine lv_iconst (v := 0) C.1 C.2.1 dX1_init_62 (by decide) ?_
  refine b_put C J fl_X1_44 rfl 0 rfl (Nat.le_of_ble_eq_true rfl) dX1_init_63 (fun H locs J => ?_)
  have J : bJx s D A ((([(h0, .inr (1, [.ref q7, .int (-1), .int 0, .int 1, .int 0, .int 0, .int 0, .int 1, .ref q49, .ref q56, .int 0, .int 0, .int 0, .int 0, .int 0, .int 0]))] ++ [(q7, .inl (ct 1, 6, .inl (fun _ => 0)))]) ++ [(q49, .inl (ct 1, 5, .inl (fun _ => 0)))]) ++ [(q56, .inl (ct 1, 5, .inl (fun _ => 0)))]) H locs := J
  refine lv_aload_n C.1 C.2.1 dX1_init_66 rfl (lv_at hl 0 rfl) ?_
  refine lv_iconst (v := 0) C.1 C.2.1 dX1_init_67 (by decide) ?_
  refine b_put C J fl_X1_47 rfl 0 rfl (Nat.le_of_ble_eq_true rfl) dX1_init_68 (fun H locs J => ?_)
  have J : bJx s D A ((([(h0, .inr (1, [.ref q7, .int (-1), .int 0, .int 1, .int 0, .int 0, .int 0, .int 1, .ref q49, .ref q56, .int 0, .int 0, .int 0, .int 0, .int 0, .int 0]))] ++ [(q7, .inl (ct 1, 6, .inl (fun _ => 0)))]) ++ [(q49, .inl (ct 1, 5, .inl (fun _ => 0)))]) ++ [(q56, .inl (ct 1, 5, .inl (fun _ => 0)))]) H locs := J
  refine lv_aload_n C.1 C.2.1 dX1_init_71 rfl (lv_at hl 0 rfl) ?_
  refine lv_bipush (v := 61) C.1 C.2.1 dX1_init_72 (by decide) ?_
  refine b_put C J fl_X1_50 rfl 0 rfl (Nat.le_of_ble_eq_true rfl) dX1_init_74 (fun H locs J => ?_)
  have J : bJx s D A ((([(h0, .inr (1, [.ref q7, .int (-1), .int 0, .int 1, .int 0, .int 0, .int 0, .int 1, .ref q49, .ref q56, .int 0, .int 0, .int 61, .int 0, .int 0, .int 0]))] ++ [(q7, .inl (ct 1, 6, .inl (fun _ => 0)))]) ++ [(q49, .inl (ct 1, 5, .inl (fun _ => 0)))]) ++ [(q56, .inl (ct 1, 5, .inl (fun _ => 0)))]) H locs := J
  refine lv_aload_n C.1 C.2.1 dX1_init_77 rfl (lv_at hl 0 rfl) ?_
  refine lv_iconst (v := 1) C.1 C.2.1 dX1_init_78 (by decide) ?_
  refine b_putZ C J fl_X1_53 rfl rfl rfl 0 rfl (Nat.le_of_ble_eq_true rfl) dX1_init_79 (fun H locs J => ?_)
  have J : bJx s D A ((([(h0, .inr (1, [.ref q7, .int (-1), .int 0, .int 1, .int 0, .int 0, .int 0, .int 1, .ref q49, .ref q56, .int 0, .int 0, .int 61, .int 1, .int 0, .int 0]))] ++ [(q7, .inl (ct 1, 6, .inl (fun _ => 0)))]) ++ [(q49, .inl (ct 1, 5, .inl (fun _ => 0)))]) ++ [(q56, .inl (ct 1, 5, .inl (fun _ => 0)))]) H locs := J
  refine lv_aload_n C.1 C.2.1 dX1_init_82 rfl (lv_at hl 0 rfl) ?_
  refine lv_iconst (v := 0) C.1 C.2.1 dX1_init_83 (by decide) ?_
  refine b_putZ C J fl_X1_56 rfl rfl rfl 0 rfl (Nat.le_of_ble_eq_true rfl) dX1_init_84 (fun H locs J => ?_)
  have J : bJx s D A ((([(h0, .inr (1, [.ref q7, .int (-1), .int 0, .int 1, .int 0, .int 0, .int 0, .int 1, .ref q49, .ref q56, .int 0, .int 0, .int 61, .int 1, .int 0, .int 0]))] ++ [(q7, .inl (ct 1, 6, .inl (fun _ => 0)))]) ++ [(q49, .inl (ct 1, 5, .inl (fun _ => 0)))]) ++ [(q56, .inl (ct 1, 5, .inl (fun _ => 0)))]) H locs := J
  refine lv_aload_n C.1 C.2.1 dX1_init_87 rfl (lv_at hl 0 rfl) ?_
  refine lv_iconst (v := 0) C.1 C.2.1 dX1_init_88 (by decide) ?_
  refine b_put C J fl_X1_59 rfl 0 rfl (Nat.le_of_ble_eq_true rfl) dX1_init_89 (fun H locs J => ?_)
  have J : bJx s D A ((([(h0, .inr (1, [.ref q7, .int (-1), .int 0, .int 1, .int 0, .int 0, .int 0, .int 1, .ref q49, .ref q56, .int 0, .int 0, .int 61, .int 1, .int 0, .int 0]))] ++ [(q7, .inl (ct 1, 6, .inl (fun _ => 0)))]) ++ [(q49, .inl (ct 1, 5, .inl (fun _ => 0)))]) ++ [(q56, .inl (ct 1, 5, .inl (fun _ => 0)))]) H locs := J
  exact b_ret (fun k => [q7, q49, q56].getD k 0) C hM (Nat.le_of_ble_eq_true rfl) (Nat.le_of_ble_eq_true rfl) J dX1_init_92
def wX3 (ct : Nat → Nat) (h0 : Nat) (a : Nat → Nat) : va_W := [(h0, .inr (3, [.ref (a 0), .ref (a 1), .ref (a 2), .ref (a 3), .ref (a 4), .int 0, .int 0, .int 0, .int 0, .int 0, .int 0])), ((a 0), .inl (ct 1, 12, .inl (fun _ => 0))), ((a 1), .inl (ct 1, 492, .inl (fun _ => 0))), ((a 2), .inl (ct 1, 41, .inl (fun _ => 0))), ((a 3), .inl (ct 1, 41, .inl (fun _ => 0))), ((a 4), .inl (ct 1, 12, .inl (fun _ => 0)))]
theorem bf_3 : ∀ j, j < 11 → defaultValue (tyX3 j) = vp_V [.null, .null, .null, .null, .null, .int 0, .int 0, .int 0, .int 0, .int 0, .int 0] j := by
  intro j hj
  match j, hj with
  | 0, _ => rfl
  | 1, _ => rfl
  | 2, _ => rfl
  | 3, _ => rfl
  | 4, _ => rfl
  | 5, _ => rfl
  | 6, _ => rfl
  | 7, _ => rfl
  | 8, _ => rfl
  | 9, _ => rfl
  | 10, _ => rfl
  | j + 11, hj => exact absurd hj (by omega)
set_option maxHeartbeats 4000000 in
set_option maxRecDepth 100000 in
theorem m_3 (l : Launch) : bMet l yX3_init cX3_init 1 1 5 598 3 [.null, .null, .null, .null, .null, .int 0, .int 0, .int 0, .int 0, .int 0, .int 0] wX3 := by
  refine bMet.of rfl rfl (by decide) ?_
  intro p e s m args below meth c D ct A H ls h0 C hM hl J
  generalize hlo : ([] : List Loc) = locs at J ⊢
  refine lv_aload_n C.1 C.2.1 dX3_init_0 rfl (lv_at hl 0 rfl) ?_
  refine b_obj C yo_3 hl.1 ⟨by decide, by decide⟩ dX3_init_1 ?_
  refine lv_aload_n C.1 C.2.1 dX3_init_4 rfl (lv_at hl 0 rfl) ?_
  refine lv_bipush (v := 12) C.1 C.2.1 dX3_init_5 (by decide) ?_
  refine b_newI (N := 12) C J (by decide) (by decide) (by decide) (Nat.le_of_ble_eq_true rfl) (Nat.le_of_ble_eq_true rfl) dX3_init_7 (fun q7 H J => ?_)
  refine b_putR (τ := (.array .int)) C hM J fl_X3_9 rfl (fun _ _ _ h => by cases h; exact ⟨rfl, by decide +kernel⟩) rfl rfl 0 rfl (Nat.le_of_ble_eq_true rfl) dX3_init_9 (fun H locs J => ?_)
  have J : bJx s D A ([(h0, .inr (3, [.ref q7, .null, .null, .null, .null, .int 0, .int 0, .int 0, .int 0, .int 0, .int 0]))] ++ [(q7, .inl (ct 1, 12, .inl (fun _ => 0)))]) H locs := J
  refine lv_aload_n C.1 C.2.1 dX3_init_12 rfl (lv_at hl 0 rfl) ?_
  refine lv_sipush (v := 492) C.1 C.2.1 dX3_init_13 (by decide) ?_
  refine b_newI (N := 492) C J (by decide) (by decide) (by decide) (Nat.le_of_ble_eq_true rfl) (Nat.le_of_ble_eq_true rfl) dX3_init_16 (fun q16 H J => ?_)
  refine b_putR (τ := (.array .int)) C hM J fl_X3_15 rfl (fun _ _ _ h => by cases h; exact ⟨rfl, by decide +kernel⟩) rfl rfl 0 rfl (Nat.le_of_ble_eq_true rfl) dX3_init_18 (fun H locs J => ?_)
  have J : bJx s D A (([(h0, .inr (3, [.ref q7, .ref q16, .null, .null, .null, .int 0, .int 0, .int 0, .int 0, .int 0, .int 0]))] ++ [(q7, .inl (ct 1, 12, .inl (fun _ => 0)))]) ++ [(q16, .inl (ct 1, 492, .inl (fun _ => 0)))]) H locs := J
  refine lv_aload_n C.1 C.2.1 dX3_init_21 rfl (lv_at hl 0 rfl) ?_
  refine lv_bipush (v := 41) C.1 C.2.1 dX3_init_22 (by decide) ?_
  refine b_newI (N := 41) C J (by decide) (by decide) (by decide) (Nat.le_of_ble_eq_true rfl) (Nat.le_of_ble_eq_true rfl) dX3_init_24 (fun q24 H J => ?_)
  refine b_putR (τ := (.array .int)) C hM J fl_X3_18 rfl (fun _ _ _ h => by cases h; exact ⟨rfl, by decide +kernel⟩) rfl rfl 0 rfl (Nat.le_of_ble_eq_true rfl) dX3_init_26 (fun H locs J => ?_)
  have J : bJx s D A ((([(h0, .inr (3, [.ref q7, .ref q16, .ref q24, .null, .null, .int 0, .int 0, .int 0, .int 0, .int 0, .int 0]))] ++ [(q7, .inl (ct 1, 12, .inl (fun _ => 0)))]) ++ [(q16, .inl (ct 1, 492, .inl (fun _ => 0)))]) ++ [(q24, .inl (ct 1, 41, .inl (fun _ => 0)))]) H locs := J
  refine lv_aload_n C.1 C.2.1 dX3_init_29 rfl (lv_at hl 0 rfl) ?_
  refine lv_bipush (v := 41) C.1 C.2.1 dX3_init_30 (by decide) ?_
  refine b_newI (N := 41) C J (by decide) (by decide) (by decide) (Nat.le_of_ble_eq_true rfl) (Nat.le_of_ble_eq_true rfl) dX3_init_32 (fun q32 H J => ?_)
  refine b_putR (τ := (.array .int)) C hM J fl_X3_21 rfl (fun _ _ _ h => by cases h; exact ⟨rfl, by decide +kernel⟩) rfl rfl 0 rfl (Nat.le_of_ble_eq_true rfl) dX3_init_34 (fun H locs J => ?_)
  have J : bJx s D A (((([(h0, .inr (3, [.ref q7, .ref q16, .ref q24, .ref q32, .null, .int 0, .int 0, .int 0, .int 0, .int 0, .int 0]))] ++ [(q7, .inl (ct 1, 12, .inl (fun _ => 0)))]) ++ [(q16, .inl (ct 1, 492, .inl (fun _ => 0)))]) ++ [(q24, .inl (ct 1, 41, .inl (fun _ => 0)))]) ++ [(q32, .inl (ct 1, 41, .inl (fun _ => 0)))]) H locs := J
  refine lv_aload_n C.1 C.2.1 dX3_init_37 rfl (lv_at hl 0 rfl) ?_
  refine lv_bipush (v := 12) C.1 C.2.1 dX3_init_38 (by decide) ?_
  refine b_newI (N := 12) C J (by decide) (by decide) (by decide) (Nat.le_of_ble_eq_true rfl) (Nat.le_of_ble_eq_true rfl) dX3_init_40 (fun q40 H J => ?_)
  refine b_putR (τ := (.array .int)) C hM J fl_X3_24 rfl (fun _ _ _ h => by cases h; exact ⟨rfl, by decide +kernel⟩) rfl rfl 0 rfl (Nat.le_of_ble_eq_true rfl) dX3_init_42 (fun H locs J => ?_)
  have J : bJx s D A ((((([(h0, .inr (3, [.ref q7, .ref q16, .ref q24, .ref q32, .ref q40, .int 0, .int 0, .int 0, .int 0, .int 0, .int 0]))] ++ [(q7, .inl (ct 1, 12, .inl (fun _ => 0)))]) ++ [(q16, .inl (ct 1, 492, .inl (fun _ => 0)))]) ++ [(q24, .inl (ct 1, 41, .inl (fun _ => 0)))]) ++ [(q32, .inl (ct 1, 41, .inl (fun _ => 0)))]) ++ [(q40, .inl (ct 1, 12, .inl (fun _ => 0)))]) H locs := J
  refine lv_aload_n C.1 C.2.1 dX3_init_45 rfl (lv_at hl 0 rfl) ?_
  refine lv_iconst (v := 0) C.1 C.2.1 dX3_init_46 (by decide) ?_
  refine b_put C J fl_X3_27 rfl 0 rfl (Nat.le_of_ble_eq_true rfl) dX3_init_47 (fun H locs J => ?_)
  have J : bJx s D A ((((([(h0, .inr (3, [.ref q7, .ref q16, .ref q24, .ref q32, .ref q40, .int 0, .int 0, .int 0, .int 0, .int 0, .int 0]))] ++ [(q7, .inl (ct 1, 12, .inl (fun _ => 0)))]) ++ [(q16, .inl (ct 1, 492, .inl (fun _ => 0)))]) ++ [(q24, .inl (ct 1, 41, .inl (fun _ => 0)))]) ++ [(q32, .inl (ct 1, 41, .inl (fun _ => 0)))]) ++ [(q40, .inl (ct 1, 12, .inl (fun _ => 0)))]) H locs := J
  refine lv_aload_n C.1 C.2.1 dX3_init_50 rfl (lv_at hl 0 rfl) ?_
  refine lv_iconst (v := 0) C.1 C.2.1 dX3_init_51 (by decide) ?_
  refine b_put C J fl_X3_31 rfl 0 rfl (Nat.le_of_ble_eq_true rfl) dX3_init_52 (fun H locs J => ?_)
  have J : bJx s D A ((((([(h0, .inr (3, [.ref q7, .ref q16, .ref q24, .ref q32, .ref q40, .int 0, .int 0, .int 0, .int 0, .int 0, .int 0]))] ++ [(q7, .inl (ct 1, 12, .inl (fun _ => 0)))]) ++ [(q16, .inl (ct 1, 492, .inl (fun _ => 0)))]) ++ [(q24, .inl (ct 1, 41, .inl (fun _ => 0)))]) ++ [(q32, .inl (ct 1, 41, .inl (fun _ => 0)))]) ++ [(q40, .inl (ct 1, 12, .inl (fun _ => 0)))]) H locs := J
  refine lv_aload_n C.1 C.2.1 dX3_init_55 rfl (lv_at hl 0 rfl) ?_
  refine lv_iconst (v := 0) C.1 C.2.1 dX3_init_56 (by decide) ?_
  refine b_put C J fl_X3_34 rfl 0 rfl (Nat.le_of_ble_eq_true rfl) dX3_init_57 (fun H locs J => ?_)
  have J : bJx s D A ((((([(h0, .inr (3, [.ref q7, .ref q16, .ref q24, .ref q32, .ref q40, .int 0, .int 0, .int 0, .int 0, .int 0, .int 0]))] ++ [(q7, .inl (ct 1, 12, .inl (fun _ => 0)))]) ++ [(q16, .inl (ct 1, 492, .inl (fun _ => 0)))]) ++ [(q24, .inl (ct 1, 41, .inl (fun _ => 0)))]) ++ [(q32, .inl (ct 1, 41, .inl (fun _ => 0)))]) ++ [(q40, .inl (ct 1, 12, .inl (fun _ => 0)))]) H locs := J
  refine lv_aload_n C.1 C.2.1 dX3_init_60 rfl (lv_at hl 0 rfl) ?_
  refine lv_iconst (v := 0) C.1 C.2.1 dX3_init_61 (by decide) ?_
  refine b_put C J fl_X3_37 rfl 0 rfl (Nat.le_of_ble_eq_true rfl) dX3_init_62 (fun H locs J => ?_)
  have J : bJx s D A ((((([(h0, .inr (3, [.ref q7, .ref q16, .ref q24, .ref q32, .ref q40, .int 0, .int 0, .int 0, .int 0, .int 0, .int 0]))] ++ [(q7, .inl (ct 1, 12, .inl (fun _ => 0)))]) ++ [(q16, .inl (ct 1, 492, .inl (fun _ => 0)))]) ++ [(q24, .inl (ct 1, 41, .inl (fun _ => 0)))]) ++ [(q32, .inl (ct 1, 41, .inl (fun _ => 0)))]) ++ [(q40, .inl (ct 1, 12, .inl (fun _ => 0)))]) H locs := J
  refine lv_aload_n C.1 C.2.1 dX3_init_65 rfl (lv_at hl 0 rfl) ?_
  refine lv_iconst (v := 0) C.1 C.2.1 dX3_init_66 (by decide) ?_
  refine b_put C J fl_X3_40 rfl 0 rfl (Nat.le_of_ble_eq_true rfl) dX3_init_67 (fun H locs J => ?_)
  have J : bJx s D A ((((([(h0, .inr (3, [.ref q7, .ref q16, .ref q24, .ref q32, .ref q40, .int 0, .int 0, .int 0, .int 0, .int 0, .int 0]))] ++ [(q7, .inl (ct 1, 12, .inl (fun _ => 0)))]) ++ [(q16, .inl (ct 1, 492, .inl (fun _ => 0)))]) ++ [(q24, .inl (ct 1, 41, .inl (fun _ => 0)))]) ++ [(q32, .inl (ct 1, 41, .inl (fun _ => 0)))]) ++ [(q40, .inl (ct 1, 12, .inl (fun _ => 0)))]) H locs := J
  refine lv_aload_n C.1 C.2.1 dX3_init_70 rfl (lv_at hl 0 rfl) ?_
  refine lv_iconst (v := 0) C.1 C.2.1 dX3_init_71 (by decide) ?_
  refine b_put C J fl_X3_43 rfl 0 rfl (Nat.le_of_ble_eq_true rfl) dX3_init_72 (fun H locs J => ?_)
  have J : bJx s D A ((((([(h0, .inr (3, [.ref q7, .ref q16, .ref q24, .ref q32, .ref q40, .int 0, .int 0, .int 0, .int 0, .int 0, .int 0]))] ++ [(q7, .inl (ct 1, 12, .inl (fun _ => 0)))]) ++ [(q16, .inl (ct 1, 492, .inl (fun _ => 0)))]) ++ [(q24, .inl (ct 1, 41, .inl (fun _ => 0)))]) ++ [(q32, .inl (ct 1, 41, .inl (fun _ => 0)))]) ++ [(q40, .inl (ct 1, 12, .inl (fun _ => 0)))]) H locs := J
  exact b_ret (fun k => [q7, q16, q24, q32, q40].getD k 0) C hM (Nat.le_of_ble_eq_true rfl) (Nat.le_of_ble_eq_true rfl) J dX3_init_75
