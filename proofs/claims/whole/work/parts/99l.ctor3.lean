def wX5 (ct : Nat → Nat) (h0 : Nat) (a : Nat → Nat) : va_W := [(h0, .inr (5, [.int 0, .int 0, .long 0, .long 0, .ref (a 0), .ref (a 1), .int 0, .ref (a 2), .int 0])), ((a 0), .inl (ct 1, 6, .inl (upd (upd (upd (upd (upd (upd (fun _ => 0) 0 1) 1 100) 2 10) 3 1000000) 4 0) 5 9))), ((a 1), .inl (ct 4, 12, .inr (.inr (.inr (.inr (va_up (va_up (va_up (va_up (va_up (va_up (va_up (va_up (va_up (va_up (va_up (va_up (fun _ => none) 0 (some (a 3))) 1 (some (a 4))) 2 (some (a 5))) 3 (some (a 6))) 4 (some (a 7))) 5 (some (a 8))) 6 (some (a 9))) 7 (some (a 10))) 8 (some (a 11))) 9 (some (a 12))) 10 (some (a 13))) 11 (some (a 14)))))))), ((a 2), .inl (ct 0, 60, .inl (fun _ => 0))), ((a 3), .inr (4, [.int 0, .int 0, .int 0, .int 0, .int 0, .int 0])), ((a 4), .inr (4, [.int 0, .int 0, .int 0, .int 0, .int 0, .int 0])), ((a 5), .inr (4, [.int 0, .int 0, .int 0, .int 0, .int 0, .int 0])), ((a 6), .inr (4, [.int 0, .int 0, .int 0, .int 0, .int 0, .int 0])), ((a 7), .inr (4, [.int 0, .int 0, .int 0, .int 0, .int 0, .int 0])), ((a 8), .inr (4, [.int 0, .int 0, .int 0, .int 0, .int 0, .int 0])), ((a 9), .inr (4, [.int 0, .int 0, .int 0, .int 0, .int 0, .int 0])), ((a 10), .inr (4, [.int 0, .int 0, .int 0, .int 0, .int 0, .int 0])), ((a 11), .inr (4, [.int 0, .int 0, .int 0, .int 0, .int 0, .int 0])), ((a 12), .inr (4, [.int 0, .int 0, .int 0, .int 0, .int 0, .int 0])), ((a 13), .inr (4, [.int 0, .int 0, .int 0, .int 0, .int 0, .int 0])), ((a 14), .inr (4, [.int 0, .int 0, .int 0, .int 0, .int 0, .int 0]))]
theorem bf_5 : ∀ j, j < 9 → defaultValue (tyX5 j) = vp_V [.int 0, .int 0, .long 0, .long 0, .null, .null, .int 0, .null, .int 0] j := by
  intro j hj
  match j, hj with
  | 0, _ => rfl
  | 1, _ => rfl
  | 2, _ => rfl
  | 3, _ => rfl
  | 4, _ => rfl
  | 5, _ => rfl
  | 6, _ => rfl
  | 7, _ => rfl
  | 8, _ => rfl
  | j + 9, hj => exact absurd hj (by omega)
set_option maxHeartbeats 4000000 in
set_option maxRecDepth 100000 in
theorem m_5 (l : Launch) : bMet l yX5_init cX5_init 2 2 15 150 5 [.int 0, .int 0, .long 0, .long 0, .null, .null, .int 0, .null, .int 0] wX5 := by
  refine bMet.of rfl rfl (by decide) ?_
  intro p e s m args below meth c D ct A H ls h0 C hM hl J
  generalize hlo : ([] : List Loc) = locs at J ⊢
  refine lv_aload_n C.1 C.2.1 dX5_init_0 rfl (lv_at hl 0 rfl) ?_
  refine b_obj C yo_5 hl.1 ⟨by decide, by decide⟩ dX5_init_1 ?_
  refine lv_aload_n C.1 C.2.1 dX5_init_4 rfl (lv_at hl 0 rfl) ?_
  refine lv_iconst (v := 0) C.1 C.2.1 dX5_init_5 (by decide) ?_
  refine b_put C J fl_X5_9 rfl 0 rfl (Nat.le_of_ble_eq_true rfl) dX5_init_6 (fun H locs J => ?_)
  have J : bJx s D A [(h0, .inr (5, [.int 0, .int 0, .long 0, .long 0, .null, .null, .int 0, .null, .int 0]))] H locs := J
  refine lv_aload_n C.1 C.2.1 dX5_init_9 rfl (lv_at hl 0 rfl) ?_
  refine lv_iconst (v := 0) C.1 C.2.1 dX5_init_10 (by decide) ?_
  refine b_put C J fl_X5_15 rfl 0 rfl (Nat.le_of_ble_eq_true rfl) dX5_init_11 (fun H locs J => ?_)
  have J : bJx s D A [(h0, .inr (5, [.int 0, .int 0, .long 0, .long 0, .null, .null, .int 0, .null, .int 0]))] H locs := J
  refine lv_aload_n C.1 C.2.1 dX5_init_14 rfl (lv_at hl 0 rfl) ?_
  refine lv_lconst (v := 0) C.1 C.2.1 dX5_init_15 (by decide) ?_
  refine b_putJ C J fl_X5_18 rfl 0 rfl (Nat.le_of_ble_eq_true rfl) dX5_init_16 (fun H locs J => ?_)
  have J : bJx s D A [(h0, .inr (5, [.int 0, .int 0, .long 0, .long 0, .null, .null, .int 0, .null, .int 0]))] H locs := J
  refine lv_aload_n C.1 C.2.1 dX5_init_19 rfl (lv_at hl 0 rfl) ?_
  refine lv_lconst (v := 0) C.1 C.2.1 dX5_init_20 (by decide) ?_
  refine b_putJ C J fl_X5_22 rfl 0 rfl (Nat.le_of_ble_eq_true rfl) dX5_init_21 (fun H locs J => ?_)
  have J : bJx s D A [(h0, .inr (5, [.int 0, .int 0, .long 0, .long 0, .null, .null, .int 0, .null, .int 0]))] H locs := J
  refine lv_aload_n C.1 C.2.1 dX5_init_24 rfl (lv_at hl 0 rfl) ?_
  refine lv_bipush (v := 6) C.1 C.2.1 dX5_init_25 (by decide) ?_
  refine b_newI (N := 6) C J (by decide) (by decide) (by decide) (Nat.le_of_ble_eq_true rfl) (Nat.le_of_ble_eq_true rfl) dX5_init_27 (fun q27 H J => ?_)
  refine lv_dup C.1 C.2.1 dX5_init_29 rfl ?_
  refine lv_iconst (v := 0) C.1 C.2.1 dX5_init_30 (by decide) ?_
  refine lv_iconst (v := 1) C.1 C.2.1 dX5_init_31 (by decide) ?_
  refine b_iast C J 1 rfl (by unfold vp_in; decide) dX5_init_32 (fun H locs J => ?_)
  have J : bJx s D A ([(h0, .inr (5, [.int 0, .int 0, .long 0, .long 0, .null, .null, .int 0, .null, .int 0]))] ++ [(q27, .inl (ct 1, 6, .inl (upd (fun _ => 0) 0 1)))]) H locs := J
  refine lv_dup C.1 C.2.1 dX5_init_33 rfl ?_
  refine lv_iconst (v := 1) C.1 C.2.1 dX5_init_34 (by decide) ?_
  refine lv_bipush (v := 100) C.1 C.2.1 dX5_init_35 (by decide) ?_
  refine b_iast C J 1 rfl (by unfold vp_in; decide) dX5_init_37 (fun H locs J => ?_)
  have J : bJx s D A ([(h0, .inr (5, [.int 0, .int 0, .long 0, .long 0, .null, .null, .int 0, .null, .int 0]))] ++ [(q27, .inl (ct 1, 6, .inl (upd (upd (fun _ => 0) 0 1) 1 100)))]) H locs := J
  refine lv_dup C.1 C.2.1 dX5_init_38 rfl ?_
  refine lv_iconst (v := 2) C.1 C.2.1 dX5_init_39 (by decide) ?_
  refine lv_bipush (v := 10) C.1 C.2.1 dX5_init_40 (by decide) ?_
  refine b_iast C J 1 rfl (by unfold vp_in; decide) dX5_init_42 (fun H locs J => ?_)
  have J : bJx s D A ([(h0, .inr (5, [.int 0, .int 0, .long 0, .long 0, .null, .null, .int 0, .null, .int 0]))] ++ [(q27, .inl (ct 1, 6, .inl (upd (upd (upd (fun _ => 0) 0 1) 1 100) 2 10)))]) H locs := J
  refine lv_dup C.1 C.2.1 dX5_init_43 rfl ?_
  refine lv_iconst (v := 3) C.1 C.2.1 dX5_init_44 (by decide) ?_
  refine lv_ldc C.1 C.2.1 C.2.2.2.1 (C.2.2.2.2.1 _ kc_X5_25) dX5_init_45 ?_
  refine b_iast C J 1 rfl (by unfold vp_in; decide) dX5_init_47 (fun H locs J => ?_)
  have J : bJx s D A ([(h0, .inr (5, [.int 0, .int 0, .long 0, .long 0, .null, .null, .int 0, .null, .int 0]))] ++ [(q27, .inl (ct 1, 6, .inl (upd (upd (upd (upd (fun _ => 0) 0 1) 1 100) 2 10) 3 1000000)))]) H locs := J
  refine lv_dup C.1 C.2.1 dX5_init_48 rfl ?_
  refine lv_iconst (v := 4) C.1 C.2.1 dX5_init_49 (by decide) ?_
  refine lv_iconst (v := 0) C.1 C.2.1 dX5_init_50 (by decide) ?_
  refine b_iast C J 1 rfl (by unfold vp_in; decide) dX5_init_51 (fun H locs J => ?_)
  have J : bJx s D A ([(h0, .inr (5, [.int 0, .int 0, .long 0, .long 0, .null, .null, .int 0, .null, .int 0]))] ++ [(q27, .inl (ct 1, 6, .inl (upd (upd (upd (upd (upd (fun _ => 0) 0 1) 1 100) 2 10) 3 1000000) 4 0)))]) H locs := J
  refine lv_dup C.1 C.2.1 dX5_init_52 rfl ?_
  refine lv_iconst (v := 5) C.1 C.2.1 dX5_init_53 (by decide) ?_
  refine lv_bipush (v := 9) C.1 C.2.1 dX5_init_54 (by decide) ?_
  refine b_iast C J 1 rfl (by unfold vp_in; decide) dX5_init_56 (fun H locs J => ?_)
  have J : bJx s D A ([(h0, .inr (5, [.int 0, .int 0, .long 0, .long 0, .null, .null, .int 0, .null, .int 0]))] ++ [(q27, .inl (ct 1, 6, .inl (upd (upd (upd (upd (upd (upd (fun _ => 0) 0 1) 1 100) 2 10) 3 1000000) 4 0) 5 9)))]) H locs := J
  refine b_putR (τ := (.array .int)) C hM J fl_X5_26 rfl (fun _ _ _ h => by cases h; exact ⟨rfl, by decide +kernel⟩) rfl rfl 0 rfl (Nat.le_of_ble_eq_true rfl) dX5_init_57 (fun H locs J => ?_)
  have J : bJx s D A ([(h0, .inr (5, [.int 0, .int 0, .long 0, .long 0, .ref q27, .null, .int 0, .null, .int 0]))] ++ [(q27, .inl (ct 1, 6, .inl (upd (upd (upd (upd (upd (upd (fun _ => 0) 0 1) 1 100) 2 10) 3 1000000) 4 0) 5 9)))]) H locs := J
  refine lv_aload_n C.1 C.2.1 dX5_init_60 rfl (lv_at hl 0 rfl) ?_
  refine lv_bipush (v := 12) C.1 C.2.1 dX5_init_61 (by decide) ?_
  refine b_newqW (N := 12) C J cl_X5_30 (by decide) (by decide) (by decide) (Nat.le_of_ble_eq_true rfl) (Nat.le_of_ble_eq_true rfl) dX5_init_63 (fun q63 H J => ?_)
  refine b_putR (τ := (.array (.object "FuelTurns$Warning"))) C hM J fl_X5_32 rfl (fun _ _ _ h => by cases h; exact ⟨rfl, by decide +kernel⟩) rfl rfl 0 rfl (Nat.le_of_ble_eq_true rfl) dX5_init_66 (fun H locs J => ?_)
  have J : bJx s D A (([(h0, .inr (5, [.int 0, .int 0, .long 0, .long 0, .ref q27, .ref q63, .int 0, .null, .int 0]))] ++ [(q27, .inl (ct 1, 6, .inl (upd (upd (upd (upd (upd (upd (fun _ => 0) 0 1) 1 100) 2 10) 3 1000000) 4 0) 5 9)))]) ++ [(q63, .inl (ct 4, 12, .inr (.inr (.inr (.inr (fun _ => none))))))]) H locs := J
  refine lv_aload_n C.1 C.2.1 dX5_init_69 rfl (lv_at hl 0 rfl) ?_
  refine lv_iconst (v := 0) C.1 C.2.1 dX5_init_70 (by decide) ?_
  refine b_put C J fl_X5_36 rfl 0 rfl (Nat.le_of_ble_eq_true rfl) dX5_init_71 (fun H locs J => ?_)
  have J : bJx s D A (([(h0, .inr (5, [.int 0, .int 0, .long 0, .long 0, .ref q27, .ref q63, .int 0, .null, .int 0]))] ++ [(q27, .inl (ct 1, 6, .inl (upd (upd (upd (upd (upd (upd (fun _ => 0) 0 1) 1 100) 2 10) 3 1000000) 4 0) 5 9)))]) ++ [(q63, .inl (ct 4, 12, .inr (.inr (.inr (.inr (fun _ => none))))))]) H locs := J
  refine lv_aload_n C.1 C.2.1 dX5_init_74 rfl (lv_at hl 0 rfl) ?_
  refine lv_bipush (v := 60) C.1 C.2.1 dX5_init_75 (by decide) ?_
  refine b_newB (N := 60) C J (by decide) (by decide) (by decide) (Nat.le_of_ble_eq_true rfl) (Nat.le_of_ble_eq_true rfl) dX5_init_77 (fun q77 H J => ?_)
  refine b_putR (τ := (.array .byte)) C hM J fl_X5_39 rfl (fun _ _ _ h => by cases h; exact ⟨rfl, by decide +kernel⟩) rfl rfl 0 rfl (Nat.le_of_ble_eq_true rfl) dX5_init_79 (fun H locs J => ?_)
  have J : bJx s D A ((([(h0, .inr (5, [.int 0, .int 0, .long 0, .long 0, .ref q27, .ref q63, .int 0, .ref q77, .int 0]))] ++ [(q27, .inl (ct 1, 6, .inl (upd (upd (upd (upd (upd (upd (fun _ => 0) 0 1) 1 100) 2 10) 3 1000000) 4 0) 5 9)))]) ++ [(q63, .inl (ct 4, 12, .inr (.inr (.inr (.inr (fun _ => none))))))]) ++ [(q77, .inl (ct 0, 60, .inl (fun _ => 0)))]) H locs := J
  refine lv_aload_n C.1 C.2.1 dX5_init_82 rfl (lv_at hl 0 rfl) ?_
  refine lv_iconst (v := 0) C.1 C.2.1 dX5_init_83 (by decide) ?_
  refine b_put C J fl_X5_43 rfl 0 rfl (Nat.le_of_ble_eq_true rfl) dX5_init_84 (fun H locs J => ?_)
  have J : bJx s D A ((([(h0, .inr (5, [.int 0, .int 0, .long 0, .long 0, .ref q27, .ref q63, .int 0, .ref q77, .int 0]))] ++ [(q27, .inl (ct 1, 6, .inl (upd (upd (upd (upd (upd (upd (fun _ => 0) 0 1) 1 100) 2 10) 3 1000000) 4 0) 5 9)))]) ++ [(q63, .inl (ct 4, 12, .inr (.inr (.inr (.inr (fun _ => none))))))]) ++ [(q77, .inl (ct 0, 60, .inl (fun _ => 0)))]) H locs := J
  refine lv_iconst (v := 0) C.1 C.2.1 dX5_init_87 (by decide) ?_
  refine lv_istore_n (lv' := [(1, .int 0), (0, .ref h0)]) C.1 C.2.1 dX5_init_88 rfl hl (by decide) rfl (fun ls hl => ?_)
  refine lv_iload_n C.1 C.2.1 dX5_init_89 rfl (lv_at hl 0 rfl) ?_
  refine lv_bipush (v := 12) C.1 C.2.1 dX5_init_90 (by decide) ?_
  refine lv_icmp_ge (tgt := 114) C.1 C.2.1 dX5_init_92 (by decide) (fun c_ => absurd c_ (by decide)) (fun _ => ?_)
  refine lv_aload_n C.1 C.2.1 dX5_init_95 rfl (lv_at hl 1 rfl) ?_
  refine b_get C J fl_X5_32 0 rfl rfl dX5_init_96 ?_
  refine lv_iload_n C.1 C.2.1 dX5_init_99 rfl (lv_at hl 0 rfl) ?_
  refine b_new (t := 4) (fs := [.int 0, .int 0, .int 0, .int 0, .int 0, .int 0]) C J rfl ztX4 tyX4_ok cl_X5_30 ys_4 yn_4 bf_4 (Nat.le_of_ble_eq_true rfl) (Nat.le_of_ble_eq_true rfl) dX5_init_100 (fun n1 H J => ?_)
  refine lv_dup C.1 C.2.1 dX5_init_103 rfl ?_
  refine b_callN C J (m_4 l) yi_4 C.2.2.2.2.2.2.2.2.2.1 ⟨by decide, by decide⟩ hl.1 (Nat.le_of_ble_eq_true rfl) ⟨Nat.le_of_ble_eq_true rfl, Nat.le_of_ble_eq_true rfl⟩ dX5_init_104 (fun u1 H locs J => ?_)
  refine b_astW C J 2 4 rfl rfl (by unfold vp_in; decide) dX5_init_107 (fun H locs J => ?_)
  have J : bJx s D A (((([(h0, .inr (5, [.int 0, .int 0, .long 0, .long 0, .ref q27, .ref q63, .int 0, .ref q77, .int 0]))] ++ [(q27, .inl (ct 1, 6, .inl (upd (upd (upd (upd (upd (upd (fun _ => 0) 0 1) 1 100) 2 10) 3 1000000) 4 0) 5 9)))]) ++ [(q63, .inl (ct 4, 12, .inr (.inr (.inr (.inr (va_up (fun _ => none) 0 (some n1)))))))]) ++ [(q77, .inl (ct 0, 60, .inl (fun _ => 0)))]) ++ wX4 ct n1 u1) H locs := J
  refine lv_iinc (k := 0) (v := 1) (lv' := [(1, .int 1), (0, .ref h0)]) C.1 C.2.1 dX5_init_108 hl rfl (by decide) (by decide) rfl (fun ls hl => ?_)
  refine lv_goto (tgt := 89) C.1 C.2.1 dX5_init_111 (by decide) ?_
  refine lv_iload_n C.1 C.2.1 dX5_init_89 rfl (lv_at hl 0 rfl) ?_
  refine lv_bipush (v := 12) C.1 C.2.1 dX5_init_90 (by decide) ?_
  refine lv_icmp_ge (tgt := 114) C.1 C.2.1 dX5_init_92 (by decide) (fun c_ => absurd c_ (by decide)) (fun _ => ?_)
  refine lv_aload_n C.1 C.2.1 dX5_init_95 rfl (lv_at hl 1 rfl) ?_
  refine b_get C J fl_X5_32 0 rfl rfl dX5_init_96 ?_
  refine lv_iload_n C.1 C.2.1 dX5_init_99 rfl (lv_at hl 0 rfl) ?_
  refine b_new (t := 4) (fs := [.int 0, .int 0, .int 0, .int 0, .int 0, .int 0]) C J rfl ztX4 tyX4_ok cl_X5_30 ys_4 yn_4 bf_4 (Nat.le_of_ble_eq_true rfl) (Nat.le_of_ble_eq_true rfl) dX5_init_100 (fun n2 H J => ?_)
  refine lv_dup C.1 C.2.1 dX5_init_103 rfl ?_
  refine b_callN C J (m_4 l) yi_4 C.2.2.2.2.2.2.2.2.2.1 ⟨by decide, by decide⟩ hl.1 (Nat.le_of_ble_eq_true rfl) ⟨Nat.le_of_ble_eq_true rfl, Nat.le_of_ble_eq_true rfl⟩ dX5_init_104 (fun u2 H locs J => ?_)
  refine b_astW C J 2 5 rfl rfl (by unfold vp_in; decide) dX5_init_107 (fun H locs J => ?_)
  have J : bJx s D A ((((([(h0, .inr (5, [.int 0, .int 0, .long 0, .long 0, .ref q27, .ref q63, .int 0, .ref q77, .int 0]))] ++ [(q27, .inl (ct 1, 6, .inl (upd (upd (upd (upd (upd (upd (fun _ => 0) 0 1) 1 100) 2 10) 3 1000000) 4 0) 5 9)))]) ++ [(q63, .inl (ct 4, 12, .inr (.inr (.inr (.inr (va_up (va_up (fun _ => none) 0 (some n1)) 1 (some n2)))))))]) ++ [(q77, .inl (ct 0, 60, .inl (fun _ => 0)))]) ++ wX4 ct n1 u1) ++ wX4 ct n2 u2) H locs := J
  refine lv_iinc (k := 0) (v := 2) (lv' := [(1, .int 2), (0, .ref h0)]) C.1 C.2.1 dX5_init_108 hl rfl (by decide) (by decide) rfl (fun ls hl => ?_)
  refine lv_goto (tgt := 89) C.1 C.2.1 dX5_init_111 (by decide) ?_
  refine lv_iload_n C.1 C.2.1 dX5_init_89 rfl (lv_at hl 0 rfl) ?_
  refine lv_bipush (v := 12) C.1 C.2.1 dX5_init_90 (by decide) ?_
  refine lv_icmp_ge (tgt := 114) C.1 C.2.1 dX5_init_92 (by decide) (fun c_ => absurd c_ (by decide)) (fun _ => ?_)
  refine lv_aload_n C.1 C.2.1 dX5_init_95 rfl (lv_at hl 1 rfl) ?_
  refine b_get C J fl_X5_32 0 rfl rfl dX5_init_96 ?_
  refine lv_iload_n C.1 C.2.1 dX5_init_99 rfl (lv_at hl 0 rfl) ?_
  refine b_new (t := 4) (fs := [.int 0, .int 0, .int 0, .int 0, .int 0, .int 0]) C J rfl ztX4 tyX4_ok cl_X5_30 ys_4 yn_4 bf_4 (Nat.le_of_ble_eq_true rfl) (Nat.le_of_ble_eq_true rfl) dX5_init_100 (fun n3 H J => ?_)
  refine lv_dup C.1 C.2.1 dX5_init_103 rfl ?_
  refine b_callN C J (m_4 l) yi_4 C.2.2.2.2.2.2.2.2.2.1 ⟨by decide, by decide⟩ hl.1 (Nat.le_of_ble_eq_true rfl) ⟨Nat.le_of_ble_eq_true rfl, Nat.le_of_ble_eq_true rfl⟩ dX5_init_104 (fun u3 H locs J => ?_)
  refine b_astW C J 2 6 rfl rfl (by unfold vp_in; decide) dX5_init_107 (fun H locs J => ?_)
  have J : bJx s D A (((((([(h0, .inr (5, [.int 0, .int 0, .long 0, .long 0, .ref q27, .ref q63, .int 0, .ref q77, .int 0]))] ++ [(q27, .inl (ct 1, 6, .inl (upd (upd (upd (upd (upd (upd (fun _ => 0) 0 1) 1 100) 2 10) 3 1000000) 4 0) 5 9)))]) ++ [(q63, .inl (ct 4, 12, .inr (.inr (.inr (.inr (va_up (va_up (va_up (fun _ => none) 0 (some n1)) 1 (some n2)) 2 (some n3)))))))]) ++ [(q77, .inl (ct 0, 60, .inl (fun _ => 0)))]) ++ wX4 ct n1 u1) ++ wX4 ct n2 u2) ++ wX4 ct n3 u3) H locs := J
  refine lv_iinc (k := 0) (v := 3) (lv' := [(1, .int 3), (0, .ref h0)]) C.1 C.2.1 dX5_init_108 hl rfl (by decide) (by decide) rfl (fun ls hl => ?_)
  refine lv_goto (tgt := 89) C.1 C.2.1 dX5_init_111 (by decide) ?_
  refine lv_iload_n C.1 C.2.1 dX5_init_89 rfl (lv_at hl 0 rfl) ?_
  refine lv_bipush (v := 12) C.1 C.2.1 dX5_init_90 (by decide) ?_
  refine lv_icmp_ge (tgt := 114) C.1 C.2.1 dX5_init_92 (by decide) (fun c_ => absurd c_ (by decide)) (fun _ => ?_)
  refine lv_aload_n C.1 C.2.1 dX5_init_95 rfl (lv_at hl 1 rfl) ?_
  refine b_get C J fl_X5_32 0 rfl rfl dX5_init_96 ?_
  refine lv_iload_n C.1 C.2.1 dX5_init_99 rfl (lv_at hl 0 rfl) ?_
  refine b_new (t := 4) (fs := [.int 0, .int 0, .int 0, .int 0, .int 0, .int 0]) C J rfl ztX4 tyX4_ok cl_X5_30 ys_4 yn_4 bf_4 (Nat.le_of_ble_eq_true rfl) (Nat.le_of_ble_eq_true rfl) dX5_init_100 (fun n4 H J => ?_)
  refine lv_dup C.1 C.2.1 dX5_init_103 rfl ?_
  refine b_callN C J (m_4 l) yi_4 C.2.2.2.2.2.2.2.2.2.1 ⟨by decide, by decide⟩ hl.1 (Nat.le_of_ble_eq_true rfl) ⟨Nat.le_of_ble_eq_true rfl, Nat.le_of_ble_eq_true rfl⟩ dX5_init_104 (fun u4 H locs J => ?_)
  refine b_astW C J 2 7 rfl rfl (by unfold vp_in; decide) dX5_init_107 (fun H locs J => ?_)
  have J : bJx s D A ((((((([(h0, .inr (5, [.int 0, .int 0, .long 0, .long 0, .ref q27, .ref q63, .int 0, .ref q77, .int 0]))] ++ [(q27, .inl (ct 1, 6, .inl (upd (upd (upd (upd (upd (upd (fun _ => 0) 0 1) 1 100) 2 10) 3 1000000) 4 0) 5 9)))]) ++ [(q63, .inl (ct 4, 12, .inr (.inr (.inr (.inr (va_up (va_up (va_up (va_up (fun _ => none) 0 (some n1)) 1 (some n2)) 2 (some n3)) 3 (some n4)))))))]) ++ [(q77, .inl (ct 0, 60, .inl (fun _ => 0)))]) ++ wX4 ct n1 u1) ++ wX4 ct n2 u2) ++ wX4 ct n3 u3) ++ wX4 ct n4 u4) H locs := J
  refine lv_iinc (k := 0) (v := 4) (lv' := [(1, .int 4), (0, .ref h0)]) C.1 C.2.1 dX5_init_108 hl rfl (by decide) (by decide) rfl (fun ls hl => ?_)
  refine lv_goto (tgt := 89) C.1 C.2.1 dX5_init_111 (by decide) ?_
  refine lv_iload_n C.1 C.2.1 dX5_init_89 rfl (lv_at hl 0 rfl) ?_
  refine lv_bipush (v := 12) C.1 C.2.1 dX5_init_90 (by decide) ?_
  refine lv_icmp_ge (tgt := 114) C.1 C.2.1 dX5_init_92 (by decide) (fun c_ => absurd c_ (by decide)) (fun _ => ?_)
  refine lv_aload_n C.1 C.2.1 dX5_init_95 rfl (lv_at hl 1 rfl) ?_
  refine b_get C J fl_X5_32 0 rfl rfl dX5_init_96 ?_
  refine lv_iload_n C.1 C.2.1 dX5_init_99 rfl (lv_at hl 0 rfl) ?_
  refine b_new (t := 4) (fs := [.int 0, .int 0, .int 0, .int 0, .int 0, .int 0]) C J rfl ztX4 tyX4_ok cl_X5_30 ys_4 yn_4 bf_4 (Nat.le_of_ble_eq_true rfl) (Nat.le_of_ble_eq_true rfl) dX5_init_100 (fun n5 H J => ?_)
  refine lv_dup C.1 C.2.1 dX5_init_103 rfl ?_
  refine b_callN C J (m_4 l) yi_4 C.2.2.2.2.2.2.2.2.2.1 ⟨by decide, by decide⟩ hl.1 (Nat.le_of_ble_eq_true rfl) ⟨Nat.le_of_ble_eq_true rfl, Nat.le_of_ble_eq_true rfl⟩ dX5_init_104 (fun u5 H locs J => ?_)
  refine b_astW C J 2 8 rfl rfl (by unfold vp_in; decide) dX5_init_107 (fun H locs J => ?_)
  have J : bJx s D A (((((((([(h0, .inr (5, [.int 0, .int 0, .long 0, .long 0, .ref q27, .ref q63, .int 0, .ref q77, .int 0]))] ++ [(q27, .inl (ct 1, 6, .inl (upd (upd (upd (upd (upd (upd (fun _ => 0) 0 1) 1 100) 2 10) 3 1000000) 4 0) 5 9)))]) ++ [(q63, .inl (ct 4, 12, .inr (.inr (.inr (.inr (va_up (va_up (va_up (va_up (va_up (fun _ => none) 0 (some n1)) 1 (some n2)) 2 (some n3)) 3 (some n4)) 4 (some n5)))))))]) ++ [(q77, .inl (ct 0, 60, .inl (fun _ => 0)))]) ++ wX4 ct n1 u1) ++ wX4 ct n2 u2) ++ wX4 ct n3 u3) ++ wX4 ct n4 u4) ++ wX4 ct n5 u5) H locs := J
  refine lv_iinc (k := 0) (v := 5) (lv' := [(1, .int 5), (0, .ref h0)]) C.1 C.2.1 dX5_init_108 hl rfl (by decide) (by decide) rfl (fun ls hl => ?_)
  refine lv_goto (tgt := 89) C.1 C.2.1 dX5_init_111 (by decide) ?_
  refine lv_iload_n C.1 C.2.1 dX5_init_89 rfl (lv_at hl 0 rfl) ?_
  refine lv_bipush (v := 12) C.1 C.2.1 dX5_init_90 (by decide) ?_
  refine lv_icmp_ge (tgt := 114) C.1 C.2.1 dX5_init_92 (by decide) (fun c_ => absurd c_ (by decide)) (fun _ => ?_)
  refine lv_aload_n C.1 C.2.1 dX5_init_95 rfl (lv_at hl 1 rfl) ?_
  refine b_get C J fl_X5_32 0 rfl rfl dX5_init_96 ?_
  refine lv_iload_n C.1 C.2.1 dX5_init_99 rfl (lv_at hl 0 rfl) ?_
  refine b_new (t := 4) (fs := [.int 0, .int 0, .int 0, .int 0, .int 0, .int 0]) C J rfl ztX4 tyX4_ok cl_X5_30 ys_4 yn_4 bf_4 (Nat.le_of_ble_eq_true rfl) (Nat.le_of_ble_eq_true rfl) dX5_init_100 (fun n6 H J => ?_)
  refine lv_dup C.1 C.2.1 dX5_init_103 rfl ?_
  refine b_callN C J (m_4 l) yi_4 C.2.2.2.2.2.2.2.2.2.1 ⟨by decide, by decide⟩ hl.1 (Nat.le_of_ble_eq_true rfl) ⟨Nat.le_of_ble_eq_true rfl, Nat.le_of_ble_eq_true rfl⟩ dX5_init_104 (fun u6 H locs J => ?_)
  refine b_astW C J 2 9 rfl rfl (by unfold vp_in; decide) dX5_init_107 (fun H locs J => ?_)
  have J : bJx s D A ((((((((([(h0, .inr (5, [.int 0, .int 0, .long 0, .long 0, .ref q27, .ref q63, .int 0, .ref q77, .int 0]))] ++ [(q27, .inl (ct 1, 6, .inl (upd (upd (upd (upd (upd (upd (fun _ => 0) 0 1) 1 100) 2 10) 3 1000000) 4 0) 5 9)))]) ++ [(q63, .inl (ct 4, 12, .inr (.inr (.inr (.inr (va_up (va_up (va_up (va_up (va_up (va_up (fun _ => none) 0 (some n1)) 1 (some n2)) 2 (some n3)) 3 (some n4)) 4 (some n5)) 5 (some n6)))))))]) ++ [(q77, .inl (ct 0, 60, .inl (fun _ => 0)))]) ++ wX4 ct n1 u1) ++ wX4 ct n2 u2) ++ wX4 ct n3 u3) ++ wX4 ct n4 u4) ++ wX4 ct n5 u5) ++ wX4 ct n6 u6) H locs := J
  refine lv_iinc (k := 0) (v := 6) (lv' := [(1, .int 6), (0, .ref h0)]) C.1 C.2.1 dX5_init_108 hl rfl (by decide) (by decide) rfl (fun ls hl => ?_)
  refine lv_goto (tgt := 89) C.1 C.2.1 dX5_init_111 (by decide) ?_
  refine lv_iload_n C.1 C.2.1 dX5_init_89 rfl (lv_at hl 0 rfl) ?_
  refine lv_bipush (v := 12) C.1 C.2.1 dX5_init_90 (by decide) ?_
  refine lv_icmp_ge (tgt := 114) C.1 C.2.1 dX5_init_92 (by decide) (fun c_ => absurd c_ (by decide)) (fun _ => ?_)
  refine lv_aload_n C.1 C.2.1 dX5_init_95 rfl (lv_at hl 1 rfl) ?_
  refine b_get C J fl_X5_32 0 rfl rfl dX5_init_96 ?_
  refine lv_iload_n C.1 C.2.1 dX5_init_99 rfl (lv_at hl 0 rfl) ?_
  refine b_new (t := 4) (fs := [.int 0, .int 0, .int 0, .int 0, .int 0, .int 0]) C J rfl ztX4 tyX4_ok cl_X5_30 ys_4 yn_4 bf_4 (Nat.le_of_ble_eq_true rfl) (Nat.le_of_ble_eq_true rfl) dX5_init_100 (fun n7 H J => ?_)
  refine lv_dup C.1 C.2.1 dX5_init_103 rfl ?_
  refine b_callN C J (m_4 l) yi_4 C.2.2.2.2.2.2.2.2.2.1 ⟨by decide, by decide⟩ hl.1 (Nat.le_of_ble_eq_true rfl) ⟨Nat.le_of_ble_eq_true rfl, Nat.le_of_ble_eq_true rfl⟩ dX5_init_104 (fun u7 H locs J => ?_)
  refine b_astW C J 2 10 rfl rfl (by unfold vp_in; decide) dX5_init_107 (fun H locs J => ?_)
  have J : bJx s D A (((((((((([(h0, .inr (5, [.int 0, .int 0, .long 0, .long 0, .ref q27, .ref q63, .int 0, .ref q77, .int 0]))] ++ [(q27, .inl (ct 1, 6, .inl (upd (upd (upd (upd (upd (upd (fun _ => 0) 0 1) 1 100) 2 10) 3 1000000) 4 0) 5 9)))]) ++ [(q63, .inl (ct 4, 12, .inr (.inr (.inr (.inr (va_up (va_up (va_up (va_up (va_up (va_up (va_up (fun _ => none) 0 (some n1)) 1 (some n2)) 2 (some n3)) 3 (some n4)) 4 (some n5)) 5 (some n6)) 6 (some n7)))))))]) ++ [(q77, .inl (ct 0, 60, .inl (fun _ => 0)))]) ++ wX4 ct n1 u1) ++ wX4 ct n2 u2) ++ wX4 ct n3 u3) ++ wX4 ct n4 u4) ++ wX4 ct n5 u5) ++ wX4 ct n6 u6) ++ wX4 ct n7 u7) H locs := J
  refine lv_iinc (k := 0) (v := 7) (lv' := [(1, .int 7), (0, .ref h0)]) C.1 C.2.1 dX5_init_108 hl rfl (by decide) (by decide) rfl (fun ls hl => ?_)
  refine lv_goto (tgt := 89) C.1 C.2.1 dX5_init_111 (by decide) ?_
  refine lv_iload_n C.1 C.2.1 dX5_init_89 rfl (lv_at hl 0 rfl) ?_
  refine lv_bipush (v := 12) C.1 C.2.1 dX5_init_90 (by decide) ?_
  refine lv_icmp_ge (tgt := 114) C.1 C.2.1 dX5_init_92 (by decide) (fun c_ => absurd c_ (by decide)) (fun _ => ?_)
  refine lv_aload_n C.1 C.2.1 dX5_init_95 rfl (lv_at hl 1 rfl) ?_
  refine b_get C J fl_X5_32 0 rfl rfl dX5_init_96 ?_
  refine lv_iload_n C.1 C.2.1 dX5_init_99 rfl (lv_at hl 0 rfl) ?_
  refine b_new (t := 4) (fs := [.int 0, .int 0, .int 0, .int 0, .int 0, .int 0]) C J rfl ztX4 tyX4_ok cl_X5_30 ys_4 yn_4 bf_4 (Nat.le_of_ble_eq_true rfl) (Nat.le_of_ble_eq_true rfl) dX5_init_100 (fun n8 H J => ?_)
  refine lv_dup C.1 C.2.1 dX5_init_103 rfl ?_
  refine b_callN C J (m_4 l) yi_4 C.2.2.2.2.2.2.2.2.2.1 ⟨by decide, by decide⟩ hl.1 (Nat.le_of_ble_eq_true rfl) ⟨Nat.le_of_ble_eq_true rfl, Nat.le_of_ble_eq_true rfl⟩ dX5_init_104 (fun u8 H locs J => ?_)
  refine b_astW C J 2 11 rfl rfl (by unfold vp_in; decide) dX5_init_107 (fun H locs J => ?_)
  have J : bJx s D A ((((((((((([(h0, .inr (5, [.int 0, .int 0, .long 0, .long 0, .ref q27, .ref q63, .int 0, .ref q77, .int 0]))] ++ [(q27, .inl (ct 1, 6, .inl (upd (upd (upd (upd (upd (upd (fun _ => 0) 0 1) 1 100) 2 10) 3 1000000) 4 0) 5 9)))]) ++ [(q63, .inl (ct 4, 12, .inr (.inr (.inr (.inr (va_up (va_up (va_up (va_up (va_up (va_up (va_up (va_up (fun _ => none) 0 (some n1)) 1 (some n2)) 2 (some n3)) 3 (some n4)) 4 (some n5)) 5 (some n6)) 6 (some n7)) 7 (some n8)))))))]) ++ [(q77, .inl (ct 0, 60, .inl (fun _ => 0)))]) ++ wX4 ct n1 u1) ++ wX4 ct n2 u2) ++ wX4 ct n3 u3) ++ wX4 ct n4 u4) ++ wX4 ct n5 u5) ++ wX4 ct n6 u6) ++ wX4 ct n7 u7) ++ wX4 ct n8 u8) H locs := J
  refine lv_iinc (k := 0) (v := 8) (lv' := [(1, .int 8), (0, .ref h0)]) C.1 C.2.1 dX5_init_108 hl rfl (by decide) (by decide) rfl (fun ls hl => ?_)
  refine lv_goto (tgt := 89) C.1 C.2.1 dX5_init_111 (by decide) ?_
  refine lv_iload_n C.1 C.2.1 dX5_init_89 rfl (lv_at hl 0 rfl) ?_
  refine lv_bipush (v := 12) C.1 C.2.1 dX5_init_90 (by decide) ?_
  refine lv_icmp_ge (tgt := 114) C.1 C.2.1 dX5_init_92 (by decide) (fun c_ => absurd c_ (by decide)) (fun _ => ?_)
  refine lv_aload_n C.1 C.2.1 dX5_init_95 rfl (lv_at hl 1 rfl) ?_
  refine b_get C J fl_X5_32 0 rfl rfl dX5_init_96 ?_
  refine lv_iload_n C.1 C.2.1 dX5_init_99 rfl (lv_at hl 0 rfl) ?_
  refine b_new (t := 4) (fs := [.int 0, .int 0, .int 0, .int 0, .int 0, .int 0]) C J rfl ztX4 tyX4_ok cl_X5_30 ys_4 yn_4 bf_4 (Nat.le_of_ble_eq_true rfl) (Nat.le_of_ble_eq_true rfl) dX5_init_100 (fun n9 H J => ?_)
  refine lv_dup C.1 C.2.1 dX5_init_103 rfl ?_
  refine b_callN C J (m_4 l) yi_4 C.2.2.2.2.2.2.2.2.2.1 ⟨by decide, by decide⟩ hl.1 (Nat.le_of_ble_eq_true rfl) ⟨Nat.le_of_ble_eq_true rfl, Nat.le_of_ble_eq_true rfl⟩ dX5_init_104 (fun u9 H locs J => ?_)
  refine b_astW C J 2 12 rfl rfl (by unfold vp_in; decide) dX5_init_107 (fun H locs J => ?_)
  have J : bJx s D A (((((((((((([(h0, .inr (5, [.int 0, .int 0, .long 0, .long 0, .ref q27, .ref q63, .int 0, .ref q77, .int 0]))] ++ [(q27, .inl (ct 1, 6, .inl (upd (upd (upd (upd (upd (upd (fun _ => 0) 0 1) 1 100) 2 10) 3 1000000) 4 0) 5 9)))]) ++ [(q63, .inl (ct 4, 12, .inr (.inr (.inr (.inr (va_up (va_up (va_up (va_up (va_up (va_up (va_up (va_up (va_up (fun _ => none) 0 (some n1)) 1 (some n2)) 2 (some n3)) 3 (some n4)) 4 (some n5)) 5 (some n6)) 6 (some n7)) 7 (some n8)) 8 (some n9)))))))]) ++ [(q77, .inl (ct 0, 60, .inl (fun _ => 0)))]) ++ wX4 ct n1 u1) ++ wX4 ct n2 u2) ++ wX4 ct n3 u3) ++ wX4 ct n4 u4) ++ wX4 ct n5 u5) ++ wX4 ct n6 u6) ++ wX4 ct n7 u7) ++ wX4 ct n8 u8) ++ wX4 ct n9 u9) H locs := J
  refine lv_iinc (k := 0) (v := 9) (lv' := [(1, .int 9), (0, .ref h0)]) C.1 C.2.1 dX5_init_108 hl rfl (by decide) (by decide) rfl (fun ls hl => ?_)
  refine lv_goto (tgt := 89) C.1 C.2.1 dX5_init_111 (by decide) ?_
  refine lv_iload_n C.1 C.2.1 dX5_init_89 rfl (lv_at hl 0 rfl) ?_
  refine lv_bipush (v := 12) C.1 C.2.1 dX5_init_90 (by decide) ?_
  refine lv_icmp_ge (tgt := 114) C.1 C.2.1 dX5_init_92 (by decide) (fun c_ => absurd c_ (by decide)) (fun _ => ?_)
  refine lv_aload_n C.1 C.2.1 dX5_init_95 rfl (lv_at hl 1 rfl) ?_
  refine b_get C J fl_X5_32 0 rfl rfl dX5_init_96 ?_
  refine lv_iload_n C.1 C.2.1 dX5_init_99 rfl (lv_at hl 0 rfl) ?_
  refine b_new (t := 4) (fs := [.int 0, .int 0, .int 0, .int 0, .int 0, .int 0]) C J rfl ztX4 tyX4_ok cl_X5_30 ys_4 yn_4 bf_4 (Nat.le_of_ble_eq_true rfl) (Nat.le_of_ble_eq_true rfl) dX5_init_100 (fun n10 H J => ?_)
  refine lv_dup C.1 C.2.1 dX5_init_103 rfl ?_
  refine b_callN C J (m_4 l) yi_4 C.2.2.2.2.2.2.2.2.2.1 ⟨by decide, by decide⟩ hl.1 (Nat.le_of_ble_eq_true rfl) ⟨Nat.le_of_ble_eq_true rfl, Nat.le_of_ble_eq_true rfl⟩ dX5_init_104 (fun u10 H locs J => ?_)
  refine b_astW C J 2 13 rfl rfl (by unfold vp_in; decide) dX5_init_107 (fun H locs J => ?_)
  have J : bJx s D A ((((((((((((([(h0, .inr (5, [.int 0, .int 0, .long 0, .long 0, .ref q27, .ref q63, .int 0, .ref q77, .int 0]))] ++ [(q27, .inl (ct 1, 6, .inl (upd (upd (upd (upd (upd (upd (fun _ => 0) 0 1) 1 100) 2 10) 3 1000000) 4 0) 5 9)))]) ++ [(q63, .inl (ct 4, 12, .inr (.inr (.inr (.inr (va_up (va_up (va_up (va_up (va_up (va_up (va_up (va_up (va_up (va_up (fun _ => none) 0 (some n1)) 1 (some n2)) 2 (some n3)) 3 (some n4)) 4 (some n5)) 5 (some n6)) 6 (some n7)) 7 (some n8)) 8 (some n9)) 9 (some n10)))))))]) ++ [(q77, .inl (ct 0, 60, .inl (fun _ => 0)))]) ++ wX4 ct n1 u1) ++ wX4 ct n2 u2) ++ wX4 ct n3 u3) ++ wX4 ct n4 u4) ++ wX4 ct n5 u5) ++ wX4 ct n6 u6) ++ wX4 ct n7 u7) ++ wX4 ct n8 u8) ++ wX4 ct n9 u9) ++ wX4 ct n10 u10) H locs := J
  refine lv_iinc (k := 0) (v := 10) (lv' := [(1, .int 10), (0, .ref h0)]) C.1 C.2.1 dX5_init_108 hl rfl (by decide) (by decide) rfl (fun ls hl => ?_)
  refine lv_goto (tgt := 89) C.1 C.2.1 dX5_init_111 (by decide) ?_
  refine lv_iload_n C.1 C.2.1 dX5_init_89 rfl (lv_at hl 0 rfl) ?_
  refine lv_bipush (v := 12) C.1 C.2.1 dX5_init_90 (by decide) ?_
  refine lv_icmp_ge (tgt := 114) C.1 C.2.1 dX5_init_92 (by decide) (fun c_ => absurd c_ (by decide)) (fun _ => ?_)
  refine lv_aload_n C.1 C.2.1 dX5_init_95 rfl (lv_at hl 1 rfl) ?_
  refine b_get C J fl_X5_32 0 rfl rfl dX5_init_96 ?_
  refine lv_iload_n C.1 C.2.1 dX5_init_99 rfl (lv_at hl 0 rfl) ?_
  refine b_new (t := 4) (fs := [.int 0, .int 0, .int 0, .int 0, .int 0, .int 0]) C J rfl ztX4 tyX4_ok cl_X5_30 ys_4 yn_4 bf_4 (Nat.le_of_ble_eq_true rfl) (Nat.le_of_ble_eq_true rfl) dX5_init_100 (fun n11 H J => ?_)
  refine lv_dup C.1 C.2.1 dX5_init_103 rfl ?_
  refine b_callN C J (m_4 l) yi_4 C.2.2.2.2.2.2.2.2.2.1 ⟨by decide, by decide⟩ hl.1 (Nat.le_of_ble_eq_true rfl) ⟨Nat.le_of_ble_eq_true rfl, Nat.le_of_ble_eq_true rfl⟩ dX5_init_104 (fun u11 H locs J => ?_)
  refine b_astW C J 2 14 rfl rfl (by unfold vp_in; decide) dX5_init_107 (fun H locs J => ?_)
  have J : bJx s D A (((((((((((((([(h0, .inr (5, [.int 0, .int 0, .long 0, .long 0, .ref q27, .ref q63, .int 0, .ref q77, .int 0]))] ++ [(q27, .inl (ct 1, 6, .inl (upd (upd (upd (upd (upd (upd (fun _ => 0) 0 1) 1 100) 2 10) 3 1000000) 4 0) 5 9)))]) ++ [(q63, .inl (ct 4, 12, .inr (.inr (.inr (.inr (va_up (va_up (va_up (va_up (va_up (va_up (va_up (va_up (va_up (va_up (va_up (fun _ => none) 0 (some n1)) 1 (some n2)) 2 (some n3)) 3 (some n4)) 4 (some n5)) 5 (some n6)) 6 (some n7)) 7 (some n8)) 8 (some n9)) 9 (some n10)) 10 (some n11)))))))]) ++ [(q77, .inl (ct 0, 60, .inl (fun _ => 0)))]) ++ wX4 ct n1 u1) ++ wX4 ct n2 u2) ++ wX4 ct n3 u3) ++ wX4 ct n4 u4) ++ wX4 ct n5 u5) ++ wX4 ct n6 u6) ++ wX4 ct n7 u7) ++ wX4 ct n8 u8) ++ wX4 ct n9 u9) ++ wX4 ct n10 u10) ++ wX4 ct n11 u11) H locs := J
  refine lv_iinc (k := 0) (v := 11) (lv' := [(1, .int 11), (0, .ref h0)]) C.1 C.2.1 dX5_init_108 hl rfl (by decide) (by decide) rfl (fun ls hl => ?_)
  refine lv_goto (tgt := 89) C.1 C.2.1 dX5_init_111 (by decide) ?_
  refine lv_iload_n C.1 C.2.1 dX5_init_89 rfl (lv_at hl 0 rfl) ?_
  refine lv_bipush (v := 12) C.1 C.2.1 dX5_init_90 (by decide) ?_
  refine lv_icmp_ge (tgt := 114) C.1 C.2.1 dX5_init_92 (by decide) (fun c_ => absurd c_ (by decide)) (fun _ => ?_)
  refine lv_aload_n C.1 C.2.1 dX5_init_95 rfl (lv_at hl 1 rfl) ?_
  refine b_get C J fl_X5_32 0 rfl rfl dX5_init_96 ?_
  refine lv_iload_n C.1 C.2.1 dX5_init_99 rfl (lv_at hl 0 rfl) ?_
  refine b_new (t := 4) (fs := [.int 0, .int 0, .int 0, .int 0, .int 0, .int 0]) C J rfl ztX4 tyX4_ok cl_X5_30 ys_4 yn_4 bf_4 (Nat.le_of_ble_eq_true rfl) (Nat.le_of_ble_eq_true rfl) dX5_init_100 (fun n12 H J => ?_)
  refine lv_dup C.1 C.2.1 dX5_init_103 rfl ?_
  refine b_callN C J (m_4 l) yi_4 C.2.2.2.2.2.2.2.2.2.1 ⟨by decide, by decide⟩ hl.1 (Nat.le_of_ble_eq_true rfl) ⟨Nat.le_of_ble_eq_true rfl, Nat.le_of_ble_eq_true rfl⟩ dX5_init_104 (fun u12 H locs J => ?_)
  refine b_astW C J 2 15 rfl rfl (by unfold vp_in; decide) dX5_init_107 (fun H locs J => ?_)
  have J : bJx s D A ((((((((((((((([(h0, .inr (5, [.int 0, .int 0, .long 0, .long 0, .ref q27, .ref q63, .int 0, .ref q77, .int 0]))] ++ [(q27, .inl (ct 1, 6, .inl (upd (upd (upd (upd (upd (upd (fun _ => 0) 0 1) 1 100) 2 10) 3 1000000) 4 0) 5 9)))]) ++ [(q63, .inl (ct 4, 12, .inr (.inr (.inr (.inr (va_up (va_up (va_up (va_up (va_up (va_up (va_up (va_up (va_up (va_up (va_up (va_up (fun _ => none) 0 (some n1)) 1 (some n2)) 2 (some n3)) 3 (some n4)) 4 (some n5)) 5 (some n6)) 6 (some n7)) 7 (some n8)) 8 (some n9)) 9 (some n10)) 10 (some n11)) 11 (some n12)))))))]) ++ [(q77, .inl (ct 0, 60, .inl (fun _ => 0)))]) ++ wX4 ct n1 u1) ++ wX4 ct n2 u2) ++ wX4 ct n3 u3) ++ wX4 ct n4 u4) ++ wX4 ct n5 u5) ++ wX4 ct n6 u6) ++ wX4 ct n7 u7) ++ wX4 ct n8 u8) ++ wX4 ct n9 u9) ++ wX4 ct n10 u10) ++ wX4 ct n11 u11) ++ wX4 ct n12 u12) H locs := J
  refine lv_iinc (k := 0) (v := 12) (lv' := [(1, .int 12), (0, .ref h0)]) C.1 C.2.1 dX5_init_108 hl rfl (by decide) (by decide) rfl (fun ls hl => ?_)
  refine lv_goto (tgt := 89) C.1 C.2.1 dX5_init_111 (by decide) ?_
  refine lv_iload_n C.1 C.2.1 dX5_init_89 rfl (lv_at hl 0 rfl) ?_
  refine lv_bipush (v := 12) C.1 C.2.1 dX5_init_90 (by decide) ?_
  refine lv_icmp_ge (tgt := 114) C.1 C.2.1 dX5_init_92 (by decide) (fun _ => ?_) (fun c_ => absurd (by decide) c_)
  exact b_ret (fun k => [q27, q63, q77, n1, n2, n3, n4, n5, n6, n7, n8, n9, n10, n11, n12].getD k 0) C hM (Nat.le_of_ble_eq_true rfl) (Nat.le_of_ble_eq_true rfl) J dX5_init_114
