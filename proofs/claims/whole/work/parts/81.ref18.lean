def lmS (s : Int → Int) (k h f : Int) : Int := moveR (pS s) h f (evV (nmV (s 10).toNat (gS s) (s 0 + k) h f) (stS2 s))
/-- a life's height and fuel, ahead of the move of day k -/
def lhS (s : Int → Int) : Nat → Int × Int
  | 0 => (s 1, s 7)
  | k + 1 => ((lhS s k).1 + lmS s k (lhS s k).1 (lhS s k).2, (lhS s k).2 - s 2 * zabs (lmS s k (lhS s k).1 (lhS s k).2))
def dgS (s : Int → Int) (k : Nat) : Int := danger (s 10).toNat (gS s) (s 0 + k) (lhS s k).1
theorem lhS_ok {s : Int → Int} (h1 : -12 ≤ s 1 ∧ s 1 ≤ 12) (hp : pOK (pS s)) : ∀ k : Nat, (-12 ≤ (lhS s k).1 ∧ (lhS s k).1 ≤ 12) ∧ (0 ≤ (lhS s k).2 ∧ (lhS s k).2 ≤ 60)
  | 0 => by
    have p := pOK_s hp
    exact ⟨h1, p.2.2.2.2.2⟩
  | k + 1 => by
    have ih := lhS_ok h1 hp k
    have p := pOK_s hp
    have m := moveR_le (p := pS s) (h := (lhS s k).1) (f := (lhS s k).2) (v := evV (nmV (s 10).toNat (gS s) (s 0 + k) (lhS s k).1 (lhS s k).2) (stS2 s))
    have z := Int.mul_nonneg (show 0 ≤ s 2 by omega) (zabs_le (x := lmS s k (lhS s k).1 (lhS s k).2))
    have c : lmS s k (lhS s k).1 (lhS s k).2 = 0 ∨ (-12 ≤ (lhS s k).1 + lmS s k (lhS s k).1 (lhS s k).2 ∧ (lhS s k).1 + lmS s k (lhS s k).1 (lhS s k).2 ≤ 12) ∧ s 6 ≤ (lhS s k).2 - s 2 * zabs (lmS s k (lhS s k).1 (lhS s k).2) := m.2
    have e0 : lmS s k (lhS s k).1 (lhS s k).2 = 0 → s 2 * zabs (lmS s k (lhS s k).1 (lhS s k).2) = 0 := fun e => by rw [e]; exact Int.mul_zero _
    show (-12 ≤ (lhS s k).1 + lmS s k (lhS s k).1 (lhS s k).2 ∧ (lhS s k).1 + lmS s k (lhS s k).1 (lhS s k).2 ≤ 12) ∧ (0 ≤ (lhS s k).2 - s 2 * zabs (lmS s k (lhS s k).1 (lhS s k).2) ∧ (lhS s k).2 - s 2 * zabs (lmS s k (lhS s k).1 (lhS s k).2) ≤ 60)
    omega
def outL (N M : zM) : Prop := (∀ k : Nat, k ≠ 75 → k ≠ 81 → k ≠ 82 → N k = M k) ∧ (∀ j : Int, j ≠ 16 → N 75 j = M 75 j)
theorem outL_rf {M : zM} : outL M M := ⟨fun _ _ _ _ => rfl, fun _ _ => rfl⟩
theorem outL_tr {K N M : zM} (h : outL N M) (h2 : outL K N) : outL K M := ⟨fun k a b c => (h2.1 k a b c).trans (h.1 k a b c), fun j a => (h2.2 j a).trans (h.2 j a)⟩
theorem outL_82 {N M : zM} (h : out82 N M) : outL N M := ⟨fun k a b c => h k b c, fun j a => by rw [h 75 (by decide) (by decide)]⟩
theorem outL_p {M : zM} {v : Int} : outL (zput M 75 16 v) M := ⟨fun k a b c => zput_ne a, fun j a => zput_ne2 a⟩
def lsA (dg : Nat → Int) (l n : Int) : Int := if fhS dg l n.toNat = 0 then n else fhS dg l n.toNat
theorem c_X7_lasts {M : zM} {lo_ n_ : Int} (hn : SN (M 76)) (hp : pOK (pS (M 76))) (hh : -12 ≤ M 76 1 ∧ M 76 1 ≤ 12) (ht : 0 ≤ M 76 0 ∧ M 76 0 ≤ 999) (hW : RuW (M 76)) (hn_ : 1 ≤ n_ ∧ n_ ≤ 100) : Call yX7_lasts cX7_lasts 8 (some .int) 6 [vR 75, vI lo_, vI n_] (M) (RI (lsA (dgS (M 76)) lo_ n_) (fun N => outL N M ∧ N 75 16 = zb (fhS (dgS (M 76)) lo_ n_.toNat ≠ 0))) := by
  refine Call.of2 (own := RX7) (lv0 := [some (vR 75), some (vI lo_), some (vI n_), none, none, none, none, none]) rfl (by decide) rfl (Nat.le_of_ble_eq_true rfl) ?_
  obtain ⟨⟨p00, p01⟩, ⟨p10, p11⟩, ⟨p20, p21⟩, ⟨p30, p31⟩, ⟨p40, p41⟩, ⟨p50, p51⟩⟩ := pOK_s hp
  refine z_iload_1 dX7_lasts_0 ?_
  refine z_istore_3 rfl dX7_lasts_1 ?_
  refine z_aload_0 dX7_lasts_2 ?_
  refine z_cVI yv_X7_height ml_X7_111 c_X7_height zk_75 rfl rfl (by decide) (Nat.le_of_ble_eq_true rfl) dX7_lasts_3 ?_
  refine z_istore_4 rfl dX7_lasts_6 ?_
  refine z_aload_0 dX7_lasts_8 ?_
  refine z_cVI yv_X7_fuel ml_X7_115 c_X7_fuel zk_75 rfl rfl (by decide) (Nat.le_of_ble_eq_true rfl) dX7_lasts_9 ?_
  refine z_istore_5 rfl dX7_lasts_12 ?_
  refine z_iconst dX7_lasts_14 ?_
  refine z_istore_6 rfl dX7_lasts_15 ?_
  refine z_aload_0 dX7_lasts_17 ?_
  refine z_iconst dX7_lasts_18 ?_
  refine z_putZ (by first | omega | exact zb_01) fl_X7_287 zk_75 rfl dX7_lasts_19 ?_
  have K22 : ∀ (fuel_ : Nat) (l_ : Int) (h_ : Int) (f_ : Int) (k_ : Int) (N_ : zM), n_ - k_ < (fuel_ : Int) → (0 ≤ k_ ∧ k_ ≤ n_) → (l_ = lotS lo_ k_.toNat) → (h_ = (lhS (M 76) k_.toNat).1) → (f_ = (lhS (M 76) k_.toNat).2) → (fhS (dgS (M 76)) lo_ k_.toNat = if N_ 75 16 = 0 then 0 else k_) → ((N_ 75 16 = 0 ∨ N_ 75 16 = 1) ∧ (N_ 75 16 = 1 → 1 ≤ k_)) → (outL N_ M) → Z RX7 cX7_lasts 8 (some .int) 6 (zQ (RI (lsA (dgS (M 76)) lo_ n_) (fun N => outL N M ∧ N 75 16 = zb (fhS (dgS (M 76)) lo_ n_.toNat ≠ 0)))) 22 [some (vR 75), some (vI lo_), some (vI n_), some (vI l_), some (vI h_), some (vI f_), some (vI k_), none] [] (N_) := by
    intro fuel_
    induction fuel_ with
    | zero => intro l_ h_ f_ k_ N_ hfuel_ hk_ hl_ hh_ hf_ hx_ hb_ hN_; exfalso; omega
    | succ fuel_ ih22 =>
      intro l_ h_ f_ k_ N_ hfuel_ hk_ hl_ hh_ hf_ hx_ hb_ hN_
      have hlo_ := lhS_ok hh hp k_.toNat
      rw [← hh_, ← hf_] at hlo_
      have n76_ : N_ 76 = M 76 := hN_.1 76 (by decide) (by decide) (by decide)
      refine z_iload_6 dX7_lasts_22 ?_
      refine z_iload_2 dX7_lasts_24 ?_
      refine z_icmp_ge (tgt := 127) (by omega) (by omega) dX7_lasts_25 (by decide) (fun c25 => ?_) (fun c25 => ?_)
      · refine z_iload_6 dX7_lasts_127 ?_
        exact z_iret dX7_lasts_129 (zRI (by unfold lsA; first | (rw [show n_.toNat = k_.toNat by omega]; rcases hb_.1 with q_ | q_; (rw [if_pos q_] at hx_; rw [hx_, if_pos rfl]; omega); (rw [if_neg (by omega)] at hx_; rw [hx_, if_neg (by omega)])) | (have e_ : fhS (dgS (M 76)) lo_ k_.toNat ≠ 0 := (by rw [hx_, if_neg (by omega)]; omega); rw [show n_.toNat = k_.toNat + (n_ - k_).toNat by omega, fhS_st e_, if_neg e_, hx_, if_neg (by omega)])) ⟨hN_, by first | (rw [show n_.toNat = k_.toNat by omega]; rcases hb_.1 with q_ | q_; (rw [if_pos q_] at hx_; rw [hx_, zb_f (by omega)]; exact q_); (rw [if_neg (by omega)] at hx_; rw [hx_, zb_t (by omega)]; exact q_)) | (have e_ : fhS (dgS (M 76)) lo_ k_.toNat ≠ 0 := (by rw [hx_, if_neg (by omega)]; omega); rw [show n_.toNat = k_.toNat + (n_ - k_).toNat by omega, fhS_st e_, zb_t e_]; omega)⟩)
      · refine z_aload_0 dX7_lasts_28 ?_
        refine z_getI fl_X7_287 zk_75 rfl dX7_lasts_29 ?_
        refine z_if_ne (tgt := 127) (by omega) dX7_lasts_32 (by decide) (fun c32 => ?_) (fun c32 => ?_)
        · refine z_iload_6 dX7_lasts_127 ?_
          exact z_iret dX7_lasts_129 (zRI (by unfold lsA; first | (rw [show n_.toNat = k_.toNat by omega]; rcases hb_.1 with q_ | q_; (rw [if_pos q_] at hx_; rw [hx_, if_pos rfl]; omega); (rw [if_neg (by omega)] at hx_; rw [hx_, if_neg (by omega)])) | (have e_ : fhS (dgS (M 76)) lo_ k_.toNat ≠ 0 := (by rw [hx_, if_neg (by omega)]; omega); rw [show n_.toNat = k_.toNat + (n_ - k_).toNat by omega, fhS_st e_, if_neg e_, hx_, if_neg (by omega)])) ⟨hN_, by first | (rw [show n_.toNat = k_.toNat by omega]; rcases hb_.1 with q_ | q_; (rw [if_pos q_] at hx_; rw [hx_, zb_f (by omega)]; exact q_); (rw [if_neg (by omega)] at hx_; rw [hx_, zb_t (by omega)]; exact q_)) | (have e_ : fhS (dgS (M 76)) lo_ k_.toNat ≠ 0 := (by rw [hx_, if_neg (by omega)]; omega); rw [show n_.toNat = k_.toNat + (n_ - k_).toNat by omega, fhS_st e_, zb_t e_]; omega)⟩)
        · refine z_aload_0 dX7_lasts_35 ?_
          refine z_aload_0 dX7_lasts_36 ?_
          refine z_cVI yv_X7_today ml_X7_129 c_X7_today zk_75 rfl rfl (by decide) (Nat.le_of_ble_eq_true rfl) dX7_lasts_37 ?_
          rw [n76_]
          refine z_iload_6 dX7_lasts_40 ?_
          refine z_iadd dX7_lasts_42 ?_
          refine z_iload_4 dX7_lasts_43 ?_
          refine z_iload_5 dX7_lasts_45 ?_
          refine z_rVI yv_X7_movesBy ml_X7_136 (c_X7_movesBy (M := N_) (by rw [n76_]; exact hn) (by omega) hlo_.1 (by rw [n76_]; exact hp) hlo_.2 (by rw [n76_]; exact RuS_of hW)) zk_75 rfl rfl (by decide) (Nat.le_of_ble_eq_true rfl) dX7_lasts_47 (fun P_ hP_ => ?_)
          rw [n76_]
          refine z_topI (show _ = (lmS (M 76) k_ h_ f_) from rfl) ?_
          have hm_ := moveR_le (p := pS (M 76)) (h := h_) (f := f_) (v := evV (nmV (M 76 10).toNat (gS (M 76)) (M 76 0 + k_) h_ f_) (stS2 (M 76)))
          have hm1_ : -24 ≤ (lmS (M 76) k_ h_ f_) ∧ (lmS (M 76) k_ h_ f_) ≤ 24 := hm_.1
          have p76_ : P_ 76 = M 76 := by rw [hP_ 76 (by decide) (by decide), n76_]
          have hl1_ := lhS_ok hh hp (k_.toNat + 1)
          have hs1_ : (lhS (M 76) (k_.toNat + 1)).1 = h_ + (lmS (M 76) k_ h_ f_) := by show (lhS (M 76) k_.toNat).1 + lmS (M 76) (k_.toNat : Int) _ _ = _; rw [← hh_, ← hf_, Int.toNat_of_nonneg hk_.1]
          have hs2_ : (lhS (M 76) (k_.toNat + 1)).2 = f_ - M 76 2 * zabs (lmS (M 76) k_ h_ f_) := by show (lhS (M 76) k_.toNat).2 - _ * zabs (lmS (M 76) (k_.toNat : Int) _ _) = _; rw [← hh_, ← hf_, Int.toNat_of_nonneg hk_.1]
          rw [hs1_, hs2_] at hl1_
          have hz_ := zushr_r (l_ * 1103515245 + 12345)
          have hdg_ : dgS (M 76) (k_.toNat + 1) = danger (M 76 10).toNat (gS (M 76)) (M 76 0 + (k_ + 1)) (h_ + (lmS (M 76) k_ h_ f_)) := by unfold dgS; rw [hs1_, show (((k_.toNat + 1 : Nat)) : Int) = k_ + 1 by omega]
          have hdl_ := danger_le (day := M 76 0 + (k_ + 1)) (h := h_ + (lmS (M 76) k_ h_ f_)) (SN_all hn)
          have hft_ : fhS (dgS (M 76)) lo_ k_.toNat = 0 := by rw [hx_, if_pos (by omega)]
          refine z_istore_7 rfl dX7_lasts_50 ?_
          refine z_iload_4 dX7_lasts_52 ?_
          refine z_iload_7 dX7_lasts_54 ?_
          refine z_iadd dX7_lasts_56 ?_
          refine z_istore_4 rfl dX7_lasts_57 ?_
          refine z_iload_5 dX7_lasts_59 ?_
          refine z_aload_0 dX7_lasts_61 ?_
          refine z_iconst dX7_lasts_62 ?_
          refine z_cVI yv_X7_its ml_X7_71 (c_X7_its (M := P_) (by omega)) zk_75 rfl rfl (by decide) (Nat.le_of_ble_eq_true rfl) dX7_lasts_63 ?_
          rw [p76_]
          refine z_iload_7 dX7_lasts_66 ?_
          refine z_cSI ys_X7_size ml_X7_100 (c_X7_size (by omega)) rfl rfl (by decide) (Nat.le_of_ble_eq_true rfl) dX7_lasts_68 ?_
          refine z_imul dX7_lasts_71 ?_
          refine z_isub dX7_lasts_72 ?_
          refine z_istore_5 rfl dX7_lasts_73 ?_
          refine z_iinc_6 rfl dX7_lasts_75 ?_
          refine z_iload_3 dX7_lasts_78 ?_
          refine z_ldcw (n := 1103515245) kc_X7_291 (by decide) dX7_lasts_79 ?_
          refine z_imul dX7_lasts_82 ?_
          refine z_sipush dX7_lasts_83 (by decide) ?_
          refine z_iadd dX7_lasts_86 ?_
          refine z_istore_3 rfl dX7_lasts_87 ?_
          have J121 : ∀ (u_ : Int), (u_ = zb (zushr (l_ * 1103515245 + 12345) 16 % 10000 < danger (M 76 10).toNat (gS (M 76)) (M 76 0 + (k_ + 1)) (h_ + (lmS (M 76) k_ h_ f_)) / 100)) → (u_ = 0 ∨ u_ = 1) → Z RX7 cX7_lasts 8 (some .int) 6 (zQ (RI (lsA (dgS (M 76)) lo_ n_) (fun N => outL N M ∧ N 75 16 = zb (fhS (dgS (M 76)) lo_ n_.toNat ≠ 0)))) 121 [some (vR 75), some (vI lo_), some (vI n_), some (vI ((l_ * 1103515245) + 12345)), some (vI (h_ + (lmS (M 76) k_ h_ f_))), some (vI (f_ - ((M 76 2) * (zabs (lmS (M 76) k_ h_ f_))))), some (vI (k_ + 1)), some (vI (lmS (M 76) k_ h_ f_))] [vI u_, vR 75] (P_) := by
            intro u_ hu_ hu2_
            refine z_putZ (by first | omega | exact zb_01) fl_X7_287 zk_75 rfl dX7_lasts_121 ?_
            refine z_goto (tgt := 22) dX7_lasts_124 (by decide) ?_
            refine z_drop_7 ?_
            exact ih22 _ _ _ _ _ (by omega) (by omega) (by rw [nat_1 hk_.1, lotS, ← hl_]) (by rw [nat_1 hk_.1, hs1_]) (by rw [nat_1 hk_.1, hs2_]) (by rw [nat_1 hk_.1, fhS, hft_, if_neg (by omega)]; unfold hitS; rw [hdg_, lotS, ← hl_, zput_eq, hu_, show (((k_.toNat + 1 : Nat)) : Int) = k_ + 1 by omega]; by_cases q_ : (zushr (l_ * 1103515245 + 12345) 16 % 10000 < danger (M 76 10).toNat (gS (M 76)) (M 76 0 + (k_ + 1)) (h_ + (lmS (M 76) k_ h_ f_)) / 100); (rw [if_pos q_, if_neg (by rw [zb_t q_]; decide)]); (rw [if_neg q_, if_pos (zb_f q_)])) (by rw [zput_eq, hu_]; rcases zb_01 (P := (zushr (l_ * 1103515245 + 12345) 16 % 10000 < danger (M 76 10).toNat (gS (M 76)) (M 76 0 + (k_ + 1)) (h_ + (lmS (M 76) k_ h_ f_)) / 100)) with q_ | q_ <;> omega) (by exact outL_tr hN_ (outL_tr (outL_82 hP_) outL_p))
          refine z_aload_0 dX7_lasts_88 ?_
          refine z_iload_3 dX7_lasts_89 ?_
          refine z_bipush dX7_lasts_90 (by decide) ?_
          refine z_iushr dX7_lasts_92 ?_
          refine z_sipush dX7_lasts_93 (by decide) ?_
          refine z_iremp (by omega) (by decide) dX7_lasts_96 ?_
          refine z_aload_0 dX7_lasts_97 ?_
          refine z_aload_0 dX7_lasts_98 ?_
          refine z_cVI yv_X7_today ml_X7_129 c_X7_today zk_75 rfl rfl (by decide) (Nat.le_of_ble_eq_true rfl) dX7_lasts_99 ?_
          rw [p76_]
          refine z_iload_6 dX7_lasts_102 ?_
          refine z_iadd dX7_lasts_104 ?_
          refine z_iload_4 dX7_lasts_105 ?_
          refine z_cVI yv_X7_dangerAt ml_X7_132 (c_X7_dangerAt (M := P_) (by rw [p76_]; exact hn) hl1_.1 (by omega)) zk_75 rfl rfl (by decide) (Nat.le_of_ble_eq_true rfl) dX7_lasts_107 ?_
          rw [p76_]
          refine z_bipush dX7_lasts_110 (by decide) ?_
          refine z_idivp (by omega) (by decide) dX7_lasts_112 ?_
          refine z_icmp_ge (tgt := 120) (by omega) (by omega) dX7_lasts_113 (by decide) (fun c113 => ?_) (fun c113 => ?_)
          · refine z_iconst dX7_lasts_120 ?_
            exact J121 _ (by first | exact (zb_t (by omega)).symm | exact (zb_f (by omega)).symm) (by decide)
          · refine z_iconst dX7_lasts_116 ?_
            refine z_goto (tgt := 121) dX7_lasts_117 (by decide) ?_
            exact J121 _ (by first | exact (zb_t (by omega)).symm | exact (zb_f (by omega)).symm) (by decide)
  have L22 : ∀ (l_ : Int) (h_ : Int) (f_ : Int) (k_ : Int) (N_ : zM), (0 ≤ k_ ∧ k_ ≤ n_) → (l_ = lotS lo_ k_.toNat) → (h_ = (lhS (M 76) k_.toNat).1) → (f_ = (lhS (M 76) k_.toNat).2) → (fhS (dgS (M 76)) lo_ k_.toNat = if N_ 75 16 = 0 then 0 else k_) → ((N_ 75 16 = 0 ∨ N_ 75 16 = 1) ∧ (N_ 75 16 = 1 → 1 ≤ k_)) → (outL N_ M) → Z RX7 cX7_lasts 8 (some .int) 6 (zQ (RI (lsA (dgS (M 76)) lo_ n_) (fun N => outL N M ∧ N 75 16 = zb (fhS (dgS (M 76)) lo_ n_.toNat ≠ 0)))) 22 [some (vR 75), some (vI lo_), some (vI n_), some (vI l_), some (vI h_), some (vI f_), some (vI k_), none] [] (N_) := fun l_ h_ f_ k_ N_ hk_ hl_ hh_ hf_ hx_ hb_ hN_ => K22 ((n_ - k_).toNat + 1) l_ h_ f_ k_ N_ (by omega) hk_ hl_ hh_ hf_ hx_ hb_ hN_
  exact L22 _ _ _ _ _ (by omega) (by rfl) (by rfl) (by rfl) (by rw [zput_eq]; rfl) (by rw [zput_eq]; omega) (by exact outL_p)

theorem c_X7_life {M : zM} {lo_ n_ : Int} (hn : SN (M 76)) (hp : pOK (pS (M 76))) (hh : -12 ≤ M 76 1 ∧ M 76 1 ≤ 12) (ht : 0 ≤ M 76 0 ∧ M 76 0 ≤ 999) (hW : RuW (M 76)) (hnr : -2147483648 ≤ n_ ∧ n_ < 2147483648) : Call yX7_life cX7_life 3 (some .int) 7 [vR 75, vI lo_, vI n_] (M) (RI (if (1 ≤ n_ ∧ n_ ≤ 100) then lsA (dgS (M 76)) lo_ n_ else -1000000001) (fun N => outL N (if (1 ≤ n_ ∧ n_ ≤ 100) then M else fnd7 M 0))) := by
  refine Call.of2 (own := RX7) (lv0 := [some (vR 75), some (vI lo_), some (vI n_)]) rfl (by decide) rfl (Nat.le_of_ble_eq_true rfl) ?_
  refine z_iload_2 dX7_life_0 ?_
  refine z_i2l (by omega) dX7_life_1 ?_
  refine z_lconst1 dX7_life_2 ?_
  refine z_ldc2 (n := 100) kl_X7_62 (by decide) dX7_life_3 ?_
  refine z_cSI ys_X7_in ml_X7_85 (c_X7_in (by omega) (by decide) (by decide)) rfl rfl (by decide) (Nat.le_of_ble_eq_true rfl) dX7_life_6 ?_
  refine z_ifb_eq (tgt := 21) dX7_life_9 (by decide) (fun c9 => ?_) (fun c9 => ?_)
  · refine z_aload_0 dX7_life_21 ?_
    refine z_iconst dX7_life_22 ?_
    refine z_cVI yv_X7_finding ml_X7_93 (c_X7_finding (by omega)) zk_75 rfl rfl (by decide) (Nat.le_of_ble_eq_true rfl) dX7_life_23 ?_
    exact z_iret dX7_life_26 (zRI (by first | (rw [if_pos (by omega)]; done) | (rw [if_neg (by omega)] <;> rfl)) (by first | (rw [if_pos (by omega)]; exact hN_.1) | (rw [if_neg (by omega)]; exact outL_rf)))
  · refine z_aload_0 dX7_life_12 ?_
    refine z_iload_1 dX7_life_13 ?_
    refine z_iload_2 dX7_life_14 ?_
    refine z_rVI yv_X7_lasts ml_X7_292 (c_X7_lasts hn hp hh ht hW (by omega)) zk_75 rfl rfl (by decide) (Nat.le_of_ble_eq_true rfl) dX7_life_15 (fun N_ hN_ => ?_)
    refine z_goto (tgt := 26) dX7_life_18 (by decide) ?_
    exact z_iret dX7_life_26 (zRI (by first | (rw [if_pos (by omega)]; done) | (rw [if_neg (by omega)] <;> rfl)) (by first | (rw [if_pos (by omega)]; exact hN_.1) | (rw [if_neg (by omega)]; exact outL_rf)))

theorem c_X7_lives {M : zM} {l_ m_ n_ : Int} (hn : SN (M 76)) (hp : pOK (pS (M 76))) (hh : -12 ≤ M 76 1 ∧ M 76 1 ≤ 12) (ht : 0 ≤ M 76 0 ∧ M 76 0 ≤ 999) (hW : RuW (M 76)) (hm : -2147483648 ≤ m_ ∧ m_ < 2147483648) (hnr : -2147483648 ≤ n_ ∧ n_ < 2147483648) : Call yX7_lives cX7_lives 7 (some .int) 7 [vR 75, vI l_, vI m_, vI n_] (M) (RI (if ((1 ≤ m_ ∧ m_ ≤ 50) ∧ (1 ≤ n_ ∧ n_ ≤ 100)) then (lvS (dgS (M 76)) l_ n_.toNat m_.toNat) else -1000000001) (fun N => outL N (if ((1 ≤ m_ ∧ m_ ≤ 50) ∧ (1 ≤ n_ ∧ n_ ≤ 100)) then M else fnd7 M 0))) := by
  refine Call.of2 (own := RX7) (lv0 := [some (vR 75), some (vI l_), some (vI m_), some (vI n_), none, none, none]) rfl (by decide) rfl (Nat.le_of_ble_eq_true rfl) ?_
  refine z_iload_2 dX7_lives_0 ?_
  refine z_i2l (by omega) dX7_lives_1 ?_
  refine z_lconst1 dX7_lives_2 ?_
  refine z_ldc2 (n := 50) kl_X7_173 (by decide) dX7_lives_3 ?_
  refine z_cSI ys_X7_in ml_X7_85 (c_X7_in (by omega) (by decide) (by decide)) rfl rfl (by decide) (Nat.le_of_ble_eq_true rfl) dX7_lives_6 ?_
  refine z_ifb_eq (tgt := 24) dX7_lives_9 (by decide) (fun c9 => ?_) (fun c9 => ?_)
  · refine z_aload_0 dX7_lives_24 ?_
    refine z_iconst dX7_lives_25 ?_
    refine z_cVI yv_X7_finding ml_X7_93 (c_X7_finding (by omega)) zk_75 rfl rfl (by decide) (Nat.le_of_ble_eq_true rfl) dX7_lives_26 ?_
    exact z_iret dX7_lives_29 (zRI (by rw [if_neg (by omega)] <;> rfl) (by rw [if_neg (by omega)]; exact outL_rf))
  · refine z_iload_3 dX7_lives_12 ?_
    refine z_i2l (by omega) dX7_lives_13 ?_
    refine z_lconst1 dX7_lives_14 ?_
    refine z_ldc2 (n := 100) kl_X7_62 (by decide) dX7_lives_15 ?_
    refine z_cSI ys_X7_in ml_X7_85 (c_X7_in (by omega) (by decide) (by decide)) rfl rfl (by decide) (Nat.le_of_ble_eq_true rfl) dX7_lives_18 ?_
    refine z_ifb_ne (tgt := 30) dX7_lives_21 (by decide) (fun c21 => ?_) (fun c21 => ?_)
    · refine z_iconst dX7_lives_30 ?_
      refine z_istore_4 rfl dX7_lives_31 ?_
      refine z_iconst dX7_lives_33 ?_
      refine z_istore_5 rfl dX7_lives_34 ?_
      have K36 : ∀ (fuel_ : Nat) (c_ : Int) (i_ : Int) (N_ : zM), m_ - i_ < (fuel_ : Int) → (0 ≤ i_ ∧ i_ ≤ m_) → (c_ = (lvS (dgS (M 76)) l_ n_.toNat i_.toNat)) → (outL N_ M) → Z RX7 cX7_lives 7 (some .int) 7 (zQ (RI (if ((1 ≤ m_ ∧ m_ ≤ 50) ∧ (1 ≤ n_ ∧ n_ ≤ 100)) then (lvS (dgS (M 76)) l_ n_.toNat m_.toNat) else -1000000001) (fun N => outL N (if ((1 ≤ m_ ∧ m_ ≤ 50) ∧ (1 ≤ n_ ∧ n_ ≤ 100)) then M else fnd7 M 0)))) 36 [some (vR 75), some (vI l_), some (vI m_), some (vI n_), some (vI c_), some (vI i_), none] [] (N_) := by
        intro fuel_
        induction fuel_ with
        | zero => intro c_ i_ N_ hfuel_ hi_ hc_ hN_; exfalso; omega
        | succ fuel_ ih36 =>
          intro c_ i_ N_ hfuel_ hi_ hc_ hN_
          have n76_ : N_ 76 = M 76 := hN_.1 76 (by decide) (by decide) (by decide)
          refine z_iload_5 dX7_lives_36 ?_
          refine z_iload_2 dX7_lives_38 ?_
          refine z_icmp_ge (tgt := 76) (by omega) (by omega) dX7_lives_39 (by decide) (fun c39 => ?_) (fun c39 => ?_)
          · refine z_iload_4 dX7_lives_76 ?_
            exact z_iret dX7_lives_78 (zRI (by rw [if_pos (by omega), hc_, show i_ = m_ by omega]) (by rw [if_pos (by omega)]; exact hN_))
          · refine z_aload_0 dX7_lives_42 ?_
            refine z_iload_1 dX7_lives_43 ?_
            refine z_iload_5 dX7_lives_44 ?_
            refine z_iadd dX7_lives_46 ?_
            refine z_iload_3 dX7_lives_47 ?_
            refine z_rVI yv_X7_lasts ml_X7_292 (c_X7_lasts (M := N_) (by rw [n76_]; exact hn) (by rw [n76_]; exact hp) (by rw [n76_]; exact hh) (by rw [n76_]; exact ht) (by rw [n76_]; exact hW) (by omega)) zk_75 rfl rfl (by decide) (Nat.le_of_ble_eq_true rfl) dX7_lives_48 (fun P_ hP_ => ?_)
            rw [n76_] at hP_ ⊢
            refine z_istore_6 rfl dX7_lives_51 ?_
            refine z_iload_4 dX7_lives_53 ?_
            refine z_aload_0 dX7_lives_55 ?_
            refine z_getIv (v := (zb (fhS (dgS (M 76)) (l_ + i_) n_.toNat ≠ 0))) fl_X7_287 zk_75 rfl (hP_.2) dX7_lives_56 ?_
            refine z_ifb_eq (tgt := 66) dX7_lives_59 (by decide) (fun c59 => ?_) (fun c59 => ?_)
            · refine z_iconst dX7_lives_66 ?_
              refine z_iadd dX7_lives_67 ?_
              refine z_istore_4 rfl dX7_lives_68 ?_
              refine z_iinc_5 rfl dX7_lives_70 ?_
              refine z_goto (tgt := 36) dX7_lives_73 (by decide) ?_
              refine z_drop_6 ?_
              exact ih36 _ _ _ (by omega) (by omega) (by rw [nat_1 hi_.1, lvS, hc_, Int.toNat_of_nonneg hi_.1]; first | (rw [if_neg c59]; done) | (rw [if_pos (Classical.byContradiction c59)]; done)) (by exact outL_tr hN_ hP_.1)
            · refine z_iconst dX7_lives_62 ?_
              refine z_goto (tgt := 67) dX7_lives_63 (by decide) ?_
              refine z_iadd dX7_lives_67 ?_
              refine z_istore_4 rfl dX7_lives_68 ?_
              refine z_iinc_5 rfl dX7_lives_70 ?_
              refine z_goto (tgt := 36) dX7_lives_73 (by decide) ?_
              refine z_drop_6 ?_
              exact ih36 _ _ _ (by omega) (by omega) (by rw [nat_1 hi_.1, lvS, hc_, Int.toNat_of_nonneg hi_.1]; first | (rw [if_neg c59]; done) | (rw [if_pos (Classical.byContradiction c59)]; done)) (by exact outL_tr hN_ hP_.1)
      have L36 : ∀ (c_ : Int) (i_ : Int) (N_ : zM), (0 ≤ i_ ∧ i_ ≤ m_) → (c_ = (lvS (dgS (M 76)) l_ n_.toNat i_.toNat)) → (outL N_ M) → Z RX7 cX7_lives 7 (some .int) 7 (zQ (RI (if ((1 ≤ m_ ∧ m_ ≤ 50) ∧ (1 ≤ n_ ∧ n_ ≤ 100)) then (lvS (dgS (M 76)) l_ n_.toNat m_.toNat) else -1000000001) (fun N => outL N (if ((1 ≤ m_ ∧ m_ ≤ 50) ∧ (1 ≤ n_ ∧ n_ ≤ 100)) then M else fnd7 M 0)))) 36 [some (vR 75), some (vI l_), some (vI m_), some (vI n_), some (vI c_), some (vI i_), none] [] (N_) := fun c_ i_ N_ hi_ hc_ hN_ => K36 ((m_ - i_).toNat + 1) c_ i_ N_ (by omega) hi_ hc_ hN_
      exact L36 _ _ _ (by omega) (by rfl) (by exact outL_rf)
    · refine z_aload_0 dX7_lives_24 ?_
      refine z_iconst dX7_lives_25 ?_
      refine z_cVI yv_X7_finding ml_X7_93 (c_X7_finding (by omega)) zk_75 rfl rfl (by decide) (Nat.le_of_ble_eq_true rfl) dX7_lives_26 ?_
      exact z_iret dX7_lives_29 (zRI (by rw [if_neg (by omega)] <;> rfl) (by rw [if_neg (by omega)]; exact outL_rf))
