theorem Lk_up {M : zM} {c : Int} (h : Lk M c) : Lk M (c + 1) := ⟨fun i hi => by have := h.1 i hi; omega, fun q i hi => by have := h.2 q i hi; omega⟩
theorem law_loop {b n : Nat} {S : Nat → Int} (hn3 : n ≤ 3072) (hR : ∀ j, -2147483648 ≤ S j ∧ S j < 2147483648) : ∀ (fuel_ : Nat) (i : Int) (M : zM), (n : Int) - i < fuel_ → 0 ≤ i → i ≤ n → i % 6 = 0 → Sim M → Lk M (i / 6) → Z RL cL_law 4 (some .boolean) 40 (lawF b n S) 18 [some (vR 96), some (vR 0), some (vR 75), some (vI i)] [] M := by
  intro fuel_
  induction fuel_ with
  | zero => intro i M a1 a2 a3 a4 a5 a6; exfalso; omega
  | succ fuel_ ih =>
    intro i M a1 a2 a3 a4 a5 a6
    have hn : n < 2 ^ 31 := by omega
    have hF := lawF_scr (b := b) (n := n) (S := S)
    refine z_iload_3 dL_law_18 ?_
    refine z_aload_0 dL_law_19 ?_
    refine z_scrn hF dL_law_20 ?_
    refine z_bipush dL_law_21 (by decide) ?_
    refine z_isub dL_law_23 ?_
    refine z_icmp_gt (tgt := 1451) (by omega) (by omega) dL_law_24 (by decide) (fun _ => ?_) (fun c24 => ?_)
    · refine z_iconst dL_law_1451 ?_
      exact z_lawret dL_law_1452
    have hi : 0 ≤ i ∧ i + 6 ≤ n := by omega
    refine z_aload_0 dL_law_27 ?_
    refine z_iload_3 dL_law_28 ?_
    refine z_scrl hF hn (by omega) dL_law_29 ?_
    refine z_bipush dL_law_30 (by decide) ?_
    refine z_iand dL_law_32 ?_
    refine z_wrap ?_
    have hx := zw_r (zand (S i.toNat) 63)
    generalize zw (zand (S i.toNat) 63) = x_ at hx ⊢
    have k : ∀ K, SimN M K → Z RL cL_law 4 (some .boolean) 40 (lawF b n S) 1445 [some (vR 96), some (vR 0), some (vR 75), some (vI i)] [] K := by
      intro K hK
      obtain ⟨hs, hl⟩ := hK (i / 6) (by omega) a6
      refine z_iinc_3 rfl dL_law_1445 ?_
      refine z_goto (tgt := 18) dL_law_1448 (by decide) ?_
      have e6 : i / 6 + 1 = (i + 6) / 6 := by omega
      rw [e6] at hl
      exact ih (i + 6) K (by omega) (by omega) (by omega) (by omega) hs hl
    by_cases hlt : x_ < 0 ∨ 39 < x_
    · exact z_tsOut (tgt := 1445) hx dL_law_33 hlt (by decide) (k M (fun c hc h => ⟨a5, Lk_up h⟩))
    obtain ⟨q_, hq, rfl⟩ : ∃ q_ : Nat, q_ < 40 ∧ x_ = q_ := ⟨x_.toNat, by omega, by omega⟩
    clear hlt
    match q_, hq, hx with
    | 0, _, hx => exact z_tsIn (off := 175) (tgt := 208) hx dL_law_33 (by decide) (by decide) rfl (by decide) (lc_plan hF hn hR hi a5 k)
    | 1, _, hx => exact z_tsIn (off := 208) (tgt := 241) hx dL_law_33 (by decide) (by decide) rfl (by decide) (lc_move hF hn hR hi a5 k)
    | 2, _, hx => exact z_tsIn (off := 231) (tgt := 264) hx dL_law_33 (by decide) (by decide) rfl (by decide) (lc_may hF hn hR hi a5 k)
    | 3, _, hx => exact z_tsIn (off := 254) (tgt := 287) hx dL_law_33 (by decide) (by decide) rfl (by decide) (lc_days hF hn hR hi a5 k)
    | 4, _, hx => exact z_tsIn (off := 277) (tgt := 310) hx dL_law_33 (by decide) (by decide) rfl (by decide) (lc_runs hF hn hR hi a5 k)
    | 5, _, hx => exact z_tsIn (off := 300) (tgt := 333) hx dL_law_33 (by decide) (by decide) rfl (by decide) (lc_thing hF hn hR hi a5 k)
    | 6, _, hx => exact z_tsIn (off := 324) (tgt := 357) hx dL_law_33 (by decide) (by decide) rfl (by decide) (lc_warn hF hn hR hi a5 k)
    | 7, _, hx => exact z_tsIn (off := 367) (tgt := 400) hx dL_law_33 (by decide) (by decide) rfl (by decide) (lc_of hF hn hR hi a5 k)
    | 8, _, hx => exact z_tsIn (off := 400) (tgt := 433) hx dL_law_33 (by decide) (by decide) rfl (by decide) (lc_as hF hn hR hi a5 k)
    | 9, _, hx => exact z_tsIn (off := 433) (tgt := 466) hx dL_law_33 (by decide) (by decide) rfl (by decide) (lc_struck hF hn hR hi a5 k)
    | 10, _, hx => exact z_tsIn (off := 466) (tgt := 499) hx dL_law_33 (by decide) (by decide) rfl (by decide) (lc_look hF hn hR hi a5 k)
    | 11, _, hx => exact z_tsIn (off := 525) (tgt := 558) hx dL_law_33 (by decide) (by decide) rfl (by decide) (lc_think hF hn hR hi a5 k)
    | 12, _, hx => exact z_tsIn (off := 584) (tgt := 617) hx dL_law_33 (by decide) (by decide) rfl (by decide) (lc_danger hF hn hR hi a5 k)
    | 13, _, hx => exact z_tsIn (off := 617) (tgt := 650) hx dL_law_33 (by decide) (by decide) rfl (by decide) (lc_safest hF hn hR hi a5 k)
    | 14, _, hx => exact z_tsIn (off := 640) (tgt := 673) hx dL_law_33 (by decide) (by decide) rfl (by decide) (lc_open hF hn hR hi a5 k)
    | 15, _, hx => exact z_tsIn (off := 653) (tgt := 686) hx dL_law_33 (by decide) (by decide) rfl (by decide) (lc_feed hF hn hR hi a5 k)
    | 16, _, hx => exact z_tsIn (off := 686) (tgt := 719) hx dL_law_33 (by decide) (by decide) rfl (by decide) (lc_wipe hF hn hR hi a5 k)
    | 17, _, hx => exact z_tsIn (off := 699) (tgt := 732) hx dL_law_33 (by decide) (by decide) rfl (by decide) (lc_rule hF hn hR hi a5 k)
    | 18, _, hx => exact z_tsIn (off := 712) (tgt := 745) hx dL_law_33 (by decide) (by decide) rfl (by decide) (lc_drift hF hn hR hi a5 k)
    | 19, _, hx => exact z_tsIn (off := 725) (tgt := 758) hx dL_law_33 (by decide) (by decide) rfl (by decide) (lc_says hF hn hR hi a5 k)
    | 20, _, hx => exact z_tsIn (off := 748) (tgt := 781) hx dL_law_33 (by decide) (by decide) rfl (by decide) (lc_best hF hn hR hi a5 k)
    | 21, _, hx => exact z_tsIn (off := 782) (tgt := 815) hx dL_law_33 (by decide) (by decide) rfl (by decide) (lc_turn hF hn hR hi a5 k)
    | 22, _, hx => exact z_tsIn (off := 815) (tgt := 848) hx dL_law_33 (by decide) (by decide) rfl (by decide) (lc_rest hF hn hR hi a5 k)
    | 23, _, hx => exact z_tsIn (off := 839) (tgt := 872) hx dL_law_33 (by decide) (by decide) rfl (by decide) (lc_home hF hn hR hi a5 k)
    | 24, _, hx => exact z_tsIn (off := 872) (tgt := 905) hx dL_law_33 (by decide) (by decide) rfl (by decide) (lc_know hF hn hR hi a5 k)
    | 25, _, hx => exact z_tsIn (off := 916) (tgt := 949) hx dL_law_33 (by decide) (by decide) rfl (by decide) (lc_life hF hn hR hi a5 k)
    | 26, _, hx => exact z_tsIn (off := 949) (tgt := 982) hx dL_law_33 (by decide) (by decide) rfl (by decide) (lc_lives hF hn hR hi a5 k)
    | 27, _, hx => exact z_tsIn (off := 992) (tgt := 1025) hx dL_law_33 (by decide) (by decide) rfl (by decide) (lc_rests hF hn hR hi a5 k)
    | 28, _, hx => exact z_tsIn (off := 1015) (tgt := 1048) hx dL_law_33 (by decide) (by decide) rfl (by decide) (lc_both hF hn hR hi a5 k)
    | 29, _, hx => exact z_tsIn (off := 1048) (tgt := 1081) hx dL_law_33 (by decide) (by decide) rfl (by decide) (lc_swarm hF hn hR hi a5 k)
    | 30, _, hx => exact z_tsIn (off := 1101) (tgt := 1134) hx dL_law_33 (by decide) (by decide) rfl (by decide) (lc_sheet hF hn hR hi a5 k)
    | 31, _, hx => exact z_tsIn (off := 1144) (tgt := 1177) hx dL_law_33 (by decide) (by decide) rfl (by decide) (lc_write hF hn hR hi a5 k)
    | 32, _, hx => exact z_tsIn (off := 1218) (tgt := 1251) hx dL_law_33 (by decide) (by decide) rfl (by decide) (lc_copy hF hn hR hi a5 k)
    | 33, _, hx => exact z_tsIn (off := 1281) (tgt := 1314) hx dL_law_33 (by decide) (by decide) rfl (by decide) (lc_turns hF hn hR hi a5 k)
    | 34, _, hx => exact z_tsIn (off := 1304) (tgt := 1337) hx dL_law_33 (by decide) (by decide) rfl (by decide) (lc_read hF hn hR hi a5 k)
    | 35, _, hx => exact z_tsIn (off := 1327) (tgt := 1360) hx dL_law_33 (by decide) (by decide) rfl (by decide) (lc_image hF hn hR hi a5 k)
    | 36, _, hx => exact z_tsIn (off := 1340) (tgt := 1373) hx dL_law_33 (by decide) (by decide) rfl (by decide) (lc_undo hF hn hR hi a5 k)
    | 37, _, hx => exact z_tsIn (off := 1353) (tgt := 1386) hx dL_law_33 (by decide) (by decide) rfl (by decide) (lc_tear hF hn hR hi a5 k)
    | 38, _, hx => exact z_tsIn (off := 1366) (tgt := 1399) hx dL_law_33 (by decide) (by decide) rfl (by decide) (lc_count hF hn hR hi a5 k)
    | 39, _, hx => exact z_tsIn (off := 1389) (tgt := 1422) hx dL_law_33 (by decide) (by decide) rfl (by decide) (lc_status hF hn hR hi a5 k)
    | q_ + 40, hq, _ => exact absurd hq (by omega)
