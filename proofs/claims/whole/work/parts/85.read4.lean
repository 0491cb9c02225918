def outX (N M : zM) : Prop := ∀ k : Nat, k ≠ 7 → k ≠ 64 → k ≠ 65 → k ≠ 66 → N k = M k
theorem mEnd_f {k2 : aK} {x g lf cp co va : Int} (h : kNum k2 = (0, 0, 0, x, g, [])) : mEnd (k2, (0, lf, cp, 1, co, va)) := by
  refine ⟨?_, ?_, rfl⟩
  · simp only [h]
  · simp only [h]
theorem evV_of {F : Int → Int} {l : List (Int × Int)} {v : Int} (h : evO F l [] = some [v]) : evV F l = v := by
  unfold evV
  rw [h]
theorem goA_congr {F t t2 : Int → Int} : ∀ (n : Nat) (a : Int) (s : aK × aO), (∀ s2 j, a ≤ j → j < a + n → stA F s2 (t j) = stA F s2 (t2 j)) → goA F t n a s = goA F t2 n a s
  | 0, _, _, _ => rfl
  | n + 1, a, s, h => by
    rw [goA, goA, h s a (by omega) (by omega)]
    cases stA F s (t2 a) with
    | none => rfl
    | some s1 => exact goA_congr n (a + 1) s1 (fun s2 j x y => h s2 j (by omega) (by omega))
theorem stA_bm {F : Int → Int} {s : aK × aO} {c c2 : Int} (hc : 0 ≤ c ∧ c ≤ 255) (h : c2 = Int.bmod c 256) : stA F s c = stA F s c2 := by
  by_cases q : c < 128
  · have : Int.bmod c 256 = c := Int.bmod_eq_of_le (by omega) (by omega)
    rw [h, this]
  · have e2 : c2 = c - 256 := by
      rw [h, Int.bmod_def]
      split <;> omega
    have no : ∀ x : Int, (128 ≤ x ∨ x < 0) → stA F s x = none := by
      intro x hx
      have hd : ¬ isDg x := by omega
      have hn : nmI x = -1 := by
        unfold nmI
        rw [if_neg (by omega), if_neg (by omega), if_neg (by omega), if_neg (by omega), if_neg (by omega), if_neg (by omega)]
      have hi : inK F (kNum s.1) x = none := by
        unfold inK
        by_cases w : (kNum s.1).1 ≠ 0
        · rw [if_pos w, if_neg (by rw [hn]; simp), if_neg (by omega)]
        · rw [if_neg w, if_neg (by omega), if_neg (by omega)]
      have ho : ∀ (o : aO) (su : Int), ouO o su x = none := by
        intro o su
        have hp : plB o.1 x = -1 := by
          unfold plB
          rw [if_neg (by omega), if_neg (by omega), if_neg (by omega), if_neg (by omega)]
        unfold ouO
        rw [if_pos hp]
      have hk : stK F s.1 x = none := by rw [stK_n hd]; exact hi
      unfold stA
      simp only [hk]
      rw [if_neg hd, ho]
      split <;> rfl
    rw [no c (by omega), no c2 (by omega)]
theorem Go_congr {F t t2 : Int → Int} {a b n : Int} {s s2 : aK × aO} (h : Go F t a s b s2) (h0 : 0 ≤ a) (hb : b ≤ n) (hc : ∀ j : Int, 0 ≤ j → j < n → (0 ≤ t j ∧ t j ≤ 255) ∧ t2 j = Int.bmod (t j) 256) : Go F t2 a s b s2 := by
  refine ⟨h.1, ?_⟩
  have h1 := h.1
  rw [← goA_congr (F := F) (t := t) (b - a).toNat a s (fun s3 j x y => stA_bm (hc j (by omega) (by omega)).1 (hc j (by omega) (by omega)).2)]
  exact h.2
theorem TopF_bm {t t2 : Int → Int} {n b : Int} {l : List (Int × Int)} (h : TopF t n b l) (hb : b ≤ n) (hc : ∀ j : Int, 0 ≤ j → j < n → (0 ≤ t j ∧ t j ≤ 255) ∧ t2 j = Int.bmod (t j) 256) : TopF t2 n b l := by
  intro F nu0 lf0 cp0 va0
  obtain ⟨k2, x, g, lf, cp, co, va, g1, g2, g3, g4⟩ := h F nu0 lf0 cp0 va0
  have h1 := g1.1
  exact ⟨k2, x, g, lf, cp, co, va, Go_congr g1 (Int.le_refl _) hb hc, g2, g3, fun q => by rw [← stA_bm (hc b h1 q).1 (hc b h1 q).2]; exact g4 q⟩
theorem TopF_eq {t t2 : Int → Int} {n b : Int} {l : List (Int × Int)} (h : TopF t n b l) (hb : b ≤ n) (hc : ∀ j : Int, 0 ≤ j → j < n → t2 j = t j) : TopF t2 n b l := by
  intro F nu0 lf0 cp0 va0
  obtain ⟨k2, x, g, lf, cp, co, va, g1, g2, g3, g4⟩ := h F nu0 lf0 cp0 va0
  have h1 := g1.1
  refine ⟨k2, x, g, lf, cp, co, va, ⟨h1, ?_⟩, g2, g3, fun q => by rw [hc b h1 q]; exact g4 q⟩
  rw [← goA_congr (F := F) (t := t) (b - 0).toNat 0 _ (fun s3 j x y => by rw [hc j (by omega) (by omega)])]
  exact g1.2
theorem TopNO_bm {t t2 : Int → Int} {n b : Int} (h : TopNO t n b) (hb : b ≤ n) (hc : ∀ j : Int, 0 ≤ j → j < n → (0 ≤ t j ∧ t j ≤ 255) ∧ t2 j = Int.bmod (t j) 256) : TopNO t2 n b := by
  intro F nu0 lf0 cp0 va0
  obtain ⟨s2, g1, g2⟩ := h F nu0 lf0 cp0 va0
  have h1 := g1.1
  refine ⟨s2, Go_congr g1 (Int.le_refl _) hb hc, ?_⟩
  rcases g2 with g2 | g2
  · exact Or.inl ⟨g2.1, by rw [← stA_bm (hc b h1 g2.1).1 (hc b h1 g2.1).2]; exact g2.2⟩
  · exact Or.inr g2
theorem TopF_RuW {t : Int → Int} {n : Int} {l : List (Int × Int)} (h : TopF t n n l) : ∀ F : Int → Int, ∃ v, evO F l [] = some [v] := by
  intro F
  obtain ⟨k2, x, g, lf, cp, co, va, g1, g2, g3, g4⟩ := h F 0 0 0 0
  exact ⟨_, g3⟩
theorem openC_congr {g g2 : Nat → Int → Int} {today : Int} : ∀ n : Nat, (∀ i, i < n → g i 1 = g2 i 1) → openC g today n = openC g2 today n
  | 0, _ => rfl
  | n + 1, h => by
    rw [openC, openC, openC_congr n (fun i hi => h i (by omega)), h n (by omega)]
theorem nextC_congr {g g2 : Nat → Int → Int} {today : Int} : ∀ n : Nat, (∀ i, i < n → g i 1 = g2 i 1) → nextC g today n = nextC g2 today n
  | 0, _ => rfl
  | n + 1, h => by
    rw [nextC, nextC, nextC_congr n (fun i hi => h i (by omega)), h n (by omega)]
theorem ev1_congr {F G : Int → Int} {e : Int × Int} {p : List Int} (h : ∀ i : Int, 0 ≤ i → i ≤ 5 → F i = G i) : ev1 F e p = ev1 G e p := by
  have n := nmI_i e.2
  unfold ev1
  by_cases q : nmI e.2 ≠ -1
  · rw [h (nmI e.2) (by omega) (by omega)]
  · simp only [if_neg q]
theorem evO_congr {F G : Int → Int} (h : ∀ i : Int, 0 ≤ i → i ≤ 5 → F i = G i) : ∀ (l : List (Int × Int)) (p : List Int), evO F l p = evO G l p
  | [], p => rfl
  | e :: l, p => by
    show (ev1 F e p).bind (evO F l) = (ev1 G e p).bind (evO G l)
    rw [ev1_congr h]
    cases ev1 G e p with
    | none => rfl
    | some q => exact evO_congr h l q
theorem evV_congr {t F G : Int → Int} {n : Int} {l : List (Int × Int)} (_ : TopF t n n l) (h : ∀ i : Int, 0 ≤ i → i ≤ 5 → F i = G i) : evV F l = evV G l := by
  unfold evV
  rw [evO_congr h]
theorem c_X1_faultOf1 {M : zM} {tb : Nat} {n_ : Int} {l_ : List (Int × Int)} (htk : zKT tb 8) (htN : zN tb = 60) (htb : tb ≠ 7 ∧ tb ≠ 65 ∧ tb ≠ 66) (hn : 0 ≤ n_ ∧ n_ ≤ 60) (hby : ∀ j : Int, 0 ≤ j → j < n_ → -128 ≤ M tb j ∧ M tb j < 128) (hcp : RdI M) (hF : TopF (M tb) n_ n_ l_) : Call yX1_faultOf cX1_faultOf 3 (some .int) 4 [vR 7, vR tb, vI n_] (M) (RI (-1) (fun N => outT N M ∧ RdI N)) := by
  refine Call.of2 (own := RX1) (lv0 := [some (vR 7), some (vR tb), some (vI n_)]) rfl (by decide) rfl (Nat.le_of_ble_eq_true rfl) ?_
  obtain ⟨k2_, x_, g2_, lf_, cp_, co_, va_, t1_, t2_, t3_, t4_⟩ := hF (M 64) (M 7 4) (M 7 11) (M 7 12) (M 7 15)
  refine z_aload_0 dX1_faultOf_0 ?_
  refine z_aload_1 dX1_faultOf_1 ?_
  refine z_iload_2 dX1_faultOf_2 ?_
  refine z_rVN yv_X1_readText ml_X1_79 (c_X1_readText htk htN htb hn hby hcp t1_ (Or.inr rfl)) zk_7 rfl rfl (by decide) (Nat.le_of_ble_eq_true rfl) dX1_faultOf_3 (fun N_ hN_ => ?_)
  refine z_aload_0 dX1_faultOf_6 ?_
  refine z_getIv (v := (-1)) fl_X1_15 zk_7 rfl ((hN_.2.2.2.1 rfl (mEnd_f t2_)).1) dX1_faultOf_7 ?_
  exact z_iret dX1_faultOf_10 (zRI rfl ⟨hN_.1, hN_.2.1⟩)

theorem c_X1_faultOf0 {M : zM} {tb : Nat} {n_ b_ : Int} (htk : zKT tb 8) (htN : zN tb = 60) (htb : tb ≠ 7 ∧ tb ≠ 65 ∧ tb ≠ 66) (hn : 0 ≤ n_ ∧ n_ ≤ 60) (hby : ∀ j : Int, 0 ≤ j → j < n_ → -128 ≤ M tb j ∧ M tb j < 128) (hcp : RdI M) (hb : b_ ≤ n_) (hF : TopNO (M tb) n_ b_ ∨ (b_ < n_ ∧ exL (fun l => TopF (M tb) n_ b_ l))) : Call yX1_faultOf cX1_faultOf 3 (some .int) 4 [vR 7, vR tb, vI n_] (M) (RI b_ (fun N => outT N M ∧ RdI N)) := by
  refine Call.of2 (own := RX1) (lv0 := [some (vR 7), some (vR tb), some (vI n_)]) rfl (by decide) rfl (Nat.le_of_ble_eq_true rfl) ?_
  obtain ⟨s2_, t1_, t2_⟩ : ∃ s2_, Go (M 64) (M tb) 0 (s0A (M 7 4) (M 7 11) (M 7 12) (M 7 15)) b_ s2_ ∧ Stuck (M 64) (M tb) n_ b_ s2_ := by
    rcases hF with hF | ⟨q1_, l_, q2_⟩
    · exact hF (M 64) (M 7 4) (M 7 11) (M 7 12) (M 7 15)
    · obtain ⟨k2_, x_, g2_, lf_, cp_, co_, va_, t1_, t2_, t3_, t4_⟩ := q2_ (M 64) (M 7 4) (M 7 11) (M 7 12) (M 7 15)
      exact ⟨_, t1_, Or.inl ⟨q1_, t4_ q1_⟩⟩
  refine z_aload_0 dX1_faultOf_0 ?_
  refine z_aload_1 dX1_faultOf_1 ?_
  refine z_iload_2 dX1_faultOf_2 ?_
  refine z_rVN yv_X1_readText ml_X1_79 (c_X1_readText htk htN htb hn hby hcp t1_ (by rcases t2_ with h_ | h_; (exact Or.inl h_); (exact Or.inr h_.1))) zk_7 rfl rfl (by decide) (Nat.le_of_ble_eq_true rfl) dX1_faultOf_3 (fun N_ hN_ => ?_)
  refine z_aload_0 dX1_faultOf_6 ?_
  refine z_getIv (v := b_) fl_X1_15 zk_7 rfl (by rcases t2_ with h_ | h_; (exact hN_.2.2.1 h_.1); (rw [hN_.2.2.2.2 h_.1 h_.2]; exact h_.1.symm)) dX1_faultOf_7 ?_
  exact z_iret dX1_faultOf_10 (zRI rfl ⟨hN_.1, hN_.2.1⟩)

theorem c_X1_learn {M : zM} {w : Nat} (hw : isW w) (hO : WOK M w) : Call yX1_learn cX1_learn 3 none 3 [vR 7, vR w] (M) (RN (fun N => (∀ k_ : Nat, k_ ≠ 64 → N k_ = M k_) ∧ ∀ i_ : Int, 0 ≤ i_ → i_ ≤ 5 → N 64 i_ = (nmV (M w 6).toNat (gW M w) (M w 0) (M w 1) (M (10 + w) 5)) i_)) := by
  refine Call.of2 (own := RX1) (lv0 := [some (vR 7), some (vR w), none]) rfl (by decide) rfl (Nat.le_of_ble_eq_true rfl) ?_
  have hw3_ := isW_le hw
  obtain ⟨⟨t0_, t1_⟩, ⟨h0_, h1_⟩, hn, hp⟩ := id hO
  have hnx_ := nextC_le (g := gW M w) (today := M w 0) t0_ (M w 6).toNat (WN_all hn)
  
  refine z_aload_1 dX1_learn_0 ?_
  refine z_cVI yv_X5_nextWarned ml_X1_83 (c_X5_nextWarned hw hn ⟨t0_, t1_⟩) (zw_k hw) rfl rfl (by decide) (Nat.le_of_ble_eq_true rfl) dX1_learn_1 ?_
  refine z_istore_2 rfl dX1_learn_4 ?_
  refine z_aload_0 dX1_learn_5 ?_
  refine z_getR (r := 64) fl_X1_11 zk_7 rfl rfl dX1_learn_6 ?_
  refine z_iconst dX1_learn_9 ?_
  refine z_aload_1 dX1_learn_10 ?_
  refine z_aload_1 dX1_learn_11 ?_
  refine z_getI fl_X1_87 (zw_k hw) rfl dX1_learn_12 ?_
  refine z_iconst dX1_learn_15 ?_
  refine z_iadd dX1_learn_16 ?_
  refine z_aload_1 dX1_learn_17 ?_
  refine z_getI fl_X1_90 (zw_k hw) rfl dX1_learn_18 ?_
  refine z_cVI yv_X5_dangerOn ml_X1_93 (c_X5_dangerOn hw hn ⟨h0_, h1_⟩ (by omega)) (zw_k hw) rfl rfl (by decide) (Nat.le_of_ble_eq_true rfl) dX1_learn_21 ?_
  refine z_iast (n := 6) zk_64 rfl (by omega) dX1_learn_24 ?_
  refine z_aload_0 dX1_learn_25 ?_
  refine z_getR (r := 64) fl_X1_11 zk_7 rfl rfl dX1_learn_26 ?_
  refine z_iconst dX1_learn_29 ?_
  have J46 : ∀ (x_ : Int), (x_ = if (nextC (gW M w) (M w 0) (M w 6).toNat) < 0 then 999 else (nextC (gW M w) (M w 0) (M w 6).toNat) - M w 0) → Z RX1 cX1_learn 3 none 3 (zQ (RN (fun N => (∀ k_ : Nat, k_ ≠ 64 → N k_ = M k_) ∧ ∀ i_ : Int, 0 ≤ i_ → i_ ≤ 5 → N 64 i_ = (nmV (M w 6).toNat (gW M w) (M w 0) (M w 1) (M (10 + w) 5)) i_))) 46 [some (vR 7), some (vR w), some (vI (nextC (gW M w) (M w 0) (M w 6).toNat))] [vI x_, vI 1, vR 64] ((zput M 64 0 (danger (M w 6).toNat (gW M w) (M w 0 + 1) (M w 1)))) := by
    intro x_ hx_
    refine z_iast (n := 6) zk_64 rfl (by omega) dX1_learn_46 ?_
    refine z_aload_0 dX1_learn_47 ?_
    refine z_getR (r := 64) fl_X1_11 zk_7 rfl rfl dX1_learn_48 ?_
    refine z_iconst dX1_learn_51 ?_
    refine z_aload_1 dX1_learn_52 ?_
    refine z_getR (r := (10 + w)) fl_X1_97 (zw_k hw) rfl (zw_pR hw) dX1_learn_53 ?_
    refine z_iconst dX1_learn_56 ?_
    refine z_ialdv (n := 6) (v := (M (10 + w) 5)) (zw_p hw) (zw_pN hw) (by omega) (by rw [zput_ne (by omega), zput_ne (by omega)]) dX1_learn_57 ?_
    refine z_iast (n := 6) zk_64 rfl (by omega) dX1_learn_58 ?_
    refine z_aload_0 dX1_learn_59 ?_
    refine z_getR (r := 64) fl_X1_11 zk_7 rfl rfl dX1_learn_60 ?_
    refine z_iconst dX1_learn_63 ?_
    refine z_aload_1 dX1_learn_64 ?_
    refine z_getIv (v := (M w 1)) fl_X1_90 (zw_k hw) rfl (by rw [zput_ne (by omega), zput_ne (by omega), zput_ne (by omega)]) dX1_learn_65 ?_
    refine z_iast (n := 6) zk_64 rfl (by omega) dX1_learn_68 ?_
    refine z_aload_0 dX1_learn_69 ?_
    refine z_getR (r := 64) fl_X1_11 zk_7 rfl rfl dX1_learn_70 ?_
    refine z_iconst dX1_learn_73 ?_
    have x4k_ : ∀ k_ : Nat, k_ ≠ 64 → (zput (zput (zput (zput M 64 0 (danger (M w 6).toNat (gW M w) (M w 0 + 1) (M w 1))) 64 1 x_) 64 2 (M (10 + w) 5)) 64 3 (M w 1)) k_ = M k_ := fun k_ h_ => by rw [zput_ne h_, zput_ne h_, zput_ne h_, zput_ne h_]
    have x4w_ : (zput (zput (zput (zput M 64 0 (danger (M w 6).toNat (gW M w) (M w 0 + 1) (M w 1))) 64 1 x_) 64 2 (M (10 + w) 5)) 64 3 (M w 1)) w = M w := x4k_ w (by omega)
    have h12_ := hn.1
    have x4n_ : WN (zput (zput (zput (zput M 64 0 (danger (M w 6).toNat (gW M w) (M w 0 + 1) (M w 1))) 64 1 x_) 64 2 (M (10 + w) 5)) 64 3 (M w 1)) w := ⟨by rw [x4w_]; exact hn.1, fun i_ hi_ => by rw [x4w_] at hi_; rw [x4k_ _ (by omega)]; exact hn.2 i_ hi_⟩
    have x4o_ : openC (gW (zput (zput (zput (zput M 64 0 (danger (M w 6).toNat (gW M w) (M w 0 + 1) (M w 1))) 64 1 x_) 64 2 (M (10 + w) 5)) 64 3 (M w 1)) w) (M w 0) (M w 6).toNat = openC (gW M w) (M w 0) (M w 6).toNat := openC_congr _ (fun i_ hi_ => by show (zput (zput (zput (zput M 64 0 (danger (M w 6).toNat (gW M w) (M w 0 + 1) (M w 1))) 64 1 x_) 64 2 (M (10 + w) 5)) 64 3 (M w 1)) (12 * w + 8 + i_) 1 = M (12 * w + 8 + i_) 1; rw [x4k_ _ (by omega)])
    refine z_aload_1 dX1_learn_74 ?_
    refine z_cVI yv_X5_openOnes ml_X1_100 (c_X5_openOnes (M := (zput (zput (zput (zput M 64 0 (danger (M w 6).toNat (gW M w) (M w 0 + 1) (M w 1))) 64 1 x_) 64 2 (M (10 + w) 5)) 64 3 (M w 1))) hw x4n_ (by rw [zput_ne (by omega), zput_ne (by omega), zput_ne (by omega), zput_ne (by omega)]; omega)) (zw_k hw) rfl rfl (by decide) (Nat.le_of_ble_eq_true rfl) dX1_learn_75 ?_
    rw [x4w_, x4o_]
    refine z_iast (n := 6) zk_64 rfl (by omega) dX1_learn_78 ?_
    refine z_aload_0 dX1_learn_79 ?_
    refine z_getR (r := 64) fl_X1_11 zk_7 rfl rfl dX1_learn_80 ?_
    refine z_iconst dX1_learn_83 ?_
    refine z_aload_1 dX1_learn_84 ?_
    refine z_getIv (v := (M w 0)) fl_X1_87 (zw_k hw) rfl (by rw [zput_ne (by omega), zput_ne (by omega), zput_ne (by omega), zput_ne (by omega), zput_ne (by omega)]) dX1_learn_85 ?_
    refine z_iast (n := 6) zk_64 rfl (by omega) dX1_learn_88 ?_
    exact z_vret dX1_learn_89 (zRN ⟨fun k_ h_ => by rw [zput_ne h_, zput_ne h_]; exact x4k_ k_ h_, fun i_ a_ b_ => by
        rcases (show i_ = 0 ∨ i_ = 1 ∨ i_ = 2 ∨ i_ = 3 ∨ i_ = 4 ∨ i_ = 5 by omega) with e_ | e_ | e_ | e_ | e_ | e_
        · rw [e_, zput_ne2 (by decide), zput_ne2 (by decide), zput_ne2 (by decide), zput_ne2 (by decide), zput_ne2 (by decide), zput_eq]; rfl
        · rw [e_, zput_ne2 (by decide), zput_ne2 (by decide), zput_ne2 (by decide), zput_ne2 (by decide), zput_eq, hx_]; rfl
        · rw [e_, zput_ne2 (by decide), zput_ne2 (by decide), zput_ne2 (by decide), zput_eq]; rfl
        · rw [e_, zput_ne2 (by decide), zput_ne2 (by decide), zput_eq]; rfl
        · rw [e_, zput_ne2 (by decide), zput_eq]; rfl
        · rw [e_, zput_eq]; rfl⟩)
  refine z_iload_2 dX1_learn_30 ?_
  refine z_if_ge (tgt := 40) (by omega) dX1_learn_31 (by decide) (fun c31 => ?_) (fun c31 => ?_)
  · refine z_iload_2 dX1_learn_40 ?_
    refine z_aload_1 dX1_learn_41 ?_
    refine z_getIv (v := (M w 0)) fl_X1_87 (zw_k hw) rfl (by rw [zput_ne (by omega)]) dX1_learn_42 ?_
    refine z_isub dX1_learn_45 ?_
    exact J46 _ (by first | exact (if_pos (by omega)).symm | exact (if_neg (by omega)).symm)
  · refine z_sipush dX1_learn_34 (by decide) ?_
    refine z_goto (tgt := 46) dX1_learn_37 (by decide) ?_
    exact J46 _ (by first | exact (if_pos (by omega)).symm | exact (if_neg (by omega)).symm)

theorem c_X1_told {M : zM} {l_ : List (Int × Int)} {w : Nat} (hw : isW w) (hO : WOK M w) (hT : (M w 8 = 0 ∧ l_ = []) ∨ ((1 ≤ M w 8 ∧ M w 8 ≤ 60) ∧ TopF (M (16 + w)) (M w 8) (M w 8) l_)) (hby : ∀ j : Int, 0 ≤ j → j < M w 8 → -128 ≤ M (16 + w) j ∧ M (16 + w) j < 128) (hcp : RdI M) : Call yX1_told cX1_told 2 (some .int) 4 [vR 7, vR w] (M) (RI (evV (nmV (M w 6).toNat (gW M w) (M w 0) (M w 1) (M (10 + w) 5)) l_) (fun N => outX N M ∧ RdI N)) := by
  refine Call.of2 (own := RX1) (lv0 := [some (vR 7), some (vR w)]) rfl (by decide) rfl (Nat.le_of_ble_eq_true rfl) ?_
  have hw3_ := isW_le hw
  obtain ⟨⟨t0_, t1_⟩, ⟨h0_, h1_⟩, hn, hp⟩ := id hO
  have hnx_ := nextC_le (g := gW M w) (today := M w 0) t0_ (M w 6).toNat (WN_all hn)
  
  refine z_aload_1 dX1_told_0 ?_
  refine z_cVI yv_X5_hasRule ml_X1_62 (c_X5_hasRule hw (by rcases hT with h_ | h_ <;> omega)) (zw_k hw) rfl rfl (by decide) (Nat.le_of_ble_eq_true rfl) dX1_told_1 ?_
  refine z_ifb_ne (tgt := 9) dX1_told_4 (by decide) (fun c4 => ?_) (fun c4 => ?_)
  · refine z_aload_0 dX1_told_9 ?_
    refine z_aload_1 dX1_told_10 ?_
    refine z_rVN yv_X1_learn ml_X1_68 (c_X1_learn hw hO) zk_7 rfl rfl (by decide) (Nat.le_of_ble_eq_true rfl) dX1_told_11 (fun L_ hL_ => ?_)
    have l16_ : L_ (16 + w) = M (16 + w) := hL_.1 _ (by omega)
    have l8_ : L_ w = M w := hL_.1 w (by omega)
    have l7_ : L_ 7 = M 7 := hL_.1 7 (by decide)
    obtain ⟨ht1_, ht2_⟩ : (1 ≤ M w 8 ∧ M w 8 ≤ 60) ∧ TopF (M (16 + w)) (M w 8) (M w 8) l_ := by rcases hT with h_ | h_; (exfalso; omega); exact h_
    obtain ⟨k2_, x_, g2_, lf_, cp_, co_, va_, u1_, u2_, u3_, u4_⟩ := ht2_ (L_ 64) (L_ 7 4) (L_ 7 11) (L_ 7 12) (L_ 7 15)
    refine z_aload_0 dX1_told_14 ?_
    refine z_aload_1 dX1_told_15 ?_
    refine z_getR (r := (16 + w)) fl_X1_72 (zw_k hw) rfl (zw_tR hw) dX1_told_16 ?_
    refine z_aload_1 dX1_told_19 ?_
    refine z_getIv (v := (M w 8)) fl_X1_76 (zw_k hw) rfl (by rw [l8_]) dX1_told_20 ?_
    refine z_rVN yv_X1_readText ml_X1_79 (c_X1_readText (M := L_) (tb := 16 + w) (zw_t hw) (zw_tN hw) ⟨by omega, by omega, by omega⟩ (by omega) (by rw [l16_]; exact hby) (by unfold RdI; rw [l7_]; exact hcp) (by rw [l16_]; exact u1_) (Or.inr rfl)) zk_7 rfl rfl (by decide) (Nat.le_of_ble_eq_true rfl) dX1_told_23 (fun N_ hN_ => ?_)
    obtain ⟨n1_, n2_, n3_, n4_, n5_⟩ := hN_
    have nR_ := (n4_ rfl (mEnd_f u2_)).2
    simp only [u2_] at nR_
    have nx_ : outX N_ M := fun k_ a_ b_ c_ d_ => by rw [n1_ k_ a_ c_ d_]; exact hL_.1 k_ b_
    have nco_ := nR_.2.2.2.2.2.2.1
    have nva_ := nR_.2.2.2.2.2.2.2.1
    have nsu_ := nR_.2.1.1
    have nc01_ := nR_.2.2.2.2.2.2.2.2.2.2.2
    simp only [] at nco_ nva_ nsu_ nc01_
    have hev_ : (evV (nmV (M w 6).toNat (gW M w) (M w 0) (M w 1) (M (10 + w) 5)) l_) = if co_ ≠ 0 then va_ else x_ := by
      rw [← evV_of u3_]
      exact evV_congr ht2_ (fun i_ a_ b_ => (hL_.2 i_ a_ b_).symm)
    refine z_aload_0 dX1_told_26 ?_
    refine z_getIv (v := co_) fl_X1_56 zk_7 rfl (nco_) dX1_told_27 ?_
    refine z_if_eq (tgt := 40) (by omega) dX1_told_30 (by decide) (fun c30 => ?_) (fun c30 => ?_)
    · refine z_aload_0 dX1_told_40 ?_
      refine z_getIv (v := x_) fl_X1_32 zk_7 rfl (nsu_) dX1_told_41 ?_
      exact z_iret dX1_told_44 (zRI (by rw [hev_]; first | (rw [if_pos (by omega)]; done) | (rw [if_neg (by omega)]; done)) ⟨nx_, n2_⟩)
    · refine z_aload_0 dX1_told_33 ?_
      refine z_getIv (v := va_) fl_X1_59 zk_7 rfl (nva_) dX1_told_34 ?_
      refine z_goto (tgt := 44) dX1_told_37 (by decide) ?_
      exact z_iret dX1_told_44 (zRI (by rw [hev_]; first | (rw [if_pos (by omega)]; done) | (rw [if_neg (by omega)]; done)) ⟨nx_, n2_⟩)
  · refine z_iconst dX1_told_7 ?_
    exact z_iret dX1_told_8 (zRI (by rcases hT with h_ | h_; (rw [h_.2]; rfl); (exfalso; omega)) ⟨fun _ _ _ _ _ => rfl, hcp⟩)
