section
variable {F t : Int → Int} {k k2 : aK} {o o2 : aO} {c : Int} {M N : zM} {s s2 : aK × aO}
theorem stA_dg1 (hd : isDg c) (h : ¬ (k.1 = 0 ∨ k.2.2.1 = 7)) : stA F (k, o) c = some ((k.1, (if k.2.2.1 = 0 then c - 48 else 10 * k.2.1 + (c - 48)), k.2.2.1 + 1, k.2.2.2.1, k.2.2.2.2.1, k.2.2.2.2.2), o) := by
  refine stA_K ?_
  unfold stK
  rw [if_pos hd, if_neg h]
theorem stA_dg0 (hd : isDg c) (h : k.1 = 0 ∨ k.2.2.1 = 7) : stA F (k, o) c = none := by
  have e : stK F k c = none := by unfold stK; rw [if_pos hd, if_pos h]
  unfold stA
  simp only [e]
  rw [if_pos hd]
theorem stA_in (hd : ¬ isDg c) (h : inK F (kNum k) c = some k2) : stA F (k, o) c = some (k2, o) := stA_K (by rw [stK_n hd]; exact h)
theorem stA_n1 (hd : ¬ isDg c) (h : inK F (kNum k) c = none) (h1 : ¬ ((kNum k).1 = 0 ∧ (kNum k).2.2.2.2.2 = [])) : stA F (k, o) c = none := by
  have e : stK F k c = none := by rw [stK_n hd]; exact h
  unfold stA
  simp only [e]
  rw [if_neg hd, if_neg h1]
theorem stA_o1 (hd : ¬ isDg c) (h : inK F (kNum k) c = none) (h1 : (kNum k).1 = 0 ∧ (kNum k).2.2.2.2.2 = []) (ho : ouO o (kNum k).2.2.2.1 c = some o2) : stA F (k, o) c = some ((1, (kNum k).2.1, (kNum k).2.2.1, 0, 1, []), o2) := by
  have e : stK F k c = none := by rw [stK_n hd]; exact h
  unfold stA
  simp only [e]
  rw [if_neg hd, if_pos h1, ho]
theorem stA_o0 (hd : ¬ isDg c) (h : inK F (kNum k) c = none) (h1 : (kNum k).1 = 0 ∧ (kNum k).2.2.2.2.2 = []) (ho : ouO o (kNum k).2.2.2.1 c = none) : stA F (k, o) c = none := by
  have e : stK F k c = none := by rw [stK_n hd]; exact h
  unfold stA
  simp only [e]
  rw [if_neg hd, if_pos h1, ho]
theorem Go_eq {a : Int} (h : Go F t a s a s2) : s = s2 := by
  have := h.2
  rw [Int.sub_self] at this
  exact Option.some.inj this
theorem Go_nx {a e : Int} {s3 : aK × aO} (h : Go F t a s e s2) (hl : a < e) (hs : stA F s (t a) = some s3) : Go F t (a + 1) s3 e s2 := by
  refine ⟨by omega, ?_⟩
  have := h.2
  rw [show (e - a).toNat = (e - (a + 1)).toNat + 1 by omega, goA, hs] at this
  exact this
theorem Go_nn {a e : Int} (h : Go F t a s e s2) (hl : a < e) : stA F s (t a) ≠ none := by
  intro q
  have := h.2
  rw [show (e - a).toNat = (e - (a + 1)).toNat + 1 by omega, goA, q] at this
  cases this
theorem Rep_f {v : Int} (h : Rep M s) : Rep (zput M 7 1 v) s := by
  obtain ⟨⟨r3, r4, r5, rw', rd⟩, ⟨s6, s7, s10, sS, sok, sg2⟩, hO⟩ := h
  exact ⟨⟨by rw [zput_ne2 (by decide)]; exact r3, fun q => by rw [zput_ne2 (by decide)]; exact r4 q, by rw [zput_ne2 (by decide)]; exact r5, rw', rd⟩, ⟨by rw [zput_ne2 (by decide)]; exact s6, by rw [zput_ne2 (by decide)]; exact s7, by rw [zput_ne2 (by decide)]; exact s10, by rw [zput_ne (by decide), zput_ne (by decide)]; exact sS, sok, sg2⟩, RepO_p hO (by decide)⟩
theorem kNum_di (h : 0 ≤ k.2.2.1) : (kNum k).2.2.1 = 0 := by
  unfold kNum
  split
  · rfl
  · omega
end
def outT (N M : zM) : Prop := ∀ k : Nat, k ≠ 7 → k ≠ 65 → k ≠ 66 → N k = M k
def RdI (M : zM) : Prop := -128 ≤ M 7 12 ∧ M 7 12 < 128
theorem Rep_Rd {M : zM} {s : aK × aO} (h : Rep M s) : RdI M := by
  have h1 := h.2.2.2.2.1
  have h2 := h.2.2.2.2.2.2.2.2.2.1
  unfold RdI
  rw [h1]
  exact h2
def RtI (F t : Int → Int) (n e : Int) (s2 : aK × aO) (f a : Int) (s : aK × aO) : Prop := (f = -1 ∧ a ≤ e ∧ Go F t a s e s2) ∨ (f = e ∧ e < n ∧ 0 ≤ e)
theorem RtI_1 {F t : Int → Int} {n e f a : Int} {s s2 s3 : aK × aO} (h : RtI F t n e s2 f a s) (hf : f = -1) (han : a < n) (he : (e < n ∧ stA F s2 (t e) = none) ∨ e = n) (hs : stA F s (t a) = some s3) : RtI F t n e s2 f (a + 1) s3 := by
  rcases h with ⟨h1, h2, h3⟩ | ⟨h1, h2, h3⟩
  · have hl : a < e := by
      by_cases q : a < e
      · exact q
      · have e1 : a = e := by omega
        subst e1
        have e2 := Go_eq h3
        subst e2
        rcases he with he | he
        · rw [he.2] at hs; cases hs
        · omega
    exact Or.inl ⟨h1, by omega, Go_nx h3 hl hs⟩
  · omega
theorem RtI_0 {F t : Int → Int} {n e f a : Int} {s s2 s3 : aK × aO} (h : RtI F t n e s2 f a s) (hf : f = -1) (h0 : 0 ≤ a) (han : a < n) (hs : stA F s (t a) = none) : RtI F t n e s2 a (a + 1) s3 := by
  rcases h with ⟨h1, h2, h3⟩ | ⟨h1, h2, h3⟩
  · have hl : ¬ a < e := fun q => Go_nn h3 q hs
    exact Or.inr ⟨by omega, by omega, by omega⟩
  · omega
theorem RtI_r {F t : Int → Int} {n e f a : Int} {s s2 : aK × aO} (h : RtI F t n e s2 f a s) (hn : n ≤ 60) : -1 ≤ f ∧ f ≤ 60 := by
  rcases h with ⟨h1, h2, h3⟩ | ⟨h1, h2, h3⟩ <;> omega
theorem c_X1_readText {M : zM} {tb : Nat} {n_ e_ : Int} {s2_ : aK × aO} (htk : zKT tb 8) (htN : zN tb = 60) (htb : tb ≠ 7 ∧ tb ≠ 65 ∧ tb ≠ 66) (hn : 0 ≤ n_ ∧ n_ ≤ 60) (hby : ∀ j : Int, 0 ≤ j → j < n_ → -128 ≤ M tb j ∧ M tb j < 128) (hcp : RdI M) (hgo : Go (M 64) (M tb) 0 (s0A (M 7 4) (M 7 11) (M 7 12) (M 7 15)) e_ s2_) (he : (e_ < n_ ∧ stA (M 64) s2_ (M tb e_) = none) ∨ e_ = n_) : Call yX1_readText cX1_readText 7 none 3 [vR 7, vR tb, vI n_] (M) (RN (fun N => outT N M ∧ RdI N ∧ (e_ < n_ → N 7 1 = e_) ∧ (e_ = n_ → mEnd s2_ → N 7 1 = -1 ∧ Rep N (kNum s2_.1, s2_.2)) ∧ (e_ = n_ → ¬ mEnd s2_ → N 7 1 = n_))) := by
  refine Call.of2 (own := RX1) (lv0 := [some (vR 7), some (vR tb), some (vI n_), none, none, none, none]) rfl (by decide) rfl (Nat.le_of_ble_eq_true rfl) ?_
  have he0_ := hgo.1
  refine z_aload_0 dX1_readText_0 ?_
  refine z_iconst dX1_readText_1 ?_
  refine z_putI fl_X1_15 zk_7 rfl dX1_readText_2 ?_
  refine z_aload_0 dX1_readText_5 ?_
  refine z_iconst dX1_readText_6 ?_
  refine z_putI fl_X1_44 zk_7 rfl dX1_readText_7 ?_
  refine z_aload_0 dX1_readText_10 ?_
  refine z_iconst dX1_readText_11 ?_
  refine z_putI fl_X1_29 zk_7 rfl dX1_readText_12 ?_
  refine z_aload_0 dX1_readText_15 ?_
  refine z_iconst dX1_readText_16 ?_
  refine z_putZ (by first | omega | exact zb_01) fl_X1_53 zk_7 rfl dX1_readText_17 ?_
  refine z_aload_0 dX1_readText_20 ?_
  refine z_iconst dX1_readText_21 ?_
  refine z_putZ (by first | omega | exact zb_01) fl_X1_56 zk_7 rfl dX1_readText_22 ?_
  refine z_aload_0 dX1_readText_25 ?_
  refine z_iconst dX1_readText_26 ?_
  refine z_cVN yv_X1_beginSum ml_X1_103 c_X1_beginSum zk_7 rfl rfl (by decide) (Nat.le_of_ble_eq_true rfl) dX1_readText_27 ?_
  refine z_iconst dX1_readText_30 ?_
  refine z_istore_3 rfl dX1_readText_31 ?_
  have K32 : ∀ (fuel_ : Nat) (a_ : Int) (s_ : aK × aO) (N_ : zM), n_ - a_ < (fuel_ : Int) → (0 ≤ a_ ∧ a_ ≤ n_) → (Rep N_ s_) → (outT N_ M) → (RtI (M 64) (M tb) n_ e_ s2_ (N_ 7 1) a_ s_) → Z RX1 cX1_readText 7 none 3 (zQ (RN (fun N => outT N M ∧ RdI N ∧ (e_ < n_ → N 7 1 = e_) ∧ (e_ = n_ → mEnd s2_ → N 7 1 = -1 ∧ Rep N (kNum s2_.1, s2_.2)) ∧ (e_ = n_ → ¬ mEnd s2_ → N 7 1 = n_)))) 32 [some (vR 7), some (vR tb), some (vI n_), some (vI a_), none, none, none] [] (N_) := by
    intro fuel_
    induction fuel_ with
    | zero => intro a_ s_ N_ hfuel_ ha_ hR_ hO_ hQ_; exfalso; omega
    | succ fuel_ ih32 =>
      intro a_ s_ N_ hfuel_ ha_ hR_ hO_ hQ_
      have hfr_ := RtI_r hQ_ hn.2
      have hdi_ := hR_.1.2.2.2.2.1
      refine z_iload_3 dX1_readText_32 ?_
      refine z_iload_2 dX1_readText_33 ?_
      refine z_icmp_ge (tgt := 161) (by omega) (by omega) dX1_readText_34 (by decide) (fun c34 => ?_) (fun c34 => ?_)
      · refine z_aload_0 dX1_readText_161 ?_
        refine z_rVN yv_X1_endNumber ml_X1_107 (c_X1_endNumber (M := N_) hR_) zk_7 rfl rfl (by decide) (Nat.le_of_ble_eq_true rfl) dX1_readText_162 (fun Z_ hZ_ => ?_)
        have hZ01_ : (kNum s_.1).1 = 0 ∨ (kNum s_.1).1 = 1 := hZ_.1.1.2.2.2.1
        have hlZ_ : (kNum s_.1).2.2.2.2.2.length ≤ 5 := hZ_.1.2.1.2.2.2.2.1.1
        have hpZ_ : 0 ≤ s_.2.1 ∧ s_.2.1 ≤ 3 := hZ_.1.2.2.2.2.2.2.2.2.1
        refine z_aload_0 dX1_readText_165 ?_
        refine z_getIv (v := (kNum s_.1).1) fl_X1_22 zk_7 rfl (hZ_.1.1.1) dX1_readText_166 ?_
        refine z_if_ne (tgt := 190) (by omega) dX1_readText_169 (by decide) (fun c169 => ?_) (fun c169 => ?_)
        · refine z_iconst dX1_readText_190 ?_
          refine z_istore_3 rfl dX1_readText_191 ?_
          refine z_aload_0 dX1_readText_192 ?_
          refine z_getIv (v := (N_ 7 1)) fl_X1_15 zk_7 rfl (hZ_.2.2) dX1_readText_193 ?_
          refine z_iconst dX1_readText_196 ?_
          refine z_icmp_ne (tgt := 209) (by omega) (by decide) dX1_readText_197 (by decide) (fun c197 => ?_) (fun c197 => ?_)
          · exact z_vret dX1_readText_209 (zRN (by
                have zo_ : outT Z_ M := fun k_ a1_ b1_ c1_ => by rw [hZ_.2.1 k_ a1_ b1_ c1_]; exact hO_ k_ a1_ b1_ c1_
                have zf_ : Z_ 7 1 = N_ 7 1 := hZ_.2.2
                rcases hQ_ with ⟨q1_, q2_, q3_⟩ | ⟨q1_, q2_, q3_⟩
                · have e1_ : e_ = n_ := by omega
                  have e2_ : s_ = s2_ := Go_eq (by rw [show e_ = a_ by omega] at q3_; exact q3_)
                  first
                  | exact ⟨zo_, Rep_Rd hZ_.1, fun h_ => by omega, fun _ _ => ⟨by omega, by rw [← e2_]; exact hZ_.1⟩, fun _ h_ => absurd (by rw [← e2_]; exact ⟨c169, nil_of (by omega), c183⟩) h_⟩
                  | exact ⟨fun k_ a1_ b1_ c1_ => by rw [zput_ne a1_]; exact zo_ k_ a1_ b1_ c1_, Rep_Rd (Rep_f hZ_.1), fun h_ => by omega, fun _ h_ => by
                      rw [← e2_] at h_
                      exfalso
                      first
                      | exact c169 h_.1
                      | exact c176 (by rw [h_.2.1]; rfl)
                      | exact c183 h_.2.2, fun _ _ => zput_eq⟩
                  | (exfalso; omega)
                · first
                  | exact ⟨zo_, Rep_Rd hZ_.1, fun _ => by omega, fun h_ => by omega, fun h_ => by omega⟩
                  | (exfalso; omega)))
          · refine z_iload_3 dX1_readText_200 ?_
            refine z_if_ne (tgt := 209) (by decide) dX1_readText_201 (by decide) (fun c201 => absurd c201 (by decide)) (fun c201 => ?_)
            refine z_aload_0 dX1_readText_204 ?_
            refine z_iload_2 dX1_readText_205 ?_
            refine z_putI fl_X1_15 zk_7 rfl dX1_readText_206 ?_
            exact z_vret dX1_readText_209 (zRN (by
                have zo_ : outT Z_ M := fun k_ a1_ b1_ c1_ => by rw [hZ_.2.1 k_ a1_ b1_ c1_]; exact hO_ k_ a1_ b1_ c1_
                have zf_ : Z_ 7 1 = N_ 7 1 := hZ_.2.2
                rcases hQ_ with ⟨q1_, q2_, q3_⟩ | ⟨q1_, q2_, q3_⟩
                · have e1_ : e_ = n_ := by omega
                  have e2_ : s_ = s2_ := Go_eq (by rw [show e_ = a_ by omega] at q3_; exact q3_)
                  first
                  | exact ⟨zo_, Rep_Rd hZ_.1, fun h_ => by omega, fun _ _ => ⟨by omega, by rw [← e2_]; exact hZ_.1⟩, fun _ h_ => absurd (by rw [← e2_]; exact ⟨c169, nil_of (by omega), c183⟩) h_⟩
                  | exact ⟨fun k_ a1_ b1_ c1_ => by rw [zput_ne a1_]; exact zo_ k_ a1_ b1_ c1_, Rep_Rd (Rep_f hZ_.1), fun h_ => by omega, fun _ h_ => by
                      rw [← e2_] at h_
                      exfalso
                      first
                      | exact c169 h_.1
                      | exact c176 (by rw [h_.2.1]; rfl)
                      | exact c183 h_.2.2, fun _ _ => zput_eq⟩
                  | (exfalso; omega)
                · first
                  | exact ⟨zo_, Rep_Rd hZ_.1, fun _ => by omega, fun h_ => by omega, fun h_ => by omega⟩
                  | (exfalso; omega)))
        · refine z_aload_0 dX1_readText_172 ?_
          refine z_getIv (v := ((kNum s_.1).2.2.2.2.2.length : Int)) fl_X1_44 zk_7 rfl (hZ_.1.2.1.2.2.1) dX1_readText_173 ?_
          refine z_if_ne (tgt := 190) (by omega) dX1_readText_176 (by decide) (fun c176 => ?_) (fun c176 => ?_)
          · refine z_iconst dX1_readText_190 ?_
            refine z_istore_3 rfl dX1_readText_191 ?_
            refine z_aload_0 dX1_readText_192 ?_
            refine z_getIv (v := (N_ 7 1)) fl_X1_15 zk_7 rfl (hZ_.2.2) dX1_readText_193 ?_
            refine z_iconst dX1_readText_196 ?_
            refine z_icmp_ne (tgt := 209) (by omega) (by decide) dX1_readText_197 (by decide) (fun c197 => ?_) (fun c197 => ?_)
            · exact z_vret dX1_readText_209 (zRN (by
                  have zo_ : outT Z_ M := fun k_ a1_ b1_ c1_ => by rw [hZ_.2.1 k_ a1_ b1_ c1_]; exact hO_ k_ a1_ b1_ c1_
                  have zf_ : Z_ 7 1 = N_ 7 1 := hZ_.2.2
                  rcases hQ_ with ⟨q1_, q2_, q3_⟩ | ⟨q1_, q2_, q3_⟩
                  · have e1_ : e_ = n_ := by omega
                    have e2_ : s_ = s2_ := Go_eq (by rw [show e_ = a_ by omega] at q3_; exact q3_)
                    first
                    | exact ⟨zo_, Rep_Rd hZ_.1, fun h_ => by omega, fun _ _ => ⟨by omega, by rw [← e2_]; exact hZ_.1⟩, fun _ h_ => absurd (by rw [← e2_]; exact ⟨c169, nil_of (by omega), c183⟩) h_⟩
                    | exact ⟨fun k_ a1_ b1_ c1_ => by rw [zput_ne a1_]; exact zo_ k_ a1_ b1_ c1_, Rep_Rd (Rep_f hZ_.1), fun h_ => by omega, fun _ h_ => by
                        rw [← e2_] at h_
                        exfalso
                        first
                        | exact c169 h_.1
                        | exact c176 (by rw [h_.2.1]; rfl)
                        | exact c183 h_.2.2, fun _ _ => zput_eq⟩
                    | (exfalso; omega)
                  · first
                    | exact ⟨zo_, Rep_Rd hZ_.1, fun _ => by omega, fun h_ => by omega, fun h_ => by omega⟩
                    | (exfalso; omega)))
            · refine z_iload_3 dX1_readText_200 ?_
              refine z_if_ne (tgt := 209) (by decide) dX1_readText_201 (by decide) (fun c201 => absurd c201 (by decide)) (fun c201 => ?_)
              refine z_aload_0 dX1_readText_204 ?_
              refine z_iload_2 dX1_readText_205 ?_
              refine z_putI fl_X1_15 zk_7 rfl dX1_readText_206 ?_
              exact z_vret dX1_readText_209 (zRN (by
                  have zo_ : outT Z_ M := fun k_ a1_ b1_ c1_ => by rw [hZ_.2.1 k_ a1_ b1_ c1_]; exact hO_ k_ a1_ b1_ c1_
                  have zf_ : Z_ 7 1 = N_ 7 1 := hZ_.2.2
                  rcases hQ_ with ⟨q1_, q2_, q3_⟩ | ⟨q1_, q2_, q3_⟩
                  · have e1_ : e_ = n_ := by omega
                    have e2_ : s_ = s2_ := Go_eq (by rw [show e_ = a_ by omega] at q3_; exact q3_)
                    first
                    | exact ⟨zo_, Rep_Rd hZ_.1, fun h_ => by omega, fun _ _ => ⟨by omega, by rw [← e2_]; exact hZ_.1⟩, fun _ h_ => absurd (by rw [← e2_]; exact ⟨c169, nil_of (by omega), c183⟩) h_⟩
                    | exact ⟨fun k_ a1_ b1_ c1_ => by rw [zput_ne a1_]; exact zo_ k_ a1_ b1_ c1_, Rep_Rd (Rep_f hZ_.1), fun h_ => by omega, fun _ h_ => by
                        rw [← e2_] at h_
                        exfalso
                        first
                        | exact c169 h_.1
                        | exact c176 (by rw [h_.2.1]; rfl)
                        | exact c183 h_.2.2, fun _ _ => zput_eq⟩
                    | (exfalso; omega)
                  · first
                    | exact ⟨zo_, Rep_Rd hZ_.1, fun _ => by omega, fun h_ => by omega, fun h_ => by omega⟩
                    | (exfalso; omega)))
          · refine z_aload_0 dX1_readText_179 ?_
            refine z_getIv (v := s_.2.1) fl_X1_19 zk_7 rfl (hZ_.1.2.2.1) dX1_readText_180 ?_
            refine z_if_ne (tgt := 190) (by omega) dX1_readText_183 (by decide) (fun c183 => ?_) (fun c183 => ?_)
            · refine z_iconst dX1_readText_190 ?_
              refine z_istore_3 rfl dX1_readText_191 ?_
              refine z_aload_0 dX1_readText_192 ?_
              refine z_getIv (v := (N_ 7 1)) fl_X1_15 zk_7 rfl (hZ_.2.2) dX1_readText_193 ?_
              refine z_iconst dX1_readText_196 ?_
              refine z_icmp_ne (tgt := 209) (by omega) (by decide) dX1_readText_197 (by decide) (fun c197 => ?_) (fun c197 => ?_)
              · exact z_vret dX1_readText_209 (zRN (by
                    have zo_ : outT Z_ M := fun k_ a1_ b1_ c1_ => by rw [hZ_.2.1 k_ a1_ b1_ c1_]; exact hO_ k_ a1_ b1_ c1_
                    have zf_ : Z_ 7 1 = N_ 7 1 := hZ_.2.2
                    rcases hQ_ with ⟨q1_, q2_, q3_⟩ | ⟨q1_, q2_, q3_⟩
                    · have e1_ : e_ = n_ := by omega
                      have e2_ : s_ = s2_ := Go_eq (by rw [show e_ = a_ by omega] at q3_; exact q3_)
                      first
                      | exact ⟨zo_, Rep_Rd hZ_.1, fun h_ => by omega, fun _ _ => ⟨by omega, by rw [← e2_]; exact hZ_.1⟩, fun _ h_ => absurd (by rw [← e2_]; exact ⟨c169, nil_of (by omega), c183⟩) h_⟩
                      | exact ⟨fun k_ a1_ b1_ c1_ => by rw [zput_ne a1_]; exact zo_ k_ a1_ b1_ c1_, Rep_Rd (Rep_f hZ_.1), fun h_ => by omega, fun _ h_ => by
                          rw [← e2_] at h_
                          exfalso
                          first
                          | exact c169 h_.1
                          | exact c176 (by rw [h_.2.1]; rfl)
                          | exact c183 h_.2.2, fun _ _ => zput_eq⟩
                      | (exfalso; omega)
                    · first
                      | exact ⟨zo_, Rep_Rd hZ_.1, fun _ => by omega, fun h_ => by omega, fun h_ => by omega⟩
                      | (exfalso; omega)))
              · refine z_iload_3 dX1_readText_200 ?_
                refine z_if_ne (tgt := 209) (by decide) dX1_readText_201 (by decide) (fun c201 => absurd c201 (by decide)) (fun c201 => ?_)
                refine z_aload_0 dX1_readText_204 ?_
                refine z_iload_2 dX1_readText_205 ?_
                refine z_putI fl_X1_15 zk_7 rfl dX1_readText_206 ?_
                exact z_vret dX1_readText_209 (zRN (by
                    have zo_ : outT Z_ M := fun k_ a1_ b1_ c1_ => by rw [hZ_.2.1 k_ a1_ b1_ c1_]; exact hO_ k_ a1_ b1_ c1_
                    have zf_ : Z_ 7 1 = N_ 7 1 := hZ_.2.2
                    rcases hQ_ with ⟨q1_, q2_, q3_⟩ | ⟨q1_, q2_, q3_⟩
                    · have e1_ : e_ = n_ := by omega
                      have e2_ : s_ = s2_ := Go_eq (by rw [show e_ = a_ by omega] at q3_; exact q3_)
                      first
                      | exact ⟨zo_, Rep_Rd hZ_.1, fun h_ => by omega, fun _ _ => ⟨by omega, by rw [← e2_]; exact hZ_.1⟩, fun _ h_ => absurd (by rw [← e2_]; exact ⟨c169, nil_of (by omega), c183⟩) h_⟩
                      | exact ⟨fun k_ a1_ b1_ c1_ => by rw [zput_ne a1_]; exact zo_ k_ a1_ b1_ c1_, Rep_Rd (Rep_f hZ_.1), fun h_ => by omega, fun _ h_ => by
                          rw [← e2_] at h_
                          exfalso
                          first
                          | exact c169 h_.1
                          | exact c176 (by rw [h_.2.1]; rfl)
                          | exact c183 h_.2.2, fun _ _ => zput_eq⟩
                      | (exfalso; omega)
                    · first
                      | exact ⟨zo_, Rep_Rd hZ_.1, fun _ => by omega, fun h_ => by omega, fun h_ => by omega⟩
                      | (exfalso; omega)))
            · refine z_iconst dX1_readText_186 ?_
              refine z_goto (tgt := 191) dX1_readText_187 (by decide) ?_
              refine z_istore_3 rfl dX1_readText_191 ?_
              refine z_aload_0 dX1_readText_192 ?_
              refine z_getIv (v := (N_ 7 1)) fl_X1_15 zk_7 rfl (hZ_.2.2) dX1_readText_193 ?_
              refine z_iconst dX1_readText_196 ?_
              refine z_icmp_ne (tgt := 209) (by omega) (by decide) dX1_readText_197 (by decide) (fun c197 => ?_) (fun c197 => ?_)
              · exact z_vret dX1_readText_209 (zRN (by
                    have zo_ : outT Z_ M := fun k_ a1_ b1_ c1_ => by rw [hZ_.2.1 k_ a1_ b1_ c1_]; exact hO_ k_ a1_ b1_ c1_
                    have zf_ : Z_ 7 1 = N_ 7 1 := hZ_.2.2
                    rcases hQ_ with ⟨q1_, q2_, q3_⟩ | ⟨q1_, q2_, q3_⟩
                    · have e1_ : e_ = n_ := by omega
                      have e2_ : s_ = s2_ := Go_eq (by rw [show e_ = a_ by omega] at q3_; exact q3_)
                      first
                      | exact ⟨zo_, Rep_Rd hZ_.1, fun h_ => by omega, fun _ _ => ⟨by omega, by rw [← e2_]; exact hZ_.1⟩, fun _ h_ => absurd (by rw [← e2_]; exact ⟨c169, nil_of (by omega), c183⟩) h_⟩
                      | exact ⟨fun k_ a1_ b1_ c1_ => by rw [zput_ne a1_]; exact zo_ k_ a1_ b1_ c1_, Rep_Rd (Rep_f hZ_.1), fun h_ => by omega, fun _ h_ => by
                          rw [← e2_] at h_
                          exfalso
                          first
                          | exact c169 h_.1
                          | exact c176 (by rw [h_.2.1]; rfl)
                          | exact c183 h_.2.2, fun _ _ => zput_eq⟩
                      | (exfalso; omega)
                    · first
                      | exact ⟨zo_, Rep_Rd hZ_.1, fun _ => by omega, fun h_ => by omega, fun h_ => by omega⟩
                      | (exfalso; omega)))
              · refine z_iload_3 dX1_readText_200 ?_
                refine z_if_ne (tgt := 209) (by decide) dX1_readText_201 (by decide) (fun c201 => ?_) (fun c201 => absurd c201 (by decide))
                exact z_vret dX1_readText_209 (zRN (by
                    have zo_ : outT Z_ M := fun k_ a1_ b1_ c1_ => by rw [hZ_.2.1 k_ a1_ b1_ c1_]; exact hO_ k_ a1_ b1_ c1_
                    have zf_ : Z_ 7 1 = N_ 7 1 := hZ_.2.2
                    rcases hQ_ with ⟨q1_, q2_, q3_⟩ | ⟨q1_, q2_, q3_⟩
                    · have e1_ : e_ = n_ := by omega
                      have e2_ : s_ = s2_ := Go_eq (by rw [show e_ = a_ by omega] at q3_; exact q3_)
                      first
                      | exact ⟨zo_, Rep_Rd hZ_.1, fun h_ => by omega, fun _ _ => ⟨by omega, by rw [← e2_]; exact hZ_.1⟩, fun _ h_ => absurd (by rw [← e2_]; exact ⟨c169, nil_of (by omega), c183⟩) h_⟩
                      | exact ⟨fun k_ a1_ b1_ c1_ => by rw [zput_ne a1_]; exact zo_ k_ a1_ b1_ c1_, Rep_Rd (Rep_f hZ_.1), fun h_ => by omega, fun _ h_ => by
                          rw [← e2_] at h_
                          exfalso
                          first
                          | exact c169 h_.1
                          | exact c176 (by rw [h_.2.1]; rfl)
                          | exact c183 h_.2.2, fun _ _ => zput_eq⟩
                      | (exfalso; omega)
                    · first
                      | exact ⟨zo_, Rep_Rd hZ_.1, fun _ => by omega, fun h_ => by omega, fun h_ => by omega⟩
                      | (exfalso; omega)))
      · refine z_aload_0 dX1_readText_37 ?_
        refine z_getI fl_X1_15 zk_7 rfl dX1_readText_38 ?_
        refine z_iconst dX1_readText_41 ?_
        refine z_icmp_ne (tgt := 161) (by omega) (by decide) dX1_readText_42 (by decide) (fun c42 => ?_) (fun c42 => ?_)
        · refine z_aload_0 dX1_readText_161 ?_
          refine z_rVN yv_X1_endNumber ml_X1_107 (c_X1_endNumber (M := N_) hR_) zk_7 rfl rfl (by decide) (Nat.le_of_ble_eq_true rfl) dX1_readText_162 (fun Z_ hZ_ => ?_)
          have hZ01_ : (kNum s_.1).1 = 0 ∨ (kNum s_.1).1 = 1 := hZ_.1.1.2.2.2.1
          have hlZ_ : (kNum s_.1).2.2.2.2.2.length ≤ 5 := hZ_.1.2.1.2.2.2.2.1.1
          have hpZ_ : 0 ≤ s_.2.1 ∧ s_.2.1 ≤ 3 := hZ_.1.2.2.2.2.2.2.2.2.1
          refine z_aload_0 dX1_readText_165 ?_
          refine z_getIv (v := (kNum s_.1).1) fl_X1_22 zk_7 rfl (hZ_.1.1.1) dX1_readText_166 ?_
          refine z_if_ne (tgt := 190) (by omega) dX1_readText_169 (by decide) (fun c169 => ?_) (fun c169 => ?_)
          · refine z_iconst dX1_readText_190 ?_
            refine z_istore_3 rfl dX1_readText_191 ?_
            refine z_aload_0 dX1_readText_192 ?_
            refine z_getIv (v := (N_ 7 1)) fl_X1_15 zk_7 rfl (hZ_.2.2) dX1_readText_193 ?_
            refine z_iconst dX1_readText_196 ?_
            refine z_icmp_ne (tgt := 209) (by omega) (by decide) dX1_readText_197 (by decide) (fun c197 => ?_) (fun c197 => ?_)
            · exact z_vret dX1_readText_209 (zRN (by
                  have zo_ : outT Z_ M := fun k_ a1_ b1_ c1_ => by rw [hZ_.2.1 k_ a1_ b1_ c1_]; exact hO_ k_ a1_ b1_ c1_
                  have zf_ : Z_ 7 1 = N_ 7 1 := hZ_.2.2
                  rcases hQ_ with ⟨q1_, q2_, q3_⟩ | ⟨q1_, q2_, q3_⟩
                  · have e1_ : e_ = n_ := by omega
                    have e2_ : s_ = s2_ := Go_eq (by rw [show e_ = a_ by omega] at q3_; exact q3_)
                    first
                    | exact ⟨zo_, Rep_Rd hZ_.1, fun h_ => by omega, fun _ _ => ⟨by omega, by rw [← e2_]; exact hZ_.1⟩, fun _ h_ => absurd (by rw [← e2_]; exact ⟨c169, nil_of (by omega), c183⟩) h_⟩
                    | exact ⟨fun k_ a1_ b1_ c1_ => by rw [zput_ne a1_]; exact zo_ k_ a1_ b1_ c1_, Rep_Rd (Rep_f hZ_.1), fun h_ => by omega, fun _ h_ => by
                        rw [← e2_] at h_
                        exfalso
                        first
                        | exact c169 h_.1
                        | exact c176 (by rw [h_.2.1]; rfl)
                        | exact c183 h_.2.2, fun _ _ => zput_eq⟩
                    | (exfalso; omega)
                  · first
                    | exact ⟨zo_, Rep_Rd hZ_.1, fun _ => by omega, fun h_ => by omega, fun h_ => by omega⟩
                    | (exfalso; omega)))
            · refine z_iload_3 dX1_readText_200 ?_
              refine z_if_ne (tgt := 209) (by decide) dX1_readText_201 (by decide) (fun c201 => absurd c201 (by decide)) (fun c201 => ?_)
              refine z_aload_0 dX1_readText_204 ?_
              refine z_iload_2 dX1_readText_205 ?_
              refine z_putI fl_X1_15 zk_7 rfl dX1_readText_206 ?_
              exact z_vret dX1_readText_209 (zRN (by
                  have zo_ : outT Z_ M := fun k_ a1_ b1_ c1_ => by rw [hZ_.2.1 k_ a1_ b1_ c1_]; exact hO_ k_ a1_ b1_ c1_
                  have zf_ : Z_ 7 1 = N_ 7 1 := hZ_.2.2
                  rcases hQ_ with ⟨q1_, q2_, q3_⟩ | ⟨q1_, q2_, q3_⟩
                  · have e1_ : e_ = n_ := by omega
                    have e2_ : s_ = s2_ := Go_eq (by rw [show e_ = a_ by omega] at q3_; exact q3_)
                    first
                    | exact ⟨zo_, Rep_Rd hZ_.1, fun h_ => by omega, fun _ _ => ⟨by omega, by rw [← e2_]; exact hZ_.1⟩, fun _ h_ => absurd (by rw [← e2_]; exact ⟨c169, nil_of (by omega), c183⟩) h_⟩
                    | exact ⟨fun k_ a1_ b1_ c1_ => by rw [zput_ne a1_]; exact zo_ k_ a1_ b1_ c1_, Rep_Rd (Rep_f hZ_.1), fun h_ => by omega, fun _ h_ => by
                        rw [← e2_] at h_
                        exfalso
                        first
                        | exact c169 h_.1
                        | exact c176 (by rw [h_.2.1]; rfl)
                        | exact c183 h_.2.2, fun _ _ => zput_eq⟩
                    | (exfalso; omega)
                  · first
                    | exact ⟨zo_, Rep_Rd hZ_.1, fun _ => by omega, fun h_ => by omega, fun h_ => by omega⟩
                    | (exfalso; omega)))
          · refine z_aload_0 dX1_readText_172 ?_
            refine z_getIv (v := ((kNum s_.1).2.2.2.2.2.length : Int)) fl_X1_44 zk_7 rfl (hZ_.1.2.1.2.2.1) dX1_readText_173 ?_
            refine z_if_ne (tgt := 190) (by omega) dX1_readText_176 (by decide) (fun c176 => ?_) (fun c176 => ?_)
            · refine z_iconst dX1_readText_190 ?_
              refine z_istore_3 rfl dX1_readText_191 ?_
              refine z_aload_0 dX1_readText_192 ?_
              refine z_getIv (v := (N_ 7 1)) fl_X1_15 zk_7 rfl (hZ_.2.2) dX1_readText_193 ?_
              refine z_iconst dX1_readText_196 ?_
              refine z_icmp_ne (tgt := 209) (by omega) (by decide) dX1_readText_197 (by decide) (fun c197 => ?_) (fun c197 => ?_)
              · exact z_vret dX1_readText_209 (zRN (by
                    have zo_ : outT Z_ M := fun k_ a1_ b1_ c1_ => by rw [hZ_.2.1 k_ a1_ b1_ c1_]; exact hO_ k_ a1_ b1_ c1_
                    have zf_ : Z_ 7 1 = N_ 7 1 := hZ_.2.2
                    rcases hQ_ with ⟨q1_, q2_, q3_⟩ | ⟨q1_, q2_, q3_⟩
                    · have e1_ : e_ = n_ := by omega
                      have e2_ : s_ = s2_ := Go_eq (by rw [show e_ = a_ by omega] at q3_; exact q3_)
                      first
                      | exact ⟨zo_, Rep_Rd hZ_.1, fun h_ => by omega, fun _ _ => ⟨by omega, by rw [← e2_]; exact hZ_.1⟩, fun _ h_ => absurd (by rw [← e2_]; exact ⟨c169, nil_of (by omega), c183⟩) h_⟩
                      | exact ⟨fun k_ a1_ b1_ c1_ => by rw [zput_ne a1_]; exact zo_ k_ a1_ b1_ c1_, Rep_Rd (Rep_f hZ_.1), fun h_ => by omega, fun _ h_ => by
                          rw [← e2_] at h_
                          exfalso
                          first
                          | exact c169 h_.1
                          | exact c176 (by rw [h_.2.1]; rfl)
                          | exact c183 h_.2.2, fun _ _ => zput_eq⟩
                      | (exfalso; omega)
                    · first
                      | exact ⟨zo_, Rep_Rd hZ_.1, fun _ => by omega, fun h_ => by omega, fun h_ => by omega⟩
                      | (exfalso; omega)))
              · refine z_iload_3 dX1_readText_200 ?_
                refine z_if_ne (tgt := 209) (by decide) dX1_readText_201 (by decide) (fun c201 => absurd c201 (by decide)) (fun c201 => ?_)
                refine z_aload_0 dX1_readText_204 ?_
                refine z_iload_2 dX1_readText_205 ?_
                refine z_putI fl_X1_15 zk_7 rfl dX1_readText_206 ?_
                exact z_vret dX1_readText_209 (zRN (by
                    have zo_ : outT Z_ M := fun k_ a1_ b1_ c1_ => by rw [hZ_.2.1 k_ a1_ b1_ c1_]; exact hO_ k_ a1_ b1_ c1_
                    have zf_ : Z_ 7 1 = N_ 7 1 := hZ_.2.2
                    rcases hQ_ with ⟨q1_, q2_, q3_⟩ | ⟨q1_, q2_, q3_⟩
                    · have e1_ : e_ = n_ := by omega
                      have e2_ : s_ = s2_ := Go_eq (by rw [show e_ = a_ by omega] at q3_; exact q3_)
                      first
                      | exact ⟨zo_, Rep_Rd hZ_.1, fun h_ => by omega, fun _ _ => ⟨by omega, by rw [← e2_]; exact hZ_.1⟩, fun _ h_ => absurd (by rw [← e2_]; exact ⟨c169, nil_of (by omega), c183⟩) h_⟩
                      | exact ⟨fun k_ a1_ b1_ c1_ => by rw [zput_ne a1_]; exact zo_ k_ a1_ b1_ c1_, Rep_Rd (Rep_f hZ_.1), fun h_ => by omega, fun _ h_ => by
                          rw [← e2_] at h_
                          exfalso
                          first
                          | exact c169 h_.1
                          | exact c176 (by rw [h_.2.1]; rfl)
                          | exact c183 h_.2.2, fun _ _ => zput_eq⟩
                      | (exfalso; omega)
                    · first
                      | exact ⟨zo_, Rep_Rd hZ_.1, fun _ => by omega, fun h_ => by omega, fun h_ => by omega⟩
                      | (exfalso; omega)))
            · refine z_aload_0 dX1_readText_179 ?_
              refine z_getIv (v := s_.2.1) fl_X1_19 zk_7 rfl (hZ_.1.2.2.1) dX1_readText_180 ?_
              refine z_if_ne (tgt := 190) (by omega) dX1_readText_183 (by decide) (fun c183 => ?_) (fun c183 => ?_)
              · refine z_iconst dX1_readText_190 ?_
                refine z_istore_3 rfl dX1_readText_191 ?_
                refine z_aload_0 dX1_readText_192 ?_
                refine z_getIv (v := (N_ 7 1)) fl_X1_15 zk_7 rfl (hZ_.2.2) dX1_readText_193 ?_
                refine z_iconst dX1_readText_196 ?_
                refine z_icmp_ne (tgt := 209) (by omega) (by decide) dX1_readText_197 (by decide) (fun c197 => ?_) (fun c197 => ?_)
                · exact z_vret dX1_readText_209 (zRN (by
                      have zo_ : outT Z_ M := fun k_ a1_ b1_ c1_ => by rw [hZ_.2.1 k_ a1_ b1_ c1_]; exact hO_ k_ a1_ b1_ c1_
                      have zf_ : Z_ 7 1 = N_ 7 1 := hZ_.2.2
                      rcases hQ_ with ⟨q1_, q2_, q3_⟩ | ⟨q1_, q2_, q3_⟩
                      · have e1_ : e_ = n_ := by omega
                        have e2_ : s_ = s2_ := Go_eq (by rw [show e_ = a_ by omega] at q3_; exact q3_)
                        first
                        | exact ⟨zo_, Rep_Rd hZ_.1, fun h_ => by omega, fun _ _ => ⟨by omega, by rw [← e2_]; exact hZ_.1⟩, fun _ h_ => absurd (by rw [← e2_]; exact ⟨c169, nil_of (by omega), c183⟩) h_⟩
                        | exact ⟨fun k_ a1_ b1_ c1_ => by rw [zput_ne a1_]; exact zo_ k_ a1_ b1_ c1_, Rep_Rd (Rep_f hZ_.1), fun h_ => by omega, fun _ h_ => by
                            rw [← e2_] at h_
                            exfalso
                            first
                            | exact c169 h_.1
                            | exact c176 (by rw [h_.2.1]; rfl)
                            | exact c183 h_.2.2, fun _ _ => zput_eq⟩
                        | (exfalso; omega)
                      · first
                        | exact ⟨zo_, Rep_Rd hZ_.1, fun _ => by omega, fun h_ => by omega, fun h_ => by omega⟩
                        | (exfalso; omega)))
                · refine z_iload_3 dX1_readText_200 ?_
                  refine z_if_ne (tgt := 209) (by decide) dX1_readText_201 (by decide) (fun c201 => absurd c201 (by decide)) (fun c201 => ?_)
                  refine z_aload_0 dX1_readText_204 ?_
                  refine z_iload_2 dX1_readText_205 ?_
                  refine z_putI fl_X1_15 zk_7 rfl dX1_readText_206 ?_
                  exact z_vret dX1_readText_209 (zRN (by
                      have zo_ : outT Z_ M := fun k_ a1_ b1_ c1_ => by rw [hZ_.2.1 k_ a1_ b1_ c1_]; exact hO_ k_ a1_ b1_ c1_
                      have zf_ : Z_ 7 1 = N_ 7 1 := hZ_.2.2
                      rcases hQ_ with ⟨q1_, q2_, q3_⟩ | ⟨q1_, q2_, q3_⟩
                      · have e1_ : e_ = n_ := by omega
                        have e2_ : s_ = s2_ := Go_eq (by rw [show e_ = a_ by omega] at q3_; exact q3_)
                        first
                        | exact ⟨zo_, Rep_Rd hZ_.1, fun h_ => by omega, fun _ _ => ⟨by omega, by rw [← e2_]; exact hZ_.1⟩, fun _ h_ => absurd (by rw [← e2_]; exact ⟨c169, nil_of (by omega), c183⟩) h_⟩
                        | exact ⟨fun k_ a1_ b1_ c1_ => by rw [zput_ne a1_]; exact zo_ k_ a1_ b1_ c1_, Rep_Rd (Rep_f hZ_.1), fun h_ => by omega, fun _ h_ => by
                            rw [← e2_] at h_
                            exfalso
                            first
                            | exact c169 h_.1
                            | exact c176 (by rw [h_.2.1]; rfl)
                            | exact c183 h_.2.2, fun _ _ => zput_eq⟩
                        | (exfalso; omega)
                      · first
                        | exact ⟨zo_, Rep_Rd hZ_.1, fun _ => by omega, fun h_ => by omega, fun h_ => by omega⟩
                        | (exfalso; omega)))
              · refine z_iconst dX1_readText_186 ?_
                refine z_goto (tgt := 191) dX1_readText_187 (by decide) ?_
                refine z_istore_3 rfl dX1_readText_191 ?_
                refine z_aload_0 dX1_readText_192 ?_
                refine z_getIv (v := (N_ 7 1)) fl_X1_15 zk_7 rfl (hZ_.2.2) dX1_readText_193 ?_
                refine z_iconst dX1_readText_196 ?_
                refine z_icmp_ne (tgt := 209) (by omega) (by decide) dX1_readText_197 (by decide) (fun c197 => ?_) (fun c197 => ?_)
                · exact z_vret dX1_readText_209 (zRN (by
                      have zo_ : outT Z_ M := fun k_ a1_ b1_ c1_ => by rw [hZ_.2.1 k_ a1_ b1_ c1_]; exact hO_ k_ a1_ b1_ c1_
                      have zf_ : Z_ 7 1 = N_ 7 1 := hZ_.2.2
                      rcases hQ_ with ⟨q1_, q2_, q3_⟩ | ⟨q1_, q2_, q3_⟩
                      · have e1_ : e_ = n_ := by omega
                        have e2_ : s_ = s2_ := Go_eq (by rw [show e_ = a_ by omega] at q3_; exact q3_)
                        first
                        | exact ⟨zo_, Rep_Rd hZ_.1, fun h_ => by omega, fun _ _ => ⟨by omega, by rw [← e2_]; exact hZ_.1⟩, fun _ h_ => absurd (by rw [← e2_]; exact ⟨c169, nil_of (by omega), c183⟩) h_⟩
                        | exact ⟨fun k_ a1_ b1_ c1_ => by rw [zput_ne a1_]; exact zo_ k_ a1_ b1_ c1_, Rep_Rd (Rep_f hZ_.1), fun h_ => by omega, fun _ h_ => by
                            rw [← e2_] at h_
                            exfalso
                            first
                            | exact c169 h_.1
                            | exact c176 (by rw [h_.2.1]; rfl)
                            | exact c183 h_.2.2, fun _ _ => zput_eq⟩
                        | (exfalso; omega)
                      · first
                        | exact ⟨zo_, Rep_Rd hZ_.1, fun _ => by omega, fun h_ => by omega, fun h_ => by omega⟩
                        | (exfalso; omega)))
                · refine z_iload_3 dX1_readText_200 ?_
                  refine z_if_ne (tgt := 209) (by decide) dX1_readText_201 (by decide) (fun c201 => ?_) (fun c201 => absurd c201 (by decide))
                  exact z_vret dX1_readText_209 (zRN (by
                      have zo_ : outT Z_ M := fun k_ a1_ b1_ c1_ => by rw [hZ_.2.1 k_ a1_ b1_ c1_]; exact hO_ k_ a1_ b1_ c1_
                      have zf_ : Z_ 7 1 = N_ 7 1 := hZ_.2.2
                      rcases hQ_ with ⟨q1_, q2_, q3_⟩ | ⟨q1_, q2_, q3_⟩
                      · have e1_ : e_ = n_ := by omega
                        have e2_ : s_ = s2_ := Go_eq (by rw [show e_ = a_ by omega] at q3_; exact q3_)
                        first
                        | exact ⟨zo_, Rep_Rd hZ_.1, fun h_ => by omega, fun _ _ => ⟨by omega, by rw [← e2_]; exact hZ_.1⟩, fun _ h_ => absurd (by rw [← e2_]; exact ⟨c169, nil_of (by omega), c183⟩) h_⟩
                        | exact ⟨fun k_ a1_ b1_ c1_ => by rw [zput_ne a1_]; exact zo_ k_ a1_ b1_ c1_, Rep_Rd (Rep_f hZ_.1), fun h_ => by omega, fun _ h_ => by
                            rw [← e2_] at h_
                            exfalso
                            first
                            | exact c169 h_.1
                            | exact c176 (by rw [h_.2.1]; rfl)
                            | exact c183 h_.2.2, fun _ _ => zput_eq⟩
                        | (exfalso; omega)
                      · first
                        | exact ⟨zo_, Rep_Rd hZ_.1, fun _ => by omega, fun h_ => by omega, fun h_ => by omega⟩
                        | (exfalso; omega)))
        · have J143 : ∀ (x_ : Int) (s3_ : aK × aO) (K_ : zM), (Rep K_ s3_) → (outR K_ N_) → ((x_ = 1 ∧ stA (M 64) s_ (M tb a_) = some s3_) ∨ (x_ = 0 ∧ stA (M 64) s_ (M tb a_) = none)) → Z RX1 cX1_readText 7 none 3 (zQ (RN (fun N => outT N M ∧ RdI N ∧ (e_ < n_ → N 7 1 = e_) ∧ (e_ = n_ → mEnd s2_ → N 7 1 = -1 ∧ Rep N (kNum s2_.1, s2_.2)) ∧ (e_ = n_ → ¬ mEnd s2_ → N 7 1 = n_)))) 143 [some (vR 7), some (vR tb), some (vI n_), some (vI a_), none, none, none] [vI x_] (K_) := by
            intro x_ s3_ K_ hT_ hK_ hx_
            have hx01_ : x_ = 0 ∨ x_ = 1 := by rcases hx_ with h_ | h_ <;> omega
            have hko_ : outT K_ M := fun k_ a1_ b1_ c1_ => by rw [hK_.1 k_ a1_ b1_ c1_]; exact hO_ k_ a1_ b1_ c1_
            refine z_istore_6 rfl dX1_readText_143 ?_
            refine z_iload_6 dX1_readText_145 ?_
            refine z_if_ne (tgt := 155) (by omega) dX1_readText_147 (by decide) (fun c147 => ?_) (fun c147 => ?_)
            · refine z_iinc_3 rfl dX1_readText_155 ?_
              refine z_goto (tgt := 32) dX1_readText_158 (by decide) ?_
              refine z_drop_6 ?_
              exact ih32 _ s3_ _ (by omega) (by omega) (by exact hT_) (by exact hko_) (by rw [hK_.2]; rcases hx_ with h_ | h_; (exact RtI_1 hQ_ (by omega) (by omega) he h_.2); (exfalso; omega))
            · refine z_aload_0 dX1_readText_150 ?_
              refine z_iload_3 dX1_readText_151 ?_
              refine z_putI fl_X1_15 zk_7 rfl dX1_readText_152 ?_
              refine z_iinc_3 rfl dX1_readText_155 ?_
              refine z_goto (tgt := 32) dX1_readText_158 (by decide) ?_
              refine z_drop_6 ?_
              exact ih32 _ s3_ _ (by omega) (by omega) (by exact Rep_f hT_) (by intro k_ a1_ b1_ c1_; rw [zput_ne a1_]; exact hko_ k_ a1_ b1_ c1_) (by rw [zput_eq]; rcases hx_ with h_ | h_; (exfalso; omega); (exact RtI_0 hQ_ (by omega) (by omega) (by omega) h_.2))
          have hcb_ := hby a_ (by omega) (by omega)
          refine z_aload_1 dX1_readText_45 ?_
          refine z_iload_3 dX1_readText_46 ?_
          refine z_baldv (n := 60) (v := (M tb a_)) htk htN (by omega) (by rw [hO_ tb htb.1 htb.2.1 htb.2.2]) dX1_readText_47 ?_
          refine z_istore_4 rfl dX1_readText_48 ?_
          refine z_iload_4 dX1_readText_50 ?_
          refine z_bipush dX1_readText_52 (by decide) ?_
          refine z_icmp_lt (tgt := 68) (by omega) (by decide) dX1_readText_54 (by decide) (fun c54 => ?_) (fun c54 => ?_)
          · refine z_iconst dX1_readText_68 ?_
            refine z_istore_5 rfl dX1_readText_69 ?_
            refine z_iload_5 dX1_readText_71 ?_
            refine z_if_ne (tgt := 80) (by decide) dX1_readText_73 (by decide) (fun c73 => absurd c73 (by decide)) (fun c73 => ?_)
            refine z_aload_0 dX1_readText_76 ?_
            refine z_rVN yv_X1_endNumber ml_X1_107 (c_X1_endNumber (M := N_) hR_) zk_7 rfl rfl (by decide) (Nat.le_of_ble_eq_true rfl) dX1_readText_77 (fun B_ hB_ => ?_)
            have b64_ : B_ 64 = M 64 := by rw [hB_.2.1 64 (by decide) (by decide) (by decide)]; exact hO_ 64 (by decide) (by decide) (by decide)
            have hB01_ : (kNum s_.1).1 = 0 ∨ (kNum s_.1).1 = 1 := hB_.1.1.2.2.2.1
            have hlB_ : (kNum s_.1).2.2.2.2.2.length ≤ 5 := hB_.1.2.1.2.2.2.2.1.1
            refine z_iload_5 dX1_readText_80 ?_
            refine z_if_eq (tgt := 97) (by decide) dX1_readText_82 (by decide) (fun c82 => ?_) (fun c82 => absurd c82 (by decide))
            refine z_aload_0 dX1_readText_97 ?_
            refine z_getIv (v := (kNum s_.1).1) fl_X1_22 zk_7 rfl (hB_.1.1.1) dX1_readText_98 ?_
            refine z_if_eq (tgt := 113) (by omega) dX1_readText_101 (by decide) (fun c101 => ?_) (fun c101 => ?_)
            · refine z_aload_0 dX1_readText_113 ?_
              refine z_iload_4 dX1_readText_114 ?_
              refine z_sV yv_X1_takesBehindPart ml_X1_117 (c_X1_takesBehindPart (M := B_) hB_.1 (by omega) c101 (kNum_di hdi_)) zk_7 rfl rfl (by decide) (Nat.le_of_ble_eq_true rfl) dX1_readText_116 (fun x_ P_ hq_ => ?_)
              rcases hq_ with ⟨rfl, ⟨k2_, i1_, i2_⟩, i3_⟩ | ⟨rfl, i1_, hg_⟩
              · skip
                refine z_if_ne (tgt := 138) (by decide) dX1_readText_119 (by decide) (fun c119 => ?_) (fun c119 => absurd c119 (by decide))
                refine z_iconst dX1_readText_138 ?_
                refine z_goto (tgt := 143) dX1_readText_139 (by decide) ?_
                refine z_drop_4 ?_
                refine z_drop_5 ?_
                exact J143 _ (k2_, s_.2) _ (by exact i2_) (by exact outR_tr hB_.2 i3_) (by exact Or.inl ⟨rfl, stA_in (by omega) (by rw [← b64_]; exact i1_)⟩)
              · skip
                refine z_mem hg_ ?_
                refine z_if_ne (tgt := 138) (by decide) dX1_readText_119 (by decide) (fun c119 => absurd c119 (by decide)) (fun c119 => ?_)
                refine z_aload_0 dX1_readText_122 ?_
                refine z_getIv (v := ((kNum s_.1).2.2.2.2.2.length : Int)) fl_X1_44 zk_7 rfl (hB_.1.2.1.2.2.1) dX1_readText_123 ?_
                refine z_if_ne (tgt := 142) (by omega) dX1_readText_126 (by decide) (fun c126 => ?_) (fun c126 => ?_)
                · refine z_iconst dX1_readText_142 ?_
                  refine z_drop_4 ?_
                  refine z_drop_5 ?_
                  exact J143 _ (kNum s_.1, s_.2) _ (by exact hB_.1) (by exact hB_.2) (by first | exact Or.inr ⟨rfl, stA_n1 (by omega) (by rw [← b64_]; exact i1_) (fun h_ => by first | (exact c101 h_.1) | (exact absurd (show ((kNum s_.1).2.2.2.2.2.length : Int) = 0 by rw [h_.2]; rfl) c126))⟩ | exact Or.inr ⟨rfl, stA_o0 (by omega) (by rw [← b64_]; exact i1_) ⟨c101, hnil_⟩ u1_⟩)
                · have hnil_ : (kNum s_.1).2.2.2.2.2 = [] := nil_of (by omega)
                  have hB2_ : Rep B_ ((0, (kNum s_.1).2.1, 0, (kNum s_.1).2.2.2.1, (kNum s_.1).2.2.2.2.1, []), (s_.2.1, s_.2.2.1, s_.2.2.2.1, s_.2.2.2.2.1, s_.2.2.2.2.2.1, s_.2.2.2.2.2.2)) := by
                    have e_ : kNum s_.1 = (0, (kNum s_.1).2.1, 0, (kNum s_.1).2.2.2.1, (kNum s_.1).2.2.2.2.1, []) := by
                      refine Prod.ext c101 (Prod.ext rfl (Prod.ext (kNum_di hdi_) (Prod.ext rfl (Prod.ext rfl hnil_))))
                    rw [← e_]
                    exact hB_.1
                  refine z_aload_0 dX1_readText_129 ?_
                  refine z_iload_4 dX1_readText_130 ?_
                  refine z_sV yv_X1_takesBehindSum ml_X1_120 (c_X1_takesBehindSum (M := B_) (c_ := (M tb a_)) hB2_ (by omega)) zk_7 rfl rfl (by decide) (Nat.le_of_ble_eq_true rfl) dX1_readText_132 (fun x_ Q_ hq_ => ?_)
                  rcases hq_ with ⟨rfl, ⟨o2_, u1_, u2_⟩, u3_⟩ | ⟨rfl, u1_, hg_⟩
                  · skip
                    refine z_if_eq (tgt := 142) (by decide) dX1_readText_135 (by decide) (fun c135 => absurd c135 (by decide)) (fun c135 => ?_)
                    refine z_iconst dX1_readText_138 ?_
                    refine z_goto (tgt := 143) dX1_readText_139 (by decide) ?_
                    refine z_drop_4 ?_
                    refine z_drop_5 ?_
                    exact J143 _ ((1, (kNum s_.1).2.1, 0, 0, 1, []), o2_) _ (by exact u2_) (by exact outR_tr hB_.2 u3_) (by exact Or.inl ⟨rfl, by have h9_ := stA_o1 (F := M 64) (k := s_.1) (o := s_.2) (by omega) (by rw [← b64_]; exact i1_) ⟨c101, hnil_⟩ u1_; rw [kNum_di hdi_] at h9_; exact h9_⟩)
                  · skip
                    refine z_mem hg_ ?_
                    refine z_if_eq (tgt := 142) (by decide) dX1_readText_135 (by decide) (fun c135 => ?_) (fun c135 => absurd c135 (by decide))
                    refine z_iconst dX1_readText_142 ?_
                    refine z_drop_4 ?_
                    refine z_drop_5 ?_
                    exact J143 _ (kNum s_.1, s_.2) _ (by exact hB_.1) (by exact hB_.2) (by first | exact Or.inr ⟨rfl, stA_n1 (by omega) (by rw [← b64_]; exact i1_) (fun h_ => by first | (exact c101 h_.1) | (exact absurd (show ((kNum s_.1).2.2.2.2.2.length : Int) = 0 by rw [h_.2]; rfl) c126))⟩ | exact Or.inr ⟨rfl, stA_o0 (by omega) (by rw [← b64_]; exact i1_) ⟨c101, hnil_⟩ u1_⟩)
            · refine z_aload_0 dX1_readText_104 ?_
              refine z_iload_4 dX1_readText_105 ?_
              refine z_sV yv_X1_takesInPart ml_X1_114 (c_X1_takesInPart (M := B_) hB_.1 (by omega) c101 (kNum_di hdi_)) zk_7 rfl rfl (by decide) (Nat.le_of_ble_eq_true rfl) dX1_readText_107 (fun x_ I_ hq_ => ?_)
              rcases hq_ with ⟨rfl, ⟨k2_, i1_, i2_⟩, i3_⟩ | ⟨rfl, i1_, hg_⟩
              · skip
                refine z_goto (tgt := 143) dX1_readText_110 (by decide) ?_
                refine z_drop_4 ?_
                refine z_drop_5 ?_
                exact J143 _ (k2_, s_.2) _ (by exact i2_) (by exact outR_tr hB_.2 i3_) (by exact Or.inl ⟨rfl, stA_in (by omega) (by rw [← b64_]; exact i1_)⟩)
              · skip
                refine z_mem hg_ ?_
                refine z_goto (tgt := 143) dX1_readText_110 (by decide) ?_
                refine z_drop_4 ?_
                refine z_drop_5 ?_
                exact J143 _ (kNum s_.1, s_.2) _ (by exact hB_.1) (by exact hB_.2) (by first | exact Or.inr ⟨rfl, stA_n1 (by omega) (by rw [← b64_]; exact i1_) (fun h_ => by first | (exact c101 h_.1) | (exact absurd (show ((kNum s_.1).2.2.2.2.2.length : Int) = 0 by rw [h_.2]; rfl) c126))⟩ | exact Or.inr ⟨rfl, stA_o0 (by omega) (by rw [← b64_]; exact i1_) ⟨c101, hnil_⟩ u1_⟩)
          · refine z_iload_4 dX1_readText_57 ?_
            refine z_bipush dX1_readText_59 (by decide) ?_
            refine z_icmp_gt (tgt := 68) (by omega) (by decide) dX1_readText_61 (by decide) (fun c61 => ?_) (fun c61 => ?_)
            · refine z_iconst dX1_readText_68 ?_
              refine z_istore_5 rfl dX1_readText_69 ?_
              refine z_iload_5 dX1_readText_71 ?_
              refine z_if_ne (tgt := 80) (by decide) dX1_readText_73 (by decide) (fun c73 => absurd c73 (by decide)) (fun c73 => ?_)
              refine z_aload_0 dX1_readText_76 ?_
              refine z_rVN yv_X1_endNumber ml_X1_107 (c_X1_endNumber (M := N_) hR_) zk_7 rfl rfl (by decide) (Nat.le_of_ble_eq_true rfl) dX1_readText_77 (fun B_ hB_ => ?_)
              have b64_ : B_ 64 = M 64 := by rw [hB_.2.1 64 (by decide) (by decide) (by decide)]; exact hO_ 64 (by decide) (by decide) (by decide)
              have hB01_ : (kNum s_.1).1 = 0 ∨ (kNum s_.1).1 = 1 := hB_.1.1.2.2.2.1
              have hlB_ : (kNum s_.1).2.2.2.2.2.length ≤ 5 := hB_.1.2.1.2.2.2.2.1.1
              refine z_iload_5 dX1_readText_80 ?_
              refine z_if_eq (tgt := 97) (by decide) dX1_readText_82 (by decide) (fun c82 => ?_) (fun c82 => absurd c82 (by decide))
              refine z_aload_0 dX1_readText_97 ?_
              refine z_getIv (v := (kNum s_.1).1) fl_X1_22 zk_7 rfl (hB_.1.1.1) dX1_readText_98 ?_
              refine z_if_eq (tgt := 113) (by omega) dX1_readText_101 (by decide) (fun c101 => ?_) (fun c101 => ?_)
              · refine z_aload_0 dX1_readText_113 ?_
                refine z_iload_4 dX1_readText_114 ?_
                refine z_sV yv_X1_takesBehindPart ml_X1_117 (c_X1_takesBehindPart (M := B_) hB_.1 (by omega) c101 (kNum_di hdi_)) zk_7 rfl rfl (by decide) (Nat.le_of_ble_eq_true rfl) dX1_readText_116 (fun x_ P_ hq_ => ?_)
                rcases hq_ with ⟨rfl, ⟨k2_, i1_, i2_⟩, i3_⟩ | ⟨rfl, i1_, hg_⟩
                · skip
                  refine z_if_ne (tgt := 138) (by decide) dX1_readText_119 (by decide) (fun c119 => ?_) (fun c119 => absurd c119 (by decide))
                  refine z_iconst dX1_readText_138 ?_
                  refine z_goto (tgt := 143) dX1_readText_139 (by decide) ?_
                  refine z_drop_4 ?_
                  refine z_drop_5 ?_
                  exact J143 _ (k2_, s_.2) _ (by exact i2_) (by exact outR_tr hB_.2 i3_) (by exact Or.inl ⟨rfl, stA_in (by omega) (by rw [← b64_]; exact i1_)⟩)
                · skip
                  refine z_mem hg_ ?_
                  refine z_if_ne (tgt := 138) (by decide) dX1_readText_119 (by decide) (fun c119 => absurd c119 (by decide)) (fun c119 => ?_)
                  refine z_aload_0 dX1_readText_122 ?_
                  refine z_getIv (v := ((kNum s_.1).2.2.2.2.2.length : Int)) fl_X1_44 zk_7 rfl (hB_.1.2.1.2.2.1) dX1_readText_123 ?_
                  refine z_if_ne (tgt := 142) (by omega) dX1_readText_126 (by decide) (fun c126 => ?_) (fun c126 => ?_)
                  · refine z_iconst dX1_readText_142 ?_
                    refine z_drop_4 ?_
                    refine z_drop_5 ?_
                    exact J143 _ (kNum s_.1, s_.2) _ (by exact hB_.1) (by exact hB_.2) (by first | exact Or.inr ⟨rfl, stA_n1 (by omega) (by rw [← b64_]; exact i1_) (fun h_ => by first | (exact c101 h_.1) | (exact absurd (show ((kNum s_.1).2.2.2.2.2.length : Int) = 0 by rw [h_.2]; rfl) c126))⟩ | exact Or.inr ⟨rfl, stA_o0 (by omega) (by rw [← b64_]; exact i1_) ⟨c101, hnil_⟩ u1_⟩)
                  · have hnil_ : (kNum s_.1).2.2.2.2.2 = [] := nil_of (by omega)
                    have hB2_ : Rep B_ ((0, (kNum s_.1).2.1, 0, (kNum s_.1).2.2.2.1, (kNum s_.1).2.2.2.2.1, []), (s_.2.1, s_.2.2.1, s_.2.2.2.1, s_.2.2.2.2.1, s_.2.2.2.2.2.1, s_.2.2.2.2.2.2)) := by
                      have e_ : kNum s_.1 = (0, (kNum s_.1).2.1, 0, (kNum s_.1).2.2.2.1, (kNum s_.1).2.2.2.2.1, []) := by
                        refine Prod.ext c101 (Prod.ext rfl (Prod.ext (kNum_di hdi_) (Prod.ext rfl (Prod.ext rfl hnil_))))
                      rw [← e_]
                      exact hB_.1
                    refine z_aload_0 dX1_readText_129 ?_
                    refine z_iload_4 dX1_readText_130 ?_
                    refine z_sV yv_X1_takesBehindSum ml_X1_120 (c_X1_takesBehindSum (M := B_) (c_ := (M tb a_)) hB2_ (by omega)) zk_7 rfl rfl (by decide) (Nat.le_of_ble_eq_true rfl) dX1_readText_132 (fun x_ Q_ hq_ => ?_)
                    rcases hq_ with ⟨rfl, ⟨o2_, u1_, u2_⟩, u3_⟩ | ⟨rfl, u1_, hg_⟩
                    · skip
                      refine z_if_eq (tgt := 142) (by decide) dX1_readText_135 (by decide) (fun c135 => absurd c135 (by decide)) (fun c135 => ?_)
                      refine z_iconst dX1_readText_138 ?_
                      refine z_goto (tgt := 143) dX1_readText_139 (by decide) ?_
                      refine z_drop_4 ?_
                      refine z_drop_5 ?_
                      exact J143 _ ((1, (kNum s_.1).2.1, 0, 0, 1, []), o2_) _ (by exact u2_) (by exact outR_tr hB_.2 u3_) (by exact Or.inl ⟨rfl, by have h9_ := stA_o1 (F := M 64) (k := s_.1) (o := s_.2) (by omega) (by rw [← b64_]; exact i1_) ⟨c101, hnil_⟩ u1_; rw [kNum_di hdi_] at h9_; exact h9_⟩)
                    · skip
                      refine z_mem hg_ ?_
                      refine z_if_eq (tgt := 142) (by decide) dX1_readText_135 (by decide) (fun c135 => ?_) (fun c135 => absurd c135 (by decide))
                      refine z_iconst dX1_readText_142 ?_
                      refine z_drop_4 ?_
                      refine z_drop_5 ?_
                      exact J143 _ (kNum s_.1, s_.2) _ (by exact hB_.1) (by exact hB_.2) (by first | exact Or.inr ⟨rfl, stA_n1 (by omega) (by rw [← b64_]; exact i1_) (fun h_ => by first | (exact c101 h_.1) | (exact absurd (show ((kNum s_.1).2.2.2.2.2.length : Int) = 0 by rw [h_.2]; rfl) c126))⟩ | exact Or.inr ⟨rfl, stA_o0 (by omega) (by rw [← b64_]; exact i1_) ⟨c101, hnil_⟩ u1_⟩)
              · refine z_aload_0 dX1_readText_104 ?_
                refine z_iload_4 dX1_readText_105 ?_
                refine z_sV yv_X1_takesInPart ml_X1_114 (c_X1_takesInPart (M := B_) hB_.1 (by omega) c101 (kNum_di hdi_)) zk_7 rfl rfl (by decide) (Nat.le_of_ble_eq_true rfl) dX1_readText_107 (fun x_ I_ hq_ => ?_)
                rcases hq_ with ⟨rfl, ⟨k2_, i1_, i2_⟩, i3_⟩ | ⟨rfl, i1_, hg_⟩
                · skip
                  refine z_goto (tgt := 143) dX1_readText_110 (by decide) ?_
                  refine z_drop_4 ?_
                  refine z_drop_5 ?_
                  exact J143 _ (k2_, s_.2) _ (by exact i2_) (by exact outR_tr hB_.2 i3_) (by exact Or.inl ⟨rfl, stA_in (by omega) (by rw [← b64_]; exact i1_)⟩)
                · skip
                  refine z_mem hg_ ?_
                  refine z_goto (tgt := 143) dX1_readText_110 (by decide) ?_
                  refine z_drop_4 ?_
                  refine z_drop_5 ?_
                  exact J143 _ (kNum s_.1, s_.2) _ (by exact hB_.1) (by exact hB_.2) (by first | exact Or.inr ⟨rfl, stA_n1 (by omega) (by rw [← b64_]; exact i1_) (fun h_ => by first | (exact c101 h_.1) | (exact absurd (show ((kNum s_.1).2.2.2.2.2.length : Int) = 0 by rw [h_.2]; rfl) c126))⟩ | exact Or.inr ⟨rfl, stA_o0 (by omega) (by rw [← b64_]; exact i1_) ⟨c101, hnil_⟩ u1_⟩)
            · refine z_iconst dX1_readText_64 ?_
              refine z_goto (tgt := 69) dX1_readText_65 (by decide) ?_
              refine z_istore_5 rfl dX1_readText_69 ?_
              refine z_iload_5 dX1_readText_71 ?_
              refine z_if_ne (tgt := 80) (by decide) dX1_readText_73 (by decide) (fun c73 => ?_) (fun c73 => absurd c73 (by decide))
              refine z_iload_5 dX1_readText_80 ?_
              refine z_if_eq (tgt := 97) (by decide) dX1_readText_82 (by decide) (fun c82 => absurd c82 (by decide)) (fun c82 => ?_)
              refine z_aload_0 dX1_readText_85 ?_
              refine z_iload_4 dX1_readText_86 ?_
              refine z_bipush dX1_readText_88 (by decide) ?_
              refine z_isub dX1_readText_90 ?_
              refine z_sV yv_X1_takesDigit ml_X1_110 (c_X1_takesDigit (M := N_) hR_) zk_7 rfl rfl (by decide) (Nat.le_of_ble_eq_true rfl) dX1_readText_91 (fun x_ D_ hq_ => ?_)
              rcases hq_ with ⟨rfl, d1_, d2_, d3_⟩ | ⟨rfl, d1_, hg_⟩
              · skip
                refine z_goto (tgt := 143) dX1_readText_94 (by decide) ?_
                refine z_drop_4 ?_
                refine z_drop_5 ?_
                exact J143 _ ((s_.1.1, (if s_.1.2.2.1 = 0 then (M tb a_) - 48 else 10 * s_.1.2.1 + ((M tb a_) - 48)), s_.1.2.2.1 + 1, s_.1.2.2.2.1, s_.1.2.2.2.2.1, s_.1.2.2.2.2.2), s_.2) _ (by exact d2_) (by exact d3_) (by exact Or.inl ⟨rfl, stA_dg1 (by omega) d1_⟩)
              · skip
                refine z_mem hg_ ?_
                refine z_goto (tgt := 143) dX1_readText_94 (by decide) ?_
                refine z_drop_4 ?_
                refine z_drop_5 ?_
                exact J143 _ s_ _ (by exact hR_) (by exact outR_rf) (by exact Or.inr ⟨rfl, stA_dg0 (by omega) d1_⟩)
  have L32 : ∀ (a_ : Int) (s_ : aK × aO) (N_ : zM), (0 ≤ a_ ∧ a_ ≤ n_) → (Rep N_ s_) → (outT N_ M) → (RtI (M 64) (M tb) n_ e_ s2_ (N_ 7 1) a_ s_) → Z RX1 cX1_readText 7 none 3 (zQ (RN (fun N => outT N M ∧ RdI N ∧ (e_ < n_ → N 7 1 = e_) ∧ (e_ = n_ → mEnd s2_ → N 7 1 = -1 ∧ Rep N (kNum s2_.1, s2_.2)) ∧ (e_ = n_ → ¬ mEnd s2_ → N 7 1 = n_)))) 32 [some (vR 7), some (vR tb), some (vI n_), some (vI a_), none, none, none] [] (N_) := fun a_ s_ N_ ha_ hR_ hO_ hQ_ => K32 ((n_ - a_).toNat + 1) a_ s_ N_ (by omega) ha_ hR_ hO_ hQ_
  exact L32 _ (s0A (M 7 4) (M 7 11) (M 7 12) (M 7 15)) _ (by omega) (by exact Rep_bg (M := zput (zput (zput (zput (zput M 7 1 (-1)) 7 10 0) 7 5 0) 7 13 1) 7 14 0) (o2 := (0, M 7 11, M 7 12, 1, 0, M 7 15)) (by rw [zput_ne2 (by decide), zput_ne2 (by decide), zput_eq]) (by rw [zput_ne2 (by decide), zput_ne2 (by decide), zput_ne2 (by decide), zput_eq]) (by rw [zput_ne2 (by decide), zput_ne2 (by decide), zput_ne2 (by decide), zput_ne2 (by decide), zput_ne2 (by decide)]) (by rw [zput_ne2 (by decide), zput_ne2 (by decide), zput_ne2 (by decide), zput_ne2 (by decide), zput_ne2 (by decide)]) (by rw [zput_ne2 (by decide), zput_eq]) zput_eq (by rw [zput_ne2 (by decide), zput_ne2 (by decide), zput_ne2 (by decide), zput_ne2 (by decide), zput_ne2 (by decide)]) (show (0 : Int) ≤ 0 ∧ (0 : Int) ≤ 3 by decide) hcp (Or.inr rfl) (Or.inl rfl)) (by intro k_ a1_ b1_ c1_; rw [zput_ne a1_, zput_ne a1_, zput_ne a1_, zput_ne a1_, zput_ne a1_, zput_ne a1_, zput_ne a1_, zput_ne a1_, zput_ne a1_]) (by exact Or.inl ⟨by rw [zput_ne2 (by decide), zput_ne2 (by decide), zput_ne2 (by decide), zput_ne2 (by decide), zput_ne2 (by decide), zput_ne2 (by decide), zput_ne2 (by decide), zput_ne2 (by decide), zput_eq], he0_, hgo⟩)
