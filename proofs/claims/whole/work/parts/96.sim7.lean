theorem SimH_up {M K : zM} {k : Int} (h : SimH M) (hk : 0 ≤ k ∧ k ≤ 3) (e56 : ∀ i : Nat, i < 4 → i ≠ k.toNat → K (56 + i) = M (56 + i) ∧ K (60 + i) = M (60 + i)) (e87 : ∀ j : Int, j ≠ k → K 87 j = M 87 j ∧ K 88 j = M 88 j) (e89 : ∀ j : Int, ¬ (40 * k ≤ j ∧ j < 40 * k + 40) → K 89 j = M 89 j) (t : K (56 + k.toNat) 0 = K 87 k ∧ (K 87 k = 0 ∨ K 87 k = 8 ∨ K 87 k = 16 ∨ K 87 k = 64)) (z : K (56 + k.toNat) 1 = K 88 k ∧ 0 ≤ K 88 k ∧ K 88 k ≤ 40) (nn : ∀ j : Int, 0 ≤ j → j < 40 → K (60 + k.toNat) j = K 89 (40 * k + j) ∧ -9223372036854775808 ≤ K 89 (40 * k + j) ∧ K 89 (40 * k + j) < 9223372036854775808) : SimH K := by
  obtain ⟨a, b, c⟩ := h
  refine ⟨fun i hi => ?_, fun i h0 h3 => ?_, fun i hi => ?_⟩
  · by_cases e : i = k.toNat
    · rw [e, t.1, z.1]
      exact ⟨t.2, z.2, fun j p q => by rw [(nn j p q).1]; exact (nn j p q).2⟩
    · rw [(e56 i hi e).1, (e56 i hi e).2]
      exact a i hi
  · by_cases e : i = k
    · rw [e]
      exact ⟨t.2, z.2, fun j p q => (nn j p q).2⟩
    · rw [(e87 i e).1, (e87 i e).2]
      obtain ⟨b1, b2, b3⟩ := b i h0 h3
      exact ⟨b1, b2, fun j p q => by rw [e89 _ (by omega)]; exact b3 j p q⟩
  · by_cases e : i = k.toNat
    · rw [show (i : Int) = k by omega, e]
      exact ⟨t.1, z.1, fun j p q => (nn j p q).1⟩
    · rw [(e56 i hi e).1, (e56 i hi e).2, (e87 i (by omega)).1, (e87 i (by omega)).2]
      obtain ⟨c1, c2, c3⟩ := c i hi
      exact ⟨c1, c2, fun j p q => by rw [e89 _ (by omega)]; exact c3 j p q⟩
theorem SimN_H {M K : zM} (h : Sim M) (o : ∀ k : Nat, ¬ hC k → k ≠ 90 → K k = M k) (hH : SimH K) : SimN M K := SimN_of (Sim_H h o hH) (fun j hj => by rw [o 76 (by omega) (by decide)]) (o 77 (by omega) (by decide)) (by rw [o 75 (by omega) (by decide)])

theorem s_sheet {M : zM} {k_ a_ n_ : Int} (h : Sim M) (hk : -2147483648 ≤ k_ ∧ k_ < 2147483648) (ha : -2147483648 ≤ a_ ∧ a_ < 2147483648) (hn : -2147483648 ≤ n_ ∧ n_ < 2147483648) : PrI yX6_sheet cX6_sheet 4 (some .int) 2 yX7_sheet cX7_sheet 5 (some .int) 2 [vI k_, vI a_, vI n_] M := by
  obtain ⟨⟨hs, h9, hW, hX, hU, hB⟩, hK, hP, hH, hF, hRd, hSw⟩ := id h
  have hO := Sim_ok h
  have w0 := hW.1
  have w1 := hW.2.1
  have w6 := hW.2.2.2.2.1
  obtain ⟨hs0, hs1, hsn, hsp⟩ := id hs
  have hn1 := hsn.1
  have h6 := c_X6_sheet (M := M) hk ha hn
  by_cases q : ((0 ≤ k_ ∧ k_ ≤ 3) ∧ (a_ = 0 ∨ a_ = 8 ∨ a_ = 16 ∨ a_ = 64))
  · have nq : ¬ ¬ ((0 ≤ k_ ∧ k_ ≤ 3) ∧ (a_ = 0 ∨ a_ = 8 ∨ a_ = 16 ∨ a_ = 64)) := fun x => x q
    rw [if_neg nq, if_neg nq] at h6
    by_cases c : n_ < 0
    · rw [if_pos c, if_pos c] at h6
      have h7 := c_X7_sheet (M := fnd6 M 6) hk ha hn
      rw [if_neg nq, if_neg nq, if_pos c, if_pos c] at h7
      exact PrI_of h6 h7 rfl (SimN_f h)
    · rw [if_neg c, if_neg c] at h6
      by_cases d : 40 < n_
      · rw [if_pos d, if_pos d] at h6
        have h7 := c_X7_sheet (M := fnd6 M 0) hk ha hn
        rw [if_neg nq, if_neg nq, if_neg c, if_neg c, if_pos d, if_pos d] at h7
        exact PrI_of h6 h7 rfl (SimN_f h)
      · rw [if_neg d, if_neg d] at h6
        obtain ⟨q1, q2⟩ := id q
        have hz : 0 ≤ (if a_ = 0 then 0 else n_) ∧ (if a_ = 0 then 0 else n_) ≤ 40 := by
          by_cases y : a_ = 0
          · rw [if_pos y]; omega
          · rw [if_neg y]; omega
        generalize hg : zrow (zput (zput M (56 + k_.toNat) 0 a_) (56 + k_.toNat) 1 (if a_ = 0 then 0 else n_)) (60 + k_.toNat) (zfillA (fun _ => 0) (M (60 + k_.toNat)) 0 40) = g_ at h6
        have o6 : ∀ i : Nat, i ≠ 56 + k_.toNat → i ≠ 60 + k_.toNat → g_ i = M i := fun i a b => by rw [← hg, zrow_ne b, zput_ne a, zput_ne a]
        have h7 := c_X7_sheet (M := g_) hk ha hn
        rw [if_neg nq, if_neg nq, if_neg c, if_neg c, if_neg d, if_neg d, o6 89 (by omega) (by omega)] at h7
        refine PrI_of h6 h7 rfl ?_
        generalize hk2 : zrow (zput (zput g_ 87 k_ a_) 88 k_ (if a_ = 0 then 0 else n_)) 89 (zfillA (fun _ => 0) (M 89) (40 * k_) 40) = K_
        have o7 : ∀ i : Nat, i ≠ 87 → i ≠ 88 → i ≠ 89 → K_ i = g_ i := fun i a b c => by rw [← hk2, zrow_ne c, zput_ne b, zput_ne a]
        have k87 : K_ 87 = zup (M 87) k_ a_ := by rw [← hk2, zrow_ne (by decide), zput_ne (by decide), zput_at, o6 87 (by omega) (by omega)]
        have k88 : K_ 88 = zup (M 88) k_ (if a_ = 0 then 0 else n_) := by rw [← hk2, zrow_ne (by decide), zput_at, zput_ne (by decide), o6 88 (by omega) (by omega)]
        have k89 : K_ 89 = zfillA (fun _ => 0) (M 89) (40 * k_) 40 := by rw [← hk2, zrow_eq]
        have k56 : K_ (56 + k_.toNat) = zup (zup (M (56 + k_.toNat)) 0 a_) 1 (if a_ = 0 then 0 else n_) := by rw [o7 _ (by omega) (by omega) (by omega), ← hg, zrow_ne (by omega), zput_at, zput_at]
        have k60 : K_ (60 + k_.toNat) = zfillA (fun _ => 0) (M (60 + k_.toNat)) 0 40 := by rw [o7 _ (by omega) (by omega) (by omega), ← hg, zrow_eq]
        refine SimN_H h (fun i hi _ => by rw [o7 i (by omega) (by omega) (by omega), o6 i (by omega) (by omega)]) (SimH_up hH q1 (fun i hi hne => ⟨by rw [o7 _ (by omega) (by omega) (by omega), o6 _ (by omega) (by omega)], by rw [o7 _ (by omega) (by omega) (by omega), o6 _ (by omega) (by omega)]⟩) (fun j hj => ⟨by rw [k87, zup_ne hj], by rw [k88, zup_ne hj]⟩) (fun j hj => by rw [k89]; exact if_neg hj) ⟨by rw [k56, zup_ne (by decide), zup_eq, k87, zup_eq], by rw [k87, zup_eq]; exact q2⟩ ⟨by rw [k56, zup_eq, k88, zup_eq], by rw [k88, zup_eq]; exact hz⟩ (fun j a b => ?_))
        have y1 : K_ (60 + k_.toNat) j = 0 := by rw [k60]; exact if_pos (by omega)
        have y2 : K_ 89 (40 * k_ + j) = 0 := by rw [k89]; exact if_pos (by omega)
        rw [y1, y2]
        decide
  · rw [if_pos q, if_pos q] at h6
    have h7 := c_X7_sheet (M := fnd6 M 0) hk ha hn
    rw [if_pos q, if_pos q] at h7
    exact PrI_of h6 h7 rfl (SimN_f h)

theorem s_write {M : zM} {k_ j_ v_ : Int} (h : Sim M) (hk : -2147483648 ≤ k_ ∧ k_ < 2147483648) (hj : -2147483648 ≤ j_ ∧ j_ < 2147483648) (hv : -9223372036854775808 ≤ v_ ∧ v_ < 9223372036854775808) : PrJ yX6_write cX6_write 8 (some .long) 3 yX7_write cX7_write 7 (some .long) 2 [vI k_, vI j_, vJ v_] M := by
  obtain ⟨⟨hs, h9, hW, hX, hU, hB⟩, hK, hP, hH, hF, hRd, hSw⟩ := id h
  have hO := Sim_ok h
  have w0 := hW.1
  have w1 := hW.2.1
  have w6 := hW.2.2.2.2.1
  obtain ⟨hs0, hs1, hsn, hsp⟩ := id hs
  have hn1 := hsn.1
  obtain ⟨hS6, hS7, _⟩ := id hH
  have h6 := c_X6_write (v_ := v_) hS6 hk hj
  by_cases q : 0 ≤ k_ ∧ k_ ≤ 3
  · have nq : ¬ ¬ (0 ≤ k_ ∧ k_ ≤ 3) := fun x => x q
    obtain ⟨e0, e1, eN, eR⟩ := Sim_h h q
    rw [if_neg nq, if_neg nq, e0, e1] at h6
    by_cases c : M 87 k_ = 0
    · rw [if_pos c, if_pos c] at h6
      have h7 := c_X7_write (M := fnd6 M 5) (v_ := v_) (SH7_f hS7) hk hj
      rw [if_neg nq, if_neg nq, f6_o (show 87 ≠ 6 by decide), if_pos c, if_pos c] at h7
      exact PrJ_of h6 h7 rfl (SimN_f h)
    · rw [if_neg c, if_neg c] at h6
      by_cases d : 0 ≤ j_ ∧ j_ ≤ M 88 k_ - 1
      · have nd : ¬ ¬ (0 ≤ j_ ∧ j_ ≤ M 88 k_ - 1) := fun x => x d
        rw [if_neg nd, if_neg nd] at h6
        have hv2 : -9223372036854775808 ≤ (if M 87 k_ = 8 then Int.bmod v_ 256 else if M 87 k_ = 16 then Int.bmod v_ 65536 else v_) ∧ (if M 87 k_ = 8 then Int.bmod v_ 256 else if M 87 k_ = 16 then Int.bmod v_ 65536 else v_) < 9223372036854775808 := by
          have b1 := @Int.le_bmod v_ 256 (by decide)
          have b2 := @Int.bmod_lt v_ 256 (by decide)
          have b3 := @Int.le_bmod v_ 65536 (by decide)
          have b4 := @Int.bmod_lt v_ 65536 (by decide)
          by_cases y : M 87 k_ = 8
          · rw [if_pos y]; omega
          · rw [if_neg y]
            by_cases y2 : M 87 k_ = 16
            · rw [if_pos y2]; omega
            · rw [if_neg y2]; exact hv
        generalize hx7 : (if M 87 k_ = 8 then Int.bmod v_ 256 else if M 87 k_ = 16 then Int.bmod v_ 65536 else v_) = x_ at h6 hv2
        have o6 : ∀ i : Nat, i ≠ 60 + k_.toNat → zput M (60 + k_.toNat) j_ x_ i = M i := fun i a => zput_ne a
        have h7 := c_X7_write (M := zput M (60 + k_.toNat) j_ x_) (v_ := v_) (by
          unfold SH7 at hS7 ⊢
          rw [o6 87 (by omega), o6 88 (by omega), o6 89 (by omega)]
          exact hS7) hk hj
        rw [o6 87 (by omega), o6 88 (by omega), o6 89 (by omega), if_neg nq, if_neg nq, if_neg c, if_neg c, if_neg nd, if_neg nd] at h7
        refine PrJ_of h6 h7 (eN j_ (by omega) (by omega)).symm ?_
        rw [show (if M 87 k_ = 8 then Int.bmod v_ 256 else if M 87 k_ = 16 then Int.bmod v_ 65536 else v_) = x_ from hx7]
        generalize hk2 : zput (zput M (60 + k_.toNat) j_ x_) 89 (40 * k_ + j_) x_ = K_
        have o7 : ∀ i : Nat, i ≠ 60 + k_.toNat → i ≠ 89 → K_ i = M i := fun i a b => by rw [← hk2, zput_ne b, zput_ne a]
        have k89 : K_ 89 = zup (M 89) (40 * k_ + j_) x_ := by rw [← hk2, zput_at, zput_ne (by omega)]
        have k60 : K_ (60 + k_.toNat) = zup (M (60 + k_.toNat)) j_ x_ := by rw [← hk2, zput_ne (by omega), zput_at]
        refine SimN_H h (fun i hi _ => o7 i (by omega) (by omega)) (SimH_up hH q (fun i hi hne => ⟨o7 _ (by omega) (by omega), o7 _ (by omega) (by omega)⟩) (fun j hj => ⟨by rw [o7 87 (by omega) (by decide)], by rw [o7 88 (by omega) (by decide)]⟩) (fun j hj => by rw [k89, zup_ne (by omega)]) ⟨by rw [o7 _ (by omega) (by omega), o7 87 (by omega) (by omega)]; exact e0, by rw [o7 87 (by omega) (by omega)]; exact (hS7 k_ q.1 q.2).1⟩ ⟨by rw [o7 _ (by omega) (by omega), o7 88 (by omega) (by omega)]; exact e1, by rw [o7 88 (by omega) (by omega)]; exact eR⟩ (fun j a b => ?_))
        rw [k60, k89]
        by_cases y : j = j_
        · rw [y, zup_eq, zup_eq]
          exact ⟨rfl, hv2⟩
        · rw [zup_ne y, zup_ne (by omega)]
          exact ⟨eN j a b, (hS7 k_ q.1 q.2).2.2 j a b⟩
      · rw [if_pos d, if_pos d] at h6
        have h7 := c_X7_write (M := fnd6 M 0) (v_ := v_) (SH7_f hS7) hk hj
        rw [if_neg nq, if_neg nq, f6_o (show 87 ≠ 6 by decide), f6_o (show 88 ≠ 6 by decide), if_neg c, if_neg c, if_pos d, if_pos d] at h7
        exact PrJ_of h6 h7 rfl (SimN_f h)
  · rw [if_pos q, if_pos q] at h6
    have h7 := c_X7_write (M := fnd6 M 0) (v_ := v_) (SH7_f hS7) hk hj
    rw [if_pos q, if_pos q] at h7
    exact PrJ_of h6 h7 rfl (SimN_f h)

theorem s_copy {M : zM} {a_ i_ b_ j_ n_ : Int} (h : Sim M) (ha : -2147483648 ≤ a_ ∧ a_ < 2147483648) (hi : -2147483648 ≤ i_ ∧ i_ < 2147483648) (hb : -2147483648 ≤ b_ ∧ b_ < 2147483648) (hj : -2147483648 ≤ j_ ∧ j_ < 2147483648) (hn : -2147483648 ≤ n_ ∧ n_ < 2147483648) : PrI yX6_copy cX6_copy 6 (some .int) 3 yX7_copy cX7_copy 7 (some .int) 2 [vI a_, vI i_, vI b_, vI j_, vI n_] M := by
  obtain ⟨⟨hs, h9, hW, hX, hU, hB⟩, hK, hP, hH, hF, hRd, hSw⟩ := id h
  have hO := Sim_ok h
  have w0 := hW.1
  have w1 := hW.2.1
  have w6 := hW.2.2.2.2.1
  obtain ⟨hs0, hs1, hsn, hsp⟩ := id hs
  have hn1 := hsn.1
  obtain ⟨hS6, hS7, _⟩ := id hH
  have h6 := c_X6_copy hS6 ha hi hb hj hn
  by_cases q : ((0 ≤ a_ ∧ a_ ≤ 3) ∧ (0 ≤ b_ ∧ b_ ≤ 3))
  · have nq : ¬ ¬ ((0 ≤ a_ ∧ a_ ≤ 3) ∧ (0 ≤ b_ ∧ b_ ≤ 3)) := fun x => x q
    obtain ⟨e0, e1, eN, eR⟩ := Sim_h h q.1
    obtain ⟨d0, d1, dN, dR⟩ := Sim_h h q.2
    rw [if_neg nq, if_neg nq, e0, e1, d0, d1] at h6
    by_cases c : M 87 a_ = 0 ∨ M 87 b_ = 0
    · rw [if_pos c, if_pos c] at h6
      have h7 := c_X7_copy (M := fnd6 M 5) (SH7_f hS7) ha hi hb hj hn
      rw [if_neg nq, if_neg nq, f6_o (show 87 ≠ 6 by decide), if_pos c, if_pos c] at h7
      exact PrI_of h6 h7 rfl (SimN_f h)
    · rw [if_neg c, if_neg c] at h6
      by_cases d : M 87 a_ = M 87 b_
      · have nd : ¬ ¬ (M 87 a_ = M 87 b_) := fun x => x d
        rw [if_neg nd, if_neg nd] at h6
        by_cases e : (0 ≤ i_ ∧ 0 ≤ j_ ∧ 0 ≤ n_ ∧ i_ ≤ M 88 a_ - n_ ∧ j_ ≤ M 88 b_ - n_)
        · have ne_ : ¬ ¬ (0 ≤ i_ ∧ 0 ≤ j_ ∧ 0 ≤ n_ ∧ i_ ≤ M 88 a_ - n_ ∧ j_ ≤ M 88 b_ - n_) := fun x => x e
          have n6 : ¬ ¬ ((0 ≤ i_ ∧ 0 ≤ n_ ∧ n_ ≤ M 88 a_ ∧ i_ ≤ M 88 a_ - n_) ∧ (0 ≤ j_ ∧ 0 ≤ n_ ∧ n_ ≤ M 88 b_ ∧ j_ ≤ M 88 b_ - n_)) := fun x => x (by omega)
          rw [if_neg n6, if_neg n6] at h6
          obtain ⟨q1, q2⟩ := id q
          have o6 : ∀ k : Nat, k ≠ 60 + b_.toNat → zrow M (60 + b_.toNat) (zcopy (M (60 + a_.toNat)) (M (60 + b_.toNat)) i_ j_ n_) k = M k := fun k a => zrow_ne a
          generalize hg : zrow M (60 + b_.toNat) (zcopy (M (60 + a_.toNat)) (M (60 + b_.toNat)) i_ j_ n_) = g_ at h6 o6
          have h7 := c_X7_copy (M := g_) (by
            unfold SH7 at hS7 ⊢
            rw [o6 87 (by omega), o6 88 (by omega), o6 89 (by omega)]
            exact hS7) ha hi hb hj hn
          rw [o6 87 (by omega), o6 88 (by omega), o6 89 (by omega), o6 90 (by omega), if_neg nq, if_neg nq, if_neg c, if_neg c, if_neg nd, if_neg nd, if_neg ne_, if_neg ne_] at h7
          refine PrI_of h6 h7 rfl ?_
          generalize hk2 : zrow (zrow g_ 90 (zfillA (fun t_ => M 89 (40 * a_ + i_ + t_)) (M 90) 0 n_)) 89 (zfillA (fun t_ => M 89 (40 * a_ + i_ + (t_ - (40 * b_ + j_)))) (M 89) (40 * b_ + j_) n_) = K_
          have o7 : ∀ k : Nat, k ≠ 60 + b_.toNat → k ≠ 89 → k ≠ 90 → K_ k = M k := fun k a b c => by rw [← hk2, zrow_ne b, zrow_ne c, o6 k a]
          have k89 : K_ 89 = zfillA (fun t_ => M 89 (40 * a_ + i_ + (t_ - (40 * b_ + j_)))) (M 89) (40 * b_ + j_) n_ := by rw [← hk2, zrow_eq]
          have k60 : K_ (60 + b_.toNat) = zcopy (M (60 + a_.toNat)) (M (60 + b_.toNat)) i_ j_ n_ := by rw [← hk2, zrow_ne (by omega), zrow_ne (by omega), ← hg, zrow_eq]
          refine SimN_H h (fun k hk h90 => o7 k (by omega) (by omega) h90) (SimH_up hH q2 (fun i hi hne => ⟨o7 _ (by omega) (by omega) (by omega), o7 _ (by omega) (by omega) (by omega)⟩) (fun j hj => ⟨by rw [o7 87 (by omega) (by decide) (by decide)], by rw [o7 88 (by omega) (by decide) (by decide)]⟩) (fun j hj => by rw [k89]; exact if_neg (by omega)) ⟨by rw [o7 _ (by omega) (by omega) (by omega), o7 87 (by omega) (by omega) (by omega)]; exact d0, by rw [o7 87 (by omega) (by omega) (by omega)]; exact (hS7 b_ q2.1 q2.2).1⟩ ⟨by rw [o7 _ (by omega) (by omega) (by omega), o7 88 (by omega) (by omega) (by omega)]; exact d1, by rw [o7 88 (by omega) (by omega) (by omega)]; exact dR⟩ (fun j a b => ?_))
          rw [k60, k89]
          unfold zcopy zfillA
          by_cases y : j_ ≤ j ∧ j < j_ + n_
          · rw [if_pos y, if_pos (show 40 * b_ + j_ ≤ 40 * b_ + j ∧ 40 * b_ + j < 40 * b_ + j_ + n_ by omega)]
            dsimp only
            rw [show 40 * a_ + i_ + (40 * b_ + j - (40 * b_ + j_)) = 40 * a_ + (i_ + (j - j_)) by omega]
            exact ⟨eN _ (by omega) (by omega), (hS7 a_ q1.1 q1.2).2.2 _ (by omega) (by omega)⟩
          · rw [if_neg y, if_neg (show ¬ (40 * b_ + j_ ≤ 40 * b_ + j ∧ 40 * b_ + j < 40 * b_ + j_ + n_) by omega)]
            exact ⟨dN j a b, (hS7 b_ q2.1 q2.2).2.2 j a b⟩
        · have n6 : ¬ ((0 ≤ i_ ∧ 0 ≤ n_ ∧ n_ ≤ M 88 a_ ∧ i_ ≤ M 88 a_ - n_) ∧ (0 ≤ j_ ∧ 0 ≤ n_ ∧ n_ ≤ M 88 b_ ∧ j_ ≤ M 88 b_ - n_)) := fun x => e (by omega)
          rw [if_pos n6, if_pos n6] at h6
          have h7 := c_X7_copy (M := fnd6 M 0) (SH7_f hS7) ha hi hb hj hn
          rw [if_neg nq, if_neg nq, f6_o (show 87 ≠ 6 by decide), f6_o (show 88 ≠ 6 by decide), if_neg c, if_neg c, if_neg nd, if_neg nd, if_pos e, if_pos e] at h7
          exact PrI_of h6 h7 rfl (SimN_f h)
      · rw [if_pos d, if_pos d] at h6
        have h7 := c_X7_copy (M := fnd6 M 2) (SH7_f hS7) ha hi hb hj hn
        rw [if_neg nq, if_neg nq, f6_o (show 87 ≠ 6 by decide), if_neg c, if_neg c, if_pos d, if_pos d] at h7
        exact PrI_of h6 h7 rfl (SimN_f h)
  · rw [if_pos q, if_pos q] at h6
    have h7 := c_X7_copy (M := fnd6 M 0) (SH7_f hS7) ha hi hb hj hn
    rw [if_pos q, if_pos q] at h7
    exact PrI_of h6 h7 rfl (SimN_f h)
