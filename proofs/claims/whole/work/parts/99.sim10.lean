theorem chgG_c {g g2 : Nat → Int → Int} {nW w : Nat} {c : Int} (hg : ∀ i, i < nW → ∀ f, 0 ≤ f → f ≤ 5 → g i f = g2 i f) : ∀ i, i < nW → ∀ f, 0 ≤ f → f ≤ 5 → chgG g w c i f = chgG g2 w c i f := by
  intro i hi f a b
  unfold chgG
  rw [hg i hi f a b]
theorem knowA_c {p p2 : Int → Int} {nW : Nat} {g g2 : Nat → Int → Int} {t x l sr : Int} {n w : Nat} (hw : w < nW) (hp : ∀ j : Int, 0 ≤ j → j ≤ 5 → p j = p2 j) (hg : ∀ i, i < nW → ∀ f, 0 ≤ f → f ≤ 5 → g i f = g2 i f) : knowA p nW g t n x l w sr = knowA p2 nW g2 t n x l w sr := by
  unfold knowA
  rw [hg w hw 4 (by decide) (by decide), GW_congr hp (chgG_c hg), GW_congr hp (chgG_c hg), GW_congr hp hg]

theorem s_know {M : zM} {w_ s_ n_ : Int} (h : Sim M) (hw : -2147483648 ≤ w_ ∧ w_ < 2147483648) (hs_ : -2147483648 ≤ s_ ∧ s_ < 2147483648) (hn : -2147483648 ≤ n_ ∧ n_ < 2147483648) : PrJ yX6_know cX6_know 13 (some .long) 6 yX7_know cX7_know 12 (some .long) 8 [vI w_, vI s_, vI n_] M := by
  obtain ⟨⟨hs, h9, hW, hX, hU, hB⟩, hK, hP, hH, hF, hRd, hSw⟩ := id h
  have hO := Sim_ok h
  have w0 := hW.1
  have w1 := hW.2.1
  have w6 := hW.2.2.2.2.1
  obtain ⟨hs0, hs1, hsn, hsp⟩ := id hs
  have hn1 := hsn.1
  have hb8 := (Sim_8 h).1
  have hTb : TxB M 1 := fun j a b => hB j a (by omega)
  have h6 := c_X6_know hO hB hb8 hw hs_ hn
  by_cases q : ((0 ≤ w_ ∧ w_ ≤ M 76 10 - 1) ∧ (50 ≤ s_ ∧ s_ ≤ 100)) ∧ (1 ≤ n_ ∧ n_ ≤ 8)
  · have nq : ¬ ¬ (((0 ≤ w_ ∧ w_ ≤ M 76 10 - 1) ∧ (50 ≤ s_ ∧ s_ ≤ 100)) ∧ (1 ≤ n_ ∧ n_ ≤ 8)) := fun x => x q
    have n6 : ¬ ¬ (((0 ≤ w_ ∧ w_ ≤ M 1 6 - 1) ∧ (50 ≤ s_ ∧ s_ ≤ 100)) ∧ (1 ≤ n_ ∧ n_ ≤ 8)) := fun x => x (by omega)
    rw [if_neg n6, if_neg n6, Sim_i h (by omega) (by omega) (show (0 : Int) ≤ 1 by decide) (by decide), w0] at h6
    by_cases c : M 76 0 < M 76 (12 + 6 * w_ + 1)
    · have nc : ¬ ¬ (M 76 0 < M 76 (12 + 6 * w_ + 1)) := fun x => x c
      rw [if_neg nc, if_neg nc, w1, Sim_left h, w6, knowA_c (p2 := pS (M 76)) (g2 := gS (M 76)) (by omega) (fun j a b => Sim_p h a b) (Sim_g h)] at h6
      refine ⟨_, _, h6, fun N hN => ?_⟩
      have hc_ : clsM N M := cls_b hRd hSw hN
      have e76 : N 76 = M 76 := hc_.1 76 (by omega)
      have h7 := c_X7_know (M := N) (by rw [e76]; exact hsn) (by rw [e76]; exact hsp) (by rw [e76]; exact hs1) (by rw [e76]; exact hs0) hw hs_ hn
      rw [e76, if_neg nq, if_neg nq, if_neg nc, if_neg nc] at h7
      exact ⟨_, h7, fun K hK => fin_r h hc_ (ref86 hK)⟩
    · rw [if_pos c, if_pos c] at h6
      refine ⟨_, _, h6, fun N hN => ?_⟩
      have hc_ : clsM N (fnd6 M 4) := cls_b (Rd6 hRd) (Sw6 hSw) hN
      have e76 : N 76 = M 76 := by rw [hc_.1 76 (by omega), f6_76]
      have h7 := c_X7_know (M := N) (by rw [e76]; exact hsn) (by rw [e76]; exact hsp) (by rw [e76]; exact hs1) (by rw [e76]; exact hs0) hw hs_ hn
      rw [e76, if_neg nq, if_neg nq, if_pos c, if_pos c] at h7
      exact ⟨_, h7, fun K hK => fin_f h hc_ (ref86 hK)⟩
  · have n6 : ¬ (((0 ≤ w_ ∧ w_ ≤ M 1 6 - 1) ∧ (50 ≤ s_ ∧ s_ ≤ 100)) ∧ (1 ≤ n_ ∧ n_ ≤ 8)) := fun x => q (by omega)
    rw [if_pos n6, if_pos n6] at h6
    refine ⟨_, _, h6, fun N hN => ?_⟩
    have hc_ : clsM N (fnd6 M 0) := cls_b (Rd6 hRd) (Sw6 hSw) hN
    have e76 : N 76 = M 76 := by rw [hc_.1 76 (by omega), f6_76]
    have h7 := c_X7_know (M := N) (by rw [e76]; exact hsn) (by rw [e76]; exact hsp) (by rw [e76]; exact hs1) (by rw [e76]; exact hs0) hw hs_ hn
    rw [e76, if_pos q, if_pos q] at h7
    exact ⟨_, h7, fun K hK => fin_f h hc_ (ref86 hK)⟩

theorem s_runs {M : zM} {n_ : Int} (h : Sim M) (hn : -2147483648 ≤ n_ ∧ n_ < 2147483648) : PrI yX6_runs cX6_runs 3 (some .int) 6 yX7_runs cX7_runs 2 (some .int) 7 [vI n_] M := by
  obtain ⟨⟨hs, h9, hW, hX, hU, hB⟩, hK, hP, hH, hF, hRd, hSw⟩ := id h
  have hO := Sim_ok h
  have w0 := hW.1
  have w1 := hW.2.1
  have w6 := hW.2.2.2.2.1
  obtain ⟨hs0, hs1, hsn, hsp⟩ := id hs
  have hn1 := hsn.1
  have hb8 := (Sim_8 h).1
  have hTb : TxB M 1 := fun j a b => hB j a (by omega)
  have h6 := c_X6_runs hs hW hX hTb hRd (by omega) hn
  rw [w0] at h6
  by_cases q : (1 ≤ n_ ∧ n_ ≤ 100)
  · have nq : ¬ ¬ (1 ≤ n_ ∧ n_ ≤ 100) := fun x => x q
    rw [if_neg nq] at h6
    by_cases c : 999 < M 76 0 + n_
    · rw [if_pos c] at h6
      refine ⟨_, _, h6, fun N hN => ?_⟩
      have eN : N = fnd6 M 4 := hN.2.1 q c
      have h7 := c_X7_runs (M := fnd6 M 4) (by rw [f6_76]; exact hs) (by rw [f6_76]; exact h9) (by rw [f6_76]; exact hU) hn
      rw [f6_76, if_neg nq, if_neg nq, if_pos c, if_pos c] at h7
      rw [eN]
      exact ⟨_, h7, fun K hK => SimN_82 (SimN_f h) hK⟩
    · rw [if_neg c] at h6
      refine ⟨_, _, h6, fun N hN => ?_⟩
      obtain ⟨hW2, oW, e8, hr⟩ := hN.2.2 q c
      have e76 : N 76 = M 76 := oW 76 (by decide) (by decide) (by decide) (by decide) (by decide) (by decide) (by decide)
      have h7 := c_X7_runs (M := N) (by rw [e76]; exact hs) (by rw [e76]; exact h9) (by rw [e76]; exact hU) hn
      rw [e76, if_neg nq, if_neg nq, if_neg c, if_neg c] at h7
      refine ⟨_, h7, fun K hK => ?_⟩
      have g := goS_ok2 (b := 1) hs n_.toNat (by omega)
      generalize hu : goS 1 (M 76) n_.toNat = u_ at *
      have hG : ∀ k : Nat, ¬ scr k → (fun k : Nat => if scr k then M k else zrow N 76 u_ k) k = zrow N 76 u_ k := fun k hk => if_neg hk
      have hS : ∀ k : Nat, scr k → (fun k : Nat => if scr k then M k else zrow N 76 u_ k) k = M k := fun k hk => if_pos hk
      generalize (fun k : Nat => if scr k then M k else zrow N 76 u_ k) = G_ at hG hS
      have g76 : G_ 76 = u_ := by rw [hG 76 (by omega), zrow_eq]
      have gN : ∀ k : Nat, ¬ scr k → k ≠ 76 → G_ k = N k := fun k a b => by rw [hG k a, zrow_ne b]
      have sG : SimN M G_ := by
        refine Sim_go h (fun k a b c => ?_) (by rw [gN 1 (by omega) (by decide), e8]) (fun j hj => by rw [g76, g.2.2 j hj]) (by rw [g76]; exact g.1) (by rw [g76, g.2.1]; omega) ?_
        · by_cases y : scr k
          · exact hS k y
          · rw [gN k y c]
            exact oW k (by omega) (by omega) (by omega) (by omega) (by omega) a b
        · rw [g76]
          exact WS_c g.1.2.2.1.1.2 hW2 (gN _ (by omega) (by decide)) (gN _ (by omega) (by decide)) (fun i hi => gN _ (by omega) (by omega))
      have k75 : K 75 = M 75 := by rw [hK 75 (by decide) (by decide), zrow_ne (by decide)]; exact oW 75 (by decide) (by decide) (by decide) (by decide) (by decide) (by decide) (by decide)
      have kM : ∀ k : Nat, (70 ≤ k ∧ k ≤ 74) → K k = M k := fun k hk => by rw [hK k (by omega) (by omega), zrow_ne (by omega)]; exact oW k (by omega) (by omega) (by omega) (by omega) (by omega) (by omega) (by omega)
      exact SimN_scr sG (fun k hk => by rw [hK k (by omega) (by omega), hG k hk]) (by rw [k75, hS 75 (by omega)]) (by rw [k75, hS 75 (by omega)]) (RdI_c hr (by rw [hK 7 (by decide) (by decide), zrow_ne (by decide)])) (SwI_congr hSw (kM 70 (by omega)) (kM 71 (by omega)) (kM 72 (by omega)) (kM 73 (by omega)) (kM 74 (by omega)))
  · rw [if_pos q] at h6
    refine ⟨_, _, h6, fun N hN => ?_⟩
    have eN : N = fnd6 M 0 := hN.1 q
    have h7 := c_X7_runs (M := fnd6 M 0) (by rw [f6_76]; exact hs) (by rw [f6_76]; exact h9) (by rw [f6_76]; exact hU) hn
    rw [f6_76, if_pos q, if_pos q] at h7
    rw [eN]
    exact ⟨_, h7, fun K hK => SimN_82 (SimN_f h) hK⟩

theorem fault12 {M : zM} {k_ : Int} (h : Sim M) (q : 0 ≤ k_ ∧ k_ ≤ 3) : (if M (56 + k_.toNat) 0 = 0 then (-1000000006 : Int) else if ¬ (2 ≤ (M (56 + k_.toNat) 1) ∧ (M (56 + k_.toNat) 1) ≤ 12) then -1000000007 else if inAll (M (60 + k_.toNat)) 100 (M (56 + k_.toNat) 1).toNat = true then 0 else -1000000003) = (if 0 ≤ hindS M k_ 2 12 100 then -1000000001 - hindS M k_ 2 12 100 else 0) := by
  unfold hindS
  obtain ⟨e0, e1, eN, eR⟩ := Sim_h h q
  have nq : ¬ ¬ (0 ≤ k_ ∧ k_ ≤ 3) := fun x => x q
  rw [if_neg nq, e0, e1]
  by_cases c : M 87 k_ = 0
  · rw [if_pos c, if_pos c]; decide
  · rw [if_neg c, if_neg c]
    by_cases d : 2 ≤ M 88 k_ ∧ M 88 k_ ≤ 12
    · have nd : ¬ ¬ (2 ≤ M 88 k_ ∧ M 88 k_ ≤ 12) := fun x => x d
      rw [if_neg nd, if_neg nd, inAll_congr _ (by omega) eN]
      by_cases g : inAll (fun j => M 89 (40 * k_ + j)) 100 (M 88 k_).toNat = true
      · rw [if_pos g, if_pos g]; decide
      · rw [if_neg g, if_neg g]; decide
    · rw [if_pos d, if_pos d]; decide
theorem hindS_e {M N : zM} {k_ a b c : Int} (h87 : N 87 = M 87) (h88 : N 88 = M 88) (h89 : N 89 = M 89) : hindS N k_ a b c = hindS M k_ a b c := by
  unfold hindS
  rw [h87, h88, h89]
theorem SH7_e {M N : zM} (h : SH7 M) (h87 : N 87 = M 87) (h88 : N 88 = M 88) (h89 : N 89 = M 89) : SH7 N := by
  unfold SH7 at h ⊢
  rw [h87, h88, h89]
  exact h

theorem s_swarm {M : zM} {k_ g_ q_ a_ : Int} (h : Sim M) (hk : -2147483648 ≤ k_ ∧ k_ < 2147483648) (hg : -2147483648 ≤ g_ ∧ g_ < 2147483648) (hq : -2147483648 ≤ q_ ∧ q_ < 2147483648) (ha : -2147483648 ≤ a_ ∧ a_ < 2147483648) : PrI yX6_swarm cX6_swarm 6 (some .int) 5 yX7_swarm cX7_swarm 9 (some .int) 4 [vI k_, vI g_, vI q_, vI a_] M := by
  obtain ⟨⟨hs, h9, hW, hX, hU, hB⟩, hK, hP, hH, hF, hRd, hSw⟩ := id h
  have hO := Sim_ok h
  have w0 := hW.1
  have w1 := hW.2.1
  have w6 := hW.2.2.2.2.1
  obtain ⟨hs0, hs1, hsn, hsp⟩ := id hs
  have hn1 := hsn.1
  have hb8 := (Sim_8 h).1
  have hTb : TxB M 1 := fun j a b => hB j a (by omega)
  obtain ⟨hS6, hS7, _⟩ := id hH
  have h6 := c_X6_swarm hS6 hSw hk hg hq ha
  by_cases q : ((0 ≤ k_ ∧ k_ ≤ 3) ∧ (0 ≤ g_ ∧ g_ ≤ 50) ∧ (0 ≤ q_ ∧ q_ ≤ 20) ∧ (0 ≤ a_ ∧ a_ ≤ 13))
  · have nq : ¬ ¬ ((0 ≤ k_ ∧ k_ ≤ 3) ∧ (0 ≤ g_ ∧ g_ ≤ 50) ∧ (0 ≤ q_ ∧ q_ ≤ 20) ∧ (0 ≤ a_ ∧ a_ ≤ 13)) := fun x => x q
    rw [if_neg nq, if_neg nq, fault12 h q.1] at h6
    by_cases d : 0 ≤ hindS M k_ 2 12 100
    · rw [if_pos d] at h6
      rw [if_pos (show -1000000001 - hindS M k_ 2 12 100 ≠ 0 by omega), if_pos (show -1000000001 - hindS M k_ 2 12 100 ≠ 0 by omega), show -1000000001 - (-1000000001 - hindS M k_ 2 12 100) = hindS M k_ 2 12 100 by omega] at h6
      refine ⟨_, _, h6, fun N hN => ?_⟩
      have hc_ : clsM N (fnd6 M (hindS M k_ 2 12 100)) := cls_s (Rd6 hRd) hN.2 hN.1
      have e87 : N 87 = M 87 := by rw [hc_.1 87 (by omega), f6_o (by decide)]
      have e88 : N 88 = M 88 := by rw [hc_.1 88 (by omega), f6_o (by decide)]
      have e89 : N 89 = M 89 := by rw [hc_.1 89 (by omega), f6_o (by decide)]
      have h7 := c_X7_swarm (M := N) (SH7_e hS7 e87 e88 e89) hk hg hq ha
      rw [hindS_e e87 e88 e89, e88, e89, if_neg nq, if_neg nq, if_pos d, if_pos d] at h7
      exact ⟨_, h7, fun K hK => fin_f h hc_ (ref92 hK)⟩
    · rw [if_neg d] at h6
      have n0 : ¬ ((0 : Int) ≠ 0) := fun x => x rfl
      rw [if_neg n0, if_neg n0] at h6
      obtain ⟨q1, q2, q3, q4⟩ := hind_k (show hindS M k_ 2 12 100 < 0 by omega)
      obtain ⟨e0, e1, eN, eR⟩ := Sim_h h q1
      have hH2 : ∀ j : Int, 0 ≤ j → j < M 88 k_ → M (60 + k_.toNat) j = (fun j_ => M 89 (40 * k_ + j_)) j := fun j a b => eN j a (by omega)
      have eT := (swA_congr (g := g_) (a := 0) (n := M 88 k_) q.2.2.1.1 (by omega) (by omega) hH2).2
      rw [e1, eT] at h6
      by_cases c : (1000000 ≤ (swT (fun j_ => M 89 (40 * k_ + j_)) g_ q_ (M 88 k_)) ∨ (M 88 k_) ≤ a_ - 2)
      · rw [if_pos c, if_pos c] at h6
        refine ⟨_, _, h6, fun N hN => ?_⟩
        have hc_ : clsM N (fnd6 M 3) := cls_s (Rd6 hRd) hN.2 hN.1
        have e87 : N 87 = M 87 := by rw [hc_.1 87 (by omega), f6_o (by decide)]
        have e88 : N 88 = M 88 := by rw [hc_.1 88 (by omega), f6_o (by decide)]
        have e89 : N 89 = M 89 := by rw [hc_.1 89 (by omega), f6_o (by decide)]
        have h7 := c_X7_swarm (M := N) (SH7_e hS7 e87 e88 e89) hk hg hq ha
        rw [hindS_e e87 e88 e89, e88, e89, if_neg nq, if_neg nq, if_neg d, if_neg d, if_pos c, if_pos c] at h7
        exact ⟨_, h7, fun K hK => fin_f h hc_ (ref92 hK)⟩
      · rw [if_neg c, if_neg c, (swA_congr (g := g_) (a := a_) (n := M 88 k_) q.2.2.1.1 (by omega) (by omega) hH2).1] at h6
        refine ⟨_, _, h6, fun N hN => ?_⟩
        have hc_ : clsM N M := cls_s hRd hN.2 hN.1
        have e87 : N 87 = M 87 := hc_.1 87 (by omega)
        have e88 : N 88 = M 88 := hc_.1 88 (by omega)
        have e89 : N 89 = M 89 := hc_.1 89 (by omega)
        have h7 := c_X7_swarm (M := N) (SH7_e hS7 e87 e88 e89) hk hg hq ha
        rw [hindS_e e87 e88 e89, e88, e89, if_neg nq, if_neg nq, if_neg d, if_neg d, if_neg c, if_neg c] at h7
        exact ⟨_, h7, fun K hK => fin_r h hc_ (ref92 hK)⟩
  · rw [if_pos q, if_pos q] at h6
    refine ⟨_, _, h6, fun N hN => ?_⟩
    have hc_ : clsM N (fnd6 M 0) := cls_s (Rd6 hRd) hN.2 hN.1
    have e87 : N 87 = M 87 := by rw [hc_.1 87 (by omega), f6_o (by decide)]
    have e88 : N 88 = M 88 := by rw [hc_.1 88 (by omega), f6_o (by decide)]
    have e89 : N 89 = M 89 := by rw [hc_.1 89 (by omega), f6_o (by decide)]
    have h7 := c_X7_swarm (M := N) (SH7_e hS7 e87 e88 e89) hk hg hq ha
    rw [hindS_e e87 e88 e89, e88, e89, if_pos q, if_pos q] at h7
    exact ⟨_, h7, fun K hK => fin_f h hc_ (ref92 hK)⟩
