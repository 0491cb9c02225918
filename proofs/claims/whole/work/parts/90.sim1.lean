def TxB6 (M : zM) (w : Nat) : Prop := ∀ j : Int, 0 ≤ j → j < 60 → -128 ≤ M (16 + w) j ∧ M (16 + w) j < 128
def SimT (M : zM) : Prop := SOK (M 76) ∧ M 76 0 ≤ 999 ∧ WS M 1 (M 76) ∧ TxR M 1 (M 76) ∧ RuW (M 76) ∧ TxB6 M 1
def SimK (M : zM) : Prop := M 0 3 = M 75 2 ∧ (M 75 2 = 0 ∨ M 75 2 = 1) ∧ TxB6 M 2 ∧ (M 75 2 = 1 → SOK (M 77) ∧ M 77 0 ≤ 999 ∧ WS M 2 (M 77) ∧ TxR M 2 (M 77) ∧ RuW (M 77))
def SimP (M : zM) : Prop := M 0 5 = M 75 5 ∧ (0 ≤ M 75 5 ∧ M 75 5 ≤ 60) ∧ (∀ j : Int, 0 ≤ j → j < M 75 5 → M 4 j = Int.bmod (M 79 j) 256) ∧ (∀ j : Int, 0 ≤ j → j < 60 → 0 ≤ M 79 j ∧ M 79 j ≤ 255) ∧ (∀ j : Int, 0 ≤ j → j < 60 → -128 ≤ M 4 j ∧ M 4 j < 128)
def SimH (M : zM) : Prop := SH6 M ∧ SH7 M ∧ ∀ k : Nat, k < 4 → M (56 + k) 0 = M 87 k ∧ M (56 + k) 1 = M 88 k ∧ ∀ j : Int, 0 ≤ j → j < 40 → M (60 + k) j = M 89 (40 * (k : Int) + j)
def SimF (M : zM) : Prop := ∀ k : Int, 0 ≤ k → k ≤ 6 → M 6 k = M 78 k
/-- class and reference stand alike -/
def Sim (M : zM) : Prop := SimT M ∧ SimK M ∧ SimP M ∧ SimH M ∧ SimF M ∧ RdI M ∧ SwI M
theorem WS_c {M N : zM} {w : Nat} {s : Int → Int} (hn : s 10 ≤ 12) (h : WS M w s) (h1 : N w = M w) (h2 : N (10 + w) = M (10 + w)) (h3 : ∀ i : Nat, i < 12 → N (12 * w + 8 + i) = M (12 * w + 8 + i)) : WS N w s := by
  obtain ⟨a0, a1, a2, a3, a6, hp, hg⟩ := h
  exact ⟨by rw [h1]; exact a0, by rw [h1]; exact a1, by rw [h1]; exact a2, by rw [h1]; exact a3, by rw [h1]; exact a6, fun j a b => by rw [h2]; exact hp j a b, fun i hi f a b => by rw [h3 i (by omega)]; exact hg i hi f a b⟩
theorem TxR_c {M N : zM} {w : Nat} {s : Int → Int} (h : TxR M w s) (h1 : N w 8 = M w 8) (h2 : N (16 + w) = M (16 + w)) : TxR N w s := by
  unfold TxR
  rw [h1, h2]
  exact h
theorem TxB6_c {M N : zM} {w : Nat} (h : TxB6 M w) (h2 : N (16 + w) = M (16 + w)) : TxB6 N w := by
  unfold TxB6
  rw [h2]
  exact h
abbrev tC (k : Nat) : Prop := k = 1 ∨ k = 11 ∨ k = 17 ∨ (20 ≤ k ∧ k ≤ 31) ∨ k = 76
abbrev kC (k : Nat) : Prop := k = 2 ∨ k = 12 ∨ k = 18 ∨ (32 ≤ k ∧ k ≤ 43) ∨ k = 77
abbrev hC (k : Nat) : Prop := (56 ≤ k ∧ k ≤ 63) ∨ k = 87 ∨ k = 88 ∨ k = 89
theorem SimT_c {M N : zM} (h : SimT M) (e : ∀ k, tC k → N k = M k) : SimT N := by
  obtain ⟨a, b, c, d, f, g⟩ := h
  have e76 := e 76 (by omega)
  unfold SimT
  rw [e76]
  exact ⟨a, b, WS_c a.2.2.1.1.2 c (e 1 (by omega)) (e 11 (by omega)) (fun i hi => e _ (by omega)), TxR_c d (by rw [e 1 (by omega)]) (e 17 (by omega)), f, TxB6_c g (e 17 (by omega))⟩
theorem SimK_c {M N : zM} (h : SimK M) (e : ∀ k, kC k → N k = M k) (h3 : N 0 3 = M 0 3) (h2 : N 75 2 = M 75 2) : SimK N := by
  obtain ⟨a, b, c, d⟩ := h
  have e77 := e 77 (by omega)
  unfold SimK
  rw [e77, h3, h2]
  refine ⟨a, b, TxB6_c c (e 18 (by omega)), fun q => ?_⟩
  obtain ⟨d1, d2, d3, d4, d5⟩ := d q
  exact ⟨d1, d2, WS_c d1.2.2.1.1.2 d3 (e 2 (by omega)) (e 12 (by omega)) (fun i hi => e _ (by omega)), TxR_c d4 (by rw [e 2 (by omega)]) (e 18 (by omega)), d5⟩
theorem SimP_c {M N : zM} (h : SimP M) (h4 : N 4 = M 4) (h79 : N 79 = M 79) (h0 : N 0 5 = M 0 5) (h5 : N 75 5 = M 75 5) : SimP N := by
  unfold SimP
  rw [h4, h79, h0, h5]
  exact h
theorem SimH_c {M N : zM} (h : SimH M) (e : ∀ k, hC k → N k = M k) : SimH N := by
  obtain ⟨a, b, c⟩ := h
  have e7 := e 87 (by omega)
  have e8 := e 88 (by omega)
  have e9 := e 89 (by omega)
  refine ⟨fun i hi => ?_, ?_, fun k hk => ?_⟩
  · rw [e (56 + i) (by omega), e (60 + i) (by omega)]
    exact a i hi
  · unfold SH7
    rw [e7, e8, e9]
    exact b
  · rw [e (56 + k) (by omega), e (60 + k) (by omega), e7, e8, e9]
    exact c k hk
theorem SimF_c {M N : zM} (h : SimF M) (h6 : N 6 = M 6) (h78 : N 78 = M 78) : SimF N := by
  unfold SimF
  rw [h6, h78]
  exact h
theorem RdI_c {M N : zM} (h : RdI M) (h7 : N 7 = M 7) : RdI N := by
  unfold RdI
  rw [h7]
  exact h
theorem SimF_f {M : zM} {k : Int} (h : SimF M) : SimF (fnd7 (fnd6 M k) k) := by
  intro j a b
  have hj := h j a b
  unfold fnd7 fnd6
  rw [zput_ne (show (6 : Nat) ≠ 78 by decide), zput_at, zput_at, zput_ne (show (78 : Nat) ≠ 6 by decide)]
  unfold zup
  by_cases e : j = k
  · rw [if_pos e, if_pos e, ← e, hj]
  · rw [if_neg e, if_neg e, hj]
theorem Sim_f {M : zM} {k : Int} (h : Sim M) : Sim (fnd7 (fnd6 M k) k) := by
  obtain ⟨a, b, c, d, e, f, g⟩ := h
  have o : ∀ i : Nat, i ≠ 6 → i ≠ 78 → fnd7 (fnd6 M k) k i = M i := fun i p q => by unfold fnd7 fnd6; rw [zput_ne q, zput_ne p]
  exact ⟨SimT_c a (fun i hi => o i (by omega) (by omega)), SimK_c b (fun i hi => o i (by omega) (by omega)) (by rw [o 0 (by decide) (by decide)]) (by rw [o 75 (by decide) (by decide)]), SimP_c c (o 4 (by decide) (by decide)) (o 79 (by decide) (by decide)) (by rw [o 0 (by decide) (by decide)]) (by rw [o 75 (by decide) (by decide)]), SimH_c d (fun i hi => o i (by omega) (by omega)), SimF_f e, RdI_c f (o 7 (by decide) (by decide)), SwI_congr g (o 70 (by decide) (by decide)) (o 71 (by decide) (by decide)) (o 72 (by decide) (by decide)) (o 73 (by decide) (by decide)) (o 74 (by decide) (by decide))⟩
/-- cells whose contents no later call looks at before it has laid them -/
abbrev scr (k : Nat) : Prop := k = 3 ∨ (7 ≤ k ∧ k ≤ 10) ∨ k = 13 ∨ k = 19 ∨ (44 ≤ k ∧ k ≤ 55) ∨ (64 ≤ k ∧ k ≤ 75) ∨ (80 ≤ k ∧ k ≤ 86) ∨ 90 ≤ k
theorem Sim_scr {M K : zM} (h : Sim M) (hk : ∀ k, ¬ scr k → K k = M k) (h2 : K 75 2 = M 75 2) (h5 : K 75 5 = M 75 5) (hr : RdI K) (hs : SwI K) : Sim K := by
  obtain ⟨a, b, c, d, e, f, g⟩ := h
  have e0 := hk 0 (by omega)
  exact ⟨SimT_c a (fun i hi => hk i (by omega)), SimK_c b (fun i hi => hk i (by omega)) (by rw [e0]) h2, SimP_c c (hk 4 (by omega)) (hk 79 (by omega)) (by rw [e0]) h5, SimH_c d (fun i hi => hk i (by omega)), SimF_c e (hk 6 (by omega)) (hk 78 (by omega)), hr, hs⟩
def LkR (s : Int → Int) (c : Int) : Prop := ∀ i : Nat, (i : Int) < s 10 → s (12 + 6 * (i : Int) + 5) ≤ c
/-- no warning was looked at more than c times -/
def Lk (M : zM) (c : Int) : Prop := LkR (M 76) c ∧ (M 75 2 = 1 → LkR (M 77) c)
def SimN (M K : zM) : Prop := ∀ c : Int, 0 ≤ c ∧ c < 10000 → Lk M c → Sim K ∧ Lk K (c + 1)
theorem LkR_c {s u : Int → Int} {c : Int} (h : LkR s c) (e : ∀ j : Int, 10 ≤ j → u j = s j) : LkR u (c + 1) := by
  intro i hi
  rw [e 10 (by omega)] at hi
  have := h i hi
  rw [e _ (by omega)]
  omega
theorem SimN_of {M K : zM} (hS : Sim K) (e : ∀ j : Int, 10 ≤ j → K 76 j = M 76 j) (e7 : K 77 = M 77) (e2 : K 75 2 = M 75 2) : SimN M K := by
  intro c hc hl
  refine ⟨hS, LkR_c hl.1 e, fun q => ?_⟩
  rw [e2] at q
  rw [e7]
  exact LkR_c (hl.2 q) (fun j hj => rfl)
theorem SimN_r {M : zM} (h : Sim M) : SimN M M := SimN_of h (fun j hj => rfl) rfl rfl
theorem SimN_f {M : zM} {k : Int} (h : Sim M) : SimN M (fnd7 (fnd6 M k) k) := SimN_of (Sim_f h) (fun j hj => by unfold fnd7 fnd6; rw [zput_ne (by decide), zput_ne (by decide)]) (by unfold fnd7 fnd6; rw [zput_ne (by decide), zput_ne (by decide)]) (by unfold fnd7 fnd6; rw [zput_ne (by decide), zput_ne (by decide)])
def PrI (y6 : MethodName) (c6 : ByteArray) (m6 : Nat) (r6 : Option FieldType) (d6 : Nat) (y7 : MethodName) (c7 : ByteArray) (m7 : Nat) (r7 : Option FieldType) (d7 : Nat) (av : List zV) (M : zM) : Prop := ∃ (v : Int) (P : zM → Prop), Call y6 c6 m6 r6 d6 (vR 0 :: av) M (RI v P) ∧ ∀ N, P N → ∃ P2 : zM → Prop, Call y7 c7 m7 r7 d7 (vR 75 :: av) N (RI v P2) ∧ ∀ K, P2 K → SimN M K
def PrJ (y6 : MethodName) (c6 : ByteArray) (m6 : Nat) (r6 : Option FieldType) (d6 : Nat) (y7 : MethodName) (c7 : ByteArray) (m7 : Nat) (r7 : Option FieldType) (d7 : Nat) (av : List zV) (M : zM) : Prop := ∃ (v : Int) (P : zM → Prop), Call y6 c6 m6 r6 d6 (vR 0 :: av) M (RJ v P) ∧ ∀ N, P N → ∃ P2 : zM → Prop, Call y7 c7 m7 r7 d7 (vR 75 :: av) N (RJ v P2) ∧ ∀ K, P2 K → SimN M K
section
variable {y6 y7 : MethodName} {c6 c7 : ByteArray} {m6 m7 d6 d7 : Nat} {r6 r7 : Option FieldType} {av : List zV} {M g g2 : zM} {f f2 : Int}
theorem PrI_of (h6 : Call y6 c6 m6 r6 d6 (vR 0 :: av) M (PI f g)) (h7 : Call y7 c7 m7 r7 d7 (vR 75 :: av) g (PI f2 g2)) (hv : f2 = f) (hS : SimN M g2) : PrI y6 c6 m6 r6 d6 y7 c7 m7 r7 d7 av M := ⟨f, fun N => N = g, h6, fun N hN => ⟨fun K => K = g2, by rw [hN, ← hv]; exact h7, fun K hK => by rw [hK]; exact hS⟩⟩
theorem PrJ_of (h6 : Call y6 c6 m6 r6 d6 (vR 0 :: av) M (PJ f g)) (h7 : Call y7 c7 m7 r7 d7 (vR 75 :: av) g (PJ f2 g2)) (hv : f2 = f) (hS : SimN M g2) : PrJ y6 c6 m6 r6 d6 y7 c7 m7 r7 d7 av M := ⟨f, fun N => N = g, h6, fun N hN => ⟨fun K => K = g2, by rw [hN, ← hv]; exact h7, fun K hK => by rw [hK]; exact hS⟩⟩
end
theorem f6_76 {M : zM} {k : Int} : fnd6 M k 76 = M 76 := zput_ne (by decide)
theorem f6_o {M : zM} {k : Int} {i : Nat} (h : i ≠ 6) : fnd6 M k i = M i := zput_ne h
theorem Sim_ok {M : zM} (h : Sim M) : WOK M 1 := WS_ok h.1.2.2.1 h.1.1
theorem Sim_g {M : zM} (h : Sim M) : ∀ i, i < (M 76 10).toNat → ∀ f, 0 ≤ f → f ≤ 5 → gW M 1 i f = gS (M 76) i f := WS_g h.1.2.2.1 h.1.1.2.2.1
theorem Sim_i {M : zM} (h : Sim M) {w : Int} (h0 : 0 ≤ w) (h1 : w ≤ M 76 10 - 1) {f : Int} (a : 0 ≤ f) (b : f ≤ 5) : M (12 * 1 + 8 + w.toNat) f = M 76 (12 + 6 * w + f) := by
  have e := h.1.2.2.1.2.2.2.2.2.2 w.toNat (by omega) f a b
  rw [Int.toNat_of_nonneg h0] at e
  exact e
theorem Sim_8 {M : zM} (h : Sim M) : (0 ≤ M 1 8 ∧ M 1 8 ≤ 60) ∧ (0 ≤ M 76 11 ∧ M 76 11 ≤ 60) ∧ (0 < M 1 8 ↔ 0 < M 76 11) := by
  have a := h.1.2.2.2.1
  have b := h.1.2.2.2.2.1
  have h11 : M 76 11 = 0 ∨ (1 ≤ M 76 11 ∧ M 76 11 ≤ 60) := by
    rcases b with b | b
    · exact Or.inl b
    · exact Or.inr b.1
  rcases a with a | a
  · omega
  · have a1 := a.1
    have a2 := a.2.1
    omega
theorem Sim_dg {M : zM} (h : Sim M) (day ht : Int) : danger (M 1 6).toNat (gW M 1) day ht = danger (M 76 10).toNat (gS (M 76)) day ht := WS_dg h.1.2.2.1 h.1.1.2.2.1 day ht
theorem Sim_p {M : zM} (h : Sim M) {j : Int} (a : 0 ≤ j) (b : j ≤ 5) : M (10 + 1) j = M 76 (2 + j) := h.1.2.2.1.2.2.2.2.2.1 j a b
theorem Sim_T {M K : zM} (h : Sim M) (e : ∀ k, ¬ tC k → K k = M k) (hT : SimT K) : Sim K := by
  obtain ⟨a, b, c, d, f, g, i⟩ := h
  exact ⟨hT, SimK_c b (fun k hk => e k (by omega)) (by rw [e 0 (by omega)]) (by rw [e 75 (by omega)]), SimP_c c (e 4 (by omega)) (e 79 (by omega)) (by rw [e 0 (by omega)]) (by rw [e 75 (by omega)]), SimH_c d (fun k hk => e k (by omega)), SimF_c f (e 6 (by omega)) (e 78 (by omega)), RdI_c g (e 7 (by omega)), SwI_congr i (e 70 (by omega)) (e 71 (by omega)) (e 72 (by omega)) (e 73 (by omega)) (e 74 (by omega))⟩
theorem Sim_075 {M K : zM} (h : Sim M) (e : ∀ k : Nat, k ≠ 0 → k ≠ 75 → k ≠ 4 → k ≠ 79 → ¬ kC k → K k = M k) (hK : SimK K) (hP : SimP K) : Sim K := by
  obtain ⟨a, b, c, d, f, g, i⟩ := h
  exact ⟨SimT_c a (fun k hk => e k (by omega) (by omega) (by omega) (by omega) (by omega)), hK, hP, SimH_c d (fun k hk => e k (by omega) (by omega) (by omega) (by omega) (by omega)), SimF_c f (e 6 (by omega) (by omega) (by omega) (by omega) (by omega)) (e 78 (by omega) (by omega) (by omega) (by omega) (by omega)), RdI_c g (e 7 (by omega) (by omega) (by omega) (by omega) (by omega)), SwI_congr i (e 70 (by omega) (by omega) (by omega) (by omega) (by omega)) (e 71 (by omega) (by omega) (by omega) (by omega) (by omega)) (e 72 (by omega) (by omega) (by omega) (by omega) (by omega)) (e 73 (by omega) (by omega) (by omega) (by omega) (by omega)) (e 74 (by omega) (by omega) (by omega) (by omega) (by omega))⟩
theorem Sim_H {M K : zM} (h : Sim M) (e : ∀ k : Nat, ¬ hC k → k ≠ 90 → K k = M k) (hH : SimH K) : Sim K := by
  obtain ⟨a, b, c, d, f, g, i⟩ := h
  exact ⟨SimT_c a (fun k hk => e k (by omega) (by omega)), SimK_c b (fun k hk => e k (by omega) (by omega)) (by rw [e 0 (by omega) (by omega)]) (by rw [e 75 (by omega) (by omega)]), SimP_c c (e 4 (by omega) (by omega)) (e 79 (by omega) (by omega)) (by rw [e 0 (by omega) (by omega)]) (by rw [e 75 (by omega) (by omega)]), hH, SimF_c f (e 6 (by omega) (by omega)) (e 78 (by omega) (by omega)), RdI_c g (e 7 (by omega) (by omega)), SwI_congr i (e 70 (by omega) (by omega)) (e 71 (by omega) (by omega)) (e 72 (by omega) (by omega)) (e 73 (by omega) (by omega)) (e 74 (by omega) (by omega))⟩
