set_option maxRecDepth 20000 in
theorem bEw_0 {D : va_G} {ct : Nat → Nat} {x y t1 t2 t3 sc : Nat} {a b : Nat → Nat} : ∃ e, (wX6 ct x a)[0]? = some (bAd x a y b t1 t2 t3 sc 0, e) ∧ bSm D e (zcell ct (bAd x a y b t1 t2 t3 sc) M0 0) := ⟨_, rfl, bSm_eq (by rw [zc_M0 rfl]; rfl)⟩
set_option maxRecDepth 20000 in
theorem bEw_1 {D : va_G} {ct : Nat → Nat} {x y t1 t2 t3 sc : Nat} {a b : Nat → Nat} : ∃ e, (wX6 ct x a)[59]? = some (bAd x a y b t1 t2 t3 sc 1, e) ∧ bSm D e (zcell ct (bAd x a y b t1 t2 t3 sc) M0 1) := ⟨_, rfl, bSm_eq (by rw [zc_M0 rfl]; rfl)⟩
set_option maxRecDepth 20000 in
theorem bEw_2 {D : va_G} {ct : Nat → Nat} {x y t1 t2 t3 sc : Nat} {a b : Nat → Nat} : ∃ e, (wX6 ct x a)[43]? = some (bAd x a y b t1 t2 t3 sc 2, e) ∧ bSm D e (zcell ct (bAd x a y b t1 t2 t3 sc) M0 2) := ⟨_, rfl, bSm_eq (by rw [zc_M0 rfl]; rfl)⟩
set_option maxRecDepth 20000 in
theorem bEw_3 {D : va_G} {ct : Nat → Nat} {x y t1 t2 t3 sc : Nat} {a b : Nat → Nat} : ∃ e, (wX6 ct x a)[27]? = some (bAd x a y b t1 t2 t3 sc 3, e) ∧ bSm D e (zcell ct (bAd x a y b t1 t2 t3 sc) M0 3) := ⟨_, rfl, bSm_eq (by rw [zc_M0 rfl]; rfl)⟩
set_option maxRecDepth 20000 in
theorem bEw_4 {D : va_G} {ct : Nat → Nat} {x y t1 t2 t3 sc : Nat} {a b : Nat → Nat} : ∃ e, (wX6 ct x a)[26]? = some (bAd x a y b t1 t2 t3 sc 4, e) ∧ bSm D e (zcell ct (bAd x a y b t1 t2 t3 sc) M0 4) := ⟨_, rfl, bSm_B rfl rfl (M0_I rfl)⟩
set_option maxRecDepth 20000 in
theorem bEw_5 {D : va_G} {ct : Nat → Nat} {x y t1 t2 t3 sc : Nat} {a b : Nat → Nat} : ∃ e, (wX6 ct x a)[1]? = some (bAd x a y b t1 t2 t3 sc 5, e) ∧ bSm D e (zcell ct (bAd x a y b t1 t2 t3 sc) M0 5) := ⟨_, rfl, bSm_S rfl rfl (fun j hj => by match j, hj with | 0, _ => rfl | 1, _ => rfl | 2, _ => rfl | 3, _ => rfl | j + 4, hj => exact absurd hj (by omega))⟩
set_option maxRecDepth 20000 in
theorem bEw_6 {D : va_G} {ct : Nat → Nat} {x y t1 t2 t3 sc : Nat} {a b : Nat → Nat} : ∃ e, (wX6 ct x a)[25]? = some (bAd x a y b t1 t2 t3 sc 6, e) ∧ bSm D e (zcell ct (bAd x a y b t1 t2 t3 sc) M0 6) := ⟨_, rfl, bSm_I rfl rfl (M0_I rfl)⟩
set_option maxRecDepth 20000 in
theorem bEw_7 {D : va_G} {ct : Nat → Nat} {x y t1 t2 t3 sc : Nat} {a b : Nat → Nat} : ∃ e, (wX6 ct x a)[21]? = some (bAd x a y b t1 t2 t3 sc 7, e) ∧ bSm D e (zcell ct (bAd x a y b t1 t2 t3 sc) M0 7) := ⟨_, rfl, bSm_eq rfl⟩
set_option maxRecDepth 20000 in
theorem bEw_8 {D : va_G} {ct : Nat → Nat} {x y t1 t2 t3 sc : Nat} {a b : Nat → Nat} : ∃ e, (wX6 ct x a)[17]? = some (bAd x a y b t1 t2 t3 sc 8, e) ∧ bSm D e (zcell ct (bAd x a y b t1 t2 t3 sc) M0 8) := ⟨_, rfl, bSm_eq (by rw [zc_M0 rfl]; rfl)⟩
set_option maxRecDepth 20000 in
theorem bEw_9 {D : va_G} {ct : Nat → Nat} {x y t1 t2 t3 sc : Nat} {a b : Nat → Nat} : ∃ e, (wX6 ct x a)[11]? = some (bAd x a y b t1 t2 t3 sc 9, e) ∧ bSm D e (zcell ct (bAd x a y b t1 t2 t3 sc) M0 9) := ⟨_, rfl, bSm_eq (by rw [zc_M0 rfl]; rfl)⟩
set_option maxRecDepth 20000 in
theorem bEw_10 {D : va_G} {ct : Nat → Nat} {x y t1 t2 t3 sc : Nat} {a b : Nat → Nat} : ∃ e, (wX6 ct x a)[10]? = some (bAd x a y b t1 t2 t3 sc 10, e) ∧ bSm D e (zcell ct (bAd x a y b t1 t2 t3 sc) M0 10) := ⟨_, rfl, bSm_I rfl rfl (M0_I rfl)⟩
set_option maxRecDepth 20000 in
theorem bEw_11 {D : va_G} {ct : Nat → Nat} {x y t1 t2 t3 sc : Nat} {a b : Nat → Nat} : ∃ e, (wX6 ct x a)[60]? = some (bAd x a y b t1 t2 t3 sc 11, e) ∧ bSm D e (zcell ct (bAd x a y b t1 t2 t3 sc) M0 11) := ⟨_, rfl, bSm_I rfl rfl (M0_pl 11 rfl)⟩
set_option maxRecDepth 20000 in
theorem bEw_12 {D : va_G} {ct : Nat → Nat} {x y t1 t2 t3 sc : Nat} {a b : Nat → Nat} : ∃ e, (wX6 ct x a)[44]? = some (bAd x a y b t1 t2 t3 sc 12, e) ∧ bSm D e (zcell ct (bAd x a y b t1 t2 t3 sc) M0 12) := ⟨_, rfl, bSm_I rfl rfl (M0_pl 12 rfl)⟩
set_option maxRecDepth 20000 in
theorem bEw_13 {D : va_G} {ct : Nat → Nat} {x y t1 t2 t3 sc : Nat} {a b : Nat → Nat} : ∃ e, (wX6 ct x a)[28]? = some (bAd x a y b t1 t2 t3 sc 13, e) ∧ bSm D e (zcell ct (bAd x a y b t1 t2 t3 sc) M0 13) := ⟨_, rfl, bSm_I rfl rfl (M0_pl 13 rfl)⟩
set_option maxRecDepth 20000 in
theorem bEw_14 {D : va_G} {ct : Nat → Nat} {x y t1 t2 t3 sc : Nat} {a b : Nat → Nat} : ∃ e, (wX6 ct x a)[61]? = some (bAd x a y b t1 t2 t3 sc 14, e) ∧ bSm D e (zcell ct (bAd x a y b t1 t2 t3 sc) M0 14) := ⟨_, rfl, bSm_W rfl rfl (fun j hj => by match j, hj with | 0, _ => rfl | 1, _ => rfl | 2, _ => rfl | 3, _ => rfl | 4, _ => rfl | 5, _ => rfl | 6, _ => rfl | 7, _ => rfl | 8, _ => rfl | 9, _ => rfl | 10, _ => rfl | 11, _ => rfl | j + 12, hj => exact absurd hj (by omega))⟩
set_option maxRecDepth 20000 in
theorem bEw_15 {D : va_G} {ct : Nat → Nat} {x y t1 t2 t3 sc : Nat} {a b : Nat → Nat} : ∃ e, (wX6 ct x a)[45]? = some (bAd x a y b t1 t2 t3 sc 15, e) ∧ bSm D e (zcell ct (bAd x a y b t1 t2 t3 sc) M0 15) := ⟨_, rfl, bSm_W rfl rfl (fun j hj => by match j, hj with | 0, _ => rfl | 1, _ => rfl | 2, _ => rfl | 3, _ => rfl | 4, _ => rfl | 5, _ => rfl | 6, _ => rfl | 7, _ => rfl | 8, _ => rfl | 9, _ => rfl | 10, _ => rfl | 11, _ => rfl | j + 12, hj => exact absurd hj (by omega))⟩
set_option maxRecDepth 20000 in
theorem bEw_16 {D : va_G} {ct : Nat → Nat} {x y t1 t2 t3 sc : Nat} {a b : Nat → Nat} : ∃ e, (wX6 ct x a)[29]? = some (bAd x a y b t1 t2 t3 sc 16, e) ∧ bSm D e (zcell ct (bAd x a y b t1 t2 t3 sc) M0 16) := ⟨_, rfl, bSm_W rfl rfl (fun j hj => by match j, hj with | 0, _ => rfl | 1, _ => rfl | 2, _ => rfl | 3, _ => rfl | 4, _ => rfl | 5, _ => rfl | 6, _ => rfl | 7, _ => rfl | 8, _ => rfl | 9, _ => rfl | 10, _ => rfl | 11, _ => rfl | j + 12, hj => exact absurd hj (by omega))⟩
set_option maxRecDepth 20000 in
theorem bEw_17 {D : va_G} {ct : Nat → Nat} {x y t1 t2 t3 sc : Nat} {a b : Nat → Nat} : ∃ e, (wX6 ct x a)[62]? = some (bAd x a y b t1 t2 t3 sc 17, e) ∧ bSm D e (zcell ct (bAd x a y b t1 t2 t3 sc) M0 17) := ⟨_, rfl, bSm_B rfl rfl (M0_I rfl)⟩
set_option maxRecDepth 20000 in
theorem bEw_18 {D : va_G} {ct : Nat → Nat} {x y t1 t2 t3 sc : Nat} {a b : Nat → Nat} : ∃ e, (wX6 ct x a)[46]? = some (bAd x a y b t1 t2 t3 sc 18, e) ∧ bSm D e (zcell ct (bAd x a y b t1 t2 t3 sc) M0 18) := ⟨_, rfl, bSm_B rfl rfl (M0_I rfl)⟩
set_option maxRecDepth 20000 in
theorem bEw_19 {D : va_G} {ct : Nat → Nat} {x y t1 t2 t3 sc : Nat} {a b : Nat → Nat} : ∃ e, (wX6 ct x a)[30]? = some (bAd x a y b t1 t2 t3 sc 19, e) ∧ bSm D e (zcell ct (bAd x a y b t1 t2 t3 sc) M0 19) := ⟨_, rfl, bSm_B rfl rfl (M0_I rfl)⟩
set_option maxRecDepth 20000 in
theorem bEw_20 {D : va_G} {ct : Nat → Nat} {x y t1 t2 t3 sc : Nat} {a b : Nat → Nat} : ∃ e, (wX6 ct x a)[63]? = some (bAd x a y b t1 t2 t3 sc 20, e) ∧ bSm D e (zcell ct (bAd x a y b t1 t2 t3 sc) M0 20) := ⟨_, rfl, bSm_eq (by rw [zc_M0 rfl]; rfl)⟩
set_option maxRecDepth 20000 in
theorem bEw_21 {D : va_G} {ct : Nat → Nat} {x y t1 t2 t3 sc : Nat} {a b : Nat → Nat} : ∃ e, (wX6 ct x a)[64]? = some (bAd x a y b t1 t2 t3 sc 21, e) ∧ bSm D e (zcell ct (bAd x a y b t1 t2 t3 sc) M0 21) := ⟨_, rfl, bSm_eq (by rw [zc_M0 rfl]; rfl)⟩
set_option maxRecDepth 20000 in
theorem bEw_22 {D : va_G} {ct : Nat → Nat} {x y t1 t2 t3 sc : Nat} {a b : Nat → Nat} : ∃ e, (wX6 ct x a)[65]? = some (bAd x a y b t1 t2 t3 sc 22, e) ∧ bSm D e (zcell ct (bAd x a y b t1 t2 t3 sc) M0 22) := ⟨_, rfl, bSm_eq (by rw [zc_M0 rfl]; rfl)⟩
set_option maxRecDepth 20000 in
theorem bEw_23 {D : va_G} {ct : Nat → Nat} {x y t1 t2 t3 sc : Nat} {a b : Nat → Nat} : ∃ e, (wX6 ct x a)[66]? = some (bAd x a y b t1 t2 t3 sc 23, e) ∧ bSm D e (zcell ct (bAd x a y b t1 t2 t3 sc) M0 23) := ⟨_, rfl, bSm_eq (by rw [zc_M0 rfl]; rfl)⟩
set_option maxRecDepth 20000 in
theorem bEw_24 {D : va_G} {ct : Nat → Nat} {x y t1 t2 t3 sc : Nat} {a b : Nat → Nat} : ∃ e, (wX6 ct x a)[67]? = some (bAd x a y b t1 t2 t3 sc 24, e) ∧ bSm D e (zcell ct (bAd x a y b t1 t2 t3 sc) M0 24) := ⟨_, rfl, bSm_eq (by rw [zc_M0 rfl]; rfl)⟩
set_option maxRecDepth 20000 in
theorem bEw_25 {D : va_G} {ct : Nat → Nat} {x y t1 t2 t3 sc : Nat} {a b : Nat → Nat} : ∃ e, (wX6 ct x a)[68]? = some (bAd x a y b t1 t2 t3 sc 25, e) ∧ bSm D e (zcell ct (bAd x a y b t1 t2 t3 sc) M0 25) := ⟨_, rfl, bSm_eq (by rw [zc_M0 rfl]; rfl)⟩
set_option maxRecDepth 20000 in
theorem bEw_26 {D : va_G} {ct : Nat → Nat} {x y t1 t2 t3 sc : Nat} {a b : Nat → Nat} : ∃ e, (wX6 ct x a)[69]? = some (bAd x a y b t1 t2 t3 sc 26, e) ∧ bSm D e (zcell ct (bAd x a y b t1 t2 t3 sc) M0 26) := ⟨_, rfl, bSm_eq (by rw [zc_M0 rfl]; rfl)⟩
set_option maxRecDepth 20000 in
theorem bEw_27 {D : va_G} {ct : Nat → Nat} {x y t1 t2 t3 sc : Nat} {a b : Nat → Nat} : ∃ e, (wX6 ct x a)[70]? = some (bAd x a y b t1 t2 t3 sc 27, e) ∧ bSm D e (zcell ct (bAd x a y b t1 t2 t3 sc) M0 27) := ⟨_, rfl, bSm_eq (by rw [zc_M0 rfl]; rfl)⟩
set_option maxRecDepth 20000 in
theorem bEw_28 {D : va_G} {ct : Nat → Nat} {x y t1 t2 t3 sc : Nat} {a b : Nat → Nat} : ∃ e, (wX6 ct x a)[71]? = some (bAd x a y b t1 t2 t3 sc 28, e) ∧ bSm D e (zcell ct (bAd x a y b t1 t2 t3 sc) M0 28) := ⟨_, rfl, bSm_eq (by rw [zc_M0 rfl]; rfl)⟩
set_option maxRecDepth 20000 in
theorem bEw_29 {D : va_G} {ct : Nat → Nat} {x y t1 t2 t3 sc : Nat} {a b : Nat → Nat} : ∃ e, (wX6 ct x a)[72]? = some (bAd x a y b t1 t2 t3 sc 29, e) ∧ bSm D e (zcell ct (bAd x a y b t1 t2 t3 sc) M0 29) := ⟨_, rfl, bSm_eq (by rw [zc_M0 rfl]; rfl)⟩
set_option maxRecDepth 20000 in
theorem bEw_30 {D : va_G} {ct : Nat → Nat} {x y t1 t2 t3 sc : Nat} {a b : Nat → Nat} : ∃ e, (wX6 ct x a)[73]? = some (bAd x a y b t1 t2 t3 sc 30, e) ∧ bSm D e (zcell ct (bAd x a y b t1 t2 t3 sc) M0 30) := ⟨_, rfl, bSm_eq (by rw [zc_M0 rfl]; rfl)⟩
set_option maxRecDepth 20000 in
theorem bEw_31 {D : va_G} {ct : Nat → Nat} {x y t1 t2 t3 sc : Nat} {a b : Nat → Nat} : ∃ e, (wX6 ct x a)[74]? = some (bAd x a y b t1 t2 t3 sc 31, e) ∧ bSm D e (zcell ct (bAd x a y b t1 t2 t3 sc) M0 31) := ⟨_, rfl, bSm_eq (by rw [zc_M0 rfl]; rfl)⟩
set_option maxRecDepth 20000 in
theorem bEw_32 {D : va_G} {ct : Nat → Nat} {x y t1 t2 t3 sc : Nat} {a b : Nat → Nat} : ∃ e, (wX6 ct x a)[47]? = some (bAd x a y b t1 t2 t3 sc 32, e) ∧ bSm D e (zcell ct (bAd x a y b t1 t2 t3 sc) M0 32) := ⟨_, rfl, bSm_eq (by rw [zc_M0 rfl]; rfl)⟩
set_option maxRecDepth 20000 in
theorem bEw_33 {D : va_G} {ct : Nat → Nat} {x y t1 t2 t3 sc : Nat} {a b : Nat → Nat} : ∃ e, (wX6 ct x a)[48]? = some (bAd x a y b t1 t2 t3 sc 33, e) ∧ bSm D e (zcell ct (bAd x a y b t1 t2 t3 sc) M0 33) := ⟨_, rfl, bSm_eq (by rw [zc_M0 rfl]; rfl)⟩
set_option maxRecDepth 20000 in
theorem bEw_34 {D : va_G} {ct : Nat → Nat} {x y t1 t2 t3 sc : Nat} {a b : Nat → Nat} : ∃ e, (wX6 ct x a)[49]? = some (bAd x a y b t1 t2 t3 sc 34, e) ∧ bSm D e (zcell ct (bAd x a y b t1 t2 t3 sc) M0 34) := ⟨_, rfl, bSm_eq (by rw [zc_M0 rfl]; rfl)⟩
set_option maxRecDepth 20000 in
theorem bEw_35 {D : va_G} {ct : Nat → Nat} {x y t1 t2 t3 sc : Nat} {a b : Nat → Nat} : ∃ e, (wX6 ct x a)[50]? = some (bAd x a y b t1 t2 t3 sc 35, e) ∧ bSm D e (zcell ct (bAd x a y b t1 t2 t3 sc) M0 35) := ⟨_, rfl, bSm_eq (by rw [zc_M0 rfl]; rfl)⟩
set_option maxRecDepth 20000 in
theorem bEw_36 {D : va_G} {ct : Nat → Nat} {x y t1 t2 t3 sc : Nat} {a b : Nat → Nat} : ∃ e, (wX6 ct x a)[51]? = some (bAd x a y b t1 t2 t3 sc 36, e) ∧ bSm D e (zcell ct (bAd x a y b t1 t2 t3 sc) M0 36) := ⟨_, rfl, bSm_eq (by rw [zc_M0 rfl]; rfl)⟩
set_option maxRecDepth 20000 in
theorem bEw_37 {D : va_G} {ct : Nat → Nat} {x y t1 t2 t3 sc : Nat} {a b : Nat → Nat} : ∃ e, (wX6 ct x a)[52]? = some (bAd x a y b t1 t2 t3 sc 37, e) ∧ bSm D e (zcell ct (bAd x a y b t1 t2 t3 sc) M0 37) := ⟨_, rfl, bSm_eq (by rw [zc_M0 rfl]; rfl)⟩
set_option maxRecDepth 20000 in
theorem bEw_38 {D : va_G} {ct : Nat → Nat} {x y t1 t2 t3 sc : Nat} {a b : Nat → Nat} : ∃ e, (wX6 ct x a)[53]? = some (bAd x a y b t1 t2 t3 sc 38, e) ∧ bSm D e (zcell ct (bAd x a y b t1 t2 t3 sc) M0 38) := ⟨_, rfl, bSm_eq (by rw [zc_M0 rfl]; rfl)⟩
set_option maxRecDepth 20000 in
theorem bEw_39 {D : va_G} {ct : Nat → Nat} {x y t1 t2 t3 sc : Nat} {a b : Nat → Nat} : ∃ e, (wX6 ct x a)[54]? = some (bAd x a y b t1 t2 t3 sc 39, e) ∧ bSm D e (zcell ct (bAd x a y b t1 t2 t3 sc) M0 39) := ⟨_, rfl, bSm_eq (by rw [zc_M0 rfl]; rfl)⟩
set_option maxRecDepth 20000 in
theorem bEw_40 {D : va_G} {ct : Nat → Nat} {x y t1 t2 t3 sc : Nat} {a b : Nat → Nat} : ∃ e, (wX6 ct x a)[55]? = some (bAd x a y b t1 t2 t3 sc 40, e) ∧ bSm D e (zcell ct (bAd x a y b t1 t2 t3 sc) M0 40) := ⟨_, rfl, bSm_eq (by rw [zc_M0 rfl]; rfl)⟩
set_option maxRecDepth 20000 in
theorem bEw_41 {D : va_G} {ct : Nat → Nat} {x y t1 t2 t3 sc : Nat} {a b : Nat → Nat} : ∃ e, (wX6 ct x a)[56]? = some (bAd x a y b t1 t2 t3 sc 41, e) ∧ bSm D e (zcell ct (bAd x a y b t1 t2 t3 sc) M0 41) := ⟨_, rfl, bSm_eq (by rw [zc_M0 rfl]; rfl)⟩
set_option maxRecDepth 20000 in
theorem bEw_42 {D : va_G} {ct : Nat → Nat} {x y t1 t2 t3 sc : Nat} {a b : Nat → Nat} : ∃ e, (wX6 ct x a)[57]? = some (bAd x a y b t1 t2 t3 sc 42, e) ∧ bSm D e (zcell ct (bAd x a y b t1 t2 t3 sc) M0 42) := ⟨_, rfl, bSm_eq (by rw [zc_M0 rfl]; rfl)⟩
set_option maxRecDepth 20000 in
theorem bEw_43 {D : va_G} {ct : Nat → Nat} {x y t1 t2 t3 sc : Nat} {a b : Nat → Nat} : ∃ e, (wX6 ct x a)[58]? = some (bAd x a y b t1 t2 t3 sc 43, e) ∧ bSm D e (zcell ct (bAd x a y b t1 t2 t3 sc) M0 43) := ⟨_, rfl, bSm_eq (by rw [zc_M0 rfl]; rfl)⟩
set_option maxRecDepth 20000 in
theorem bEw_44 {D : va_G} {ct : Nat → Nat} {x y t1 t2 t3 sc : Nat} {a b : Nat → Nat} : ∃ e, (wX6 ct x a)[31]? = some (bAd x a y b t1 t2 t3 sc 44, e) ∧ bSm D e (zcell ct (bAd x a y b t1 t2 t3 sc) M0 44) := ⟨_, rfl, bSm_eq (by rw [zc_M0 rfl]; rfl)⟩
set_option maxRecDepth 20000 in
theorem bEw_45 {D : va_G} {ct : Nat → Nat} {x y t1 t2 t3 sc : Nat} {a b : Nat → Nat} : ∃ e, (wX6 ct x a)[32]? = some (bAd x a y b t1 t2 t3 sc 45, e) ∧ bSm D e (zcell ct (bAd x a y b t1 t2 t3 sc) M0 45) := ⟨_, rfl, bSm_eq (by rw [zc_M0 rfl]; rfl)⟩
set_option maxRecDepth 20000 in
theorem bEw_46 {D : va_G} {ct : Nat → Nat} {x y t1 t2 t3 sc : Nat} {a b : Nat → Nat} : ∃ e, (wX6 ct x a)[33]? = some (bAd x a y b t1 t2 t3 sc 46, e) ∧ bSm D e (zcell ct (bAd x a y b t1 t2 t3 sc) M0 46) := ⟨_, rfl, bSm_eq (by rw [zc_M0 rfl]; rfl)⟩
set_option maxRecDepth 20000 in
theorem bEw_47 {D : va_G} {ct : Nat → Nat} {x y t1 t2 t3 sc : Nat} {a b : Nat → Nat} : ∃ e, (wX6 ct x a)[34]? = some (bAd x a y b t1 t2 t3 sc 47, e) ∧ bSm D e (zcell ct (bAd x a y b t1 t2 t3 sc) M0 47) := ⟨_, rfl, bSm_eq (by rw [zc_M0 rfl]; rfl)⟩
set_option maxRecDepth 20000 in
theorem bEw_48 {D : va_G} {ct : Nat → Nat} {x y t1 t2 t3 sc : Nat} {a b : Nat → Nat} : ∃ e, (wX6 ct x a)[35]? = some (bAd x a y b t1 t2 t3 sc 48, e) ∧ bSm D e (zcell ct (bAd x a y b t1 t2 t3 sc) M0 48) := ⟨_, rfl, bSm_eq (by rw [zc_M0 rfl]; rfl)⟩
set_option maxRecDepth 20000 in
theorem bEw_49 {D : va_G} {ct : Nat → Nat} {x y t1 t2 t3 sc : Nat} {a b : Nat → Nat} : ∃ e, (wX6 ct x a)[36]? = some (bAd x a y b t1 t2 t3 sc 49, e) ∧ bSm D e (zcell ct (bAd x a y b t1 t2 t3 sc) M0 49) := ⟨_, rfl, bSm_eq (by rw [zc_M0 rfl]; rfl)⟩
set_option maxRecDepth 20000 in
theorem bEw_50 {D : va_G} {ct : Nat → Nat} {x y t1 t2 t3 sc : Nat} {a b : Nat → Nat} : ∃ e, (wX6 ct x a)[37]? = some (bAd x a y b t1 t2 t3 sc 50, e) ∧ bSm D e (zcell ct (bAd x a y b t1 t2 t3 sc) M0 50) := ⟨_, rfl, bSm_eq (by rw [zc_M0 rfl]; rfl)⟩
set_option maxRecDepth 20000 in
theorem bEw_51 {D : va_G} {ct : Nat → Nat} {x y t1 t2 t3 sc : Nat} {a b : Nat → Nat} : ∃ e, (wX6 ct x a)[38]? = some (bAd x a y b t1 t2 t3 sc 51, e) ∧ bSm D e (zcell ct (bAd x a y b t1 t2 t3 sc) M0 51) := ⟨_, rfl, bSm_eq (by rw [zc_M0 rfl]; rfl)⟩
set_option maxRecDepth 20000 in
theorem bEw_52 {D : va_G} {ct : Nat → Nat} {x y t1 t2 t3 sc : Nat} {a b : Nat → Nat} : ∃ e, (wX6 ct x a)[39]? = some (bAd x a y b t1 t2 t3 sc 52, e) ∧ bSm D e (zcell ct (bAd x a y b t1 t2 t3 sc) M0 52) := ⟨_, rfl, bSm_eq (by rw [zc_M0 rfl]; rfl)⟩
set_option maxRecDepth 20000 in
theorem bEw_53 {D : va_G} {ct : Nat → Nat} {x y t1 t2 t3 sc : Nat} {a b : Nat → Nat} : ∃ e, (wX6 ct x a)[40]? = some (bAd x a y b t1 t2 t3 sc 53, e) ∧ bSm D e (zcell ct (bAd x a y b t1 t2 t3 sc) M0 53) := ⟨_, rfl, bSm_eq (by rw [zc_M0 rfl]; rfl)⟩
set_option maxRecDepth 20000 in
theorem bEw_54 {D : va_G} {ct : Nat → Nat} {x y t1 t2 t3 sc : Nat} {a b : Nat → Nat} : ∃ e, (wX6 ct x a)[41]? = some (bAd x a y b t1 t2 t3 sc 54, e) ∧ bSm D e (zcell ct (bAd x a y b t1 t2 t3 sc) M0 54) := ⟨_, rfl, bSm_eq (by rw [zc_M0 rfl]; rfl)⟩
set_option maxRecDepth 20000 in
theorem bEw_55 {D : va_G} {ct : Nat → Nat} {x y t1 t2 t3 sc : Nat} {a b : Nat → Nat} : ∃ e, (wX6 ct x a)[42]? = some (bAd x a y b t1 t2 t3 sc 55, e) ∧ bSm D e (zcell ct (bAd x a y b t1 t2 t3 sc) M0 55) := ⟨_, rfl, bSm_eq (by rw [zc_M0 rfl]; rfl)⟩
set_option maxRecDepth 20000 in
theorem bEw_56 {D : va_G} {ct : Nat → Nat} {x y t1 t2 t3 sc : Nat} {a b : Nat → Nat} : ∃ e, (wX6 ct x a)[8]? = some (bAd x a y b t1 t2 t3 sc 56, e) ∧ bSm D e (zcell ct (bAd x a y b t1 t2 t3 sc) M0 56) := ⟨_, rfl, bSm_eq (by rw [zc_M0 rfl]; rfl)⟩
set_option maxRecDepth 20000 in
theorem bEw_57 {D : va_G} {ct : Nat → Nat} {x y t1 t2 t3 sc : Nat} {a b : Nat → Nat} : ∃ e, (wX6 ct x a)[6]? = some (bAd x a y b t1 t2 t3 sc 57, e) ∧ bSm D e (zcell ct (bAd x a y b t1 t2 t3 sc) M0 57) := ⟨_, rfl, bSm_eq (by rw [zc_M0 rfl]; rfl)⟩
set_option maxRecDepth 20000 in
theorem bEw_58 {D : va_G} {ct : Nat → Nat} {x y t1 t2 t3 sc : Nat} {a b : Nat → Nat} : ∃ e, (wX6 ct x a)[4]? = some (bAd x a y b t1 t2 t3 sc 58, e) ∧ bSm D e (zcell ct (bAd x a y b t1 t2 t3 sc) M0 58) := ⟨_, rfl, bSm_eq (by rw [zc_M0 rfl]; rfl)⟩
set_option maxRecDepth 20000 in
theorem bEw_59 {D : va_G} {ct : Nat → Nat} {x y t1 t2 t3 sc : Nat} {a b : Nat → Nat} : ∃ e, (wX6 ct x a)[2]? = some (bAd x a y b t1 t2 t3 sc 59, e) ∧ bSm D e (zcell ct (bAd x a y b t1 t2 t3 sc) M0 59) := ⟨_, rfl, bSm_eq (by rw [zc_M0 rfl]; rfl)⟩
set_option maxRecDepth 20000 in
theorem bEw_60 {D : va_G} {ct : Nat → Nat} {x y t1 t2 t3 sc : Nat} {a b : Nat → Nat} : ∃ e, (wX6 ct x a)[9]? = some (bAd x a y b t1 t2 t3 sc 60, e) ∧ bSm D e (zcell ct (bAd x a y b t1 t2 t3 sc) M0 60) := ⟨_, rfl, bSm_J rfl rfl (M0_J rfl)⟩
set_option maxRecDepth 20000 in
theorem bEw_61 {D : va_G} {ct : Nat → Nat} {x y t1 t2 t3 sc : Nat} {a b : Nat → Nat} : ∃ e, (wX6 ct x a)[7]? = some (bAd x a y b t1 t2 t3 sc 61, e) ∧ bSm D e (zcell ct (bAd x a y b t1 t2 t3 sc) M0 61) := ⟨_, rfl, bSm_J rfl rfl (M0_J rfl)⟩
set_option maxRecDepth 20000 in
theorem bEw_62 {D : va_G} {ct : Nat → Nat} {x y t1 t2 t3 sc : Nat} {a b : Nat → Nat} : ∃ e, (wX6 ct x a)[5]? = some (bAd x a y b t1 t2 t3 sc 62, e) ∧ bSm D e (zcell ct (bAd x a y b t1 t2 t3 sc) M0 62) := ⟨_, rfl, bSm_J rfl rfl (M0_J rfl)⟩
set_option maxRecDepth 20000 in
theorem bEw_63 {D : va_G} {ct : Nat → Nat} {x y t1 t2 t3 sc : Nat} {a b : Nat → Nat} : ∃ e, (wX6 ct x a)[3]? = some (bAd x a y b t1 t2 t3 sc 63, e) ∧ bSm D e (zcell ct (bAd x a y b t1 t2 t3 sc) M0 63) := ⟨_, rfl, bSm_J rfl rfl (M0_J rfl)⟩
set_option maxRecDepth 20000 in
theorem bEw_64 {D : va_G} {ct : Nat → Nat} {x y t1 t2 t3 sc : Nat} {a b : Nat → Nat} : ∃ e, (wX6 ct x a)[22]? = some (bAd x a y b t1 t2 t3 sc 64, e) ∧ bSm D e (zcell ct (bAd x a y b t1 t2 t3 sc) M0 64) := ⟨_, rfl, bSm_I rfl rfl (M0_I rfl)⟩
set_option maxRecDepth 20000 in
theorem bEw_65 {D : va_G} {ct : Nat → Nat} {x y t1 t2 t3 sc : Nat} {a b : Nat → Nat} : ∃ e, (wX6 ct x a)[23]? = some (bAd x a y b t1 t2 t3 sc 65, e) ∧ bSm D e (zcell ct (bAd x a y b t1 t2 t3 sc) M0 65) := ⟨_, rfl, bSm_I rfl rfl (M0_I rfl)⟩
set_option maxRecDepth 20000 in
theorem bEw_66 {D : va_G} {ct : Nat → Nat} {x y t1 t2 t3 sc : Nat} {a b : Nat → Nat} : ∃ e, (wX6 ct x a)[24]? = some (bAd x a y b t1 t2 t3 sc 66, e) ∧ bSm D e (zcell ct (bAd x a y b t1 t2 t3 sc) M0 66) := ⟨_, rfl, bSm_I rfl rfl (M0_I rfl)⟩
set_option maxRecDepth 20000 in
theorem bEw_67 {D : va_G} {ct : Nat → Nat} {x y t1 t2 t3 sc : Nat} {a b : Nat → Nat} : ∃ e, (wX6 ct x a)[18]? = some (bAd x a y b t1 t2 t3 sc 67, e) ∧ bSm D e (zcell ct (bAd x a y b t1 t2 t3 sc) M0 67) := ⟨_, rfl, bSm_J rfl rfl (M0_J rfl)⟩
set_option maxRecDepth 20000 in
theorem bEw_68 {D : va_G} {ct : Nat → Nat} {x y t1 t2 t3 sc : Nat} {a b : Nat → Nat} : ∃ e, (wX6 ct x a)[19]? = some (bAd x a y b t1 t2 t3 sc 68, e) ∧ bSm D e (zcell ct (bAd x a y b t1 t2 t3 sc) M0 68) := ⟨_, rfl, bSm_J rfl rfl (M0_J rfl)⟩
set_option maxRecDepth 20000 in
theorem bEw_69 {D : va_G} {ct : Nat → Nat} {x y t1 t2 t3 sc : Nat} {a b : Nat → Nat} : ∃ e, (wX6 ct x a)[20]? = some (bAd x a y b t1 t2 t3 sc 69, e) ∧ bSm D e (zcell ct (bAd x a y b t1 t2 t3 sc) M0 69) := ⟨_, rfl, bSm_I rfl rfl (M0_I rfl)⟩
set_option maxRecDepth 20000 in
theorem bEw_70 {D : va_G} {ct : Nat → Nat} {x y t1 t2 t3 sc : Nat} {a b : Nat → Nat} : ∃ e, (wX6 ct x a)[12]? = some (bAd x a y b t1 t2 t3 sc 70, e) ∧ bSm D e (zcell ct (bAd x a y b t1 t2 t3 sc) M0 70) := ⟨_, rfl, bSm_I rfl rfl (M0_I rfl)⟩
set_option maxRecDepth 20000 in
theorem bEw_71 {D : va_G} {ct : Nat → Nat} {x y t1 t2 t3 sc : Nat} {a b : Nat → Nat} : ∃ e, (wX6 ct x a)[13]? = some (bAd x a y b t1 t2 t3 sc 71, e) ∧ bSm D e (zcell ct (bAd x a y b t1 t2 t3 sc) M0 71) := ⟨_, rfl, bSm_I rfl rfl (M0_I rfl)⟩
set_option maxRecDepth 20000 in
theorem bEw_72 {D : va_G} {ct : Nat → Nat} {x y t1 t2 t3 sc : Nat} {a b : Nat → Nat} : ∃ e, (wX6 ct x a)[14]? = some (bAd x a y b t1 t2 t3 sc 72, e) ∧ bSm D e (zcell ct (bAd x a y b t1 t2 t3 sc) M0 72) := ⟨_, rfl, bSm_I rfl rfl (M0_I rfl)⟩
set_option maxRecDepth 20000 in
theorem bEw_73 {D : va_G} {ct : Nat → Nat} {x y t1 t2 t3 sc : Nat} {a b : Nat → Nat} : ∃ e, (wX6 ct x a)[15]? = some (bAd x a y b t1 t2 t3 sc 73, e) ∧ bSm D e (zcell ct (bAd x a y b t1 t2 t3 sc) M0 73) := ⟨_, rfl, bSm_I rfl rfl (M0_I rfl)⟩
set_option maxRecDepth 20000 in
theorem bEw_74 {D : va_G} {ct : Nat → Nat} {x y t1 t2 t3 sc : Nat} {a b : Nat → Nat} : ∃ e, (wX6 ct x a)[16]? = some (bAd x a y b t1 t2 t3 sc 74, e) ∧ bSm D e (zcell ct (bAd x a y b t1 t2 t3 sc) M0 74) := ⟨_, rfl, bSm_I rfl rfl (M0_I rfl)⟩
set_option maxRecDepth 20000 in
theorem bEw_75 {D : va_G} {ct : Nat → Nat} {x y t1 t2 t3 sc : Nat} {a b : Nat → Nat} : ∃ e, (wX7 ct y b)[0]? = some (bAd x a y b t1 t2 t3 sc 75, e) ∧ bSm D e (zcell ct (bAd x a y b t1 t2 t3 sc) M0 75) := ⟨_, rfl, bSm_eq (by rw [zc_M0 rfl]; rfl)⟩
set_option maxRecDepth 20000 in
theorem bEw_76 {D : va_G} {ct : Nat → Nat} {x y t1 t2 t3 sc : Nat} {a b : Nat → Nat} : ∃ e, (wX7 ct y b)[1]? = some (bAd x a y b t1 t2 t3 sc 76, e) ∧ bSm D e (zcell ct (bAd x a y b t1 t2 t3 sc) M0 76) := ⟨_, rfl, bSm_J rfl rfl M0_76⟩
set_option maxRecDepth 20000 in
theorem bEw_77 {D : va_G} {ct : Nat → Nat} {x y t1 t2 t3 sc : Nat} {a b : Nat → Nat} : ∃ e, (wX7 ct y b)[17]? = some (bAd x a y b t1 t2 t3 sc 77, e) ∧ bSm D e (zcell ct (bAd x a y b t1 t2 t3 sc) M0 77) := ⟨_, rfl, bSm_J rfl rfl (M0_J rfl)⟩
set_option maxRecDepth 20000 in
theorem bEw_78 {D : va_G} {ct : Nat → Nat} {x y t1 t2 t3 sc : Nat} {a b : Nat → Nat} : ∃ e, (wX7 ct y b)[16]? = some (bAd x a y b t1 t2 t3 sc 78, e) ∧ bSm D e (zcell ct (bAd x a y b t1 t2 t3 sc) M0 78) := ⟨_, rfl, bSm_I rfl rfl (M0_I rfl)⟩
set_option maxRecDepth 20000 in
theorem bEw_79 {D : va_G} {ct : Nat → Nat} {x y t1 t2 t3 sc : Nat} {a b : Nat → Nat} : ∃ e, (wX7 ct y b)[15]? = some (bAd x a y b t1 t2 t3 sc 79, e) ∧ bSm D e (zcell ct (bAd x a y b t1 t2 t3 sc) M0 79) := ⟨_, rfl, bSm_I rfl rfl (M0_I rfl)⟩
set_option maxRecDepth 20000 in
theorem bEw_80 {D : va_G} {ct : Nat → Nat} {x y t1 t2 t3 sc : Nat} {a b : Nat → Nat} : ∃ e, (wX7 ct y b)[14]? = some (bAd x a y b t1 t2 t3 sc 80, e) ∧ bSm D e (zcell ct (bAd x a y b t1 t2 t3 sc) M0 80) := ⟨_, rfl, bSm_I rfl rfl (M0_I rfl)⟩
set_option maxRecDepth 20000 in
theorem bEw_81 {D : va_G} {ct : Nat → Nat} {x y t1 t2 t3 sc : Nat} {a b : Nat → Nat} : ∃ e, (wX7 ct y b)[13]? = some (bAd x a y b t1 t2 t3 sc 81, e) ∧ bSm D e (zcell ct (bAd x a y b t1 t2 t3 sc) M0 81) := ⟨_, rfl, bSm_I rfl rfl (M0_I rfl)⟩
set_option maxRecDepth 20000 in
theorem bEw_82 {D : va_G} {ct : Nat → Nat} {x y t1 t2 t3 sc : Nat} {a b : Nat → Nat} : ∃ e, (wX7 ct y b)[12]? = some (bAd x a y b t1 t2 t3 sc 82, e) ∧ bSm D e (zcell ct (bAd x a y b t1 t2 t3 sc) M0 82) := ⟨_, rfl, bSm_I rfl rfl (M0_I rfl)⟩
set_option maxRecDepth 20000 in
theorem bEw_83 {D : va_G} {ct : Nat → Nat} {x y t1 t2 t3 sc : Nat} {a b : Nat → Nat} : ∃ e, (wX7 ct y b)[11]? = some (bAd x a y b t1 t2 t3 sc 83, e) ∧ bSm D e (zcell ct (bAd x a y b t1 t2 t3 sc) M0 83) := ⟨_, rfl, bSm_J rfl rfl (M0_J rfl)⟩
set_option maxRecDepth 20000 in
theorem bEw_84 {D : va_G} {ct : Nat → Nat} {x y t1 t2 t3 sc : Nat} {a b : Nat → Nat} : ∃ e, (wX7 ct y b)[10]? = some (bAd x a y b t1 t2 t3 sc 84, e) ∧ bSm D e (zcell ct (bAd x a y b t1 t2 t3 sc) M0 84) := ⟨_, rfl, bSm_I rfl rfl (M0_I rfl)⟩
set_option maxRecDepth 20000 in
theorem bEw_85 {D : va_G} {ct : Nat → Nat} {x y t1 t2 t3 sc : Nat} {a b : Nat → Nat} : ∃ e, (wX7 ct y b)[9]? = some (bAd x a y b t1 t2 t3 sc 85, e) ∧ bSm D e (zcell ct (bAd x a y b t1 t2 t3 sc) M0 85) := ⟨_, rfl, bSm_I rfl rfl (M0_I rfl)⟩
set_option maxRecDepth 20000 in
theorem bEw_86 {D : va_G} {ct : Nat → Nat} {x y t1 t2 t3 sc : Nat} {a b : Nat → Nat} : ∃ e, (wX7 ct y b)[8]? = some (bAd x a y b t1 t2 t3 sc 86, e) ∧ bSm D e (zcell ct (bAd x a y b t1 t2 t3 sc) M0 86) := ⟨_, rfl, bSm_J rfl rfl (M0_J rfl)⟩
set_option maxRecDepth 20000 in
theorem bEw_87 {D : va_G} {ct : Nat → Nat} {x y t1 t2 t3 sc : Nat} {a b : Nat → Nat} : ∃ e, (wX7 ct y b)[7]? = some (bAd x a y b t1 t2 t3 sc 87, e) ∧ bSm D e (zcell ct (bAd x a y b t1 t2 t3 sc) M0 87) := ⟨_, rfl, bSm_I rfl rfl (M0_I rfl)⟩
set_option maxRecDepth 20000 in
theorem bEw_88 {D : va_G} {ct : Nat → Nat} {x y t1 t2 t3 sc : Nat} {a b : Nat → Nat} : ∃ e, (wX7 ct y b)[6]? = some (bAd x a y b t1 t2 t3 sc 88, e) ∧ bSm D e (zcell ct (bAd x a y b t1 t2 t3 sc) M0 88) := ⟨_, rfl, bSm_I rfl rfl (M0_I rfl)⟩
set_option maxRecDepth 20000 in
theorem bEw_89 {D : va_G} {ct : Nat → Nat} {x y t1 t2 t3 sc : Nat} {a b : Nat → Nat} : ∃ e, (wX7 ct y b)[5]? = some (bAd x a y b t1 t2 t3 sc 89, e) ∧ bSm D e (zcell ct (bAd x a y b t1 t2 t3 sc) M0 89) := ⟨_, rfl, bSm_J rfl rfl (M0_J rfl)⟩
set_option maxRecDepth 20000 in
theorem bEw_90 {D : va_G} {ct : Nat → Nat} {x y t1 t2 t3 sc : Nat} {a b : Nat → Nat} : ∃ e, (wX7 ct y b)[4]? = some (bAd x a y b t1 t2 t3 sc 90, e) ∧ bSm D e (zcell ct (bAd x a y b t1 t2 t3 sc) M0 90) := ⟨_, rfl, bSm_J rfl rfl (M0_J rfl)⟩
set_option maxRecDepth 20000 in
theorem bEw_91 {D : va_G} {ct : Nat → Nat} {x y t1 t2 t3 sc : Nat} {a b : Nat → Nat} : ∃ e, (wX7 ct y b)[3]? = some (bAd x a y b t1 t2 t3 sc 91, e) ∧ bSm D e (zcell ct (bAd x a y b t1 t2 t3 sc) M0 91) := ⟨_, rfl, bSm_I rfl rfl (M0_I rfl)⟩
set_option maxRecDepth 20000 in
theorem bEw_92 {D : va_G} {ct : Nat → Nat} {x y t1 t2 t3 sc : Nat} {a b : Nat → Nat} : ∃ e, (wX7 ct y b)[2]? = some (bAd x a y b t1 t2 t3 sc 92, e) ∧ bSm D e (zcell ct (bAd x a y b t1 t2 t3 sc) M0 92) := ⟨_, rfl, bSm_I rfl rfl (M0_I rfl)⟩
