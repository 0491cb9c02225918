set_option maxRecDepth 20000 in
theorem b_all {D : va_G} {ct : Nat → Nat} {x y t1 t2 t3 sc : Nat} {a b : Nat → Nat} : ∀ k, k < 93 → ∃ e, (([] ++ wX6 ct x a) ++ wX7 ct y b)[bPl k]? = some (bAd x a y b t1 t2 t3 sc k, e) ∧ bSm D e (zcell ct (bAd x a y b t1 t2 t3 sc) M0 k) := by
  intro k hk
  have l6 : ([] ++ wX6 ct x a : va_W).length = 75 := rfl
  match k, hk with
  | 0, _ => rw [show bPl 0 = 0 from rfl, List.getElem?_append_left (by rw [l6]; decide)]; exact bEw_0
  | 1, _ => rw [show bPl 1 = 59 from rfl, List.getElem?_append_left (by rw [l6]; decide)]; exact bEw_1
  | 2, _ => rw [show bPl 2 = 43 from rfl, List.getElem?_append_left (by rw [l6]; decide)]; exact bEw_2
  | 3, _ => rw [show bPl 3 = 27 from rfl, List.getElem?_append_left (by rw [l6]; decide)]; exact bEw_3
  | 4, _ => rw [show bPl 4 = 26 from rfl, List.getElem?_append_left (by rw [l6]; decide)]; exact bEw_4
  | 5, _ => rw [show bPl 5 = 1 from rfl, List.getElem?_append_left (by rw [l6]; decide)]; exact bEw_5
  | 6, _ => rw [show bPl 6 = 25 from rfl, List.getElem?_append_left (by rw [l6]; decide)]; exact bEw_6
  | 7, _ => rw [show bPl 7 = 21 from rfl, List.getElem?_append_left (by rw [l6]; decide)]; exact bEw_7
  | 8, _ => rw [show bPl 8 = 17 from rfl, List.getElem?_append_left (by rw [l6]; decide)]; exact bEw_8
  | 9, _ => rw [show bPl 9 = 11 from rfl, List.getElem?_append_left (by rw [l6]; decide)]; exact bEw_9
  | 10, _ => rw [show bPl 10 = 10 from rfl, List.getElem?_append_left (by rw [l6]; decide)]; exact bEw_10
  | 11, _ => rw [show bPl 11 = 60 from rfl, List.getElem?_append_left (by rw [l6]; decide)]; exact bEw_11
  | 12, _ => rw [show bPl 12 = 44 from rfl, List.getElem?_append_left (by rw [l6]; decide)]; exact bEw_12
  | 13, _ => rw [show bPl 13 = 28 from rfl, List.getElem?_append_left (by rw [l6]; decide)]; exact bEw_13
  | 14, _ => rw [show bPl 14 = 61 from rfl, List.getElem?_append_left (by rw [l6]; decide)]; exact bEw_14
  | 15, _ => rw [show bPl 15 = 45 from rfl, List.getElem?_append_left (by rw [l6]; decide)]; exact bEw_15
  | 16, _ => rw [show bPl 16 = 29 from rfl, List.getElem?_append_left (by rw [l6]; decide)]; exact bEw_16
  | 17, _ => rw [show bPl 17 = 62 from rfl, List.getElem?_append_left (by rw [l6]; decide)]; exact bEw_17
  | 18, _ => rw [show bPl 18 = 46 from rfl, List.getElem?_append_left (by rw [l6]; decide)]; exact bEw_18
  | 19, _ => rw [show bPl 19 = 30 from rfl, List.getElem?_append_left (by rw [l6]; decide)]; exact bEw_19
  | 20, _ => rw [show bPl 20 = 63 from rfl, List.getElem?_append_left (by rw [l6]; decide)]; exact bEw_20
  | 21, _ => rw [show bPl 21 = 64 from rfl, List.getElem?_append_left (by rw [l6]; decide)]; exact bEw_21
  | 22, _ => rw [show bPl 22 = 65 from rfl, List.getElem?_append_left (by rw [l6]; decide)]; exact bEw_22
  | 23, _ => rw [show bPl 23 = 66 from rfl, List.getElem?_append_left (by rw [l6]; decide)]; exact bEw_23
  | 24, _ => rw [show bPl 24 = 67 from rfl, List.getElem?_append_left (by rw [l6]; decide)]; exact bEw_24
  | 25, _ => rw [show bPl 25 = 68 from rfl, List.getElem?_append_left (by rw [l6]; decide)]; exact bEw_25
  | 26, _ => rw [show bPl 26 = 69 from rfl, List.getElem?_append_left (by rw [l6]; decide)]; exact bEw_26
  | 27, _ => rw [show bPl 27 = 70 from rfl, List.getElem?_append_left (by rw [l6]; decide)]; exact bEw_27
  | 28, _ => rw [show bPl 28 = 71 from rfl, List.getElem?_append_left (by rw [l6]; decide)]; exact bEw_28
  | 29, _ => rw [show bPl 29 = 72 from rfl, List.getElem?_append_left (by rw [l6]; decide)]; exact bEw_29
  | 30, _ => rw [show bPl 30 = 73 from rfl, List.getElem?_append_left (by rw [l6]; decide)]; exact bEw_30
  | 31, _ => rw [show bPl 31 = 74 from rfl, List.getElem?_append_left (by rw [l6]; decide)]; exact bEw_31
  | 32, _ => rw [show bPl 32 = 47 from rfl, List.getElem?_append_left (by rw [l6]; decide)]; exact bEw_32
  | 33, _ => rw [show bPl 33 = 48 from rfl, List.getElem?_append_left (by rw [l6]; decide)]; exact bEw_33
  | 34, _ => rw [show bPl 34 = 49 from rfl, List.getElem?_append_left (by rw [l6]; decide)]; exact bEw_34
  | 35, _ => rw [show bPl 35 = 50 from rfl, List.getElem?_append_left (by rw [l6]; decide)]; exact bEw_35
  | 36, _ => rw [show bPl 36 = 51 from rfl, List.getElem?_append_left (by rw [l6]; decide)]; exact bEw_36
  | 37, _ => rw [show bPl 37 = 52 from rfl, List.getElem?_append_left (by rw [l6]; decide)]; exact bEw_37
  | 38, _ => rw [show bPl 38 = 53 from rfl, List.getElem?_append_left (by rw [l6]; decide)]; exact bEw_38
  | 39, _ => rw [show bPl 39 = 54 from rfl, List.getElem?_append_left (by rw [l6]; decide)]; exact bEw_39
  | 40, _ => rw [show bPl 40 = 55 from rfl, List.getElem?_append_left (by rw [l6]; decide)]; exact bEw_40
  | 41, _ => rw [show bPl 41 = 56 from rfl, List.getElem?_append_left (by rw [l6]; decide)]; exact bEw_41
  | 42, _ => rw [show bPl 42 = 57 from rfl, List.getElem?_append_left (by rw [l6]; decide)]; exact bEw_42
  | 43, _ => rw [show bPl 43 = 58 from rfl, List.getElem?_append_left (by rw [l6]; decide)]; exact bEw_43
  | 44, _ => rw [show bPl 44 = 31 from rfl, List.getElem?_append_left (by rw [l6]; decide)]; exact bEw_44
  | 45, _ => rw [show bPl 45 = 32 from rfl, List.getElem?_append_left (by rw [l6]; decide)]; exact bEw_45
  | 46, _ => rw [show bPl 46 = 33 from rfl, List.getElem?_append_left (by rw [l6]; decide)]; exact bEw_46
  | 47, _ => rw [show bPl 47 = 34 from rfl, List.getElem?_append_left (by rw [l6]; decide)]; exact bEw_47
  | 48, _ => rw [show bPl 48 = 35 from rfl, List.getElem?_append_left (by rw [l6]; decide)]; exact bEw_48
  | 49, _ => rw [show bPl 49 = 36 from rfl, List.getElem?_append_left (by rw [l6]; decide)]; exact bEw_49
  | 50, _ => rw [show bPl 50 = 37 from rfl, List.getElem?_append_left (by rw [l6]; decide)]; exact bEw_50
  | 51, _ => rw [show bPl 51 = 38 from rfl, List.getElem?_append_left (by rw [l6]; decide)]; exact bEw_51
  | 52, _ => rw [show bPl 52 = 39 from rfl, List.getElem?_append_left (by rw [l6]; decide)]; exact bEw_52
  | 53, _ => rw [show bPl 53 = 40 from rfl, List.getElem?_append_left (by rw [l6]; decide)]; exact bEw_53
  | 54, _ => rw [show bPl 54 = 41 from rfl, List.getElem?_append_left (by rw [l6]; decide)]; exact bEw_54
  | 55, _ => rw [show bPl 55 = 42 from rfl, List.getElem?_append_left (by rw [l6]; decide)]; exact bEw_55
  | 56, _ => rw [show bPl 56 = 8 from rfl, List.getElem?_append_left (by rw [l6]; decide)]; exact bEw_56
  | 57, _ => rw [show bPl 57 = 6 from rfl, List.getElem?_append_left (by rw [l6]; decide)]; exact bEw_57
  | 58, _ => rw [show bPl 58 = 4 from rfl, List.getElem?_append_left (by rw [l6]; decide)]; exact bEw_58
  | 59, _ => rw [show bPl 59 = 2 from rfl, List.getElem?_append_left (by rw [l6]; decide)]; exact bEw_59
  | 60, _ => rw [show bPl 60 = 9 from rfl, List.getElem?_append_left (by rw [l6]; decide)]; exact bEw_60
  | 61, _ => rw [show bPl 61 = 7 from rfl, List.getElem?_append_left (by rw [l6]; decide)]; exact bEw_61
  | 62, _ => rw [show bPl 62 = 5 from rfl, List.getElem?_append_left (by rw [l6]; decide)]; exact bEw_62
  | 63, _ => rw [show bPl 63 = 3 from rfl, List.getElem?_append_left (by rw [l6]; decide)]; exact bEw_63
  | 64, _ => rw [show bPl 64 = 22 from rfl, List.getElem?_append_left (by rw [l6]; decide)]; exact bEw_64
  | 65, _ => rw [show bPl 65 = 23 from rfl, List.getElem?_append_left (by rw [l6]; decide)]; exact bEw_65
  | 66, _ => rw [show bPl 66 = 24 from rfl, List.getElem?_append_left (by rw [l6]; decide)]; exact bEw_66
  | 67, _ => rw [show bPl 67 = 18 from rfl, List.getElem?_append_left (by rw [l6]; decide)]; exact bEw_67
  | 68, _ => rw [show bPl 68 = 19 from rfl, List.getElem?_append_left (by rw [l6]; decide)]; exact bEw_68
  | 69, _ => rw [show bPl 69 = 20 from rfl, List.getElem?_append_left (by rw [l6]; decide)]; exact bEw_69
  | 70, _ => rw [show bPl 70 = 12 from rfl, List.getElem?_append_left (by rw [l6]; decide)]; exact bEw_70
  | 71, _ => rw [show bPl 71 = 13 from rfl, List.getElem?_append_left (by rw [l6]; decide)]; exact bEw_71
  | 72, _ => rw [show bPl 72 = 14 from rfl, List.getElem?_append_left (by rw [l6]; decide)]; exact bEw_72
  | 73, _ => rw [show bPl 73 = 15 from rfl, List.getElem?_append_left (by rw [l6]; decide)]; exact bEw_73
  | 74, _ => rw [show bPl 74 = 16 from rfl, List.getElem?_append_left (by rw [l6]; decide)]; exact bEw_74
  | 75, _ => rw [show bPl 75 = 75 from rfl, List.getElem?_append_right (by rw [l6]; decide), l6]; exact bEw_75
  | 76, _ => rw [show bPl 76 = 76 from rfl, List.getElem?_append_right (by rw [l6]; decide), l6]; exact bEw_76
  | 77, _ => rw [show bPl 77 = 92 from rfl, List.getElem?_append_right (by rw [l6]; decide), l6]; exact bEw_77
  | 78, _ => rw [show bPl 78 = 91 from rfl, List.getElem?_append_right (by rw [l6]; decide), l6]; exact bEw_78
  | 79, _ => rw [show bPl 79 = 90 from rfl, List.getElem?_append_right (by rw [l6]; decide), l6]; exact bEw_79
  | 80, _ => rw [show bPl 80 = 89 from rfl, List.getElem?_append_right (by rw [l6]; decide), l6]; exact bEw_80
  | 81, _ => rw [show bPl 81 = 88 from rfl, List.getElem?_append_right (by rw [l6]; decide), l6]; exact bEw_81
  | 82, _ => rw [show bPl 82 = 87 from rfl, List.getElem?_append_right (by rw [l6]; decide), l6]; exact bEw_82
  | 83, _ => rw [show bPl 83 = 86 from rfl, List.getElem?_append_right (by rw [l6]; decide), l6]; exact bEw_83
  | 84, _ => rw [show bPl 84 = 85 from rfl, List.getElem?_append_right (by rw [l6]; decide), l6]; exact bEw_84
  | 85, _ => rw [show bPl 85 = 84 from rfl, List.getElem?_append_right (by rw [l6]; decide), l6]; exact bEw_85
  | 86, _ => rw [show bPl 86 = 83 from rfl, List.getElem?_append_right (by rw [l6]; decide), l6]; exact bEw_86
  | 87, _ => rw [show bPl 87 = 82 from rfl, List.getElem?_append_right (by rw [l6]; decide), l6]; exact bEw_87
  | 88, _ => rw [show bPl 88 = 81 from rfl, List.getElem?_append_right (by rw [l6]; decide), l6]; exact bEw_88
  | 89, _ => rw [show bPl 89 = 80 from rfl, List.getElem?_append_right (by rw [l6]; decide), l6]; exact bEw_89
  | 90, _ => rw [show bPl 90 = 79 from rfl, List.getElem?_append_right (by rw [l6]; decide), l6]; exact bEw_90
  | 91, _ => rw [show bPl 91 = 78 from rfl, List.getElem?_append_right (by rw [l6]; decide), l6]; exact bEw_91
  | 92, _ => rw [show bPl 92 = 77 from rfl, List.getElem?_append_right (by rw [l6]; decide), l6]; exact bEw_92
  | k + 93, hk => exact absurd hk (by omega)
