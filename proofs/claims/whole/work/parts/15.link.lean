theorem lw_tb {i : Nat} {w : Cond} (h : tables_1[i]? = some w) : w ∈ lw_tbl := List.mem_append_right _ (List.mem_of_getElem? h)
theorem lw_sb {i : Nat} {w : Cond} (h : (k2_sels lw_privs)[i]? = some w) : w ∈ lw_tbl := List.mem_append_left _ (List.mem_of_getElem? h)
set_option maxRecDepth 20000 in
theorem ztX0 : ∀ w ∈ wsX00, w ∈ zt := zt_all inX0 (by decide +kernel)
set_option maxRecDepth 20000 in
theorem ztX1 : ∀ w ∈ wsX10, w ∈ zt := zt_all inX1 (by decide +kernel)
set_option maxRecDepth 20000 in
theorem ztX2 : ∀ w ∈ wsX20, w ∈ zt := zt_all inX2 (by decide +kernel)
set_option maxRecDepth 20000 in
theorem ztX3 : ∀ w ∈ wsX30, w ∈ zt := zt_all inX3 (by decide +kernel)
set_option maxRecDepth 20000 in
theorem ztX4 : ∀ w ∈ wsX40, w ∈ zt := zt_all inX4 (by decide +kernel)
set_option maxRecDepth 20000 in
theorem ztX5 : ∀ w ∈ wsX50, w ∈ zt := zt_all inX5 (by decide +kernel)
set_option maxRecDepth 20000 in
theorem ztX6 : ∀ w ∈ wsX60, w ∈ zt := zt_all inX6 (by decide +kernel)
set_option maxRecDepth 20000 in
theorem ztX7 : ∀ w ∈ wsX70, w ∈ zt := zt_all inX7 (by decide +kernel)
theorem zk_0 : zKT 0 6 := ⟨by decide, rfl⟩
theorem zk_1 : zKT 1 5 := ⟨by decide, rfl⟩
theorem zk_2 : zKT 2 5 := ⟨by decide, rfl⟩
theorem zk_3 : zKT 3 5 := ⟨by decide, rfl⟩
theorem zk_4 : zKT 4 8 := ⟨by decide, rfl⟩
theorem zk_5 : zKT 5 11 := ⟨by decide, rfl⟩
theorem zk_6 : zKT 6 9 := ⟨by decide, rfl⟩
theorem zk_7 : zKT 7 1 := ⟨by decide, rfl⟩
theorem zk_8 : zKT 8 0 := ⟨by decide, rfl⟩
theorem zk_9 : zKT 9 3 := ⟨by decide, rfl⟩
theorem zk_10 : zKT 10 9 := ⟨by decide, rfl⟩
theorem zk_11 : zKT 11 9 := ⟨by decide, rfl⟩
theorem zk_12 : zKT 12 9 := ⟨by decide, rfl⟩
theorem zk_13 : zKT 13 9 := ⟨by decide, rfl⟩
theorem zk_14 : zKT 14 12 := ⟨by decide, rfl⟩
theorem zk_15 : zKT 15 12 := ⟨by decide, rfl⟩
theorem zk_16 : zKT 16 12 := ⟨by decide, rfl⟩
theorem zk_17 : zKT 17 8 := ⟨by decide, rfl⟩
theorem zk_18 : zKT 18 8 := ⟨by decide, rfl⟩
theorem zk_19 : zKT 19 8 := ⟨by decide, rfl⟩
theorem zk_20 : zKT 20 4 := ⟨by decide, rfl⟩
theorem zk_21 : zKT 21 4 := ⟨by decide, rfl⟩
theorem zk_22 : zKT 22 4 := ⟨by decide, rfl⟩
theorem zk_23 : zKT 23 4 := ⟨by decide, rfl⟩
theorem zk_24 : zKT 24 4 := ⟨by decide, rfl⟩
theorem zk_25 : zKT 25 4 := ⟨by decide, rfl⟩
theorem zk_26 : zKT 26 4 := ⟨by decide, rfl⟩
theorem zk_27 : zKT 27 4 := ⟨by decide, rfl⟩
theorem zk_28 : zKT 28 4 := ⟨by decide, rfl⟩
theorem zk_29 : zKT 29 4 := ⟨by decide, rfl⟩
theorem zk_30 : zKT 30 4 := ⟨by decide, rfl⟩
theorem zk_31 : zKT 31 4 := ⟨by decide, rfl⟩
theorem zk_32 : zKT 32 4 := ⟨by decide, rfl⟩
theorem zk_33 : zKT 33 4 := ⟨by decide, rfl⟩
theorem zk_34 : zKT 34 4 := ⟨by decide, rfl⟩
theorem zk_35 : zKT 35 4 := ⟨by decide, rfl⟩
theorem zk_36 : zKT 36 4 := ⟨by decide, rfl⟩
theorem zk_37 : zKT 37 4 := ⟨by decide, rfl⟩
theorem zk_38 : zKT 38 4 := ⟨by decide, rfl⟩
theorem zk_39 : zKT 39 4 := ⟨by decide, rfl⟩
theorem zk_40 : zKT 40 4 := ⟨by decide, rfl⟩
theorem zk_41 : zKT 41 4 := ⟨by decide, rfl⟩
theorem zk_42 : zKT 42 4 := ⟨by decide, rfl⟩
theorem zk_43 : zKT 43 4 := ⟨by decide, rfl⟩
theorem zk_44 : zKT 44 4 := ⟨by decide, rfl⟩
theorem zk_45 : zKT 45 4 := ⟨by decide, rfl⟩
theorem zk_46 : zKT 46 4 := ⟨by decide, rfl⟩
theorem zk_47 : zKT 47 4 := ⟨by decide, rfl⟩
theorem zk_48 : zKT 48 4 := ⟨by decide, rfl⟩
theorem zk_49 : zKT 49 4 := ⟨by decide, rfl⟩
theorem zk_50 : zKT 50 4 := ⟨by decide, rfl⟩
theorem zk_51 : zKT 51 4 := ⟨by decide, rfl⟩
theorem zk_52 : zKT 52 4 := ⟨by decide, rfl⟩
theorem zk_53 : zKT 53 4 := ⟨by decide, rfl⟩
theorem zk_54 : zKT 54 4 := ⟨by decide, rfl⟩
theorem zk_55 : zKT 55 4 := ⟨by decide, rfl⟩
theorem zk_56 : zKT 56 2 := ⟨by decide, rfl⟩
theorem zk_57 : zKT 57 2 := ⟨by decide, rfl⟩
theorem zk_58 : zKT 58 2 := ⟨by decide, rfl⟩
theorem zk_59 : zKT 59 2 := ⟨by decide, rfl⟩
theorem zk_60 : zKT 60 10 := ⟨by decide, rfl⟩
theorem zk_61 : zKT 61 10 := ⟨by decide, rfl⟩
theorem zk_62 : zKT 62 10 := ⟨by decide, rfl⟩
theorem zk_63 : zKT 63 10 := ⟨by decide, rfl⟩
theorem zk_64 : zKT 64 9 := ⟨by decide, rfl⟩
theorem zk_65 : zKT 65 9 := ⟨by decide, rfl⟩
theorem zk_66 : zKT 66 9 := ⟨by decide, rfl⟩
theorem zk_67 : zKT 67 10 := ⟨by decide, rfl⟩
theorem zk_68 : zKT 68 10 := ⟨by decide, rfl⟩
theorem zk_69 : zKT 69 9 := ⟨by decide, rfl⟩
theorem zk_70 : zKT 70 9 := ⟨by decide, rfl⟩
theorem zk_71 : zKT 71 9 := ⟨by decide, rfl⟩
theorem zk_72 : zKT 72 9 := ⟨by decide, rfl⟩
theorem zk_73 : zKT 73 9 := ⟨by decide, rfl⟩
theorem zk_74 : zKT 74 9 := ⟨by decide, rfl⟩
theorem zk_75 : zKT 75 7 := ⟨by decide, rfl⟩
theorem zk_76 : zKT 76 10 := ⟨by decide, rfl⟩
theorem zk_77 : zKT 77 10 := ⟨by decide, rfl⟩
theorem zk_78 : zKT 78 9 := ⟨by decide, rfl⟩
theorem zk_79 : zKT 79 9 := ⟨by decide, rfl⟩
theorem zk_80 : zKT 80 9 := ⟨by decide, rfl⟩
theorem zk_81 : zKT 81 9 := ⟨by decide, rfl⟩
theorem zk_82 : zKT 82 9 := ⟨by decide, rfl⟩
theorem zk_83 : zKT 83 10 := ⟨by decide, rfl⟩
theorem zk_84 : zKT 84 9 := ⟨by decide, rfl⟩
theorem zk_85 : zKT 85 9 := ⟨by decide, rfl⟩
theorem zk_86 : zKT 86 10 := ⟨by decide, rfl⟩
theorem zk_87 : zKT 87 9 := ⟨by decide, rfl⟩
theorem zk_88 : zKT 88 9 := ⟨by decide, rfl⟩
theorem zk_89 : zKT 89 10 := ⟨by decide, rfl⟩
theorem zk_90 : zKT 90 10 := ⟨by decide, rfl⟩
theorem zk_91 : zKT 91 9 := ⟨by decide, rfl⟩
theorem zk_92 : zKT 92 9 := ⟨by decide, rfl⟩
theorem fl_X4_11 : zFl RX4 11 4 0 0 := ⟨RX4, TX4, 6, tyX4, rfl, by decide, rfl, zt_of (lw_tb (i := 33) (by decide +kernel)) rfl, rfl, ztX4, by decide, tyX4_ok, nmX4, rfl, rfl, rfl⟩
theorem fl_X6_140 : zFl RX6 140 4 0 0 := ⟨RX4, TX4, 6, tyX4, rfl, by decide, rfl, zt_of (lw_tb (i := 34) (by decide +kernel)) rfl, rfl, ztX4, by decide, tyX4_ok, nmX4, rfl, rfl, rfl⟩
theorem fl_X4_15 : zFl RX4 15 4 1 1 := ⟨RX4, TX4, 6, tyX4, rfl, by decide, rfl, zt_of (lw_tb (i := 35) (by decide +kernel)) rfl, rfl, ztX4, by decide, tyX4_ok, nmX4, rfl, rfl, rfl⟩
theorem fl_X5_57 : zFl RX5 57 4 1 1 := ⟨RX4, TX4, 6, tyX4, rfl, by decide, rfl, zt_of (lw_tb (i := 36) (by decide +kernel)) rfl, rfl, ztX4, by decide, tyX4_ok, nmX4, rfl, rfl, rfl⟩
theorem fl_X6_143 : zFl RX6 143 4 1 1 := ⟨RX4, TX4, 6, tyX4, rfl, by decide, rfl, zt_of (lw_tb (i := 37) (by decide +kernel)) rfl, rfl, ztX4, by decide, tyX4_ok, nmX4, rfl, rfl, rfl⟩
theorem fl_X4_18 : zFl RX4 18 4 2 2 := ⟨RX4, TX4, 6, tyX4, rfl, by decide, rfl, zt_of (lw_tb (i := 38) (by decide +kernel)) rfl, rfl, ztX4, by decide, tyX4_ok, nmX4, rfl, rfl, rfl⟩
theorem fl_X6_146 : zFl RX6 146 4 2 2 := ⟨RX4, TX4, 6, tyX4, rfl, by decide, rfl, zt_of (lw_tb (i := 39) (by decide +kernel)) rfl, rfl, ztX4, by decide, tyX4_ok, nmX4, rfl, rfl, rfl⟩
theorem fl_X4_21 : zFl RX4 21 4 3 3 := ⟨RX4, TX4, 6, tyX4, rfl, by decide, rfl, zt_of (lw_tb (i := 40) (by decide +kernel)) rfl, rfl, ztX4, by decide, tyX4_ok, nmX4, rfl, rfl, rfl⟩
theorem fl_X6_149 : zFl RX6 149 4 3 3 := ⟨RX4, TX4, 6, tyX4, rfl, by decide, rfl, zt_of (lw_tb (i := 41) (by decide +kernel)) rfl, rfl, ztX4, by decide, tyX4_ok, nmX4, rfl, rfl, rfl⟩
theorem fl_X4_24 : zFl RX4 24 4 4 4 := ⟨RX4, TX4, 6, tyX4, rfl, by decide, rfl, zt_of (lw_tb (i := 42) (by decide +kernel)) rfl, rfl, ztX4, by decide, tyX4_ok, nmX4, rfl, rfl, rfl⟩
theorem fl_X6_152 : zFl RX6 152 4 4 4 := ⟨RX4, TX4, 6, tyX4, rfl, by decide, rfl, zt_of (lw_tb (i := 43) (by decide +kernel)) rfl, rfl, ztX4, by decide, tyX4_ok, nmX4, rfl, rfl, rfl⟩
theorem fl_X4_27 : zFl RX4 27 4 5 5 := ⟨RX4, TX4, 6, tyX4, rfl, by decide, rfl, zt_of (lw_tb (i := 44) (by decide +kernel)) rfl, rfl, ztX4, by decide, tyX4_ok, nmX4, rfl, rfl, rfl⟩
theorem fl_X5_64 : zFl RX5 64 4 5 5 := ⟨RX4, TX4, 6, tyX4, rfl, by decide, rfl, zt_of (lw_tb (i := 45) (by decide +kernel)) rfl, rfl, ztX4, by decide, tyX4_ok, nmX4, rfl, rfl, rfl⟩
theorem fl_X6_155 : zFl RX6 155 4 5 5 := ⟨RX4, TX4, 6, tyX4, rfl, by decide, rfl, zt_of (lw_tb (i := 46) (by decide +kernel)) rfl, rfl, ztX4, by decide, tyX4_ok, nmX4, rfl, rfl, rfl⟩
theorem fl_X5_9 : zFl RX5 9 5 0 0 := ⟨RX5, TX5, 9, tyX5, rfl, by decide, rfl, zt_of (lw_tb (i := 62) (by decide +kernel)) rfl, rfl, ztX5, by decide, tyX5_ok, nmX5, rfl, rfl, rfl⟩
theorem fl_X0_65 : zFl RX0 65 5 0 0 := ⟨RX5, TX5, 9, tyX5, rfl, by decide, rfl, zt_of (lw_tb (i := 63) (by decide +kernel)) rfl, rfl, ztX5, by decide, tyX5_ok, nmX5, rfl, rfl, rfl⟩
theorem fl_X1_87 : zFl RX1 87 5 0 0 := ⟨RX5, TX5, 9, tyX5, rfl, by decide, rfl, zt_of (lw_tb (i := 64) (by decide +kernel)) rfl, rfl, ztX5, by decide, tyX5_ok, nmX5, rfl, rfl, rfl⟩
theorem fl_X6_102 : zFl RX6 102 5 0 0 := ⟨RX5, TX5, 9, tyX5, rfl, by decide, rfl, zt_of (lw_tb (i := 65) (by decide +kernel)) rfl, rfl, ztX5, by decide, tyX5_ok, nmX5, rfl, rfl, rfl⟩
theorem fl_X5_15 : zFl RX5 15 5 1 1 := ⟨RX5, TX5, 9, tyX5, rfl, by decide, rfl, zt_of (lw_tb (i := 66) (by decide +kernel)) rfl, rfl, ztX5, by decide, tyX5_ok, nmX5, rfl, rfl, rfl⟩
theorem fl_X0_59 : zFl RX0 59 5 1 1 := ⟨RX5, TX5, 9, tyX5, rfl, by decide, rfl, zt_of (lw_tb (i := 67) (by decide +kernel)) rfl, rfl, ztX5, by decide, tyX5_ok, nmX5, rfl, rfl, rfl⟩
theorem fl_X6_99 : zFl RX6 99 5 1 1 := ⟨RX5, TX5, 9, tyX5, rfl, by decide, rfl, zt_of (lw_tb (i := 68) (by decide +kernel)) rfl, rfl, ztX5, by decide, tyX5_ok, nmX5, rfl, rfl, rfl⟩
theorem fl_X1_90 : zFl RX1 90 5 1 1 := ⟨RX5, TX5, 9, tyX5, rfl, by decide, rfl, zt_of (lw_tb (i := 69) (by decide +kernel)) rfl, rfl, ztX5, by decide, tyX5_ok, nmX5, rfl, rfl, rfl⟩
theorem fl_X5_18 : zFl RX5 18 5 2 2 := ⟨RX5, TX5, 9, tyX5, rfl, by decide, rfl, zt_of (lw_tb (i := 70) (by decide +kernel)) rfl, rfl, ztX5, by decide, tyX5_ok, nmX5, rfl, rfl, rfl⟩
theorem fl_X6_112 : zFl RX6 112 5 2 2 := ⟨RX5, TX5, 9, tyX5, rfl, by decide, rfl, zt_of (lw_tb (i := 71) (by decide +kernel)) rfl, rfl, ztX5, by decide, tyX5_ok, nmX5, rfl, rfl, rfl⟩
theorem fl_X5_22 : zFl RX5 22 5 3 3 := ⟨RX5, TX5, 9, tyX5, rfl, by decide, rfl, zt_of (lw_tb (i := 72) (by decide +kernel)) rfl, rfl, ztX5, by decide, tyX5_ok, nmX5, rfl, rfl, rfl⟩
theorem fl_X6_116 : zFl RX6 116 5 3 3 := ⟨RX5, TX5, 9, tyX5, rfl, by decide, rfl, zt_of (lw_tb (i := 73) (by decide +kernel)) rfl, rfl, ztX5, by decide, tyX5_ok, nmX5, rfl, rfl, rfl⟩
theorem fl_X5_26 : zFl RX5 26 5 4 4 := ⟨RX5, TX5, 9, tyX5, rfl, by decide, rfl, zt_of (lw_tb (i := 74) (by decide +kernel)) rfl, rfl, ztX5, by decide, tyX5_ok, nmX5, rfl, trivial, rfl⟩
theorem fl_X6_84 : zFl RX6 84 5 4 4 := ⟨RX5, TX5, 9, tyX5, rfl, by decide, rfl, zt_of (lw_tb (i := 75) (by decide +kernel)) rfl, rfl, ztX5, by decide, tyX5_ok, nmX5, rfl, trivial, rfl⟩
theorem fl_X1_97 : zFl RX1 97 5 4 4 := ⟨RX5, TX5, 9, tyX5, rfl, by decide, rfl, zt_of (lw_tb (i := 76) (by decide +kernel)) rfl, rfl, ztX5, by decide, tyX5_ok, nmX5, rfl, trivial, rfl⟩
theorem fl_X5_32 : zFl RX5 32 5 5 5 := ⟨RX5, TX5, 9, tyX5, rfl, by decide, rfl, zt_of (lw_tb (i := 77) (by decide +kernel)) rfl, rfl, ztX5, by decide, tyX5_ok, nmX5, rfl, trivial, rfl⟩
theorem fl_X6_129 : zFl RX6 129 5 5 5 := ⟨RX5, TX5, 9, tyX5, rfl, by decide, rfl, zt_of (lw_tb (i := 78) (by decide +kernel)) rfl, rfl, ztX5, by decide, tyX5_ok, nmX5, rfl, trivial, rfl⟩
theorem fl_X5_36 : zFl RX5 36 5 6 6 := ⟨RX5, TX5, 9, tyX5, rfl, by decide, rfl, zt_of (lw_tb (i := 79) (by decide +kernel)) rfl, rfl, ztX5, by decide, tyX5_ok, nmX5, rfl, rfl, rfl⟩
theorem fl_X6_125 : zFl RX6 125 5 6 6 := ⟨RX5, TX5, 9, tyX5, rfl, by decide, rfl, zt_of (lw_tb (i := 80) (by decide +kernel)) rfl, rfl, ztX5, by decide, tyX5_ok, nmX5, rfl, rfl, rfl⟩
theorem fl_X5_39 : zFl RX5 39 5 7 7 := ⟨RX5, TX5, 9, tyX5, rfl, by decide, rfl, zt_of (lw_tb (i := 81) (by decide +kernel)) rfl, rfl, ztX5, by decide, tyX5_ok, nmX5, rfl, trivial, rfl⟩
theorem fl_X1_72 : zFl RX1 72 5 7 7 := ⟨RX5, TX5, 9, tyX5, rfl, by decide, rfl, zt_of (lw_tb (i := 82) (by decide +kernel)) rfl, rfl, ztX5, by decide, tyX5_ok, nmX5, rfl, trivial, rfl⟩
theorem fl_X6_184 : zFl RX6 184 5 7 7 := ⟨RX5, TX5, 9, tyX5, rfl, by decide, rfl, zt_of (lw_tb (i := 83) (by decide +kernel)) rfl, rfl, ztX5, by decide, tyX5_ok, nmX5, rfl, trivial, rfl⟩
theorem fl_X5_43 : zFl RX5 43 5 8 8 := ⟨RX5, TX5, 9, tyX5, rfl, by decide, rfl, zt_of (lw_tb (i := 84) (by decide +kernel)) rfl, rfl, ztX5, by decide, tyX5_ok, nmX5, rfl, rfl, rfl⟩
theorem fl_X1_76 : zFl RX1 76 5 8 8 := ⟨RX5, TX5, 9, tyX5, rfl, by decide, rfl, zt_of (lw_tb (i := 85) (by decide +kernel)) rfl, rfl, ztX5, by decide, tyX5_ok, nmX5, rfl, rfl, rfl⟩
theorem fl_X6_193 : zFl RX6 193 5 8 8 := ⟨RX5, TX5, 9, tyX5, rfl, by decide, rfl, zt_of (lw_tb (i := 86) (by decide +kernel)) rfl, rfl, ztX5, by decide, tyX5_ok, nmX5, rfl, rfl, rfl⟩
theorem fl_X1_11 : zFl RX1 11 1 0 0 := ⟨RX1, TX1, 16, tyX1, rfl, by decide, rfl, zt_of (lw_tb (i := 114) (by decide +kernel)) rfl, rfl, ztX1, by decide, tyX1_ok, nmX1, rfl, trivial, rfl⟩
theorem fl_X1_15 : zFl RX1 15 1 1 1 := ⟨RX1, TX1, 16, tyX1, rfl, by decide, rfl, zt_of (lw_tb (i := 115) (by decide +kernel)) rfl, rfl, ztX1, by decide, tyX1_ok, nmX1, rfl, rfl, rfl⟩
theorem fl_X1_19 : zFl RX1 19 1 2 2 := ⟨RX1, TX1, 16, tyX1, rfl, by decide, rfl, zt_of (lw_tb (i := 116) (by decide +kernel)) rfl, rfl, ztX1, by decide, tyX1_ok, nmX1, rfl, rfl, rfl⟩
theorem fl_X1_22 : zFl RX1 22 1 3 3 := ⟨RX1, TX1, 16, tyX1, rfl, by decide, rfl, zt_of (lw_tb (i := 117) (by decide +kernel)) rfl, rfl, ztX1, by decide, tyX1_ok, nmX1, rfl, rfl, rfl⟩
theorem fl_X1_26 : zFl RX1 26 1 4 4 := ⟨RX1, TX1, 16, tyX1, rfl, by decide, rfl, zt_of (lw_tb (i := 118) (by decide +kernel)) rfl, rfl, ztX1, by decide, tyX1_ok, nmX1, rfl, rfl, rfl⟩
theorem fl_X1_29 : zFl RX1 29 1 5 5 := ⟨RX1, TX1, 16, tyX1, rfl, by decide, rfl, zt_of (lw_tb (i := 119) (by decide +kernel)) rfl, rfl, ztX1, by decide, tyX1_ok, nmX1, rfl, rfl, rfl⟩
theorem fl_X1_32 : zFl RX1 32 1 6 6 := ⟨RX1, TX1, 16, tyX1, rfl, by decide, rfl, zt_of (lw_tb (i := 120) (by decide +kernel)) rfl, rfl, ztX1, by decide, tyX1_ok, nmX1, rfl, rfl, rfl⟩
theorem fl_X1_35 : zFl RX1 35 1 7 7 := ⟨RX1, TX1, 16, tyX1, rfl, by decide, rfl, zt_of (lw_tb (i := 121) (by decide +kernel)) rfl, rfl, ztX1, by decide, tyX1_ok, nmX1, rfl, rfl, rfl⟩
theorem fl_X1_38 : zFl RX1 38 1 8 8 := ⟨RX1, TX1, 16, tyX1, rfl, by decide, rfl, zt_of (lw_tb (i := 122) (by decide +kernel)) rfl, rfl, ztX1, by decide, tyX1_ok, nmX1, rfl, trivial, rfl⟩
theorem fl_X1_41 : zFl RX1 41 1 9 9 := ⟨RX1, TX1, 16, tyX1, rfl, by decide, rfl, zt_of (lw_tb (i := 123) (by decide +kernel)) rfl, rfl, ztX1, by decide, tyX1_ok, nmX1, rfl, trivial, rfl⟩
theorem fl_X1_44 : zFl RX1 44 1 10 10 := ⟨RX1, TX1, 16, tyX1, rfl, by decide, rfl, zt_of (lw_tb (i := 124) (by decide +kernel)) rfl, rfl, ztX1, by decide, tyX1_ok, nmX1, rfl, rfl, rfl⟩
theorem fl_X1_47 : zFl RX1 47 1 11 11 := ⟨RX1, TX1, 16, tyX1, rfl, by decide, rfl, zt_of (lw_tb (i := 125) (by decide +kernel)) rfl, rfl, ztX1, by decide, tyX1_ok, nmX1, rfl, rfl, rfl⟩
theorem fl_X1_50 : zFl RX1 50 1 12 12 := ⟨RX1, TX1, 16, tyX1, rfl, by decide, rfl, zt_of (lw_tb (i := 126) (by decide +kernel)) rfl, rfl, ztX1, by decide, tyX1_ok, nmX1, rfl, rfl, rfl⟩
theorem fl_X1_53 : zFl RX1 53 1 13 13 := ⟨RX1, TX1, 16, tyX1, rfl, by decide, rfl, zt_of (lw_tb (i := 127) (by decide +kernel)) rfl, rfl, ztX1, by decide, tyX1_ok, nmX1, rfl, rfl, rfl⟩
theorem fl_X1_56 : zFl RX1 56 1 14 14 := ⟨RX1, TX1, 16, tyX1, rfl, by decide, rfl, zt_of (lw_tb (i := 128) (by decide +kernel)) rfl, rfl, ztX1, by decide, tyX1_ok, nmX1, rfl, rfl, rfl⟩
theorem fl_X1_59 : zFl RX1 59 1 15 15 := ⟨RX1, TX1, 16, tyX1, rfl, by decide, rfl, zt_of (lw_tb (i := 129) (by decide +kernel)) rfl, rfl, ztX1, by decide, tyX1_ok, nmX1, rfl, rfl, rfl⟩
theorem fl_X0_9 : zFl RX0 9 0 0 0 := ⟨RX0, TX0, 8, tyX0, rfl, by decide, rfl, zt_of (lw_tb (i := 169) (by decide +kernel)) rfl, rfl, ztX0, by decide, tyX0_ok, nmX0, rfl, trivial, rfl⟩
theorem fl_X0_15 : zFl RX0 15 0 1 1 := ⟨RX0, TX0, 8, tyX0, rfl, by decide, rfl, zt_of (lw_tb (i := 170) (by decide +kernel)) rfl, rfl, ztX0, by decide, tyX0_ok, nmX0, rfl, trivial, rfl⟩
theorem fl_X0_18 : zFl RX0 18 0 2 2 := ⟨RX0, TX0, 8, tyX0, rfl, by decide, rfl, zt_of (lw_tb (i := 171) (by decide +kernel)) rfl, rfl, ztX0, by decide, tyX0_ok, nmX0, rfl, rfl, rfl⟩
theorem fl_X0_22 : zFl RX0 22 0 3 3 := ⟨RX0, TX0, 8, tyX0, rfl, by decide, rfl, zt_of (lw_tb (i := 172) (by decide +kernel)) rfl, rfl, ztX0, by decide, tyX0_ok, nmX0, rfl, rfl, rfl⟩
theorem fl_X0_25 : zFl RX0 25 0 4 4 := ⟨RX0, TX0, 8, tyX0, rfl, by decide, rfl, zt_of (lw_tb (i := 173) (by decide +kernel)) rfl, rfl, ztX0, by decide, tyX0_ok, nmX0, rfl, trivial, rfl⟩
theorem fl_X6_217 : zFl RX6 217 0 4 4 := ⟨RX0, TX0, 8, tyX0, rfl, by decide, rfl, zt_of (lw_tb (i := 174) (by decide +kernel)) rfl, rfl, ztX0, by decide, tyX0_ok, nmX0, rfl, trivial, rfl⟩
theorem fl_X0_29 : zFl RX0 29 0 5 5 := ⟨RX0, TX0, 8, tyX0, rfl, by decide, rfl, zt_of (lw_tb (i := 175) (by decide +kernel)) rfl, rfl, ztX0, by decide, tyX0_ok, nmX0, rfl, rfl, rfl⟩
theorem fl_X6_208 : zFl RX6 208 0 5 5 := ⟨RX0, TX0, 8, tyX0, rfl, by decide, rfl, zt_of (lw_tb (i := 176) (by decide +kernel)) rfl, rfl, ztX0, by decide, tyX0_ok, nmX0, rfl, rfl, rfl⟩
theorem fl_X0_33 : zFl RX0 33 0 6 6 := ⟨RX0, TX0, 8, tyX0, rfl, by decide, rfl, zt_of (lw_tb (i := 177) (by decide +kernel)) rfl, rfl, ztX0, by decide, tyX0_ok, nmX0, rfl, rfl, rfl⟩
theorem fl_X6_211 : zFl RX6 211 0 6 6 := ⟨RX0, TX0, 8, tyX0, rfl, by decide, rfl, zt_of (lw_tb (i := 178) (by decide +kernel)) rfl, rfl, ztX0, by decide, tyX0_ok, nmX0, rfl, rfl, rfl⟩
theorem fl_X0_36 : zFl RX0 36 0 7 7 := ⟨RX0, TX0, 8, tyX0, rfl, by decide, rfl, zt_of (lw_tb (i := 179) (by decide +kernel)) rfl, rfl, ztX0, by decide, tyX0_ok, nmX0, rfl, rfl, rfl⟩
theorem fl_X6_214 : zFl RX6 214 0 7 7 := ⟨RX0, TX0, 8, tyX0, rfl, by decide, rfl, zt_of (lw_tb (i := 180) (by decide +kernel)) rfl, rfl, ztX0, by decide, tyX0_ok, nmX0, rfl, rfl, rfl⟩
theorem fl_X3_9 : zFl RX3 9 3 0 0 := ⟨RX3, TX3, 11, tyX3, rfl, by decide, rfl, zt_of (lw_tb (i := 205) (by decide +kernel)) rfl, rfl, ztX3, by decide, tyX3_ok, nmX3, rfl, trivial, rfl⟩
theorem fl_X3_15 : zFl RX3 15 3 1 1 := ⟨RX3, TX3, 11, tyX3, rfl, by decide, rfl, zt_of (lw_tb (i := 206) (by decide +kernel)) rfl, rfl, ztX3, by decide, tyX3_ok, nmX3, rfl, trivial, rfl⟩
theorem fl_X3_18 : zFl RX3 18 3 2 2 := ⟨RX3, TX3, 11, tyX3, rfl, by decide, rfl, zt_of (lw_tb (i := 207) (by decide +kernel)) rfl, rfl, ztX3, by decide, tyX3_ok, nmX3, rfl, trivial, rfl⟩
theorem fl_X3_21 : zFl RX3 21 3 3 3 := ⟨RX3, TX3, 11, tyX3, rfl, by decide, rfl, zt_of (lw_tb (i := 208) (by decide +kernel)) rfl, rfl, ztX3, by decide, tyX3_ok, nmX3, rfl, trivial, rfl⟩
theorem fl_X3_24 : zFl RX3 24 3 4 4 := ⟨RX3, TX3, 11, tyX3, rfl, by decide, rfl, zt_of (lw_tb (i := 209) (by decide +kernel)) rfl, rfl, ztX3, by decide, tyX3_ok, nmX3, rfl, trivial, rfl⟩
theorem fl_X6_280 : zFl RX6 280 3 4 4 := ⟨RX3, TX3, 11, tyX3, rfl, by decide, rfl, zt_of (lw_tb (i := 210) (by decide +kernel)) rfl, rfl, ztX3, by decide, tyX3_ok, nmX3, rfl, trivial, rfl⟩
theorem fl_X3_27 : zFl RX3 27 3 5 5 := ⟨RX3, TX3, 11, tyX3, rfl, by decide, rfl, zt_of (lw_tb (i := 211) (by decide +kernel)) rfl, rfl, ztX3, by decide, tyX3_ok, nmX3, rfl, rfl, rfl⟩
theorem fl_X3_31 : zFl RX3 31 3 6 6 := ⟨RX3, TX3, 11, tyX3, rfl, by decide, rfl, zt_of (lw_tb (i := 212) (by decide +kernel)) rfl, rfl, ztX3, by decide, tyX3_ok, nmX3, rfl, rfl, rfl⟩
theorem fl_X3_34 : zFl RX3 34 3 7 7 := ⟨RX3, TX3, 11, tyX3, rfl, by decide, rfl, zt_of (lw_tb (i := 213) (by decide +kernel)) rfl, rfl, ztX3, by decide, tyX3_ok, nmX3, rfl, rfl, rfl⟩
theorem fl_X3_37 : zFl RX3 37 3 8 8 := ⟨RX3, TX3, 11, tyX3, rfl, by decide, rfl, zt_of (lw_tb (i := 214) (by decide +kernel)) rfl, rfl, ztX3, by decide, tyX3_ok, nmX3, rfl, rfl, rfl⟩
theorem fl_X3_40 : zFl RX3 40 3 9 9 := ⟨RX3, TX3, 11, tyX3, rfl, by decide, rfl, zt_of (lw_tb (i := 215) (by decide +kernel)) rfl, rfl, ztX3, by decide, tyX3_ok, nmX3, rfl, rfl, rfl⟩
theorem fl_X6_278 : zFl RX6 278 3 9 9 := ⟨RX3, TX3, 11, tyX3, rfl, by decide, rfl, zt_of (lw_tb (i := 216) (by decide +kernel)) rfl, rfl, ztX3, by decide, tyX3_ok, nmX3, rfl, rfl, rfl⟩
theorem fl_X3_43 : zFl RX3 43 3 10 10 := ⟨RX3, TX3, 11, tyX3, rfl, by decide, rfl, zt_of (lw_tb (i := 217) (by decide +kernel)) rfl, rfl, ztX3, by decide, tyX3_ok, nmX3, rfl, rfl, rfl⟩
theorem fl_X6_279 : zFl RX6 279 3 10 10 := ⟨RX3, TX3, 11, tyX3, rfl, by decide, rfl, zt_of (lw_tb (i := 218) (by decide +kernel)) rfl, rfl, ztX3, by decide, tyX3_ok, nmX3, rfl, rfl, rfl⟩
theorem fl_X2_9 : zFl RX2 9 2 0 0 := ⟨RX2, TX2, 3, tyX2, rfl, by decide, rfl, zt_of (lw_tb (i := 247) (by decide +kernel)) rfl, rfl, ztX2, by decide, tyX2_ok, nmX2, rfl, rfl, rfl⟩
theorem fl_X6_296 : zFl RX6 296 2 0 0 := ⟨RX2, TX2, 3, tyX2, rfl, by decide, rfl, zt_of (lw_tb (i := 248) (by decide +kernel)) rfl, rfl, ztX2, by decide, tyX2_ok, nmX2, rfl, rfl, rfl⟩
theorem fl_X2_15 : zFl RX2 15 2 1 1 := ⟨RX2, TX2, 3, tyX2, rfl, by decide, rfl, zt_of (lw_tb (i := 249) (by decide +kernel)) rfl, rfl, ztX2, by decide, tyX2_ok, nmX2, rfl, rfl, rfl⟩
theorem fl_X3_46 : zFl RX3 46 2 1 1 := ⟨RX2, TX2, 3, tyX2, rfl, by decide, rfl, zt_of (lw_tb (i := 250) (by decide +kernel)) rfl, rfl, ztX2, by decide, tyX2_ok, nmX2, rfl, rfl, rfl⟩
theorem fl_X6_275 : zFl RX6 275 2 1 1 := ⟨RX2, TX2, 3, tyX2, rfl, by decide, rfl, zt_of (lw_tb (i := 251) (by decide +kernel)) rfl, rfl, ztX2, by decide, tyX2_ok, nmX2, rfl, rfl, rfl⟩
theorem fl_X2_18 : zFl RX2 18 2 2 2 := ⟨RX2, TX2, 3, tyX2, rfl, by decide, rfl, zt_of (lw_tb (i := 252) (by decide +kernel)) rfl, rfl, ztX2, by decide, tyX2_ok, nmX2, rfl, trivial, rfl⟩
theorem fl_X3_55 : zFl RX3 55 2 2 2 := ⟨RX2, TX2, 3, tyX2, rfl, by decide, rfl, zt_of (lw_tb (i := 253) (by decide +kernel)) rfl, rfl, ztX2, by decide, tyX2_ok, nmX2, rfl, trivial, rfl⟩
theorem fl_X6_249 : zFl RX6 249 2 2 2 := ⟨RX2, TX2, 3, tyX2, rfl, by decide, rfl, zt_of (lw_tb (i := 254) (by decide +kernel)) rfl, rfl, ztX2, by decide, tyX2_ok, nmX2, rfl, trivial, rfl⟩
theorem fl_X6_10 : zFl RX6 10 6 0 0 := ⟨RX6, TX6, 12, tyX6, rfl, by decide, rfl, zt_of (lw_tb (i := 262) (by decide +kernel)) rfl, rfl, ztX6, by decide, tyX6_ok, nmX6, rfl, trivial, rfl⟩
theorem fl_X6_16 : zFl RX6 16 6 1 1 := ⟨RX6, TX6, 12, tyX6, rfl, by decide, rfl, zt_of (lw_tb (i := 263) (by decide +kernel)) rfl, rfl, ztX6, by decide, tyX6_ok, nmX6, rfl, trivial, rfl⟩
theorem fl_X6_19 : zFl RX6 19 6 2 2 := ⟨RX6, TX6, 12, tyX6, rfl, by decide, rfl, zt_of (lw_tb (i := 264) (by decide +kernel)) rfl, rfl, ztX6, by decide, tyX6_ok, nmX6, rfl, trivial, rfl⟩
theorem fl_X6_22 : zFl RX6 22 6 3 3 := ⟨RX6, TX6, 12, tyX6, rfl, by decide, rfl, zt_of (lw_tb (i := 265) (by decide +kernel)) rfl, rfl, ztX6, by decide, tyX6_ok, nmX6, rfl, rfl, rfl⟩
theorem fl_X6_26 : zFl RX6 26 6 4 4 := ⟨RX6, TX6, 12, tyX6, rfl, by decide, rfl, zt_of (lw_tb (i := 266) (by decide +kernel)) rfl, rfl, ztX6, by decide, tyX6_ok, nmX6, rfl, trivial, rfl⟩
theorem fl_X6_30 : zFl RX6 30 6 5 5 := ⟨RX6, TX6, 12, tyX6, rfl, by decide, rfl, zt_of (lw_tb (i := 267) (by decide +kernel)) rfl, rfl, ztX6, by decide, tyX6_ok, nmX6, rfl, rfl, rfl⟩
theorem fl_X6_36 : zFl RX6 36 6 6 6 := ⟨RX6, TX6, 12, tyX6, rfl, by decide, rfl, zt_of (lw_tb (i := 268) (by decide +kernel)) rfl, rfl, ztX6, by decide, tyX6_ok, nmX6, rfl, trivial, rfl⟩
theorem fl_X6_40 : zFl RX6 40 6 7 7 := ⟨RX6, TX6, 12, tyX6, rfl, by decide, rfl, zt_of (lw_tb (i := 269) (by decide +kernel)) rfl, rfl, ztX6, by decide, tyX6_ok, nmX6, rfl, trivial, rfl⟩
theorem fl_X6_47 : zFl RX6 47 6 8 8 := ⟨RX6, TX6, 12, tyX6, rfl, by decide, rfl, zt_of (lw_tb (i := 270) (by decide +kernel)) rfl, rfl, ztX6, by decide, tyX6_ok, nmX6, rfl, trivial, rfl⟩
theorem fl_X6_54 : zFl RX6 54 6 9 9 := ⟨RX6, TX6, 12, tyX6, rfl, by decide, rfl, zt_of (lw_tb (i := 271) (by decide +kernel)) rfl, rfl, ztX6, by decide, tyX6_ok, nmX6, rfl, trivial, rfl⟩
theorem fl_X6_61 : zFl RX6 61 6 10 10 := ⟨RX6, TX6, 12, tyX6, rfl, by decide, rfl, zt_of (lw_tb (i := 272) (by decide +kernel)) rfl, rfl, ztX6, by decide, tyX6_ok, nmX6, rfl, trivial, rfl⟩
theorem fl_X6_65 : zFl RX6 65 6 11 11 := ⟨RX6, TX6, 12, tyX6, rfl, by decide, rfl, zt_of (lw_tb (i := 273) (by decide +kernel)) rfl, rfl, ztX6, by decide, tyX6_ok, nmX6, rfl, trivial, rfl⟩
theorem fs_X6_73 : Cond.fieldLink RX6 73 "FuelTurns" "PLAN_LEAST" "[I" ∈ zt := zt_of (lw_tb (i := 306) (by decide +kernel)) rfl
theorem fs_X6_76 : Cond.fieldLink RX6 76 "FuelTurns" "PLAN_MOST" "[I" ∈ zt := zt_of (lw_tb (i := 308) (by decide +kernel)) rfl
theorem fs_X4_34 : Cond.fieldLink RX4 34 "FuelTurns$Warning" "ABOVE" "[I" ∈ zt := zt_of (lw_tb (i := 476) (by decide +kernel)) rfl
theorem fl_X7_7 : zFl RX7 7 7 0 0 := ⟨RX7, TX7, 23, tyX7, rfl, by decide, rfl, zt_of (lw_tb (i := 810) (by decide +kernel)) rfl, rfl, ztX7, by decide, tyX7_ok, nmX7, rfl, trivial, rfl⟩
theorem fl_X7_13 : zFl RX7 13 7 1 1 := ⟨RX7, TX7, 23, tyX7, rfl, by decide, rfl, zt_of (lw_tb (i := 811) (by decide +kernel)) rfl, rfl, ztX7, by decide, tyX7_ok, nmX7, rfl, trivial, rfl⟩
theorem fl_X7_319 : zFl RX7 319 7 2 2 := ⟨RX7, TX7, 23, tyX7, rfl, by decide, rfl, zt_of (lw_tb (i := 812) (by decide +kernel)) rfl, rfl, ztX7, by decide, tyX7_ok, nmX7, rfl, rfl, rfl⟩
theorem fl_X7_16 : zFl RX7 16 7 3 3 := ⟨RX7, TX7, 23, tyX7, rfl, by decide, rfl, zt_of (lw_tb (i := 813) (by decide +kernel)) rfl, rfl, ztX7, by decide, tyX7_ok, nmX7, rfl, trivial, rfl⟩
theorem fl_X7_20 : zFl RX7 20 7 4 4 := ⟨RX7, TX7, 23, tyX7, rfl, by decide, rfl, zt_of (lw_tb (i := 814) (by decide +kernel)) rfl, rfl, ztX7, by decide, tyX7_ok, nmX7, rfl, trivial, rfl⟩
theorem fl_X7_188 : zFl RX7 188 7 5 5 := ⟨RX7, TX7, 23, tyX7, rfl, by decide, rfl, zt_of (lw_tb (i := 815) (by decide +kernel)) rfl, rfl, ztX7, by decide, tyX7_ok, nmX7, rfl, rfl, rfl⟩
theorem fl_X7_192 : zFl RX7 192 7 6 6 := ⟨RX7, TX7, 23, tyX7, rfl, by decide, rfl, zt_of (lw_tb (i := 816) (by decide +kernel)) rfl, rfl, ztX7, by decide, tyX7_ok, nmX7, rfl, rfl, rfl⟩
theorem fl_X7_223 : zFl RX7 223 7 7 7 := ⟨RX7, TX7, 23, tyX7, rfl, by decide, rfl, zt_of (lw_tb (i := 817) (by decide +kernel)) rfl, rfl, ztX7, by decide, tyX7_ok, nmX7, rfl, rfl, rfl⟩
theorem fl_X7_198 : zFl RX7 198 7 8 8 := ⟨RX7, TX7, 23, tyX7, rfl, by decide, rfl, zt_of (lw_tb (i := 818) (by decide +kernel)) rfl, rfl, ztX7, by decide, tyX7_ok, nmX7, rfl, rfl, rfl⟩
theorem fl_X7_23 : zFl RX7 23 7 9 9 := ⟨RX7, TX7, 23, tyX7, rfl, by decide, rfl, zt_of (lw_tb (i := 819) (by decide +kernel)) rfl, rfl, ztX7, by decide, tyX7_ok, nmX7, rfl, trivial, rfl⟩
theorem fl_X7_26 : zFl RX7 26 7 10 10 := ⟨RX7, TX7, 23, tyX7, rfl, by decide, rfl, zt_of (lw_tb (i := 820) (by decide +kernel)) rfl, rfl, ztX7, by decide, tyX7_ok, nmX7, rfl, trivial, rfl⟩
theorem fl_X7_29 : zFl RX7 29 7 11 11 := ⟨RX7, TX7, 23, tyX7, rfl, by decide, rfl, zt_of (lw_tb (i := 821) (by decide +kernel)) rfl, rfl, ztX7, by decide, tyX7_ok, nmX7, rfl, trivial, rfl⟩
theorem fl_X7_32 : zFl RX7 32 7 12 12 := ⟨RX7, TX7, 23, tyX7, rfl, by decide, rfl, zt_of (lw_tb (i := 822) (by decide +kernel)) rfl, rfl, ztX7, by decide, tyX7_ok, nmX7, rfl, trivial, rfl⟩
theorem fl_X7_35 : zFl RX7 35 7 13 13 := ⟨RX7, TX7, 23, tyX7, rfl, by decide, rfl, zt_of (lw_tb (i := 823) (by decide +kernel)) rfl, rfl, ztX7, by decide, tyX7_ok, nmX7, rfl, trivial, rfl⟩
theorem fl_X7_38 : zFl RX7 38 7 14 14 := ⟨RX7, TX7, 23, tyX7, rfl, by decide, rfl, zt_of (lw_tb (i := 824) (by decide +kernel)) rfl, rfl, ztX7, by decide, tyX7_ok, nmX7, rfl, trivial, rfl⟩
theorem fl_X7_41 : zFl RX7 41 7 15 15 := ⟨RX7, TX7, 23, tyX7, rfl, by decide, rfl, zt_of (lw_tb (i := 825) (by decide +kernel)) rfl, rfl, ztX7, by decide, tyX7_ok, nmX7, rfl, trivial, rfl⟩
theorem fl_X7_287 : zFl RX7 287 7 16 16 := ⟨RX7, TX7, 23, tyX7, rfl, by decide, rfl, zt_of (lw_tb (i := 826) (by decide +kernel)) rfl, rfl, ztX7, by decide, tyX7_ok, nmX7, rfl, rfl, rfl⟩
theorem fl_X7_44 : zFl RX7 44 7 17 17 := ⟨RX7, TX7, 23, tyX7, rfl, by decide, rfl, zt_of (lw_tb (i := 827) (by decide +kernel)) rfl, rfl, ztX7, by decide, tyX7_ok, nmX7, rfl, trivial, rfl⟩
theorem fl_X7_47 : zFl RX7 47 7 18 18 := ⟨RX7, TX7, 23, tyX7, rfl, by decide, rfl, zt_of (lw_tb (i := 828) (by decide +kernel)) rfl, rfl, ztX7, by decide, tyX7_ok, nmX7, rfl, trivial, rfl⟩
theorem fl_X7_50 : zFl RX7 50 7 19 19 := ⟨RX7, TX7, 23, tyX7, rfl, by decide, rfl, zt_of (lw_tb (i := 829) (by decide +kernel)) rfl, rfl, ztX7, by decide, tyX7_ok, nmX7, rfl, trivial, rfl⟩
theorem fl_X7_53 : zFl RX7 53 7 20 20 := ⟨RX7, TX7, 23, tyX7, rfl, by decide, rfl, zt_of (lw_tb (i := 830) (by decide +kernel)) rfl, rfl, ztX7, by decide, tyX7_ok, nmX7, rfl, trivial, rfl⟩
theorem fl_X7_56 : zFl RX7 56 7 21 21 := ⟨RX7, TX7, 23, tyX7, rfl, by decide, rfl, zt_of (lw_tb (i := 831) (by decide +kernel)) rfl, rfl, ztX7, by decide, tyX7_ok, nmX7, rfl, trivial, rfl⟩
theorem fl_X7_59 : zFl RX7 59 7 22 22 := ⟨RX7, TX7, 23, tyX7, rfl, by decide, rfl, zt_of (lw_tb (i := 832) (by decide +kernel)) rfl, rfl, ztX7, by decide, tyX7_ok, nmX7, rfl, trivial, rfl⟩
theorem ml_L_9 : Cond.methodLink RL 9 yX6_init ∈ zt := zt_of (lw_tb (i := 13) (by decide +kernel)) rfl
theorem ml_X6_9 : Cond.methodLink RX6 9 yX5_init ∈ zt := zt_of (lw_tb (i := 21) (by decide +kernel)) rfl
theorem ml_L_13 : Cond.methodLink RL 13 yX6_plan ∈ zt := zt_of (lw_tb (i := 299) (by decide +kernel)) rfl
theorem ml_X6_69 : Cond.methodLink RX6 69 yX6_isOutside ∈ zt := zt_of (lw_tb (i := 303) (by decide +kernel)) rfl
theorem ml_X6_80 : Cond.methodLink RX6 80 yX6_finding ∈ zt := zt_of (lw_tb (i := 311) (by decide +kernel)) rfl
theorem ml_L_18 : Cond.methodLink RL 18 yX6_move ∈ zt := zt_of (lw_tb (i := 315) (by decide +kernel)) rfl
theorem ml_X6_87 : Cond.methodLink RX6 87 yX6_isNoMove ∈ zt := zt_of (lw_tb (i := 319) (by decide +kernel)) rfl
theorem ml_X6_91 : Cond.methodLink RX6 91 yX5_canShift ∈ zt := zt_of (lw_tb (i := 322) (by decide +kernel)) rfl
theorem ml_X5_77 : Cond.methodLink RX5 77 yJ9_abs_0f7a4 ∈ zt := zt_of (lw_tb (i := 326) (by decide +kernel)) rfl
theorem ml_X6_95 : Cond.methodLink RX6 95 yX5_shift ∈ zt := zt_of (lw_tb (i := 330) (by decide +kernel)) rfl
theorem ml_L_23 : Cond.methodLink RL 23 yX6_may ∈ zt := zt_of (lw_tb (i := 334) (by decide +kernel)) rfl
theorem ml_L_27 : Cond.methodLink RL 27 yX6_days ∈ zt := zt_of (lw_tb (i := 338) (by decide +kernel)) rfl
theorem ml_X6_105 : Cond.methodLink RX6 105 yX5_endDay ∈ zt := zt_of (lw_tb (i := 342) (by decide +kernel)) rfl
theorem ml_X5_83 : Cond.methodLink RX5 83 yX5_useAt ∈ zt := zt_of (lw_tb (i := 346) (by decide +kernel)) rfl
theorem ml_X5_80 : Cond.methodLink RX5 80 yJ9_max_7cf53 ∈ zt := zt_of (lw_tb (i := 350) (by decide +kernel)) rfl
theorem ml_X5_86 : Cond.methodLink RX5 86 yX5_dangerOn ∈ zt := zt_of (lw_tb (i := 353) (by decide +kernel)) rfl
theorem ml_X5_67 : Cond.methodLink RX5 67 yX4_strikeAt ∈ zt := zt_of (lw_tb (i := 357) (by decide +kernel)) rfl
theorem ml_X5_71 : Cond.methodLink RX5 71 yJ9_min_7cf53 ∈ zt := zt_of (lw_tb (i := 362) (by decide +kernel)) rfl
theorem ml_L_31 : Cond.methodLink RL 31 yX6_runs ∈ zt := zt_of (lw_tb (i := 365) (by decide +kernel)) rfl
theorem ml_X6_108 : Cond.methodLink RX6 108 yX5_moveBy ∈ zt := zt_of (lw_tb (i := 369) (by decide +kernel)) rfl
theorem ml_X5_91 : Cond.methodLink RX5 91 yX1_told ∈ zt := zt_of (lw_tb (i := 373) (by decide +kernel)) rfl
theorem ml_X1_62 : Cond.methodLink RX1 62 yX5_hasRule ∈ zt := zt_of (lw_tb (i := 377) (by decide +kernel)) rfl
theorem ml_X1_68 : Cond.methodLink RX1 68 yX1_learn ∈ zt := zt_of (lw_tb (i := 381) (by decide +kernel)) rfl
theorem ml_X1_83 : Cond.methodLink RX1 83 yX5_nextWarned ∈ zt := zt_of (lw_tb (i := 385) (by decide +kernel)) rfl
theorem ml_X1_93 : Cond.methodLink RX1 93 yX5_dangerOn ∈ zt := zt_of (lw_tb (i := 389) (by decide +kernel)) rfl
theorem ml_X1_100 : Cond.methodLink RX1 100 yX5_openOnes ∈ zt := zt_of (lw_tb (i := 390) (by decide +kernel)) rfl
theorem ml_X5_60 : Cond.methodLink RX5 60 yX5_isOpen ∈ zt := zt_of (lw_tb (i := 394) (by decide +kernel)) rfl
theorem ml_X1_79 : Cond.methodLink RX1 79 yX1_readText ∈ zt := zt_of (lw_tb (i := 398) (by decide +kernel)) rfl
theorem ml_X1_103 : Cond.methodLink RX1 103 yX1_beginSum ∈ zt := zt_of (lw_tb (i := 402) (by decide +kernel)) rfl
theorem ml_X1_107 : Cond.methodLink RX1 107 yX1_endNumber ∈ zt := zt_of (lw_tb (i := 406) (by decide +kernel)) rfl
theorem ml_X1_123 : Cond.methodLink RX1 123 yX1_endPart ∈ zt := zt_of (lw_tb (i := 410) (by decide +kernel)) rfl
theorem ml_X1_110 : Cond.methodLink RX1 110 yX1_takesDigit ∈ zt := zt_of (lw_tb (i := 414) (by decide +kernel)) rfl
theorem ml_X1_114 : Cond.methodLink RX1 114 yX1_takesInPart ∈ zt := zt_of (lw_tb (i := 418) (by decide +kernel)) rfl
theorem ml_X1_126 : Cond.methodLink RX1 126 yX1_nameOf ∈ zt := zt_of (lw_tb (i := 422) (by decide +kernel)) rfl
theorem ml_X1_117 : Cond.methodLink RX1 117 yX1_takesBehindPart ∈ zt := zt_of (lw_tb (i := 425) (by decide +kernel)) rfl
theorem ml_X1_120 : Cond.methodLink RX1 120 yX1_takesBehindSum ∈ zt := zt_of (lw_tb (i := 429) (by decide +kernel)) rfl
theorem ml_X1_130 : Cond.methodLink RX1 130 yX1_placeBehind ∈ zt := zt_of (lw_tb (i := 433) (by decide +kernel)) rfl
theorem ml_X1_133 : Cond.methodLink RX1 133 yX1_comparesRight ∈ zt := zt_of (lw_tb (i := 437) (by decide +kernel)) rfl
theorem ml_X5_97 : Cond.methodLink RX5 97 yX5_canShift ∈ zt := zt_of (lw_tb (i := 441) (by decide +kernel)) rfl
theorem ml_L_35 : Cond.methodLink RL 35 yX6_thing ∈ zt := zt_of (lw_tb (i := 442) (by decide +kernel)) rfl
theorem ml_L_40 : Cond.methodLink RL 40 yX6_warn ∈ zt := zt_of (lw_tb (i := 446) (by decide +kernel)) rfl
theorem ml_X6_121 : Cond.methodLink RX6 121 yX6_isNoHeight ∈ zt := zt_of (lw_tb (i := 450) (by decide +kernel)) rfl
theorem ml_X6_133 : Cond.methodLink RX6 133 yX4_begin ∈ zt := zt_of (lw_tb (i := 455) (by decide +kernel)) rfl
theorem ml_L_45 : Cond.methodLink RL 45 yX6_of ∈ zt := zt_of (lw_tb (i := 459) (by decide +kernel)) rfl
theorem ml_X6_137 : Cond.methodLink RX6 137 yX6_isNoWarning ∈ zt := zt_of (lw_tb (i := 463) (by decide +kernel)) rfl
theorem ml_X6_158 : Cond.methodLink RX6 158 yX5_isOpen ∈ zt := zt_of (lw_tb (i := 467) (by decide +kernel)) rfl
theorem ml_L_49 : Cond.methodLink RL 49 yX6_as ∈ zt := zt_of (lw_tb (i := 468) (by decide +kernel)) rfl
theorem ml_X6_162 : Cond.methodLink RX6 162 yX4_isOneOf ∈ zt := zt_of (lw_tb (i := 472) (by decide +kernel)) rfl
theorem ml_L_53 : Cond.methodLink RL 53 yX6_struck ∈ zt := zt_of (lw_tb (i := 479) (by decide +kernel)) rfl
theorem ml_X6_166 : Cond.methodLink RX6 166 yX4_strikeAt ∈ zt := zt_of (lw_tb (i := 483) (by decide +kernel)) rfl
theorem ml_L_57 : Cond.methodLink RL 57 yX6_look ∈ zt := zt_of (lw_tb (i := 484) (by decide +kernel)) rfl
theorem ml_X6_169 : Cond.methodLink RX6 169 yX6_isNoSureness ∈ zt := zt_of (lw_tb (i := 488) (by decide +kernel)) rfl
theorem ml_X6_172 : Cond.methodLink RX6 172 yX4_chanceBehind ∈ zt := zt_of (lw_tb (i := 491) (by decide +kernel)) rfl
theorem ml_L_62 : Cond.methodLink RL 62 yX6_think ∈ zt := zt_of (lw_tb (i := 496) (by decide +kernel)) rfl
theorem ml_L_66 : Cond.methodLink RL 66 yX6_danger ∈ zt := zt_of (lw_tb (i := 500) (by decide +kernel)) rfl
theorem ml_X6_176 : Cond.methodLink RX6 176 yX5_dangerOn ∈ zt := zt_of (lw_tb (i := 504) (by decide +kernel)) rfl
theorem ml_L_70 : Cond.methodLink RL 70 yX6_safest ∈ zt := zt_of (lw_tb (i := 505) (by decide +kernel)) rfl
theorem ml_L_74 : Cond.methodLink RL 74 yX6_open ∈ zt := zt_of (lw_tb (i := 509) (by decide +kernel)) rfl
theorem ml_L_79 : Cond.methodLink RL 79 yX6_feed ∈ zt := zt_of (lw_tb (i := 513) (by decide +kernel)) rfl
theorem ml_L_83 : Cond.methodLink RL 83 yX6_wipe ∈ zt := zt_of (lw_tb (i := 517) (by decide +kernel)) rfl
theorem ml_L_87 : Cond.methodLink RL 87 yX6_rule ∈ zt := zt_of (lw_tb (i := 521) (by decide +kernel)) rfl
theorem ml_X6_180 : Cond.methodLink RX6 180 yX1_faultOf ∈ zt := zt_of (lw_tb (i := 525) (by decide +kernel)) rfl
theorem ml_L_91 : Cond.methodLink RL 91 yX6_drift ∈ zt := zt_of (lw_tb (i := 532) (by decide +kernel)) rfl
theorem ml_X6_196 : Cond.methodLink RX6 196 yX5_hasRule ∈ zt := zt_of (lw_tb (i := 536) (by decide +kernel)) rfl
theorem ml_L_95 : Cond.methodLink RL 95 yX6_says ∈ zt := zt_of (lw_tb (i := 537) (by decide +kernel)) rfl
theorem ml_X6_200 : Cond.methodLink RX6 200 yX1_told ∈ zt := zt_of (lw_tb (i := 541) (by decide +kernel)) rfl
theorem ml_L_99 : Cond.methodLink RL 99 yX6_best ∈ zt := zt_of (lw_tb (i := 542) (by decide +kernel)) rfl
theorem ml_X6_204 : Cond.methodLink RX6 204 yX0_make ∈ zt := zt_of (lw_tb (i := 546) (by decide +kernel)) rfl
theorem ml_X0_39 : Cond.methodLink RX0 39 yJ9_min_7cf53 ∈ zt := zt_of (lw_tb (i := 550) (by decide +kernel)) rfl
theorem ml_X0_45 : Cond.methodLink RX0 45 yX5_stepsLeft ∈ zt := zt_of (lw_tb (i := 551) (by decide +kernel)) rfl
theorem ml_X0_51 : Cond.methodLink RX0 51 yX0_stay ∈ zt := zt_of (lw_tb (i := 555) (by decide +kernel)) rfl
theorem ml_X0_68 : Cond.methodLink RX0 68 yX5_worthOf ∈ zt := zt_of (lw_tb (i := 559) (by decide +kernel)) rfl
theorem ml_X0_72 : Cond.methodLink RX0 72 yX0_cell ∈ zt := zt_of (lw_tb (i := 564) (by decide +kernel)) rfl
theorem ml_X0_55 : Cond.methodLink RX0 55 yX0_spread ∈ zt := zt_of (lw_tb (i := 568) (by decide +kernel)) rfl
theorem ml_X0_78 : Cond.methodLink RX0 78 yX0_step ∈ zt := zt_of (lw_tb (i := 572) (by decide +kernel)) rfl
theorem ml_X0_62 : Cond.methodLink RX0 62 yX0_follow ∈ zt := zt_of (lw_tb (i := 576) (by decide +kernel)) rfl
theorem ml_X0_82 : Cond.methodLink RX0 82 yX0_firstMove ∈ zt := zt_of (lw_tb (i := 580) (by decide +kernel)) rfl
theorem ml_X0_89 : Cond.methodLink RX0 89 yX0_keepsValue ∈ zt := zt_of (lw_tb (i := 584) (by decide +kernel)) rfl
theorem ml_X0_85 : Cond.methodLink RX0 85 yJ9_abs_0f7a4 ∈ zt := zt_of (lw_tb (i := 588) (by decide +kernel)) rfl
theorem ml_X0_93 : Cond.methodLink RX0 93 yX0_valueFrom ∈ zt := zt_of (lw_tb (i := 589) (by decide +kernel)) rfl
theorem ml_L_104 : Cond.methodLink RL 104 yX6_turn ∈ zt := zt_of (lw_tb (i := 593) (by decide +kernel)) rfl
theorem ml_L_108 : Cond.methodLink RL 108 yX6_rest ∈ zt := zt_of (lw_tb (i := 597) (by decide +kernel)) rfl
theorem ml_X6_220 : Cond.methodLink RX6 220 yX5_worthOf ∈ zt := zt_of (lw_tb (i := 601) (by decide +kernel)) rfl
theorem ml_L_112 : Cond.methodLink RL 112 yX6_home ∈ zt := zt_of (lw_tb (i := 602) (by decide +kernel)) rfl
theorem ml_X6_224 : Cond.methodLink RX6 224 yX6_firstCalm ∈ zt := zt_of (lw_tb (i := 606) (by decide +kernel)) rfl
theorem ml_L_116 : Cond.methodLink RL 116 yX6_know ∈ zt := zt_of (lw_tb (i := 611) (by decide +kernel)) rfl
theorem ml_X6_228 : Cond.methodLink RX6 228 yX5_become ∈ zt := zt_of (lw_tb (i := 615) (by decide +kernel)) rfl
theorem ml_X5_53 : Cond.methodLink RX5 53 yX4_become ∈ zt := zt_of (lw_tb (i := 620) (by decide +kernel)) rfl
theorem ml_X4_30 : Cond.methodLink RX4 30 yX4_begin ∈ zt := zt_of (lw_tb (i := 624) (by decide +kernel)) rfl
theorem ml_X6_232 : Cond.methodLink RX6 232 yX4_chanceIfItCanBe ∈ zt := zt_of (lw_tb (i := 625) (by decide +kernel)) rfl
theorem ml_X4_41 : Cond.methodLink RX4 41 yX4_chanceBehind ∈ zt := zt_of (lw_tb (i := 629) (by decide +kernel)) rfl
theorem ml_X6_235 : Cond.methodLink RX6 235 yX4_chanceToTell ∈ zt := zt_of (lw_tb (i := 630) (by decide +kernel)) rfl
theorem ml_L_121 : Cond.methodLink RL 121 yX6_life ∈ zt := zt_of (lw_tb (i := 636) (by decide +kernel)) rfl
theorem ml_X6_240 : Cond.methodLink RX6 240 yX6_foresee ∈ zt := zt_of (lw_tb (i := 640) (by decide +kernel)) rfl
theorem ml_X6_243 : Cond.methodLink RX6 243 yX6_dayOfStrike ∈ zt := zt_of (lw_tb (i := 644) (by decide +kernel)) rfl
theorem ml_L_125 : Cond.methodLink RL 125 yX6_lives ∈ zt := zt_of (lw_tb (i := 649) (by decide +kernel)) rfl
theorem ml_L_129 : Cond.methodLink RL 129 yX6_rests ∈ zt := zt_of (lw_tb (i := 653) (by decide +kernel)) rfl
theorem ml_X6_246 : Cond.methodLink RX6 246 yX6_findingOfPair ∈ zt := zt_of (lw_tb (i := 657) (by decide +kernel)) rfl
theorem ml_X6_285 : Cond.methodLink RX6 285 yX6_findingOfSheet ∈ zt := zt_of (lw_tb (i := 661) (by decide +kernel)) rfl
theorem ml_X6_261 : Cond.methodLink RX6 261 yX6_isNoSheet ∈ zt := zt_of (lw_tb (i := 665) (by decide +kernel)) rfl
theorem ml_X6_292 : Cond.methodLink RX6 292 yX2_isMissing ∈ zt := zt_of (lw_tb (i := 668) (by decide +kernel)) rfl
theorem ml_X6_317 : Cond.methodLink RX6 317 yX2_isWithin ∈ zt := zt_of (lw_tb (i := 674) (by decide +kernel)) rfl
theorem ml_X6_253 : Cond.methodLink RX6 253 yX6_restsOf ∈ zt := zt_of (lw_tb (i := 678) (by decide +kernel)) rfl
theorem ml_L_133 : Cond.methodLink RL 133 yX6_both ∈ zt := zt_of (lw_tb (i := 681) (by decide +kernel)) rfl
theorem ml_X6_257 : Cond.methodLink RX6 257 yX6_mostTogether ∈ zt := zt_of (lw_tb (i := 685) (by decide +kernel)) rfl
theorem ml_X6_323 : Cond.methodLink RX6 323 yJ9_max_f86c9 ∈ zt := zt_of (lw_tb (i := 689) (by decide +kernel)) rfl
theorem ml_L_137 : Cond.methodLink RL 137 yX6_swarm ∈ zt := zt_of (lw_tb (i := 692) (by decide +kernel)) rfl
theorem ml_X6_264 : Cond.methodLink RX6 264 yX6_findingOfRow ∈ zt := zt_of (lw_tb (i := 696) (by decide +kernel)) rfl
theorem ml_X6_268 : Cond.methodLink RX6 268 yX3_load ∈ zt := zt_of (lw_tb (i := 699) (by decide +kernel)) rfl
theorem ml_X3_49 : Cond.methodLink RX3 49 yJ9_min_7cf53 ∈ zt := zt_of (lw_tb (i := 703) (by decide +kernel)) rfl
theorem ml_X3_59 : Cond.methodLink RX3 59 yX3_weigh ∈ zt := zt_of (lw_tb (i := 704) (by decide +kernel)) rfl
theorem ml_X3_74 : Cond.methodLink RX3 74 yX3_costBehind ∈ zt := zt_of (lw_tb (i := 708) (by decide +kernel)) rfl
theorem ml_X3_84 : Cond.methodLink RX3 84 yJ9_max_7cf53 ∈ zt := zt_of (lw_tb (i := 712) (by decide +kernel)) rfl
theorem ml_X3_77 : Cond.methodLink RX3 77 yX3_costOf ∈ zt := zt_of (lw_tb (i := 714) (by decide +kernel)) rfl
theorem ml_X3_81 : Cond.methodLink RX3 81 yJ9_abs_0f7a4 ∈ zt := zt_of (lw_tb (i := 717) (by decide +kernel)) rfl
theorem ml_X3_63 : Cond.methodLink RX3 63 yX3_gather ∈ zt := zt_of (lw_tb (i := 718) (by decide +kernel)) rfl
theorem ml_X3_66 : Cond.methodLink RX3 66 yX3_canBe ∈ zt := zt_of (lw_tb (i := 722) (by decide +kernel)) rfl
theorem ml_X3_70 : Cond.methodLink RX3 70 yX3_follow ∈ zt := zt_of (lw_tb (i := 726) (by decide +kernel)) rfl
theorem ml_X3_87 : Cond.methodLink RX3 87 yX3_firstMove ∈ zt := zt_of (lw_tb (i := 730) (by decide +kernel)) rfl
theorem ml_X3_90 : Cond.methodLink RX3 90 yX3_fits ∈ zt := zt_of (lw_tb (i := 734) (by decide +kernel)) rfl
theorem ml_X6_272 : Cond.methodLink RX6 272 yX3_canBe ∈ zt := zt_of (lw_tb (i := 738) (by decide +kernel)) rfl
theorem ml_L_142 : Cond.methodLink RL 142 yX6_sheet ∈ zt := zt_of (lw_tb (i := 739) (by decide +kernel)) rfl
theorem ml_X6_282 : Cond.methodLink RX6 282 yX2_begin ∈ zt := zt_of (lw_tb (i := 743) (by decide +kernel)) rfl
theorem ml_X2_22 : Cond.methodLink RX2 22 yX2_isMissing ∈ zt := zt_of (lw_tb (i := 747) (by decide +kernel)) rfl
theorem ml_L_148 : Cond.methodLink RL 148 yX6_write ∈ zt := zt_of (lw_tb (i := 748) (by decide +kernel)) rfl
theorem ml_X6_288 : Cond.methodLink RX6 288 yX2_put ∈ zt := zt_of (lw_tb (i := 752) (by decide +kernel)) rfl
theorem ml_L_153 : Cond.methodLink RL 153 yX6_copy ∈ zt := zt_of (lw_tb (i := 756) (by decide +kernel)) rfl
theorem ml_X6_299 : Cond.methodLink RX6 299 yX2_hasFrom ∈ zt := zt_of (lw_tb (i := 760) (by decide +kernel)) rfl
theorem ml_L_158 : Cond.methodLink RL 158 yX6_turns ∈ zt := zt_of (lw_tb (i := 764) (by decide +kernel)) rfl
theorem ml_L_162 : Cond.methodLink RL 162 yX6_read ∈ zt := zt_of (lw_tb (i := 770) (by decide +kernel)) rfl
theorem ml_L_166 : Cond.methodLink RL 166 yX6_image ∈ zt := zt_of (lw_tb (i := 774) (by decide +kernel)) rfl
theorem ml_L_170 : Cond.methodLink RL 170 yX6_undo ∈ zt := zt_of (lw_tb (i := 778) (by decide +kernel)) rfl
theorem ml_L_174 : Cond.methodLink RL 174 yX6_tear ∈ zt := zt_of (lw_tb (i := 782) (by decide +kernel)) rfl
theorem ml_L_178 : Cond.methodLink RL 178 yX6_count ∈ zt := zt_of (lw_tb (i := 786) (by decide +kernel)) rfl
theorem ml_X6_307 : Cond.methodLink RX6 307 yX5_openOnes ∈ zt := zt_of (lw_tb (i := 790) (by decide +kernel)) rfl
theorem ml_X6_311 : Cond.methodLink RX6 311 yX5_allLooks ∈ zt := zt_of (lw_tb (i := 791) (by decide +kernel)) rfl
theorem ml_X6_314 : Cond.methodLink RX6 314 yX5_nextWarned ∈ zt := zt_of (lw_tb (i := 795) (by decide +kernel)) rfl
theorem ml_L_182 : Cond.methodLink RL 182 yX6_status ∈ zt := zt_of (lw_tb (i := 796) (by decide +kernel)) rfl
theorem ml_L_12 : Cond.methodLink RL 12 yX7_init ∈ zt := zt_of (lw_tb (i := 802) (by decide +kernel)) rfl
theorem ml_L_17 : Cond.methodLink RL 17 yX7_plan ∈ zt := zt_of (lw_tb (i := 880) (by decide +kernel)) rfl
theorem ml_X7_85 : Cond.methodLink RX7 85 yX7_in ∈ zt := zt_of (lw_tb (i := 885) (by decide +kernel)) rfl
theorem ml_X7_89 : Cond.methodLink RX7 89 yX7_mostOf ∈ zt := zt_of (lw_tb (i := 888) (by decide +kernel)) rfl
theorem ml_X7_93 : Cond.methodLink RX7 93 yX7_finding ∈ zt := zt_of (lw_tb (i := 895) (by decide +kernel)) rfl
theorem ml_X7_71 : Cond.methodLink RX7 71 yX7_its ∈ zt := zt_of (lw_tb (i := 900) (by decide +kernel)) rfl
theorem ml_L_22 : Cond.methodLink RL 22 yX7_move ∈ zt := zt_of (lw_tb (i := 904) (by decide +kernel)) rfl
theorem ml_X7_107 : Cond.methodLink RX7 107 yX7_isMove ∈ zt := zt_of (lw_tb (i := 908) (by decide +kernel)) rfl
theorem ml_X7_111 : Cond.methodLink RX7 111 yX7_height ∈ zt := zt_of (lw_tb (i := 913) (by decide +kernel)) rfl
theorem ml_X7_115 : Cond.methodLink RX7 115 yX7_fuel ∈ zt := zt_of (lw_tb (i := 917) (by decide +kernel)) rfl
theorem ml_X7_118 : Cond.methodLink RX7 118 yX7_can ∈ zt := zt_of (lw_tb (i := 921) (by decide +kernel)) rfl
theorem ml_X7_100 : Cond.methodLink RX7 100 yX7_size ∈ zt := zt_of (lw_tb (i := 927) (by decide +kernel)) rfl
theorem ml_X7_122 : Cond.methodLink RX7 122 yX7_goes ∈ zt := zt_of (lw_tb (i := 930) (by decide +kernel)) rfl
theorem ml_L_26 : Cond.methodLink RL 26 yX7_may ∈ zt := zt_of (lw_tb (i := 934) (by decide +kernel)) rfl
theorem ml_L_30 : Cond.methodLink RL 30 yX7_days ∈ zt := zt_of (lw_tb (i := 938) (by decide +kernel)) rfl
theorem ml_X7_143 : Cond.methodLink RX7 143 yX7_go ∈ zt := zt_of (lw_tb (i := 942) (by decide +kernel)) rfl
theorem ml_X7_129 : Cond.methodLink RX7 129 yX7_today ∈ zt := zt_of (lw_tb (i := 946) (by decide +kernel)) rfl
theorem ml_X7_136 : Cond.methodLink RX7 136 yX7_movesBy ∈ zt := zt_of (lw_tb (i := 950) (by decide +kernel)) rfl
theorem ml_X7_248 : Cond.methodLink RX7 248 yX7_told ∈ zt := zt_of (lw_tb (i := 954) (by decide +kernel)) rfl
theorem ml_X7_239 : Cond.methodLink RX7 239 yX7_nextDay ∈ zt := zt_of (lw_tb (i := 958) (by decide +kernel)) rfl
theorem ml_X7_147 : Cond.methodLink RX7 147 yX7_of1 ∈ zt := zt_of (lw_tb (i := 962) (by decide +kernel)) rfl
theorem ml_X7_132 : Cond.methodLink RX7 132 yX7_dangerAt ∈ zt := zt_of (lw_tb (i := 966) (by decide +kernel)) rfl
theorem ml_X7_170 : Cond.methodLink RX7 170 yX7_struckBy ∈ zt := zt_of (lw_tb (i := 970) (by decide +kernel)) rfl
theorem ml_X7_161 : Cond.methodLink RX7 161 yX7_plain ∈ zt := zt_of (lw_tb (i := 974) (by decide +kernel)) rfl
theorem ml_X7_164 : Cond.methodLink RX7 164 yX7_close ∈ zt := zt_of (lw_tb (i := 977) (by decide +kernel)) rfl
theorem ml_X7_242 : Cond.methodLink RX7 242 yX7_openMany ∈ zt := zt_of (lw_tb (i := 981) (by decide +kernel)) rfl
theorem ml_X7_156 : Cond.methodLink RX7 156 yX7_isOpen ∈ zt := zt_of (lw_tb (i := 985) (by decide +kernel)) rfl
theorem ml_X7_245 : Cond.methodLink RX7 245 yX7_joined ∈ zt := zt_of (lw_tb (i := 989) (by decide +kernel)) rfl
theorem ml_X7_140 : Cond.methodLink RX7 140 yX7_ends ∈ zt := zt_of (lw_tb (i := 992) (by decide +kernel)) rfl
theorem ml_X7_126 : Cond.methodLink RX7 126 yX7_useAt ∈ zt := zt_of (lw_tb (i := 996) (by decide +kernel)) rfl
theorem ml_L_34 : Cond.methodLink RL 34 yX7_runs ∈ zt := zt_of (lw_tb (i := 1000) (by decide +kernel)) rfl
theorem ml_L_39 : Cond.methodLink RL 39 yX7_thing ∈ zt := zt_of (lw_tb (i := 1004) (by decide +kernel)) rfl
theorem ml_L_44 : Cond.methodLink RL 44 yX7_warn ∈ zt := zt_of (lw_tb (i := 1008) (by decide +kernel)) rfl
theorem ml_L_48 : Cond.methodLink RL 48 yX7_of ∈ zt := zt_of (lw_tb (i := 1012) (by decide +kernel)) rfl
theorem ml_X7_150 : Cond.methodLink RX7 150 yX7_isWarning ∈ zt := zt_of (lw_tb (i := 1016) (by decide +kernel)) rfl
theorem ml_L_52 : Cond.methodLink RL 52 yX7_as ∈ zt := zt_of (lw_tb (i := 1021) (by decide +kernel)) rfl
theorem ml_L_56 : Cond.methodLink RL 56 yX7_struck ∈ zt := zt_of (lw_tb (i := 1025) (by decide +kernel)) rfl
theorem ml_X7_167 : Cond.methodLink RX7 167 yX7_isHeight ∈ zt := zt_of (lw_tb (i := 1029) (by decide +kernel)) rfl
theorem ml_L_61 : Cond.methodLink RL 61 yX7_look ∈ zt := zt_of (lw_tb (i := 1032) (by decide +kernel)) rfl
theorem ml_X7_179 : Cond.methodLink RX7 179 yX7_looks ∈ zt := zt_of (lw_tb (i := 1036) (by decide +kernel)) rfl
theorem ml_X7_175 : Cond.methodLink RX7 175 yX7_behind ∈ zt := zt_of (lw_tb (i := 1041) (by decide +kernel)) rfl
theorem ml_L_65 : Cond.methodLink RL 65 yX7_think ∈ zt := zt_of (lw_tb (i := 1045) (by decide +kernel)) rfl
theorem ml_L_69 : Cond.methodLink RL 69 yX7_danger ∈ zt := zt_of (lw_tb (i := 1049) (by decide +kernel)) rfl
theorem ml_X7_183 : Cond.methodLink RX7 183 yX7_isDay ∈ zt := zt_of (lw_tb (i := 1053) (by decide +kernel)) rfl
theorem ml_L_73 : Cond.methodLink RL 73 yX7_safest ∈ zt := zt_of (lw_tb (i := 1056) (by decide +kernel)) rfl
theorem ml_L_78 : Cond.methodLink RL 78 yX7_open ∈ zt := zt_of (lw_tb (i := 1060) (by decide +kernel)) rfl
theorem ml_L_82 : Cond.methodLink RL 82 yX7_feed ∈ zt := zt_of (lw_tb (i := 1064) (by decide +kernel)) rfl
theorem ml_L_86 : Cond.methodLink RL 86 yX7_wipe ∈ zt := zt_of (lw_tb (i := 1069) (by decide +kernel)) rfl
theorem ml_L_90 : Cond.methodLink RL 90 yX7_rule ∈ zt := zt_of (lw_tb (i := 1073) (by decide +kernel)) rfl
theorem ml_X7_236 : Cond.methodLink RX7 236 yX7_whole ∈ zt := zt_of (lw_tb (i := 1077) (by decide +kernel)) rfl
theorem ml_X7_201 : Cond.methodLink RX7 201 yX7_sum ∈ zt := zt_of (lw_tb (i := 1081) (by decide +kernel)) rfl
theorem ml_X7_220 : Cond.methodLink RX7 220 yX7_part ∈ zt := zt_of (lw_tb (i := 1085) (by decide +kernel)) rfl
theorem ml_X7_195 : Cond.methodLink RX7 195 yX7_here ∈ zt := zt_of (lw_tb (i := 1089) (by decide +kernel)) rfl
theorem ml_X7_226 : Cond.methodLink RX7 226 yX7_isName ∈ zt := zt_of (lw_tb (i := 1093) (by decide +kernel)) rfl
theorem ml_X7_213 : Cond.methodLink RX7 213 yX7_lays ∈ zt := zt_of (lw_tb (i := 1096) (by decide +kernel)) rfl
theorem ml_X7_233 : Cond.methodLink RX7 233 yX7_opens ∈ zt := zt_of (lw_tb (i := 1102) (by decide +kernel)) rfl
theorem ml_X7_211 : Cond.methodLink RX7 211 yX7_takes ∈ zt := zt_of (lw_tb (i := 1106) (by decide +kernel)) rfl
theorem ml_X7_205 : Cond.methodLink RX7 205 yX7_isCompare ∈ zt := zt_of (lw_tb (i := 1110) (by decide +kernel)) rfl
theorem ml_X7_208 : Cond.methodLink RX7 208 yX7_condition ∈ zt := zt_of (lw_tb (i := 1114) (by decide +kernel)) rfl
theorem ml_X7_217 : Cond.methodLink RX7 217 yX7_compared ∈ zt := zt_of (lw_tb (i := 1118) (by decide +kernel)) rfl
theorem ml_L_94 : Cond.methodLink RL 94 yX7_drift ∈ zt := zt_of (lw_tb (i := 1122) (by decide +kernel)) rfl
theorem ml_L_98 : Cond.methodLink RL 98 yX7_says ∈ zt := zt_of (lw_tb (i := 1126) (by decide +kernel)) rfl
theorem ml_L_103 : Cond.methodLink RL 103 yX7_best ∈ zt := zt_of (lw_tb (i := 1130) (by decide +kernel)) rfl
theorem ml_X7_270 : Cond.methodLink RX7 270 yX7_isAhead ∈ zt := zt_of (lw_tb (i := 1134) (by decide +kernel)) rfl
theorem ml_X7_275 : Cond.methodLink RX7 275 yX7_bestWorth ∈ zt := zt_of (lw_tb (i := 1139) (by decide +kernel)) rfl
theorem ml_X7_265 : Cond.methodLink RX7 265 yX7_findBest ∈ zt := zt_of (lw_tb (i := 1143) (by decide +kernel)) rfl
theorem ml_X7_251 : Cond.methodLink RX7 251 yX7_dayWorth ∈ zt := zt_of (lw_tb (i := 1147) (by decide +kernel)) rfl
theorem ml_X7_255 : Cond.methodLink RX7 255 yX7_findOne ∈ zt := zt_of (lw_tb (i := 1151) (by decide +kernel)) rfl
theorem ml_X7_259 : Cond.methodLink RX7 259 yX7_place ∈ zt := zt_of (lw_tb (i := 1155) (by decide +kernel)) rfl
theorem ml_X7_262 : Cond.methodLink RX7 262 yX7_moveAt ∈ zt := zt_of (lw_tb (i := 1158) (by decide +kernel)) rfl
theorem ml_X7_278 : Cond.methodLink RX7 278 yX7_moveOf ∈ zt := zt_of (lw_tb (i := 1161) (by decide +kernel)) rfl
theorem ml_L_107 : Cond.methodLink RL 107 yX7_turn ∈ zt := zt_of (lw_tb (i := 1165) (by decide +kernel)) rfl
theorem ml_L_111 : Cond.methodLink RL 111 yX7_rest ∈ zt := zt_of (lw_tb (i := 1169) (by decide +kernel)) rfl
theorem ml_L_115 : Cond.methodLink RL 115 yX7_home ∈ zt := zt_of (lw_tb (i := 1173) (by decide +kernel)) rfl
theorem ml_L_120 : Cond.methodLink RL 120 yX7_know ∈ zt := zt_of (lw_tb (i := 1178) (by decide +kernel)) rfl
theorem ml_X7_283 : Cond.methodLink RX7 283 yX7_worthBehind ∈ zt := zt_of (lw_tb (i := 1182) (by decide +kernel)) rfl
theorem ml_L_124 : Cond.methodLink RL 124 yX7_life ∈ zt := zt_of (lw_tb (i := 1186) (by decide +kernel)) rfl
theorem ml_X7_292 : Cond.methodLink RX7 292 yX7_lasts ∈ zt := zt_of (lw_tb (i := 1190) (by decide +kernel)) rfl
theorem ml_L_128 : Cond.methodLink RL 128 yX7_lives ∈ zt := zt_of (lw_tb (i := 1195) (by decide +kernel)) rfl
theorem ml_L_132 : Cond.methodLink RL 132 yX7_rests ∈ zt := zt_of (lw_tb (i := 1199) (by decide +kernel)) rfl
theorem ml_X7_301 : Cond.methodLink RX7 301 yX7_hinders ∈ zt := zt_of (lw_tb (i := 1203) (by decide +kernel)) rfl
theorem ml_X7_295 : Cond.methodLink RX7 295 yX7_isSheet ∈ zt := zt_of (lw_tb (i := 1207) (by decide +kernel)) rfl
theorem ml_X7_298 : Cond.methodLink RX7 298 yX7_numberOf ∈ zt := zt_of (lw_tb (i := 1210) (by decide +kernel)) rfl
theorem ml_X7_305 : Cond.methodLink RX7 305 yX7_isRest ∈ zt := zt_of (lw_tb (i := 1214) (by decide +kernel)) rfl
theorem ml_L_136 : Cond.methodLink RL 136 yX7_both ∈ zt := zt_of (lw_tb (i := 1218) (by decide +kernel)) rfl
theorem ml_L_141 : Cond.methodLink RL 141 yX7_swarm ∈ zt := zt_of (lw_tb (i := 1222) (by decide +kernel)) rfl
theorem ml_X7_313 : Cond.methodLink RX7 313 yX7_findSwarm ∈ zt := zt_of (lw_tb (i := 1227) (by decide +kernel)) rfl
theorem ml_X7_308 : Cond.methodLink RX7 308 yX7_heightOf ∈ zt := zt_of (lw_tb (i := 1231) (by decide +kernel)) rfl
theorem ml_L_145 : Cond.methodLink RL 145 yX7_sheet ∈ zt := zt_of (lw_tb (i := 1235) (by decide +kernel)) rfl
theorem ml_L_152 : Cond.methodLink RL 152 yX7_write ∈ zt := zt_of (lw_tb (i := 1239) (by decide +kernel)) rfl
theorem ml_L_157 : Cond.methodLink RL 157 yX7_copy ∈ zt := zt_of (lw_tb (i := 1243) (by decide +kernel)) rfl
theorem ml_L_161 : Cond.methodLink RL 161 yX7_turns ∈ zt := zt_of (lw_tb (i := 1247) (by decide +kernel)) rfl
theorem ml_X7_316 : Cond.methodLink RX7 316 yX7_lacks ∈ zt := zt_of (lw_tb (i := 1251) (by decide +kernel)) rfl
theorem ml_L_165 : Cond.methodLink RL 165 yX7_read ∈ zt := zt_of (lw_tb (i := 1255) (by decide +kernel)) rfl
theorem ml_L_169 : Cond.methodLink RL 169 yX7_image ∈ zt := zt_of (lw_tb (i := 1259) (by decide +kernel)) rfl
theorem ml_L_173 : Cond.methodLink RL 173 yX7_undo ∈ zt := zt_of (lw_tb (i := 1263) (by decide +kernel)) rfl
theorem ml_L_177 : Cond.methodLink RL 177 yX7_tear ∈ zt := zt_of (lw_tb (i := 1267) (by decide +kernel)) rfl
theorem ml_L_181 : Cond.methodLink RL 181 yX7_count ∈ zt := zt_of (lw_tb (i := 1271) (by decide +kernel)) rfl
theorem ml_L_185 : Cond.methodLink RL 185 yX7_status ∈ zt := zt_of (lw_tb (i := 1275) (by decide +kernel)) rfl
theorem kc_X5_25 : Cond.constant RX5 25 (1000000) ∈ zt := zt_of (lw_tb (i := 25) (by decide +kernel)) rfl
theorem kc_X6_79 : Cond.constant RX6 79 (-1000000001) ∈ zt := zt_of (lw_tb (i := 310) (by decide +kernel)) rfl
theorem kc_X6_94 : Cond.constant RX6 94 (-1000000005) ∈ zt := zt_of (lw_tb (i := 329) (by decide +kernel)) rfl
theorem kc_X4_38 : Cond.constant RX4 38 (1000000) ∈ zt := zt_of (lw_tb (i := 361) (by decide +kernel)) rfl
theorem kc_X6_124 : Cond.constant RX6 124 (1000000) ∈ zt := zt_of (lw_tb (i := 453) (by decide +kernel)) rfl
theorem kc_X6_128 : Cond.constant RX6 128 (-1000000002) ∈ zt := zt_of (lw_tb (i := 454) (by decide +kernel)) rfl
theorem kc_X6_165 : Cond.constant RX6 165 (-1000000003) ∈ zt := zt_of (lw_tb (i := 478) (by decide +kernel)) rfl
theorem kc_X6_227 : Cond.constant RX6 227 (-1000000004) ∈ zt := zt_of (lw_tb (i := 610) (by decide +kernel)) rfl
theorem kc_X6_320 : Cond.constant RX6 320 (1103515245) ∈ zt := zt_of (lw_tb (i := 648) (by decide +kernel)) rfl
theorem kc_X6_295 : Cond.constant RX6 295 (-1000000006) ∈ zt := zt_of (lw_tb (i := 672) (by decide +kernel)) rfl
theorem kc_X6_281 : Cond.constant RX6 281 (-1000000007) ∈ zt := zt_of (lw_tb (i := 673) (by decide +kernel)) rfl
theorem kc_X3_73 : Cond.constant RX3 73 (1000000) ∈ zt := zt_of (lw_tb (i := 713) (by decide +kernel)) rfl
theorem kc_X7_70 : Cond.constant RX7 70 (-1000000001) ∈ zt := zt_of (lw_tb (i := 899) (by decide +kernel)) rfl
theorem kc_X7_160 : Cond.constant RX7 160 (1000000) ∈ zt := zt_of (lw_tb (i := 980) (by decide +kernel)) rfl
theorem kc_X7_291 : Cond.constant RX7 291 (1103515245) ∈ zt := zt_of (lw_tb (i := 1194) (by decide +kernel)) rfl
theorem kl_X4_39 : Cond.constantLong RX4 39 (1000000) ∈ zt := zt_of (lw_tb (i := 495) (by decide +kernel)) rfl
theorem kl_X5_89 : Cond.constantLong RX5 89 (1000000) ∈ zt := zt_of (lw_tb (i := 563) (by decide +kernel)) rfl
theorem kl_X0_76 : Cond.constantLong RX0 76 (64) ∈ zt := zt_of (lw_tb (i := 567) (by decide +kernel)) rfl
theorem kl_X4_45 : Cond.constantLong RX4 45 (100) ∈ zt := zt_of (lw_tb (i := 634) (by decide +kernel)) rfl
theorem kl_X6_238 : Cond.constantLong RX6 238 (1000000) ∈ zt := zt_of (lw_tb (i := 635) (by decide +kernel)) rfl
theorem kl_X6_321 : Cond.constantLong RX6 321 (-2000000) ∈ zt := zt_of (lw_tb (i := 688) (by decide +kernel)) rfl
theorem kl_X6_303 : Cond.constantLong RX6 303 (-24) ∈ zt := zt_of (lw_tb (i := 768) (by decide +kernel)) rfl
theorem kl_X6_305 : Cond.constantLong RX6 305 (24) ∈ zt := zt_of (lw_tb (i := 769) (by decide +kernel)) rfl
theorem kl_X7_62 : Cond.constantLong RX7 62 (100) ∈ zt := zt_of (lw_tb (i := 806) (by decide +kernel)) rfl
theorem kl_X7_64 : Cond.constantLong RX7 64 (10) ∈ zt := zt_of (lw_tb (i := 807) (by decide +kernel)) rfl
theorem kl_X7_66 : Cond.constantLong RX7 66 (1000000) ∈ zt := zt_of (lw_tb (i := 808) (by decide +kernel)) rfl
theorem kl_X7_68 : Cond.constantLong RX7 68 (9) ∈ zt := zt_of (lw_tb (i := 809) (by decide +kernel)) rfl
theorem kl_X7_83 : Cond.constantLong RX7 83 (5) ∈ zt := zt_of (lw_tb (i := 884) (by decide +kernel)) rfl
theorem kl_X7_75 : Cond.constantLong RX7 75 (9999) ∈ zt := zt_of (lw_tb (i := 891) (by decide +kernel)) rfl
theorem kl_X7_77 : Cond.constantLong RX7 77 (999) ∈ zt := zt_of (lw_tb (i := 892) (by decide +kernel)) rfl
theorem kl_X7_79 : Cond.constantLong RX7 79 (99999999) ∈ zt := zt_of (lw_tb (i := 893) (by decide +kernel)) rfl
theorem kl_X7_81 : Cond.constantLong RX7 81 (60) ∈ zt := zt_of (lw_tb (i := 894) (by decide +kernel)) rfl
theorem kl_X7_103 : Cond.constantLong RX7 103 (-24) ∈ zt := zt_of (lw_tb (i := 911) (by decide +kernel)) rfl
theorem kl_X7_105 : Cond.constantLong RX7 105 (24) ∈ zt := zt_of (lw_tb (i := 912) (by decide +kernel)) rfl
theorem kl_X7_96 : Cond.constantLong RX7 96 (-12) ∈ zt := zt_of (lw_tb (i := 925) (by decide +kernel)) rfl
theorem kl_X7_98 : Cond.constantLong RX7 98 (12) ∈ zt := zt_of (lw_tb (i := 926) (by decide +kernel)) rfl
theorem kl_X7_154 : Cond.constantLong RX7 154 (6) ∈ zt := zt_of (lw_tb (i := 1020) (by decide +kernel)) rfl
theorem kl_X7_173 : Cond.constantLong RX7 173 (50) ∈ zt := zt_of (lw_tb (i := 1040) (by decide +kernel)) rfl
theorem kl_X7_186 : Cond.constantLong RX7 186 (4) ∈ zt := zt_of (lw_tb (i := 1068) (by decide +kernel)) rfl
theorem kl_X7_229 : Cond.constantLong RX7 229 (48) ∈ zt := zt_of (lw_tb (i := 1100) (by decide +kernel)) rfl
theorem kl_X7_231 : Cond.constantLong RX7 231 (57) ∈ zt := zt_of (lw_tb (i := 1101) (by decide +kernel)) rfl
theorem kl_X7_268 : Cond.constantLong RX7 268 (8) ∈ zt := zt_of (lw_tb (i := 1137) (by decide +kernel)) rfl
theorem kl_X7_273 : Cond.constantLong RX7 273 (3) ∈ zt := zt_of (lw_tb (i := 1138) (by decide +kernel)) rfl
theorem kl_X7_281 : Cond.constantLong RX7 281 (20) ∈ zt := zt_of (lw_tb (i := 1177) (by decide +kernel)) rfl
theorem kl_X7_311 : Cond.constantLong RX7 311 (13) ∈ zt := zt_of (lw_tb (i := 1226) (by decide +kernel)) rfl
theorem kl_X7_322 : Cond.constantLong RX7 322 (-1) ∈ zt := zt_of (lw_tb (i := 1279) (by decide +kernel)) rfl
theorem kl_L_146 : Cond.constantLong RL 146 (4294967295) ∈ zt := zt_of (lw_tb (i := 1280) (by decide +kernel)) rfl
set_option maxRecDepth 100000 in
theorem yv_X0_make : zYv yX0_make cX0_make 4 (some .long) 2 0 := ⟨(RX0, TX0, 8), rfl, rfl, by decide, by decide, zt_of (lw_tb (i := 549) rfl) rfl, zt_of (lw_tb (i := 547) (by decide +kernel)) rfl, zt_of (lw_tb (i := 548) (by decide +kernel)) rfl, zt_of (lw_tb (i := 5) (by decide +kernel)) rfl, by decide, by decide, by decide +kernel⟩
set_option maxRecDepth 100000 in
theorem yv_X0_stay : zYv yX0_stay cX0_stay 11 none 2 0 := ⟨(RX0, TX0, 8), rfl, rfl, by decide, by decide, zt_of (lw_tb (i := 558) rfl) rfl, zt_of (lw_tb (i := 557) (by decide +kernel)) rfl, zt_of (lw_sb (i := 13) (by decide +kernel)) rfl, zt_of (lw_tb (i := 5) (by decide +kernel)) rfl, by decide, by decide, by decide +kernel⟩
set_option maxRecDepth 100000 in
theorem yv_X0_spread : zYv yX0_spread cX0_spread 3 none 1 0 := ⟨(RX0, TX0, 8), rfl, rfl, by decide, by decide, zt_of (lw_tb (i := 571) rfl) rfl, zt_of (lw_tb (i := 570) (by decide +kernel)) rfl, zt_of (lw_sb (i := 14) (by decide +kernel)) rfl, zt_of (lw_tb (i := 5) (by decide +kernel)) rfl, by decide, by decide, by decide +kernel⟩
set_option maxRecDepth 100000 in
theorem yv_X0_step : zYv yX0_step cX0_step 9 none 3 0 := ⟨(RX0, TX0, 8), rfl, rfl, by decide, by decide, zt_of (lw_tb (i := 575) rfl) rfl, zt_of (lw_tb (i := 574) (by decide +kernel)) rfl, zt_of (lw_sb (i := 15) (by decide +kernel)) rfl, zt_of (lw_tb (i := 5) (by decide +kernel)) rfl, by decide, by decide, by decide +kernel⟩
set_option maxRecDepth 100000 in
theorem ys_X0_cell : zYs yX0_cell cX0_cell 3 (some .int) 3 := ⟨by decide, zt_of (lw_tb (i := 566) rfl) rfl, zt_of (lw_tb (i := 565) (by decide +kernel)) rfl, zt_of (lw_tb (i := 5) (by decide +kernel)) rfl, by decide, by decide, by decide +kernel⟩
set_option maxRecDepth 100000 in
theorem yv_X0_valueFrom : zYv yX0_valueFrom cX0_valueFrom 4 (some .long) 3 0 := ⟨(RX0, TX0, 8), rfl, rfl, by decide, by decide, zt_of (lw_tb (i := 592) rfl) rfl, zt_of (lw_tb (i := 591) (by decide +kernel)) rfl, zt_of (lw_sb (i := 19) (by decide +kernel)) rfl, zt_of (lw_tb (i := 5) (by decide +kernel)) rfl, by decide, by decide, by decide +kernel⟩
set_option maxRecDepth 100000 in
theorem yv_X0_follow : zYv yX0_follow cX0_follow 6 none 1 0 := ⟨(RX0, TX0, 8), rfl, rfl, by decide, by decide, zt_of (lw_tb (i := 579) rfl) rfl, zt_of (lw_tb (i := 578) (by decide +kernel)) rfl, zt_of (lw_sb (i := 16) (by decide +kernel)) rfl, zt_of (lw_tb (i := 5) (by decide +kernel)) rfl, by decide, by decide, by decide +kernel⟩
set_option maxRecDepth 100000 in
theorem yv_X0_firstMove : zYv yX0_firstMove cX0_firstMove 5 (some .int) 3 0 := ⟨(RX0, TX0, 8), rfl, rfl, by decide, by decide, zt_of (lw_tb (i := 583) rfl) rfl, zt_of (lw_tb (i := 582) (by decide +kernel)) rfl, zt_of (lw_sb (i := 17) (by decide +kernel)) rfl, zt_of (lw_tb (i := 5) (by decide +kernel)) rfl, by decide, by decide, by decide +kernel⟩
set_option maxRecDepth 100000 in
theorem yv_X0_keepsValue : zYv yX0_keepsValue cX0_keepsValue 9 (some .boolean) 4 0 := ⟨(RX0, TX0, 8), rfl, rfl, by decide, by decide, zt_of (lw_tb (i := 587) rfl) rfl, zt_of (lw_tb (i := 586) (by decide +kernel)) rfl, zt_of (lw_sb (i := 18) (by decide +kernel)) rfl, zt_of (lw_tb (i := 5) (by decide +kernel)) rfl, by decide, by decide, by decide +kernel⟩
set_option maxRecDepth 100000 in
theorem yv_X1_told : zYv yX1_told cX1_told 2 (some .int) 1 1 := ⟨(RX1, TX1, 16), rfl, rfl, by decide, by decide, zt_of (lw_tb (i := 376) rfl) rfl, zt_of (lw_tb (i := 374) (by decide +kernel)) rfl, zt_of (lw_tb (i := 375) (by decide +kernel)) rfl, zt_of (lw_tb (i := 4) (by decide +kernel)) rfl, by decide, by decide, by decide +kernel⟩
set_option maxRecDepth 100000 in
theorem yv_X1_faultOf : zYv yX1_faultOf cX1_faultOf 3 (some .int) 2 1 := ⟨(RX1, TX1, 16), rfl, rfl, by decide, by decide, zt_of (lw_tb (i := 528) rfl) rfl, zt_of (lw_tb (i := 526) (by decide +kernel)) rfl, zt_of (lw_tb (i := 527) (by decide +kernel)) rfl, zt_of (lw_tb (i := 4) (by decide +kernel)) rfl, by decide, by decide, by decide +kernel⟩
set_option maxRecDepth 100000 in
theorem yv_X1_learn : zYv yX1_learn cX1_learn 3 none 1 1 := ⟨(RX1, TX1, 16), rfl, rfl, by decide, by decide, zt_of (lw_tb (i := 384) rfl) rfl, zt_of (lw_tb (i := 383) (by decide +kernel)) rfl, zt_of (lw_sb (i := 1) (by decide +kernel)) rfl, zt_of (lw_tb (i := 4) (by decide +kernel)) rfl, by decide, by decide, by decide +kernel⟩
set_option maxRecDepth 100000 in
theorem ys_X1_nameOf : zYs yX1_nameOf cX1_nameOf 1 (some .int) 1 := ⟨by decide, zt_of (lw_tb (i := 424) rfl) rfl, zt_of (lw_tb (i := 423) (by decide +kernel)) rfl, zt_of (lw_tb (i := 4) (by decide +kernel)) rfl, by decide, by decide, by decide +kernel⟩
set_option maxRecDepth 100000 in
theorem yv_X1_readText : zYv yX1_readText cX1_readText 7 none 2 1 := ⟨(RX1, TX1, 16), rfl, rfl, by decide, by decide, zt_of (lw_tb (i := 401) rfl) rfl, zt_of (lw_tb (i := 400) (by decide +kernel)) rfl, zt_of (lw_sb (i := 2) (by decide +kernel)) rfl, zt_of (lw_tb (i := 4) (by decide +kernel)) rfl, by decide, by decide, by decide +kernel⟩
set_option maxRecDepth 100000 in
theorem yv_X1_beginSum : zYv yX1_beginSum cX1_beginSum 2 none 1 1 := ⟨(RX1, TX1, 16), rfl, rfl, by decide, by decide, zt_of (lw_tb (i := 405) rfl) rfl, zt_of (lw_tb (i := 404) (by decide +kernel)) rfl, zt_of (lw_sb (i := 3) (by decide +kernel)) rfl, zt_of (lw_tb (i := 4) (by decide +kernel)) rfl, by decide, by decide, by decide +kernel⟩
set_option maxRecDepth 100000 in
theorem yv_X1_takesDigit : zYv yX1_takesDigit cX1_takesDigit 2 (some .boolean) 1 1 := ⟨(RX1, TX1, 16), rfl, rfl, by decide, by decide, zt_of (lw_tb (i := 417) rfl) rfl, zt_of (lw_tb (i := 416) (by decide +kernel)) rfl, zt_of (lw_sb (i := 6) (by decide +kernel)) rfl, zt_of (lw_tb (i := 4) (by decide +kernel)) rfl, by decide, by decide, by decide +kernel⟩
set_option maxRecDepth 100000 in
theorem yv_X1_endNumber : zYv yX1_endNumber cX1_endNumber 1 none 0 1 := ⟨(RX1, TX1, 16), rfl, rfl, by decide, by decide, zt_of (lw_tb (i := 409) rfl) rfl, zt_of (lw_tb (i := 408) (by decide +kernel)) rfl, zt_of (lw_sb (i := 4) (by decide +kernel)) rfl, zt_of (lw_tb (i := 4) (by decide +kernel)) rfl, by decide, by decide, by decide +kernel⟩
set_option maxRecDepth 100000 in
theorem yv_X1_takesInPart : zYv yX1_takesInPart cX1_takesInPart 3 (some .boolean) 1 1 := ⟨(RX1, TX1, 16), rfl, rfl, by decide, by decide, zt_of (lw_tb (i := 421) rfl) rfl, zt_of (lw_tb (i := 420) (by decide +kernel)) rfl, zt_of (lw_sb (i := 7) (by decide +kernel)) rfl, zt_of (lw_tb (i := 4) (by decide +kernel)) rfl, by decide, by decide, by decide +kernel⟩
set_option maxRecDepth 100000 in
theorem yv_X1_endPart : zYv yX1_endPart cX1_endPart 3 none 1 1 := ⟨(RX1, TX1, 16), rfl, rfl, by decide, by decide, zt_of (lw_tb (i := 413) rfl) rfl, zt_of (lw_tb (i := 412) (by decide +kernel)) rfl, zt_of (lw_sb (i := 5) (by decide +kernel)) rfl, zt_of (lw_tb (i := 4) (by decide +kernel)) rfl, by decide, by decide, by decide +kernel⟩
set_option maxRecDepth 100000 in
theorem yv_X1_takesBehindPart : zYv yX1_takesBehindPart cX1_takesBehindPart 3 (some .boolean) 1 1 := ⟨(RX1, TX1, 16), rfl, rfl, by decide, by decide, zt_of (lw_tb (i := 428) rfl) rfl, zt_of (lw_tb (i := 427) (by decide +kernel)) rfl, zt_of (lw_sb (i := 8) (by decide +kernel)) rfl, zt_of (lw_tb (i := 4) (by decide +kernel)) rfl, by decide, by decide, by decide +kernel⟩
set_option maxRecDepth 100000 in
theorem yv_X1_takesBehindSum : zYv yX1_takesBehindSum cX1_takesBehindSum 3 (some .boolean) 1 1 := ⟨(RX1, TX1, 16), rfl, rfl, by decide, by decide, zt_of (lw_tb (i := 432) rfl) rfl, zt_of (lw_tb (i := 431) (by decide +kernel)) rfl, zt_of (lw_sb (i := 9) (by decide +kernel)) rfl, zt_of (lw_tb (i := 4) (by decide +kernel)) rfl, by decide, by decide, by decide +kernel⟩
set_option maxRecDepth 100000 in
theorem yv_X1_placeBehind : zYv yX1_placeBehind cX1_placeBehind 2 (some .int) 1 1 := ⟨(RX1, TX1, 16), rfl, rfl, by decide, by decide, zt_of (lw_tb (i := 436) rfl) rfl, zt_of (lw_tb (i := 435) (by decide +kernel)) rfl, zt_of (lw_sb (i := 10) (by decide +kernel)) rfl, zt_of (lw_tb (i := 4) (by decide +kernel)) rfl, by decide, by decide, by decide +kernel⟩
set_option maxRecDepth 100000 in
theorem yv_X1_comparesRight : zYv yX1_comparesRight cX1_comparesRight 1 (some .boolean) 0 1 := ⟨(RX1, TX1, 16), rfl, rfl, by decide, by decide, zt_of (lw_tb (i := 440) rfl) rfl, zt_of (lw_tb (i := 439) (by decide +kernel)) rfl, zt_of (lw_sb (i := 11) (by decide +kernel)) rfl, zt_of (lw_tb (i := 4) (by decide +kernel)) rfl, by decide, by decide, by decide +kernel⟩
set_option maxRecDepth 100000 in
theorem yv_X2_isMissing : zYv yX2_isMissing cX2_isMissing 1 (some .boolean) 0 2 := ⟨(RX2, TX2, 3), rfl, rfl, by decide, by decide, zt_of (lw_tb (i := 671) rfl) rfl, zt_of (lw_tb (i := 669) (by decide +kernel)) rfl, zt_of (lw_tb (i := 670) (by decide +kernel)) rfl, zt_of (lw_tb (i := 7) (by decide +kernel)) rfl, by decide, by decide, by decide +kernel⟩
set_option maxRecDepth 100000 in
theorem yv_X2_begin : zYv yX2_begin cX2_begin 4 none 2 2 := ⟨(RX2, TX2, 3), rfl, rfl, by decide, by decide, zt_of (lw_tb (i := 746) rfl) rfl, zt_of (lw_tb (i := 744) (by decide +kernel)) rfl, zt_of (lw_tb (i := 745) (by decide +kernel)) rfl, zt_of (lw_tb (i := 7) (by decide +kernel)) rfl, by decide, by decide, by decide +kernel⟩
set_option maxRecDepth 100000 in
theorem yv_X2_put : zYv yX2_put cX2_put 4 none 2 2 := ⟨(RX2, TX2, 3), rfl, rfl, by decide, by decide, zt_of (lw_tb (i := 755) rfl) rfl, zt_of (lw_tb (i := 753) (by decide +kernel)) rfl, zt_of (lw_tb (i := 754) (by decide +kernel)) rfl, zt_of (lw_tb (i := 7) (by decide +kernel)) rfl, by decide, by decide, by decide +kernel⟩
set_option maxRecDepth 100000 in
theorem yv_X2_hasFrom : zYv yX2_hasFrom cX2_hasFrom 3 (some .boolean) 2 2 := ⟨(RX2, TX2, 3), rfl, rfl, by decide, by decide, zt_of (lw_tb (i := 763) rfl) rfl, zt_of (lw_tb (i := 761) (by decide +kernel)) rfl, zt_of (lw_tb (i := 762) (by decide +kernel)) rfl, zt_of (lw_tb (i := 7) (by decide +kernel)) rfl, by decide, by decide, by decide +kernel⟩
set_option maxRecDepth 100000 in
theorem yv_X2_isWithin : zYv yX2_isWithin cX2_isWithin 3 (some .boolean) 1 2 := ⟨(RX2, TX2, 3), rfl, rfl, by decide, by decide, zt_of (lw_tb (i := 677) rfl) rfl, zt_of (lw_tb (i := 675) (by decide +kernel)) rfl, zt_of (lw_tb (i := 676) (by decide +kernel)) rfl, zt_of (lw_tb (i := 7) (by decide +kernel)) rfl, by decide, by decide, by decide +kernel⟩
set_option maxRecDepth 100000 in
theorem yv_X3_load : zYv yX3_load cX3_load 5 none 3 3 := ⟨(RX3, TX3, 11), rfl, rfl, by decide, by decide, zt_of (lw_tb (i := 702) rfl) rfl, zt_of (lw_tb (i := 700) (by decide +kernel)) rfl, zt_of (lw_tb (i := 701) (by decide +kernel)) rfl, zt_of (lw_tb (i := 6) (by decide +kernel)) rfl, by decide, by decide, by decide +kernel⟩
set_option maxRecDepth 100000 in
theorem yv_X3_canBe : zYv yX3_canBe cX3_canBe 1 (some .boolean) 0 3 := ⟨(RX3, TX3, 11), rfl, rfl, by decide, by decide, zt_of (lw_tb (i := 725) rfl) rfl, zt_of (lw_tb (i := 723) (by decide +kernel)) rfl, zt_of (lw_tb (i := 724) (by decide +kernel)) rfl, zt_of (lw_tb (i := 6) (by decide +kernel)) rfl, by decide, by decide, by decide +kernel⟩
set_option maxRecDepth 100000 in
theorem yv_X3_weigh : zYv yX3_weigh cX3_weigh 5 none 1 3 := ⟨(RX3, TX3, 11), rfl, rfl, by decide, by decide, zt_of (lw_tb (i := 707) rfl) rfl, zt_of (lw_tb (i := 706) (by decide +kernel)) rfl, zt_of (lw_sb (i := 25) (by decide +kernel)) rfl, zt_of (lw_tb (i := 6) (by decide +kernel)) rfl, by decide, by decide, by decide +kernel⟩
set_option maxRecDepth 100000 in
theorem ys_X3_costOf : zYs yX3_costOf cX3_costOf 1 (some .int) 1 := ⟨by decide, zt_of (lw_tb (i := 716) rfl) rfl, zt_of (lw_tb (i := 715) (by decide +kernel)) rfl, zt_of (lw_tb (i := 6) (by decide +kernel)) rfl, by decide, by decide, by decide +kernel⟩
set_option maxRecDepth 100000 in
theorem yv_X3_costBehind : zYv yX3_costBehind cX3_costBehind 8 (some .int) 2 3 := ⟨(RX3, TX3, 11), rfl, rfl, by decide, by decide, zt_of (lw_tb (i := 711) rfl) rfl, zt_of (lw_tb (i := 710) (by decide +kernel)) rfl, zt_of (lw_sb (i := 26) (by decide +kernel)) rfl, zt_of (lw_tb (i := 6) (by decide +kernel)) rfl, by decide, by decide, by decide +kernel⟩
set_option maxRecDepth 100000 in
theorem yv_X3_gather : zYv yX3_gather cX3_gather 4 none 1 3 := ⟨(RX3, TX3, 11), rfl, rfl, by decide, by decide, zt_of (lw_tb (i := 721) rfl) rfl, zt_of (lw_tb (i := 720) (by decide +kernel)) rfl, zt_of (lw_sb (i := 27) (by decide +kernel)) rfl, zt_of (lw_tb (i := 6) (by decide +kernel)) rfl, by decide, by decide, by decide +kernel⟩
set_option maxRecDepth 100000 in
theorem yv_X3_follow : zYv yX3_follow cX3_follow 4 none 0 3 := ⟨(RX3, TX3, 11), rfl, rfl, by decide, by decide, zt_of (lw_tb (i := 729) rfl) rfl, zt_of (lw_tb (i := 728) (by decide +kernel)) rfl, zt_of (lw_sb (i := 28) (by decide +kernel)) rfl, zt_of (lw_tb (i := 6) (by decide +kernel)) rfl, by decide, by decide, by decide +kernel⟩
set_option maxRecDepth 100000 in
theorem yv_X3_firstMove : zYv yX3_firstMove cX3_firstMove 4 (some .int) 2 3 := ⟨(RX3, TX3, 11), rfl, rfl, by decide, by decide, zt_of (lw_tb (i := 733) rfl) rfl, zt_of (lw_tb (i := 732) (by decide +kernel)) rfl, zt_of (lw_sb (i := 29) (by decide +kernel)) rfl, zt_of (lw_tb (i := 6) (by decide +kernel)) rfl, by decide, by decide, by decide +kernel⟩
set_option maxRecDepth 100000 in
theorem yv_X3_fits : zYv yX3_fits cX3_fits 4 (some .boolean) 3 3 := ⟨(RX3, TX3, 11), rfl, rfl, by decide, by decide, zt_of (lw_tb (i := 737) rfl) rfl, zt_of (lw_tb (i := 736) (by decide +kernel)) rfl, zt_of (lw_sb (i := 30) (by decide +kernel)) rfl, zt_of (lw_tb (i := 6) (by decide +kernel)) rfl, by decide, by decide, by decide +kernel⟩
set_option maxRecDepth 100000 in
theorem yv_X4_begin : zYv yX4_begin cX4_begin 6 none 5 4 := ⟨(RX4, TX4, 6), rfl, rfl, by decide, by decide, zt_of (lw_tb (i := 458) rfl) rfl, zt_of (lw_tb (i := 456) (by decide +kernel)) rfl, zt_of (lw_tb (i := 457) (by decide +kernel)) rfl, zt_of (lw_tb (i := 3) (by decide +kernel)) rfl, by decide, by decide, by decide +kernel⟩
set_option maxRecDepth 100000 in
theorem yv_X4_become : zYv yX4_become cX4_become 2 none 1 4 := ⟨(RX4, TX4, 6), rfl, rfl, by decide, by decide, zt_of (lw_tb (i := 623) rfl) rfl, zt_of (lw_tb (i := 621) (by decide +kernel)) rfl, zt_of (lw_tb (i := 622) (by decide +kernel)) rfl, zt_of (lw_tb (i := 3) (by decide +kernel)) rfl, by decide, by decide, by decide +kernel⟩
set_option maxRecDepth 100000 in
theorem yv_X4_isOneOf : zYv yX4_isOneOf cX4_isOneOf 2 (some .boolean) 1 4 := ⟨(RX4, TX4, 6), rfl, rfl, by decide, by decide, zt_of (lw_tb (i := 475) rfl) rfl, zt_of (lw_tb (i := 473) (by decide +kernel)) rfl, zt_of (lw_tb (i := 474) (by decide +kernel)) rfl, zt_of (lw_tb (i := 3) (by decide +kernel)) rfl, by decide, by decide, by decide +kernel⟩
set_option maxRecDepth 100000 in
theorem yv_X4_strikeAt : zYv yX4_strikeAt cX4_strikeAt 9 (some .int) 1 4 := ⟨(RX4, TX4, 6), rfl, rfl, by decide, by decide, zt_of (lw_tb (i := 360) rfl) rfl, zt_of (lw_tb (i := 358) (by decide +kernel)) rfl, zt_of (lw_tb (i := 359) (by decide +kernel)) rfl, zt_of (lw_tb (i := 3) (by decide +kernel)) rfl, by decide, by decide, by decide +kernel⟩
set_option maxRecDepth 100000 in
theorem yv_X4_chanceBehind : zYv yX4_chanceBehind cX4_chanceBehind 10 (some .int) 2 4 := ⟨(RX4, TX4, 6), rfl, rfl, by decide, by decide, zt_of (lw_tb (i := 494) rfl) rfl, zt_of (lw_tb (i := 492) (by decide +kernel)) rfl, zt_of (lw_tb (i := 493) (by decide +kernel)) rfl, zt_of (lw_tb (i := 3) (by decide +kernel)) rfl, by decide, by decide, by decide +kernel⟩
set_option maxRecDepth 100000 in
theorem yv_X4_chanceIfItCanBe : zYv yX4_chanceIfItCanBe cX4_chanceIfItCanBe 4 (some .int) 2 4 := ⟨(RX4, TX4, 6), rfl, rfl, by decide, by decide, zt_of (lw_tb (i := 628) rfl) rfl, zt_of (lw_tb (i := 626) (by decide +kernel)) rfl, zt_of (lw_tb (i := 627) (by decide +kernel)) rfl, zt_of (lw_tb (i := 3) (by decide +kernel)) rfl, by decide, by decide, by decide +kernel⟩
set_option maxRecDepth 100000 in
theorem yv_X4_chanceToTell : zYv yX4_chanceToTell cX4_chanceToTell 6 (some .int) 1 4 := ⟨(RX4, TX4, 6), rfl, rfl, by decide, by decide, zt_of (lw_tb (i := 633) rfl) rfl, zt_of (lw_tb (i := 631) (by decide +kernel)) rfl, zt_of (lw_tb (i := 632) (by decide +kernel)) rfl, zt_of (lw_tb (i := 3) (by decide +kernel)) rfl, by decide, by decide, by decide +kernel⟩
set_option maxRecDepth 100000 in
theorem yv_X5_become : zYv yX5_become cX5_become 3 none 1 5 := ⟨(RX5, TX5, 9), rfl, rfl, by decide, by decide, zt_of (lw_tb (i := 618) rfl) rfl, zt_of (lw_tb (i := 616) (by decide +kernel)) rfl, zt_of (lw_tb (i := 617) (by decide +kernel)) rfl, zt_of (lw_tb (i := 2) (by decide +kernel)) rfl, by decide, by decide, by decide +kernel⟩
set_option maxRecDepth 100000 in
theorem yv_X5_hasRule : zYv yX5_hasRule cX5_hasRule 1 (some .boolean) 0 5 := ⟨(RX5, TX5, 9), rfl, rfl, by decide, by decide, zt_of (lw_tb (i := 380) rfl) rfl, zt_of (lw_tb (i := 378) (by decide +kernel)) rfl, zt_of (lw_tb (i := 379) (by decide +kernel)) rfl, zt_of (lw_tb (i := 2) (by decide +kernel)) rfl, by decide, by decide, by decide +kernel⟩
set_option maxRecDepth 100000 in
theorem yv_X5_isOpen : zYv yX5_isOpen cX5_isOpen 2 (some .boolean) 1 5 := ⟨(RX5, TX5, 9), rfl, rfl, by decide, by decide, zt_of (lw_tb (i := 397) rfl) rfl, zt_of (lw_tb (i := 395) (by decide +kernel)) rfl, zt_of (lw_tb (i := 396) (by decide +kernel)) rfl, zt_of (lw_tb (i := 2) (by decide +kernel)) rfl, by decide, by decide, by decide +kernel⟩
set_option maxRecDepth 100000 in
theorem yv_X5_openOnes : zYv yX5_openOnes cX5_openOnes 3 (some .int) 0 5 := ⟨(RX5, TX5, 9), rfl, rfl, by decide, by decide, zt_of (lw_tb (i := 393) rfl) rfl, zt_of (lw_tb (i := 391) (by decide +kernel)) rfl, zt_of (lw_tb (i := 392) (by decide +kernel)) rfl, zt_of (lw_tb (i := 2) (by decide +kernel)) rfl, by decide, by decide, by decide +kernel⟩
set_option maxRecDepth 100000 in
theorem yv_X5_allLooks : zYv yX5_allLooks cX5_allLooks 3 (some .int) 0 5 := ⟨(RX5, TX5, 9), rfl, rfl, by decide, by decide, zt_of (lw_tb (i := 794) rfl) rfl, zt_of (lw_tb (i := 792) (by decide +kernel)) rfl, zt_of (lw_tb (i := 793) (by decide +kernel)) rfl, zt_of (lw_tb (i := 2) (by decide +kernel)) rfl, by decide, by decide, by decide +kernel⟩
set_option maxRecDepth 100000 in
theorem yv_X5_nextWarned : zYv yX5_nextWarned cX5_nextWarned 4 (some .int) 0 5 := ⟨(RX5, TX5, 9), rfl, rfl, by decide, by decide, zt_of (lw_tb (i := 388) rfl) rfl, zt_of (lw_tb (i := 386) (by decide +kernel)) rfl, zt_of (lw_tb (i := 387) (by decide +kernel)) rfl, zt_of (lw_tb (i := 2) (by decide +kernel)) rfl, by decide, by decide, by decide +kernel⟩
set_option maxRecDepth 100000 in
theorem yv_X5_dangerOn : zYv yX5_dangerOn cX5_dangerOn 5 (some .int) 2 5 := ⟨(RX5, TX5, 9), rfl, rfl, by decide, by decide, zt_of (lw_tb (i := 356) rfl) rfl, zt_of (lw_tb (i := 354) (by decide +kernel)) rfl, zt_of (lw_tb (i := 355) (by decide +kernel)) rfl, zt_of (lw_tb (i := 2) (by decide +kernel)) rfl, by decide, by decide, by decide +kernel⟩
set_option maxRecDepth 100000 in
theorem yv_X5_useAt : zYv yX5_useAt cX5_useAt 2 (some .int) 1 5 := ⟨(RX5, TX5, 9), rfl, rfl, by decide, by decide, zt_of (lw_tb (i := 349) rfl) rfl, zt_of (lw_tb (i := 347) (by decide +kernel)) rfl, zt_of (lw_tb (i := 348) (by decide +kernel)) rfl, zt_of (lw_tb (i := 2) (by decide +kernel)) rfl, by decide, by decide, by decide +kernel⟩
set_option maxRecDepth 100000 in
theorem yv_X5_worthOf : zYv yX5_worthOf cX5_worthOf 3 (some .long) 2 5 := ⟨(RX5, TX5, 9), rfl, rfl, by decide, by decide, zt_of (lw_tb (i := 562) rfl) rfl, zt_of (lw_tb (i := 560) (by decide +kernel)) rfl, zt_of (lw_tb (i := 561) (by decide +kernel)) rfl, zt_of (lw_tb (i := 2) (by decide +kernel)) rfl, by decide, by decide, by decide +kernel⟩
set_option maxRecDepth 100000 in
theorem yv_X5_canShift : zYv yX5_canShift cX5_canShift 3 (some .boolean) 1 5 := ⟨(RX5, TX5, 9), rfl, rfl, by decide, by decide, zt_of (lw_tb (i := 325) rfl) rfl, zt_of (lw_tb (i := 323) (by decide +kernel)) rfl, zt_of (lw_tb (i := 324) (by decide +kernel)) rfl, zt_of (lw_tb (i := 2) (by decide +kernel)) rfl, by decide, by decide, by decide +kernel⟩
set_option maxRecDepth 100000 in
theorem yv_X5_shift : zYv yX5_shift cX5_shift 2 none 1 5 := ⟨(RX5, TX5, 9), rfl, rfl, by decide, by decide, zt_of (lw_tb (i := 333) rfl) rfl, zt_of (lw_tb (i := 331) (by decide +kernel)) rfl, zt_of (lw_tb (i := 332) (by decide +kernel)) rfl, zt_of (lw_tb (i := 2) (by decide +kernel)) rfl, by decide, by decide, by decide +kernel⟩
set_option maxRecDepth 100000 in
theorem yv_X5_stepsLeft : zYv yX5_stepsLeft cX5_stepsLeft 2 (some .int) 0 5 := ⟨(RX5, TX5, 9), rfl, rfl, by decide, by decide, zt_of (lw_tb (i := 554) rfl) rfl, zt_of (lw_tb (i := 552) (by decide +kernel)) rfl, zt_of (lw_tb (i := 553) (by decide +kernel)) rfl, zt_of (lw_tb (i := 2) (by decide +kernel)) rfl, by decide, by decide, by decide +kernel⟩
set_option maxRecDepth 100000 in
theorem yv_X5_endDay : zYv yX5_endDay cX5_endDay 1 none 0 5 := ⟨(RX5, TX5, 9), rfl, rfl, by decide, by decide, zt_of (lw_tb (i := 345) rfl) rfl, zt_of (lw_tb (i := 343) (by decide +kernel)) rfl, zt_of (lw_tb (i := 344) (by decide +kernel)) rfl, zt_of (lw_tb (i := 2) (by decide +kernel)) rfl, by decide, by decide, by decide +kernel⟩
set_option maxRecDepth 100000 in
theorem yv_X5_moveBy : zYv yX5_moveBy cX5_moveBy 5 (some .int) 1 5 := ⟨(RX5, TX5, 9), rfl, rfl, by decide, by decide, zt_of (lw_tb (i := 372) rfl) rfl, zt_of (lw_tb (i := 370) (by decide +kernel)) rfl, zt_of (lw_tb (i := 371) (by decide +kernel)) rfl, zt_of (lw_tb (i := 2) (by decide +kernel)) rfl, by decide, by decide, by decide +kernel⟩
set_option maxRecDepth 100000 in
theorem yv_X6_plan : zYv yX6_plan cX6_plan 4 (some .int) 2 6 := ⟨(RX6, TX6, 12), rfl, rfl, by decide, by decide, zt_of (lw_tb (i := 302) rfl) rfl, zt_of (lw_tb (i := 300) (by decide +kernel)) rfl, zt_of (lw_tb (i := 301) (by decide +kernel)) rfl, zt_of (lw_tb (i := 1) (by decide +kernel)) rfl, by decide, by decide, by decide +kernel⟩
set_option maxRecDepth 100000 in
theorem yv_X6_move : zYv yX6_move cX6_move 2 (some .int) 1 6 := ⟨(RX6, TX6, 12), rfl, rfl, by decide, by decide, zt_of (lw_tb (i := 318) rfl) rfl, zt_of (lw_tb (i := 316) (by decide +kernel)) rfl, zt_of (lw_tb (i := 317) (by decide +kernel)) rfl, zt_of (lw_tb (i := 1) (by decide +kernel)) rfl, by decide, by decide, by decide +kernel⟩
set_option maxRecDepth 100000 in
theorem yv_X6_may : zYv yX6_may cX6_may 2 (some .int) 1 6 := ⟨(RX6, TX6, 12), rfl, rfl, by decide, by decide, zt_of (lw_tb (i := 337) rfl) rfl, zt_of (lw_tb (i := 335) (by decide +kernel)) rfl, zt_of (lw_tb (i := 336) (by decide +kernel)) rfl, zt_of (lw_tb (i := 1) (by decide +kernel)) rfl, by decide, by decide, by decide +kernel⟩
set_option maxRecDepth 100000 in
theorem yv_X6_days : zYv yX6_days cX6_days 3 (some .int) 1 6 := ⟨(RX6, TX6, 12), rfl, rfl, by decide, by decide, zt_of (lw_tb (i := 341) rfl) rfl, zt_of (lw_tb (i := 339) (by decide +kernel)) rfl, zt_of (lw_tb (i := 340) (by decide +kernel)) rfl, zt_of (lw_tb (i := 1) (by decide +kernel)) rfl, by decide, by decide, by decide +kernel⟩
set_option maxRecDepth 100000 in
theorem yv_X6_runs : zYv yX6_runs cX6_runs 3 (some .int) 1 6 := ⟨(RX6, TX6, 12), rfl, rfl, by decide, by decide, zt_of (lw_tb (i := 368) rfl) rfl, zt_of (lw_tb (i := 366) (by decide +kernel)) rfl, zt_of (lw_tb (i := 367) (by decide +kernel)) rfl, zt_of (lw_tb (i := 1) (by decide +kernel)) rfl, by decide, by decide, by decide +kernel⟩
set_option maxRecDepth 100000 in
theorem yv_X6_thing : zYv yX6_thing cX6_thing 2 (some .long) 1 6 := ⟨(RX6, TX6, 12), rfl, rfl, by decide, by decide, zt_of (lw_tb (i := 445) rfl) rfl, zt_of (lw_tb (i := 443) (by decide +kernel)) rfl, zt_of (lw_tb (i := 444) (by decide +kernel)) rfl, zt_of (lw_tb (i := 1) (by decide +kernel)) rfl, by decide, by decide, by decide +kernel⟩
set_option maxRecDepth 100000 in
theorem yv_X6_warn : zYv yX6_warn cX6_warn 7 (some .int) 3 6 := ⟨(RX6, TX6, 12), rfl, rfl, by decide, by decide, zt_of (lw_tb (i := 449) rfl) rfl, zt_of (lw_tb (i := 447) (by decide +kernel)) rfl, zt_of (lw_tb (i := 448) (by decide +kernel)) rfl, zt_of (lw_tb (i := 1) (by decide +kernel)) rfl, by decide, by decide, by decide +kernel⟩
set_option maxRecDepth 100000 in
theorem yv_X6_of : zYv yX6_of cX6_of 4 (some .int) 2 6 := ⟨(RX6, TX6, 12), rfl, rfl, by decide, by decide, zt_of (lw_tb (i := 462) rfl) rfl, zt_of (lw_tb (i := 460) (by decide +kernel)) rfl, zt_of (lw_tb (i := 461) (by decide +kernel)) rfl, zt_of (lw_tb (i := 1) (by decide +kernel)) rfl, by decide, by decide, by decide +kernel⟩
set_option maxRecDepth 100000 in
theorem yv_X6_as : zYv yX6_as cX6_as 4 (some .int) 2 6 := ⟨(RX6, TX6, 12), rfl, rfl, by decide, by decide, zt_of (lw_tb (i := 471) rfl) rfl, zt_of (lw_tb (i := 469) (by decide +kernel)) rfl, zt_of (lw_tb (i := 470) (by decide +kernel)) rfl, zt_of (lw_tb (i := 1) (by decide +kernel)) rfl, by decide, by decide, by decide +kernel⟩
set_option maxRecDepth 100000 in
theorem yv_X6_struck : zYv yX6_struck cX6_struck 3 (some .int) 2 6 := ⟨(RX6, TX6, 12), rfl, rfl, by decide, by decide, zt_of (lw_tb (i := 482) rfl) rfl, zt_of (lw_tb (i := 480) (by decide +kernel)) rfl, zt_of (lw_tb (i := 481) (by decide +kernel)) rfl, zt_of (lw_tb (i := 1) (by decide +kernel)) rfl, by decide, by decide, by decide +kernel⟩
set_option maxRecDepth 100000 in
theorem yv_X6_look : zYv yX6_look cX6_look 6 (some .int) 3 6 := ⟨(RX6, TX6, 12), rfl, rfl, by decide, by decide, zt_of (lw_tb (i := 487) rfl) rfl, zt_of (lw_tb (i := 485) (by decide +kernel)) rfl, zt_of (lw_tb (i := 486) (by decide +kernel)) rfl, zt_of (lw_tb (i := 1) (by decide +kernel)) rfl, by decide, by decide, by decide +kernel⟩
set_option maxRecDepth 100000 in
theorem yv_X6_think : zYv yX6_think cX6_think 6 (some .int) 3 6 := ⟨(RX6, TX6, 12), rfl, rfl, by decide, by decide, zt_of (lw_tb (i := 499) rfl) rfl, zt_of (lw_tb (i := 497) (by decide +kernel)) rfl, zt_of (lw_tb (i := 498) (by decide +kernel)) rfl, zt_of (lw_tb (i := 1) (by decide +kernel)) rfl, by decide, by decide, by decide +kernel⟩
set_option maxRecDepth 100000 in
theorem yv_X6_danger : zYv yX6_danger cX6_danger 3 (some .int) 2 6 := ⟨(RX6, TX6, 12), rfl, rfl, by decide, by decide, zt_of (lw_tb (i := 503) rfl) rfl, zt_of (lw_tb (i := 501) (by decide +kernel)) rfl, zt_of (lw_tb (i := 502) (by decide +kernel)) rfl, zt_of (lw_tb (i := 1) (by decide +kernel)) rfl, by decide, by decide, by decide +kernel⟩
set_option maxRecDepth 100000 in
theorem yv_X6_safest : zYv yX6_safest cX6_safest 7 (some .int) 1 6 := ⟨(RX6, TX6, 12), rfl, rfl, by decide, by decide, zt_of (lw_tb (i := 508) rfl) rfl, zt_of (lw_tb (i := 506) (by decide +kernel)) rfl, zt_of (lw_tb (i := 507) (by decide +kernel)) rfl, zt_of (lw_tb (i := 1) (by decide +kernel)) rfl, by decide, by decide, by decide +kernel⟩
set_option maxRecDepth 100000 in
theorem yv_X6_open : zYv yX6_open cX6_open 3 (some .int) 0 6 := ⟨(RX6, TX6, 12), rfl, rfl, by decide, by decide, zt_of (lw_tb (i := 512) rfl) rfl, zt_of (lw_tb (i := 510) (by decide +kernel)) rfl, zt_of (lw_tb (i := 511) (by decide +kernel)) rfl, zt_of (lw_tb (i := 1) (by decide +kernel)) rfl, by decide, by decide, by decide +kernel⟩
set_option maxRecDepth 100000 in
theorem yv_X6_feed : zYv yX6_feed cX6_feed 4 (some .int) 2 6 := ⟨(RX6, TX6, 12), rfl, rfl, by decide, by decide, zt_of (lw_tb (i := 516) rfl) rfl, zt_of (lw_tb (i := 514) (by decide +kernel)) rfl, zt_of (lw_tb (i := 515) (by decide +kernel)) rfl, zt_of (lw_tb (i := 1) (by decide +kernel)) rfl, by decide, by decide, by decide +kernel⟩
set_option maxRecDepth 100000 in
theorem yv_X6_wipe : zYv yX6_wipe cX6_wipe 2 (some .int) 0 6 := ⟨(RX6, TX6, 12), rfl, rfl, by decide, by decide, zt_of (lw_tb (i := 520) rfl) rfl, zt_of (lw_tb (i := 518) (by decide +kernel)) rfl, zt_of (lw_tb (i := 519) (by decide +kernel)) rfl, zt_of (lw_tb (i := 1) (by decide +kernel)) rfl, by decide, by decide, by decide +kernel⟩
set_option maxRecDepth 100000 in
theorem yv_X6_rule : zYv yX6_rule cX6_rule 2 (some .int) 0 6 := ⟨(RX6, TX6, 12), rfl, rfl, by decide, by decide, zt_of (lw_tb (i := 524) rfl) rfl, zt_of (lw_tb (i := 522) (by decide +kernel)) rfl, zt_of (lw_tb (i := 523) (by decide +kernel)) rfl, zt_of (lw_tb (i := 1) (by decide +kernel)) rfl, by decide, by decide, by decide +kernel⟩
set_option maxRecDepth 100000 in
theorem yv_X6_drift : zYv yX6_drift cX6_drift 2 (some .int) 0 6 := ⟨(RX6, TX6, 12), rfl, rfl, by decide, by decide, zt_of (lw_tb (i := 535) rfl) rfl, zt_of (lw_tb (i := 533) (by decide +kernel)) rfl, zt_of (lw_tb (i := 534) (by decide +kernel)) rfl, zt_of (lw_tb (i := 1) (by decide +kernel)) rfl, by decide, by decide, by decide +kernel⟩
set_option maxRecDepth 100000 in
theorem yv_X6_says : zYv yX6_says cX6_says 2 (some .int) 1 6 := ⟨(RX6, TX6, 12), rfl, rfl, by decide, by decide, zt_of (lw_tb (i := 540) rfl) rfl, zt_of (lw_tb (i := 538) (by decide +kernel)) rfl, zt_of (lw_tb (i := 539) (by decide +kernel)) rfl, zt_of (lw_tb (i := 1) (by decide +kernel)) rfl, by decide, by decide, by decide +kernel⟩
set_option maxRecDepth 100000 in
theorem yv_X6_best : zYv yX6_best cX6_best 3 (some .long) 2 6 := ⟨(RX6, TX6, 12), rfl, rfl, by decide, by decide, zt_of (lw_tb (i := 545) rfl) rfl, zt_of (lw_tb (i := 543) (by decide +kernel)) rfl, zt_of (lw_tb (i := 544) (by decide +kernel)) rfl, zt_of (lw_tb (i := 1) (by decide +kernel)) rfl, by decide, by decide, by decide +kernel⟩
set_option maxRecDepth 100000 in
theorem yv_X6_turn : zYv yX6_turn cX6_turn 3 (some .int) 2 6 := ⟨(RX6, TX6, 12), rfl, rfl, by decide, by decide, zt_of (lw_tb (i := 596) rfl) rfl, zt_of (lw_tb (i := 594) (by decide +kernel)) rfl, zt_of (lw_tb (i := 595) (by decide +kernel)) rfl, zt_of (lw_tb (i := 1) (by decide +kernel)) rfl, by decide, by decide, by decide +kernel⟩
set_option maxRecDepth 100000 in
theorem yv_X6_rest : zYv yX6_rest cX6_rest 5 (some .long) 1 6 := ⟨(RX6, TX6, 12), rfl, rfl, by decide, by decide, zt_of (lw_tb (i := 600) rfl) rfl, zt_of (lw_tb (i := 598) (by decide +kernel)) rfl, zt_of (lw_tb (i := 599) (by decide +kernel)) rfl, zt_of (lw_tb (i := 1) (by decide +kernel)) rfl, by decide, by decide, by decide +kernel⟩
set_option maxRecDepth 100000 in
theorem yv_X6_home : zYv yX6_home cX6_home 4 (some .int) 2 6 := ⟨(RX6, TX6, 12), rfl, rfl, by decide, by decide, zt_of (lw_tb (i := 605) rfl) rfl, zt_of (lw_tb (i := 603) (by decide +kernel)) rfl, zt_of (lw_tb (i := 604) (by decide +kernel)) rfl, zt_of (lw_tb (i := 1) (by decide +kernel)) rfl, by decide, by decide, by decide +kernel⟩
set_option maxRecDepth 100000 in
theorem yv_X6_know : zYv yX6_know cX6_know 13 (some .long) 3 6 := ⟨(RX6, TX6, 12), rfl, rfl, by decide, by decide, zt_of (lw_tb (i := 614) rfl) rfl, zt_of (lw_tb (i := 612) (by decide +kernel)) rfl, zt_of (lw_tb (i := 613) (by decide +kernel)) rfl, zt_of (lw_tb (i := 1) (by decide +kernel)) rfl, by decide, by decide, by decide +kernel⟩
set_option maxRecDepth 100000 in
theorem yv_X6_life : zYv yX6_life cX6_life 4 (some .int) 2 6 := ⟨(RX6, TX6, 12), rfl, rfl, by decide, by decide, zt_of (lw_tb (i := 639) rfl) rfl, zt_of (lw_tb (i := 637) (by decide +kernel)) rfl, zt_of (lw_tb (i := 638) (by decide +kernel)) rfl, zt_of (lw_tb (i := 1) (by decide +kernel)) rfl, by decide, by decide, by decide +kernel⟩
set_option maxRecDepth 100000 in
theorem yv_X6_lives : zYv yX6_lives cX6_lives 6 (some .int) 3 6 := ⟨(RX6, TX6, 12), rfl, rfl, by decide, by decide, zt_of (lw_tb (i := 652) rfl) rfl, zt_of (lw_tb (i := 650) (by decide +kernel)) rfl, zt_of (lw_tb (i := 651) (by decide +kernel)) rfl, zt_of (lw_tb (i := 1) (by decide +kernel)) rfl, by decide, by decide, by decide +kernel⟩
set_option maxRecDepth 100000 in
theorem yv_X6_rests : zYv yX6_rests cX6_rests 3 (some .int) 1 6 := ⟨(RX6, TX6, 12), rfl, rfl, by decide, by decide, zt_of (lw_tb (i := 656) rfl) rfl, zt_of (lw_tb (i := 654) (by decide +kernel)) rfl, zt_of (lw_tb (i := 655) (by decide +kernel)) rfl, zt_of (lw_tb (i := 1) (by decide +kernel)) rfl, by decide, by decide, by decide +kernel⟩
set_option maxRecDepth 100000 in
theorem yv_X6_both : zYv yX6_both cX6_both 7 (some .int) 2 6 := ⟨(RX6, TX6, 12), rfl, rfl, by decide, by decide, zt_of (lw_tb (i := 684) rfl) rfl, zt_of (lw_tb (i := 682) (by decide +kernel)) rfl, zt_of (lw_tb (i := 683) (by decide +kernel)) rfl, zt_of (lw_tb (i := 1) (by decide +kernel)) rfl, by decide, by decide, by decide +kernel⟩
set_option maxRecDepth 100000 in
theorem yv_X6_swarm : zYv yX6_swarm cX6_swarm 6 (some .int) 4 6 := ⟨(RX6, TX6, 12), rfl, rfl, by decide, by decide, zt_of (lw_tb (i := 695) rfl) rfl, zt_of (lw_tb (i := 693) (by decide +kernel)) rfl, zt_of (lw_tb (i := 694) (by decide +kernel)) rfl, zt_of (lw_tb (i := 1) (by decide +kernel)) rfl, by decide, by decide, by decide +kernel⟩
set_option maxRecDepth 100000 in
theorem yv_X6_sheet : zYv yX6_sheet cX6_sheet 4 (some .int) 3 6 := ⟨(RX6, TX6, 12), rfl, rfl, by decide, by decide, zt_of (lw_tb (i := 742) rfl) rfl, zt_of (lw_tb (i := 740) (by decide +kernel)) rfl, zt_of (lw_tb (i := 741) (by decide +kernel)) rfl, zt_of (lw_tb (i := 1) (by decide +kernel)) rfl, by decide, by decide, by decide +kernel⟩
set_option maxRecDepth 100000 in
theorem yv_X6_write : zYv yX6_write cX6_write 8 (some .long) 3 6 := ⟨(RX6, TX6, 12), rfl, rfl, by decide, by decide, zt_of (lw_tb (i := 751) rfl) rfl, zt_of (lw_tb (i := 749) (by decide +kernel)) rfl, zt_of (lw_tb (i := 750) (by decide +kernel)) rfl, zt_of (lw_tb (i := 1) (by decide +kernel)) rfl, by decide, by decide, by decide +kernel⟩
set_option maxRecDepth 100000 in
theorem yv_X6_copy : zYv yX6_copy cX6_copy 6 (some .int) 5 6 := ⟨(RX6, TX6, 12), rfl, rfl, by decide, by decide, zt_of (lw_tb (i := 759) rfl) rfl, zt_of (lw_tb (i := 757) (by decide +kernel)) rfl, zt_of (lw_tb (i := 758) (by decide +kernel)) rfl, zt_of (lw_tb (i := 1) (by decide +kernel)) rfl, by decide, by decide, by decide +kernel⟩
set_option maxRecDepth 100000 in
theorem yv_X6_turns : zYv yX6_turns cX6_turns 7 (some .int) 1 6 := ⟨(RX6, TX6, 12), rfl, rfl, by decide, by decide, zt_of (lw_tb (i := 767) rfl) rfl, zt_of (lw_tb (i := 765) (by decide +kernel)) rfl, zt_of (lw_tb (i := 766) (by decide +kernel)) rfl, zt_of (lw_tb (i := 1) (by decide +kernel)) rfl, by decide, by decide, by decide +kernel⟩
set_option maxRecDepth 100000 in
theorem yv_X6_read : zYv yX6_read cX6_read 4 (some .int) 1 6 := ⟨(RX6, TX6, 12), rfl, rfl, by decide, by decide, zt_of (lw_tb (i := 773) rfl) rfl, zt_of (lw_tb (i := 771) (by decide +kernel)) rfl, zt_of (lw_tb (i := 772) (by decide +kernel)) rfl, zt_of (lw_tb (i := 1) (by decide +kernel)) rfl, by decide, by decide, by decide +kernel⟩
set_option maxRecDepth 100000 in
theorem yv_X6_image : zYv yX6_image cX6_image 1 (some .int) 0 6 := ⟨(RX6, TX6, 12), rfl, rfl, by decide, by decide, zt_of (lw_tb (i := 777) rfl) rfl, zt_of (lw_tb (i := 775) (by decide +kernel)) rfl, zt_of (lw_tb (i := 776) (by decide +kernel)) rfl, zt_of (lw_tb (i := 1) (by decide +kernel)) rfl, by decide, by decide, by decide +kernel⟩
set_option maxRecDepth 100000 in
theorem yv_X6_undo : zYv yX6_undo cX6_undo 1 (some .int) 0 6 := ⟨(RX6, TX6, 12), rfl, rfl, by decide, by decide, zt_of (lw_tb (i := 781) rfl) rfl, zt_of (lw_tb (i := 779) (by decide +kernel)) rfl, zt_of (lw_tb (i := 780) (by decide +kernel)) rfl, zt_of (lw_tb (i := 1) (by decide +kernel)) rfl, by decide, by decide, by decide +kernel⟩
set_option maxRecDepth 100000 in
theorem yv_X6_tear : zYv yX6_tear cX6_tear 2 (some .int) 0 6 := ⟨(RX6, TX6, 12), rfl, rfl, by decide, by decide, zt_of (lw_tb (i := 785) rfl) rfl, zt_of (lw_tb (i := 783) (by decide +kernel)) rfl, zt_of (lw_tb (i := 784) (by decide +kernel)) rfl, zt_of (lw_tb (i := 1) (by decide +kernel)) rfl, by decide, by decide, by decide +kernel⟩
set_option maxRecDepth 100000 in
theorem yv_X6_count : zYv yX6_count cX6_count 2 (some .int) 1 6 := ⟨(RX6, TX6, 12), rfl, rfl, by decide, by decide, zt_of (lw_tb (i := 789) rfl) rfl, zt_of (lw_tb (i := 787) (by decide +kernel)) rfl, zt_of (lw_tb (i := 788) (by decide +kernel)) rfl, zt_of (lw_tb (i := 1) (by decide +kernel)) rfl, by decide, by decide, by decide +kernel⟩
set_option maxRecDepth 100000 in
theorem yv_X6_status : zYv yX6_status cX6_status 4 (some .int) 1 6 := ⟨(RX6, TX6, 12), rfl, rfl, by decide, by decide, zt_of (lw_tb (i := 799) rfl) rfl, zt_of (lw_tb (i := 797) (by decide +kernel)) rfl, zt_of (lw_tb (i := 798) (by decide +kernel)) rfl, zt_of (lw_tb (i := 1) (by decide +kernel)) rfl, by decide, by decide, by decide +kernel⟩
set_option maxRecDepth 100000 in
theorem yv_X6_finding : zYv yX6_finding cX6_finding 3 (some .int) 1 6 := ⟨(RX6, TX6, 12), rfl, rfl, by decide, by decide, zt_of (lw_tb (i := 314) rfl) rfl, zt_of (lw_tb (i := 313) (by decide +kernel)) rfl, zt_of (lw_sb (i := 0) (by decide +kernel)) rfl, zt_of (lw_tb (i := 1) (by decide +kernel)) rfl, by decide, by decide, by decide +kernel⟩
set_option maxRecDepth 100000 in
theorem ys_X6_isOutside : zYs yX6_isOutside cX6_isOutside 3 (some .boolean) 3 := ⟨by decide, zt_of (lw_tb (i := 305) rfl) rfl, zt_of (lw_tb (i := 304) (by decide +kernel)) rfl, zt_of (lw_tb (i := 1) (by decide +kernel)) rfl, by decide, by decide, by decide +kernel⟩
set_option maxRecDepth 100000 in
theorem ys_X6_isNoMove : zYs yX6_isNoMove cX6_isNoMove 1 (some .boolean) 1 := ⟨by decide, zt_of (lw_tb (i := 321) rfl) rfl, zt_of (lw_tb (i := 320) (by decide +kernel)) rfl, zt_of (lw_tb (i := 1) (by decide +kernel)) rfl, by decide, by decide, by decide +kernel⟩
set_option maxRecDepth 100000 in
theorem ys_X6_isNoHeight : zYs yX6_isNoHeight cX6_isNoHeight 1 (some .boolean) 1 := ⟨by decide, zt_of (lw_tb (i := 452) rfl) rfl, zt_of (lw_tb (i := 451) (by decide +kernel)) rfl, zt_of (lw_tb (i := 1) (by decide +kernel)) rfl, by decide, by decide, by decide +kernel⟩
set_option maxRecDepth 100000 in
theorem ys_X6_isNoSureness : zYs yX6_isNoSureness cX6_isNoSureness 1 (some .boolean) 1 := ⟨by decide, zt_of (lw_tb (i := 490) rfl) rfl, zt_of (lw_tb (i := 489) (by decide +kernel)) rfl, zt_of (lw_tb (i := 1) (by decide +kernel)) rfl, by decide, by decide, by decide +kernel⟩
set_option maxRecDepth 100000 in
theorem ys_X6_isNoSheet : zYs yX6_isNoSheet cX6_isNoSheet 1 (some .boolean) 1 := ⟨by decide, zt_of (lw_tb (i := 667) rfl) rfl, zt_of (lw_tb (i := 666) (by decide +kernel)) rfl, zt_of (lw_tb (i := 1) (by decide +kernel)) rfl, by decide, by decide, by decide +kernel⟩
set_option maxRecDepth 100000 in
theorem yv_X6_isNoWarning : zYv yX6_isNoWarning cX6_isNoWarning 2 (some .boolean) 1 6 := ⟨(RX6, TX6, 12), rfl, rfl, by decide, by decide, zt_of (lw_tb (i := 466) rfl) rfl, zt_of (lw_tb (i := 465) (by decide +kernel)) rfl, zt_of (lw_sb (i := 12) (by decide +kernel)) rfl, zt_of (lw_tb (i := 1) (by decide +kernel)) rfl, by decide, by decide, by decide +kernel⟩
set_option maxRecDepth 100000 in
theorem yv_X6_findingOfSheet : zYv yX6_findingOfSheet cX6_findingOfSheet 2 (some .int) 1 6 := ⟨(RX6, TX6, 12), rfl, rfl, by decide, by decide, zt_of (lw_tb (i := 664) rfl) rfl, zt_of (lw_tb (i := 663) (by decide +kernel)) rfl, zt_of (lw_sb (i := 24) (by decide +kernel)) rfl, zt_of (lw_tb (i := 1) (by decide +kernel)) rfl, by decide, by decide, by decide +kernel⟩
set_option maxRecDepth 100000 in
theorem yv_X6_findingOfPair : zYv yX6_findingOfPair cX6_findingOfPair 3 (some .int) 1 6 := ⟨(RX6, TX6, 12), rfl, rfl, by decide, by decide, zt_of (lw_tb (i := 660) rfl) rfl, zt_of (lw_tb (i := 659) (by decide +kernel)) rfl, zt_of (lw_sb (i := 23) (by decide +kernel)) rfl, zt_of (lw_tb (i := 1) (by decide +kernel)) rfl, by decide, by decide, by decide +kernel⟩
set_option maxRecDepth 100000 in
theorem ys_X6_findingOfRow : zYs yX6_findingOfRow cX6_findingOfRow 1 (some .int) 1 := ⟨by decide, zt_of (lw_tb (i := 698) rfl) rfl, zt_of (lw_tb (i := 697) (by decide +kernel)) rfl, zt_of (lw_tb (i := 1) (by decide +kernel)) rfl, by decide, by decide, by decide +kernel⟩
set_option maxRecDepth 100000 in
theorem yv_X6_firstCalm : zYv yX6_firstCalm cX6_firstCalm 5 (some .int) 2 6 := ⟨(RX6, TX6, 12), rfl, rfl, by decide, by decide, zt_of (lw_tb (i := 609) rfl) rfl, zt_of (lw_tb (i := 608) (by decide +kernel)) rfl, zt_of (lw_sb (i := 20) (by decide +kernel)) rfl, zt_of (lw_tb (i := 1) (by decide +kernel)) rfl, by decide, by decide, by decide +kernel⟩
set_option maxRecDepth 100000 in
theorem yv_X6_foresee : zYv yX6_foresee cX6_foresee 3 none 1 6 := ⟨(RX6, TX6, 12), rfl, rfl, by decide, by decide, zt_of (lw_tb (i := 643) rfl) rfl, zt_of (lw_tb (i := 642) (by decide +kernel)) rfl, zt_of (lw_sb (i := 21) (by decide +kernel)) rfl, zt_of (lw_tb (i := 1) (by decide +kernel)) rfl, by decide, by decide, by decide +kernel⟩
set_option maxRecDepth 100000 in
theorem yv_X6_dayOfStrike : zYv yX6_dayOfStrike cX6_dayOfStrike 5 (some .int) 2 6 := ⟨(RX6, TX6, 12), rfl, rfl, by decide, by decide, zt_of (lw_tb (i := 647) rfl) rfl, zt_of (lw_tb (i := 646) (by decide +kernel)) rfl, zt_of (lw_sb (i := 22) (by decide +kernel)) rfl, zt_of (lw_tb (i := 1) (by decide +kernel)) rfl, by decide, by decide, by decide +kernel⟩
set_option maxRecDepth 100000 in
theorem ys_X6_restsOf : zYs yX6_restsOf cX6_restsOf 5 (some .int) 1 := ⟨by decide, zt_of (lw_tb (i := 680) rfl) rfl, zt_of (lw_tb (i := 679) (by decide +kernel)) rfl, zt_of (lw_tb (i := 1) (by decide +kernel)) rfl, by decide, by decide, by decide +kernel⟩
set_option maxRecDepth 100000 in
theorem ys_X6_mostTogether : zYs yX6_mostTogether cX6_mostTogether 5 (some .int) 2 := ⟨by decide, zt_of (lw_tb (i := 687) rfl) rfl, zt_of (lw_tb (i := 686) (by decide +kernel)) rfl, zt_of (lw_tb (i := 1) (by decide +kernel)) rfl, by decide, by decide, by decide +kernel⟩
set_option maxRecDepth 100000 in
theorem yv_X7_finding : zYv yX7_finding cX7_finding 2 (some .int) 1 7 := ⟨(RX7, TX7, 23), rfl, rfl, by decide, by decide, zt_of (lw_tb (i := 898) rfl) rfl, zt_of (lw_tb (i := 897) (by decide +kernel)) rfl, zt_of (lw_sb (i := 31) (by decide +kernel)) rfl, zt_of (lw_tb (i := 8) (by decide +kernel)) rfl, by decide, by decide, by decide +kernel⟩
set_option maxRecDepth 100000 in
theorem ys_X7_in : zYs yX7_in cX7_in 6 (some .boolean) 3 := ⟨by decide, zt_of (lw_tb (i := 887) rfl) rfl, zt_of (lw_tb (i := 886) (by decide +kernel)) rfl, zt_of (lw_tb (i := 8) (by decide +kernel)) rfl, by decide, by decide, by decide +kernel⟩
set_option maxRecDepth 100000 in
theorem ys_X7_size : zYs yX7_size cX7_size 1 (some .int) 1 := ⟨by decide, zt_of (lw_tb (i := 929) rfl) rfl, zt_of (lw_tb (i := 928) (by decide +kernel)) rfl, zt_of (lw_tb (i := 8) (by decide +kernel)) rfl, by decide, by decide, by decide +kernel⟩
set_option maxRecDepth 100000 in
theorem yv_X7_its : zYv yX7_its cX7_its 2 (some .int) 1 7 := ⟨(RX7, TX7, 23), rfl, rfl, by decide, by decide, zt_of (lw_tb (i := 903) rfl) rfl, zt_of (lw_tb (i := 902) (by decide +kernel)) rfl, zt_of (lw_sb (i := 32) (by decide +kernel)) rfl, zt_of (lw_tb (i := 8) (by decide +kernel)) rfl, by decide, by decide, by decide +kernel⟩
set_option maxRecDepth 100000 in
theorem yv_X7_today : zYv yX7_today cX7_today 1 (some .int) 0 7 := ⟨(RX7, TX7, 23), rfl, rfl, by decide, by decide, zt_of (lw_tb (i := 949) rfl) rfl, zt_of (lw_tb (i := 948) (by decide +kernel)) rfl, zt_of (lw_sb (i := 38) (by decide +kernel)) rfl, zt_of (lw_tb (i := 8) (by decide +kernel)) rfl, by decide, by decide, by decide +kernel⟩
set_option maxRecDepth 100000 in
theorem yv_X7_height : zYv yX7_height cX7_height 1 (some .int) 0 7 := ⟨(RX7, TX7, 23), rfl, rfl, by decide, by decide, zt_of (lw_tb (i := 916) rfl) rfl, zt_of (lw_tb (i := 915) (by decide +kernel)) rfl, zt_of (lw_sb (i := 33) (by decide +kernel)) rfl, zt_of (lw_tb (i := 8) (by decide +kernel)) rfl, by decide, by decide, by decide +kernel⟩
set_option maxRecDepth 100000 in
theorem yv_X7_fuel : zYv yX7_fuel cX7_fuel 1 (some .int) 0 7 := ⟨(RX7, TX7, 23), rfl, rfl, by decide, by decide, zt_of (lw_tb (i := 920) rfl) rfl, zt_of (lw_tb (i := 919) (by decide +kernel)) rfl, zt_of (lw_sb (i := 34) (by decide +kernel)) rfl, zt_of (lw_tb (i := 8) (by decide +kernel)) rfl, by decide, by decide, by decide +kernel⟩
set_option maxRecDepth 100000 in
theorem ys_X7_mostOf : zYs yX7_mostOf cX7_mostOf 1 (some .long) 1 := ⟨by decide, zt_of (lw_tb (i := 890) rfl) rfl, zt_of (lw_tb (i := 889) (by decide +kernel)) rfl, zt_of (lw_tb (i := 8) (by decide +kernel)) rfl, by decide, by decide, by decide +kernel⟩
set_option maxRecDepth 100000 in
theorem yv_X7_plan : zYv yX7_plan cX7_plan 4 (some .int) 2 7 := ⟨(RX7, TX7, 23), rfl, rfl, by decide, by decide, zt_of (lw_tb (i := 883) rfl) rfl, zt_of (lw_tb (i := 881) (by decide +kernel)) rfl, zt_of (lw_tb (i := 882) (by decide +kernel)) rfl, zt_of (lw_tb (i := 8) (by decide +kernel)) rfl, by decide, by decide, by decide +kernel⟩
set_option maxRecDepth 100000 in
theorem yv_X7_can : zYv yX7_can cX7_can 4 (some .boolean) 3 7 := ⟨(RX7, TX7, 23), rfl, rfl, by decide, by decide, zt_of (lw_tb (i := 924) rfl) rfl, zt_of (lw_tb (i := 923) (by decide +kernel)) rfl, zt_of (lw_sb (i := 35) (by decide +kernel)) rfl, zt_of (lw_tb (i := 8) (by decide +kernel)) rfl, by decide, by decide, by decide +kernel⟩
set_option maxRecDepth 100000 in
theorem ys_X7_isMove : zYs yX7_isMove cX7_isMove 2 (some .boolean) 1 := ⟨by decide, zt_of (lw_tb (i := 910) rfl) rfl, zt_of (lw_tb (i := 909) (by decide +kernel)) rfl, zt_of (lw_tb (i := 8) (by decide +kernel)) rfl, by decide, by decide, by decide +kernel⟩
set_option maxRecDepth 100000 in
theorem yv_X7_goes : zYv yX7_goes cX7_goes 2 none 1 7 := ⟨(RX7, TX7, 23), rfl, rfl, by decide, by decide, zt_of (lw_tb (i := 933) rfl) rfl, zt_of (lw_tb (i := 932) (by decide +kernel)) rfl, zt_of (lw_sb (i := 36) (by decide +kernel)) rfl, zt_of (lw_tb (i := 8) (by decide +kernel)) rfl, by decide, by decide, by decide +kernel⟩
set_option maxRecDepth 100000 in
theorem yv_X7_move : zYv yX7_move cX7_move 2 (some .int) 1 7 := ⟨(RX7, TX7, 23), rfl, rfl, by decide, by decide, zt_of (lw_tb (i := 907) rfl) rfl, zt_of (lw_tb (i := 905) (by decide +kernel)) rfl, zt_of (lw_tb (i := 906) (by decide +kernel)) rfl, zt_of (lw_tb (i := 8) (by decide +kernel)) rfl, by decide, by decide, by decide +kernel⟩
set_option maxRecDepth 100000 in
theorem yv_X7_may : zYv yX7_may cX7_may 2 (some .int) 1 7 := ⟨(RX7, TX7, 23), rfl, rfl, by decide, by decide, zt_of (lw_tb (i := 937) rfl) rfl, zt_of (lw_tb (i := 935) (by decide +kernel)) rfl, zt_of (lw_tb (i := 936) (by decide +kernel)) rfl, zt_of (lw_tb (i := 8) (by decide +kernel)) rfl, by decide, by decide, by decide +kernel⟩
set_option maxRecDepth 100000 in
theorem yv_X7_useAt : zYv yX7_useAt cX7_useAt 4 (some .long) 1 7 := ⟨(RX7, TX7, 23), rfl, rfl, by decide, by decide, zt_of (lw_tb (i := 999) rfl) rfl, zt_of (lw_tb (i := 998) (by decide +kernel)) rfl, zt_of (lw_sb (i := 48) (by decide +kernel)) rfl, zt_of (lw_tb (i := 8) (by decide +kernel)) rfl, by decide, by decide, by decide +kernel⟩
set_option maxRecDepth 100000 in
theorem yv_X7_ends : zYv yX7_ends cX7_ends 1 none 0 7 := ⟨(RX7, TX7, 23), rfl, rfl, by decide, by decide, zt_of (lw_tb (i := 995) rfl) rfl, zt_of (lw_tb (i := 994) (by decide +kernel)) rfl, zt_of (lw_sb (i := 47) (by decide +kernel)) rfl, zt_of (lw_tb (i := 8) (by decide +kernel)) rfl, by decide, by decide, by decide +kernel⟩
set_option maxRecDepth 100000 in
theorem yv_X7_go : zYv yX7_go cX7_go 4 (some .int) 2 7 := ⟨(RX7, TX7, 23), rfl, rfl, by decide, by decide, zt_of (lw_tb (i := 945) rfl) rfl, zt_of (lw_tb (i := 944) (by decide +kernel)) rfl, zt_of (lw_sb (i := 37) (by decide +kernel)) rfl, zt_of (lw_tb (i := 8) (by decide +kernel)) rfl, by decide, by decide, by decide +kernel⟩
set_option maxRecDepth 100000 in
theorem yv_X7_days : zYv yX7_days cX7_days 2 (some .int) 1 7 := ⟨(RX7, TX7, 23), rfl, rfl, by decide, by decide, zt_of (lw_tb (i := 941) rfl) rfl, zt_of (lw_tb (i := 939) (by decide +kernel)) rfl, zt_of (lw_tb (i := 940) (by decide +kernel)) rfl, zt_of (lw_tb (i := 8) (by decide +kernel)) rfl, by decide, by decide, by decide +kernel⟩
set_option maxRecDepth 100000 in
theorem yv_X7_runs : zYv yX7_runs cX7_runs 2 (some .int) 1 7 := ⟨(RX7, TX7, 23), rfl, rfl, by decide, by decide, zt_of (lw_tb (i := 1003) rfl) rfl, zt_of (lw_tb (i := 1001) (by decide +kernel)) rfl, zt_of (lw_tb (i := 1002) (by decide +kernel)) rfl, zt_of (lw_tb (i := 8) (by decide +kernel)) rfl, by decide, by decide, by decide +kernel⟩
set_option maxRecDepth 100000 in
theorem yv_X7_thing : zYv yX7_thing cX7_thing 2 (some .long) 1 7 := ⟨(RX7, TX7, 23), rfl, rfl, by decide, by decide, zt_of (lw_tb (i := 1007) rfl) rfl, zt_of (lw_tb (i := 1005) (by decide +kernel)) rfl, zt_of (lw_tb (i := 1006) (by decide +kernel)) rfl, zt_of (lw_tb (i := 8) (by decide +kernel)) rfl, by decide, by decide, by decide +kernel⟩
set_option maxRecDepth 100000 in
theorem yv_X7_isWarning : zYv yX7_isWarning cX7_isWarning 2 (some .boolean) 1 7 := ⟨(RX7, TX7, 23), rfl, rfl, by decide, by decide, zt_of (lw_tb (i := 1019) rfl) rfl, zt_of (lw_tb (i := 1018) (by decide +kernel)) rfl, zt_of (lw_sb (i := 49) (by decide +kernel)) rfl, zt_of (lw_tb (i := 8) (by decide +kernel)) rfl, by decide, by decide, by decide +kernel⟩
set_option maxRecDepth 100000 in
theorem yv_X7_of1 : zYv yX7_of1 cX7_of1 3 (some .int) 2 7 := ⟨(RX7, TX7, 23), rfl, rfl, by decide, by decide, zt_of (lw_tb (i := 965) rfl) rfl, zt_of (lw_tb (i := 964) (by decide +kernel)) rfl, zt_of (lw_sb (i := 42) (by decide +kernel)) rfl, zt_of (lw_tb (i := 8) (by decide +kernel)) rfl, by decide, by decide, by decide +kernel⟩
set_option maxRecDepth 100000 in
theorem yv_X7_isOpen : zYv yX7_isOpen cX7_isOpen 3 (some .boolean) 2 7 := ⟨(RX7, TX7, 23), rfl, rfl, by decide, by decide, zt_of (lw_tb (i := 988) rfl) rfl, zt_of (lw_tb (i := 987) (by decide +kernel)) rfl, zt_of (lw_sb (i := 46) (by decide +kernel)) rfl, zt_of (lw_tb (i := 8) (by decide +kernel)) rfl, by decide, by decide, by decide +kernel⟩
set_option maxRecDepth 100000 in
theorem yv_X7_warn : zYv yX7_warn cX7_warn 6 (some .int) 3 7 := ⟨(RX7, TX7, 23), rfl, rfl, by decide, by decide, zt_of (lw_tb (i := 1011) rfl) rfl, zt_of (lw_tb (i := 1009) (by decide +kernel)) rfl, zt_of (lw_tb (i := 1010) (by decide +kernel)) rfl, zt_of (lw_tb (i := 8) (by decide +kernel)) rfl, by decide, by decide, by decide +kernel⟩
set_option maxRecDepth 100000 in
theorem yv_X7_of : zYv yX7_of cX7_of 3 (some .int) 2 7 := ⟨(RX7, TX7, 23), rfl, rfl, by decide, by decide, zt_of (lw_tb (i := 1015) rfl) rfl, zt_of (lw_tb (i := 1013) (by decide +kernel)) rfl, zt_of (lw_tb (i := 1014) (by decide +kernel)) rfl, zt_of (lw_tb (i := 8) (by decide +kernel)) rfl, by decide, by decide, by decide +kernel⟩
set_option maxRecDepth 100000 in
theorem yv_X7_as : zYv yX7_as cX7_as 5 (some .int) 2 7 := ⟨(RX7, TX7, 23), rfl, rfl, by decide, by decide, zt_of (lw_tb (i := 1024) rfl) rfl, zt_of (lw_tb (i := 1022) (by decide +kernel)) rfl, zt_of (lw_tb (i := 1023) (by decide +kernel)) rfl, zt_of (lw_tb (i := 8) (by decide +kernel)) rfl, by decide, by decide, by decide +kernel⟩
set_option maxRecDepth 100000 in
theorem ys_X7_plain : zYs yX7_plain cX7_plain 3 (some .int) 3 := ⟨by decide, zt_of (lw_tb (i := 976) rfl) rfl, zt_of (lw_tb (i := 975) (by decide +kernel)) rfl, zt_of (lw_tb (i := 8) (by decide +kernel)) rfl, by decide, by decide, by decide +kernel⟩
set_option maxRecDepth 100000 in
theorem ys_X7_close : zYs yX7_close cX7_close 2 (some .int) 1 := ⟨by decide, zt_of (lw_tb (i := 979) rfl) rfl, zt_of (lw_tb (i := 978) (by decide +kernel)) rfl, zt_of (lw_tb (i := 8) (by decide +kernel)) rfl, by decide, by decide, by decide +kernel⟩
set_option maxRecDepth 100000 in
theorem yv_X7_struckBy : zYv yX7_struckBy cX7_struckBy 6 (some .int) 2 7 := ⟨(RX7, TX7, 23), rfl, rfl, by decide, by decide, zt_of (lw_tb (i := 973) rfl) rfl, zt_of (lw_tb (i := 972) (by decide +kernel)) rfl, zt_of (lw_sb (i := 44) (by decide +kernel)) rfl, zt_of (lw_tb (i := 8) (by decide +kernel)) rfl, by decide, by decide, by decide +kernel⟩
set_option maxRecDepth 100000 in
theorem ys_X7_isHeight : zYs yX7_isHeight cX7_isHeight 1 (some .boolean) 1 := ⟨by decide, zt_of (lw_tb (i := 1031) rfl) rfl, zt_of (lw_tb (i := 1030) (by decide +kernel)) rfl, zt_of (lw_tb (i := 8) (by decide +kernel)) rfl, by decide, by decide, by decide +kernel⟩
set_option maxRecDepth 100000 in
theorem yv_X7_struck : zYv yX7_struck cX7_struck 3 (some .int) 2 7 := ⟨(RX7, TX7, 23), rfl, rfl, by decide, by decide, zt_of (lw_tb (i := 1028) rfl) rfl, zt_of (lw_tb (i := 1026) (by decide +kernel)) rfl, zt_of (lw_tb (i := 1027) (by decide +kernel)) rfl, zt_of (lw_tb (i := 8) (by decide +kernel)) rfl, by decide, by decide, by decide +kernel⟩
set_option maxRecDepth 100000 in
theorem yv_X7_behind : zYv yX7_behind cX7_behind 10 (some .int) 3 7 := ⟨(RX7, TX7, 23), rfl, rfl, by decide, by decide, zt_of (lw_tb (i := 1044) rfl) rfl, zt_of (lw_tb (i := 1043) (by decide +kernel)) rfl, zt_of (lw_sb (i := 51) (by decide +kernel)) rfl, zt_of (lw_tb (i := 8) (by decide +kernel)) rfl, by decide, by decide, by decide +kernel⟩
set_option maxRecDepth 100000 in
theorem yv_X7_looks : zYv yX7_looks cX7_looks 6 (some .int) 4 7 := ⟨(RX7, TX7, 23), rfl, rfl, by decide, by decide, zt_of (lw_tb (i := 1039) rfl) rfl, zt_of (lw_tb (i := 1038) (by decide +kernel)) rfl, zt_of (lw_sb (i := 50) (by decide +kernel)) rfl, zt_of (lw_tb (i := 8) (by decide +kernel)) rfl, by decide, by decide, by decide +kernel⟩
set_option maxRecDepth 100000 in
theorem yv_X7_look : zYv yX7_look cX7_look 4 (some .int) 3 7 := ⟨(RX7, TX7, 23), rfl, rfl, by decide, by decide, zt_of (lw_tb (i := 1035) rfl) rfl, zt_of (lw_tb (i := 1033) (by decide +kernel)) rfl, zt_of (lw_tb (i := 1034) (by decide +kernel)) rfl, zt_of (lw_tb (i := 8) (by decide +kernel)) rfl, by decide, by decide, by decide +kernel⟩
set_option maxRecDepth 100000 in
theorem yv_X7_think : zYv yX7_think cX7_think 4 (some .int) 3 7 := ⟨(RX7, TX7, 23), rfl, rfl, by decide, by decide, zt_of (lw_tb (i := 1048) rfl) rfl, zt_of (lw_tb (i := 1046) (by decide +kernel)) rfl, zt_of (lw_tb (i := 1047) (by decide +kernel)) rfl, zt_of (lw_tb (i := 8) (by decide +kernel)) rfl, by decide, by decide, by decide +kernel⟩
set_option maxRecDepth 100000 in
theorem yv_X7_dangerAt : zYv yX7_dangerAt cX7_dangerAt 5 (some .int) 2 7 := ⟨(RX7, TX7, 23), rfl, rfl, by decide, by decide, zt_of (lw_tb (i := 969) rfl) rfl, zt_of (lw_tb (i := 968) (by decide +kernel)) rfl, zt_of (lw_sb (i := 43) (by decide +kernel)) rfl, zt_of (lw_tb (i := 8) (by decide +kernel)) rfl, by decide, by decide, by decide +kernel⟩
set_option maxRecDepth 100000 in
theorem ys_X7_isDay : zYs yX7_isDay cX7_isDay 1 (some .boolean) 1 := ⟨by decide, zt_of (lw_tb (i := 1055) rfl) rfl, zt_of (lw_tb (i := 1054) (by decide +kernel)) rfl, zt_of (lw_tb (i := 8) (by decide +kernel)) rfl, by decide, by decide, by decide +kernel⟩
set_option maxRecDepth 100000 in
theorem yv_X7_danger : zYv yX7_danger cX7_danger 3 (some .int) 2 7 := ⟨(RX7, TX7, 23), rfl, rfl, by decide, by decide, zt_of (lw_tb (i := 1052) rfl) rfl, zt_of (lw_tb (i := 1050) (by decide +kernel)) rfl, zt_of (lw_tb (i := 1051) (by decide +kernel)) rfl, zt_of (lw_tb (i := 8) (by decide +kernel)) rfl, by decide, by decide, by decide +kernel⟩
set_option maxRecDepth 100000 in
theorem yv_X7_safest : zYv yX7_safest cX7_safest 5 (some .int) 1 7 := ⟨(RX7, TX7, 23), rfl, rfl, by decide, by decide, zt_of (lw_tb (i := 1059) rfl) rfl, zt_of (lw_tb (i := 1057) (by decide +kernel)) rfl, zt_of (lw_tb (i := 1058) (by decide +kernel)) rfl, zt_of (lw_tb (i := 8) (by decide +kernel)) rfl, by decide, by decide, by decide +kernel⟩
set_option maxRecDepth 100000 in
theorem yv_X7_open : zYv yX7_open cX7_open 3 (some .int) 0 7 := ⟨(RX7, TX7, 23), rfl, rfl, by decide, by decide, zt_of (lw_tb (i := 1063) rfl) rfl, zt_of (lw_tb (i := 1061) (by decide +kernel)) rfl, zt_of (lw_tb (i := 1062) (by decide +kernel)) rfl, zt_of (lw_tb (i := 8) (by decide +kernel)) rfl, by decide, by decide, by decide +kernel⟩
set_option maxRecDepth 100000 in
theorem yv_X7_feed : zYv yX7_feed cX7_feed 4 (some .int) 2 7 := ⟨(RX7, TX7, 23), rfl, rfl, by decide, by decide, zt_of (lw_tb (i := 1067) rfl) rfl, zt_of (lw_tb (i := 1065) (by decide +kernel)) rfl, zt_of (lw_tb (i := 1066) (by decide +kernel)) rfl, zt_of (lw_tb (i := 8) (by decide +kernel)) rfl, by decide, by decide, by decide +kernel⟩
set_option maxRecDepth 100000 in
theorem yv_X7_wipe : zYv yX7_wipe cX7_wipe 2 (some .int) 0 7 := ⟨(RX7, TX7, 23), rfl, rfl, by decide, by decide, zt_of (lw_tb (i := 1072) rfl) rfl, zt_of (lw_tb (i := 1070) (by decide +kernel)) rfl, zt_of (lw_tb (i := 1071) (by decide +kernel)) rfl, zt_of (lw_tb (i := 8) (by decide +kernel)) rfl, by decide, by decide, by decide +kernel⟩
set_option maxRecDepth 100000 in
theorem yv_X7_here : zYv yX7_here cX7_here 1 (some .int) 0 7 := ⟨(RX7, TX7, 23), rfl, rfl, by decide, by decide, zt_of (lw_tb (i := 1092) rfl) rfl, zt_of (lw_tb (i := 1091) (by decide +kernel)) rfl, zt_of (lw_sb (i := 55) (by decide +kernel)) rfl, zt_of (lw_tb (i := 8) (by decide +kernel)) rfl, by decide, by decide, by decide +kernel⟩
set_option maxRecDepth 100000 in
theorem yv_X7_takes : zYv yX7_takes cX7_takes 2 (some .boolean) 1 7 := ⟨(RX7, TX7, 23), rfl, rfl, by decide, by decide, zt_of (lw_tb (i := 1109) rfl) rfl, zt_of (lw_tb (i := 1108) (by decide +kernel)) rfl, zt_of (lw_sb (i := 58) (by decide +kernel)) rfl, zt_of (lw_tb (i := 8) (by decide +kernel)) rfl, by decide, by decide, by decide +kernel⟩
set_option maxRecDepth 100000 in
theorem yv_X7_lays : zYv yX7_lays cX7_lays 3 none 2 7 := ⟨(RX7, TX7, 23), rfl, rfl, by decide, by decide, zt_of (lw_tb (i := 1099) rfl) rfl, zt_of (lw_tb (i := 1098) (by decide +kernel)) rfl, zt_of (lw_sb (i := 56) (by decide +kernel)) rfl, zt_of (lw_tb (i := 8) (by decide +kernel)) rfl, by decide, by decide, by decide +kernel⟩
set_option maxRecDepth 100000 in
theorem yv_X7_whole : zYv yX7_whole cX7_whole 4 (some .boolean) 0 7 := ⟨(RX7, TX7, 23), rfl, rfl, by decide, by decide, zt_of (lw_tb (i := 1080) rfl) rfl, zt_of (lw_tb (i := 1079) (by decide +kernel)) rfl, zt_of (lw_sb (i := 52) (by decide +kernel)) rfl, zt_of (lw_tb (i := 8) (by decide +kernel)) rfl, by decide, by decide, by decide +kernel⟩
set_option maxRecDepth 100000 in
theorem yv_X7_isCompare : zYv yX7_isCompare cX7_isCompare 1 (some .boolean) 0 7 := ⟨(RX7, TX7, 23), rfl, rfl, by decide, by decide, zt_of (lw_tb (i := 1113) rfl) rfl, zt_of (lw_tb (i := 1112) (by decide +kernel)) rfl, zt_of (lw_sb (i := 59) (by decide +kernel)) rfl, zt_of (lw_tb (i := 8) (by decide +kernel)) rfl, by decide, by decide, by decide +kernel⟩
set_option maxRecDepth 100000 in
theorem yv_X7_condition : zYv yX7_condition cX7_condition 1 (some .boolean) 0 7 := ⟨(RX7, TX7, 23), rfl, rfl, by decide, by decide, zt_of (lw_tb (i := 1117) rfl) rfl, zt_of (lw_tb (i := 1116) (by decide +kernel)) rfl, zt_of (lw_sb (i := 60) (by decide +kernel)) rfl, zt_of (lw_tb (i := 8) (by decide +kernel)) rfl, by decide, by decide, by decide +kernel⟩
set_option maxRecDepth 100000 in
theorem yv_X7_compared : zYv yX7_compared cX7_compared 2 (some .boolean) 0 7 := ⟨(RX7, TX7, 23), rfl, rfl, by decide, by decide, zt_of (lw_tb (i := 1121) rfl) rfl, zt_of (lw_tb (i := 1120) (by decide +kernel)) rfl, zt_of (lw_sb (i := 61) (by decide +kernel)) rfl, zt_of (lw_tb (i := 8) (by decide +kernel)) rfl, by decide, by decide, by decide +kernel⟩
set_option maxRecDepth 100000 in
theorem yv_X7_sum : zYv yX7_sum cX7_sum 2 (some .boolean) 0 7 := ⟨(RX7, TX7, 23), rfl, rfl, by decide, by decide, zt_of (lw_tb (i := 1084) rfl) rfl, zt_of (lw_tb (i := 1083) (by decide +kernel)) rfl, zt_of (lw_sb (i := 53) (by decide +kernel)) rfl, zt_of (lw_tb (i := 8) (by decide +kernel)) rfl, by decide, by decide, by decide +kernel⟩
set_option maxRecDepth 100000 in
theorem ys_X7_isName : zYs yX7_isName cX7_isName 1 (some .boolean) 1 := ⟨by decide, zt_of (lw_tb (i := 1095) rfl) rfl, zt_of (lw_tb (i := 1094) (by decide +kernel)) rfl, zt_of (lw_tb (i := 8) (by decide +kernel)) rfl, by decide, by decide, by decide +kernel⟩
set_option maxRecDepth 100000 in
theorem yv_X7_opens : zYv yX7_opens cX7_opens 1 (some .boolean) 0 7 := ⟨(RX7, TX7, 23), rfl, rfl, by decide, by decide, zt_of (lw_tb (i := 1105) rfl) rfl, zt_of (lw_tb (i := 1104) (by decide +kernel)) rfl, zt_of (lw_sb (i := 57) (by decide +kernel)) rfl, zt_of (lw_tb (i := 8) (by decide +kernel)) rfl, by decide, by decide, by decide +kernel⟩
set_option maxRecDepth 100000 in
theorem yv_X7_part : zYv yX7_part cX7_part 4 (some .boolean) 0 7 := ⟨(RX7, TX7, 23), rfl, rfl, by decide, by decide, zt_of (lw_tb (i := 1088) rfl) rfl, zt_of (lw_tb (i := 1087) (by decide +kernel)) rfl, zt_of (lw_sb (i := 54) (by decide +kernel)) rfl, zt_of (lw_tb (i := 8) (by decide +kernel)) rfl, by decide, by decide, by decide +kernel⟩
set_option maxRecDepth 100000 in
theorem yv_X7_rule : zYv yX7_rule cX7_rule 3 (some .int) 0 7 := ⟨(RX7, TX7, 23), rfl, rfl, by decide, by decide, zt_of (lw_tb (i := 1076) rfl) rfl, zt_of (lw_tb (i := 1074) (by decide +kernel)) rfl, zt_of (lw_tb (i := 1075) (by decide +kernel)) rfl, zt_of (lw_tb (i := 8) (by decide +kernel)) rfl, by decide, by decide, by decide +kernel⟩
set_option maxRecDepth 100000 in
theorem yv_X7_drift : zYv yX7_drift cX7_drift 2 (some .int) 0 7 := ⟨(RX7, TX7, 23), rfl, rfl, by decide, by decide, zt_of (lw_tb (i := 1125) rfl) rfl, zt_of (lw_tb (i := 1123) (by decide +kernel)) rfl, zt_of (lw_tb (i := 1124) (by decide +kernel)) rfl, zt_of (lw_tb (i := 8) (by decide +kernel)) rfl, by decide, by decide, by decide +kernel⟩
set_option maxRecDepth 100000 in
theorem ys_X7_joined : zYs yX7_joined cX7_joined 3 (some .int) 3 := ⟨by decide, zt_of (lw_tb (i := 991) rfl) rfl, zt_of (lw_tb (i := 990) (by decide +kernel)) rfl, zt_of (lw_tb (i := 8) (by decide +kernel)) rfl, by decide, by decide, by decide +kernel⟩
set_option maxRecDepth 100000 in
theorem yv_X7_nextDay : zYv yX7_nextDay cX7_nextDay 5 (some .int) 1 7 := ⟨(RX7, TX7, 23), rfl, rfl, by decide, by decide, zt_of (lw_tb (i := 961) rfl) rfl, zt_of (lw_tb (i := 960) (by decide +kernel)) rfl, zt_of (lw_sb (i := 41) (by decide +kernel)) rfl, zt_of (lw_tb (i := 8) (by decide +kernel)) rfl, by decide, by decide, by decide +kernel⟩
set_option maxRecDepth 100000 in
theorem yv_X7_openMany : zYv yX7_openMany cX7_openMany 4 (some .int) 1 7 := ⟨(RX7, TX7, 23), rfl, rfl, by decide, by decide, zt_of (lw_tb (i := 984) rfl) rfl, zt_of (lw_tb (i := 983) (by decide +kernel)) rfl, zt_of (lw_sb (i := 45) (by decide +kernel)) rfl, zt_of (lw_tb (i := 8) (by decide +kernel)) rfl, by decide, by decide, by decide +kernel⟩
set_option maxRecDepth 100000 in
theorem yv_X7_told : zYv yX7_told cX7_told 9 (some .int) 3 7 := ⟨(RX7, TX7, 23), rfl, rfl, by decide, by decide, zt_of (lw_tb (i := 957) rfl) rfl, zt_of (lw_tb (i := 956) (by decide +kernel)) rfl, zt_of (lw_sb (i := 40) (by decide +kernel)) rfl, zt_of (lw_tb (i := 8) (by decide +kernel)) rfl, by decide, by decide, by decide +kernel⟩
set_option maxRecDepth 100000 in
theorem yv_X7_movesBy : zYv yX7_movesBy cX7_movesBy 6 (some .int) 3 7 := ⟨(RX7, TX7, 23), rfl, rfl, by decide, by decide, zt_of (lw_tb (i := 953) rfl) rfl, zt_of (lw_tb (i := 952) (by decide +kernel)) rfl, zt_of (lw_sb (i := 39) (by decide +kernel)) rfl, zt_of (lw_tb (i := 8) (by decide +kernel)) rfl, by decide, by decide, by decide +kernel⟩
set_option maxRecDepth 100000 in
theorem yv_X7_says : zYv yX7_says cX7_says 2 (some .int) 1 7 := ⟨(RX7, TX7, 23), rfl, rfl, by decide, by decide, zt_of (lw_tb (i := 1129) rfl) rfl, zt_of (lw_tb (i := 1127) (by decide +kernel)) rfl, zt_of (lw_tb (i := 1128) (by decide +kernel)) rfl, zt_of (lw_tb (i := 8) (by decide +kernel)) rfl, by decide, by decide, by decide +kernel⟩
set_option maxRecDepth 100000 in
theorem ys_X7_place : zYs yX7_place cX7_place 3 (some .int) 3 := ⟨by decide, zt_of (lw_tb (i := 1157) rfl) rfl, zt_of (lw_tb (i := 1156) (by decide +kernel)) rfl, zt_of (lw_tb (i := 8) (by decide +kernel)) rfl, by decide, by decide, by decide +kernel⟩
set_option maxRecDepth 100000 in
theorem yv_X7_dayWorth : zYv yX7_dayWorth cX7_dayWorth 3 (some .long) 2 7 := ⟨(RX7, TX7, 23), rfl, rfl, by decide, by decide, zt_of (lw_tb (i := 1150) rfl) rfl, zt_of (lw_tb (i := 1149) (by decide +kernel)) rfl, zt_of (lw_sb (i := 64) (by decide +kernel)) rfl, zt_of (lw_tb (i := 8) (by decide +kernel)) rfl, by decide, by decide, by decide +kernel⟩
set_option maxRecDepth 100000 in
theorem ys_X7_moveAt : zYs yX7_moveAt cX7_moveAt 1 (some .int) 1 := ⟨by decide, zt_of (lw_tb (i := 1160) rfl) rfl, zt_of (lw_tb (i := 1159) (by decide +kernel)) rfl, zt_of (lw_tb (i := 8) (by decide +kernel)) rfl, by decide, by decide, by decide +kernel⟩
set_option maxRecDepth 100000 in
theorem yv_X7_findBest : zYv yX7_findBest cX7_findBest 5 none 1 7 := ⟨(RX7, TX7, 23), rfl, rfl, by decide, by decide, zt_of (lw_tb (i := 1146) rfl) rfl, zt_of (lw_tb (i := 1145) (by decide +kernel)) rfl, zt_of (lw_sb (i := 63) (by decide +kernel)) rfl, zt_of (lw_tb (i := 8) (by decide +kernel)) rfl, by decide, by decide, by decide +kernel⟩
set_option maxRecDepth 100000 in
theorem yv_X7_findOne : zYv yX7_findOne cX7_findOne 13 none 3 7 := ⟨(RX7, TX7, 23), rfl, rfl, by decide, by decide, zt_of (lw_tb (i := 1154) rfl) rfl, zt_of (lw_tb (i := 1153) (by decide +kernel)) rfl, zt_of (lw_sb (i := 65) (by decide +kernel)) rfl, zt_of (lw_tb (i := 8) (by decide +kernel)) rfl, by decide, by decide, by decide +kernel⟩
set_option maxRecDepth 100000 in
theorem yv_X7_bestWorth : zYv yX7_bestWorth cX7_bestWorth 2 (some .long) 1 7 := ⟨(RX7, TX7, 23), rfl, rfl, by decide, by decide, zt_of (lw_tb (i := 1142) rfl) rfl, zt_of (lw_tb (i := 1141) (by decide +kernel)) rfl, zt_of (lw_sb (i := 62) (by decide +kernel)) rfl, zt_of (lw_tb (i := 8) (by decide +kernel)) rfl, by decide, by decide, by decide +kernel⟩
set_option maxRecDepth 100000 in
theorem yv_X7_moveOf : zYv yX7_moveOf cX7_moveOf 7 (some .int) 2 7 := ⟨(RX7, TX7, 23), rfl, rfl, by decide, by decide, zt_of (lw_tb (i := 1164) rfl) rfl, zt_of (lw_tb (i := 1163) (by decide +kernel)) rfl, zt_of (lw_sb (i := 66) (by decide +kernel)) rfl, zt_of (lw_tb (i := 8) (by decide +kernel)) rfl, by decide, by decide, by decide +kernel⟩
set_option maxRecDepth 100000 in
theorem ys_X7_isAhead : zYs yX7_isAhead cX7_isAhead 1 (some .boolean) 1 := ⟨by decide, zt_of (lw_tb (i := 1136) rfl) rfl, zt_of (lw_tb (i := 1135) (by decide +kernel)) rfl, zt_of (lw_tb (i := 8) (by decide +kernel)) rfl, by decide, by decide, by decide +kernel⟩
set_option maxRecDepth 100000 in
theorem yv_X7_best : zYv yX7_best cX7_best 7 (some .long) 2 7 := ⟨(RX7, TX7, 23), rfl, rfl, by decide, by decide, zt_of (lw_tb (i := 1133) rfl) rfl, zt_of (lw_tb (i := 1131) (by decide +kernel)) rfl, zt_of (lw_tb (i := 1132) (by decide +kernel)) rfl, zt_of (lw_tb (i := 8) (by decide +kernel)) rfl, by decide, by decide, by decide +kernel⟩
set_option maxRecDepth 100000 in
theorem yv_X7_turn : zYv yX7_turn cX7_turn 3 (some .int) 2 7 := ⟨(RX7, TX7, 23), rfl, rfl, by decide, by decide, zt_of (lw_tb (i := 1168) rfl) rfl, zt_of (lw_tb (i := 1166) (by decide +kernel)) rfl, zt_of (lw_tb (i := 1167) (by decide +kernel)) rfl, zt_of (lw_tb (i := 8) (by decide +kernel)) rfl, by decide, by decide, by decide +kernel⟩
set_option maxRecDepth 100000 in
theorem yv_X7_rest : zYv yX7_rest cX7_rest 5 (some .long) 1 7 := ⟨(RX7, TX7, 23), rfl, rfl, by decide, by decide, zt_of (lw_tb (i := 1172) rfl) rfl, zt_of (lw_tb (i := 1170) (by decide +kernel)) rfl, zt_of (lw_tb (i := 1171) (by decide +kernel)) rfl, zt_of (lw_tb (i := 8) (by decide +kernel)) rfl, by decide, by decide, by decide +kernel⟩
set_option maxRecDepth 100000 in
theorem yv_X7_home : zYv yX7_home cX7_home 7 (some .int) 2 7 := ⟨(RX7, TX7, 23), rfl, rfl, by decide, by decide, zt_of (lw_tb (i := 1176) rfl) rfl, zt_of (lw_tb (i := 1174) (by decide +kernel)) rfl, zt_of (lw_tb (i := 1175) (by decide +kernel)) rfl, zt_of (lw_tb (i := 8) (by decide +kernel)) rfl, by decide, by decide, by decide +kernel⟩
set_option maxRecDepth 100000 in
theorem yv_X7_worthBehind : zYv yX7_worthBehind cX7_worthBehind 9 (some .long) 3 7 := ⟨(RX7, TX7, 23), rfl, rfl, by decide, by decide, zt_of (lw_tb (i := 1185) rfl) rfl, zt_of (lw_tb (i := 1184) (by decide +kernel)) rfl, zt_of (lw_sb (i := 67) (by decide +kernel)) rfl, zt_of (lw_tb (i := 8) (by decide +kernel)) rfl, by decide, by decide, by decide +kernel⟩
set_option maxRecDepth 100000 in
theorem yv_X7_know : zYv yX7_know cX7_know 12 (some .long) 3 7 := ⟨(RX7, TX7, 23), rfl, rfl, by decide, by decide, zt_of (lw_tb (i := 1181) rfl) rfl, zt_of (lw_tb (i := 1179) (by decide +kernel)) rfl, zt_of (lw_tb (i := 1180) (by decide +kernel)) rfl, zt_of (lw_tb (i := 8) (by decide +kernel)) rfl, by decide, by decide, by decide +kernel⟩
set_option maxRecDepth 100000 in
theorem yv_X7_lasts : zYv yX7_lasts cX7_lasts 8 (some .int) 2 7 := ⟨(RX7, TX7, 23), rfl, rfl, by decide, by decide, zt_of (lw_tb (i := 1193) rfl) rfl, zt_of (lw_tb (i := 1192) (by decide +kernel)) rfl, zt_of (lw_sb (i := 68) (by decide +kernel)) rfl, zt_of (lw_tb (i := 8) (by decide +kernel)) rfl, by decide, by decide, by decide +kernel⟩
set_option maxRecDepth 100000 in
theorem yv_X7_life : zYv yX7_life cX7_life 3 (some .int) 2 7 := ⟨(RX7, TX7, 23), rfl, rfl, by decide, by decide, zt_of (lw_tb (i := 1189) rfl) rfl, zt_of (lw_tb (i := 1187) (by decide +kernel)) rfl, zt_of (lw_tb (i := 1188) (by decide +kernel)) rfl, zt_of (lw_tb (i := 8) (by decide +kernel)) rfl, by decide, by decide, by decide +kernel⟩
set_option maxRecDepth 100000 in
theorem yv_X7_lives : zYv yX7_lives cX7_lives 7 (some .int) 3 7 := ⟨(RX7, TX7, 23), rfl, rfl, by decide, by decide, zt_of (lw_tb (i := 1198) rfl) rfl, zt_of (lw_tb (i := 1196) (by decide +kernel)) rfl, zt_of (lw_tb (i := 1197) (by decide +kernel)) rfl, zt_of (lw_tb (i := 8) (by decide +kernel)) rfl, by decide, by decide, by decide +kernel⟩
set_option maxRecDepth 100000 in
theorem ys_X7_isSheet : zYs yX7_isSheet cX7_isSheet 1 (some .boolean) 1 := ⟨by decide, zt_of (lw_tb (i := 1209) rfl) rfl, zt_of (lw_tb (i := 1208) (by decide +kernel)) rfl, zt_of (lw_tb (i := 8) (by decide +kernel)) rfl, by decide, by decide, by decide +kernel⟩
set_option maxRecDepth 100000 in
theorem yv_X7_numberOf : zYv yX7_numberOf cX7_numberOf 3 (some .long) 2 7 := ⟨(RX7, TX7, 23), rfl, rfl, by decide, by decide, zt_of (lw_tb (i := 1213) rfl) rfl, zt_of (lw_tb (i := 1212) (by decide +kernel)) rfl, zt_of (lw_sb (i := 70) (by decide +kernel)) rfl, zt_of (lw_tb (i := 8) (by decide +kernel)) rfl, by decide, by decide, by decide +kernel⟩
set_option maxRecDepth 100000 in
theorem yv_X7_hinders : zYv yX7_hinders cX7_hinders 8 (some .int) 4 7 := ⟨(RX7, TX7, 23), rfl, rfl, by decide, by decide, zt_of (lw_tb (i := 1206) rfl) rfl, zt_of (lw_tb (i := 1205) (by decide +kernel)) rfl, zt_of (lw_sb (i := 69) (by decide +kernel)) rfl, zt_of (lw_tb (i := 8) (by decide +kernel)) rfl, by decide, by decide, by decide +kernel⟩
set_option maxRecDepth 100000 in
theorem yv_X7_isRest : zYv yX7_isRest cX7_isRest 3 (some .boolean) 2 7 := ⟨(RX7, TX7, 23), rfl, rfl, by decide, by decide, zt_of (lw_tb (i := 1217) rfl) rfl, zt_of (lw_tb (i := 1216) (by decide +kernel)) rfl, zt_of (lw_sb (i := 71) (by decide +kernel)) rfl, zt_of (lw_tb (i := 8) (by decide +kernel)) rfl, by decide, by decide, by decide +kernel⟩
set_option maxRecDepth 100000 in
theorem yv_X7_rests : zYv yX7_rests cX7_rests 5 (some .int) 1 7 := ⟨(RX7, TX7, 23), rfl, rfl, by decide, by decide, zt_of (lw_tb (i := 1202) rfl) rfl, zt_of (lw_tb (i := 1200) (by decide +kernel)) rfl, zt_of (lw_tb (i := 1201) (by decide +kernel)) rfl, zt_of (lw_tb (i := 8) (by decide +kernel)) rfl, by decide, by decide, by decide +kernel⟩
set_option maxRecDepth 100000 in
theorem yv_X7_both : zYv yX7_both cX7_both 12 (some .int) 2 7 := ⟨(RX7, TX7, 23), rfl, rfl, by decide, by decide, zt_of (lw_tb (i := 1221) rfl) rfl, zt_of (lw_tb (i := 1219) (by decide +kernel)) rfl, zt_of (lw_tb (i := 1220) (by decide +kernel)) rfl, zt_of (lw_tb (i := 8) (by decide +kernel)) rfl, by decide, by decide, by decide +kernel⟩
set_option maxRecDepth 100000 in
theorem yv_X7_heightOf : zYv yX7_heightOf cX7_heightOf 4 (some .int) 3 7 := ⟨(RX7, TX7, 23), rfl, rfl, by decide, by decide, zt_of (lw_tb (i := 1234) rfl) rfl, zt_of (lw_tb (i := 1233) (by decide +kernel)) rfl, zt_of (lw_sb (i := 73) (by decide +kernel)) rfl, zt_of (lw_tb (i := 8) (by decide +kernel)) rfl, by decide, by decide, by decide +kernel⟩
set_option maxRecDepth 100000 in
theorem yv_X7_findSwarm : zYv yX7_findSwarm cX7_findSwarm 11 none 3 7 := ⟨(RX7, TX7, 23), rfl, rfl, by decide, by decide, zt_of (lw_tb (i := 1230) rfl) rfl, zt_of (lw_tb (i := 1229) (by decide +kernel)) rfl, zt_of (lw_sb (i := 72) (by decide +kernel)) rfl, zt_of (lw_tb (i := 8) (by decide +kernel)) rfl, by decide, by decide, by decide +kernel⟩
set_option maxRecDepth 100000 in
theorem yv_X7_swarm : zYv yX7_swarm cX7_swarm 9 (some .int) 4 7 := ⟨(RX7, TX7, 23), rfl, rfl, by decide, by decide, zt_of (lw_tb (i := 1225) rfl) rfl, zt_of (lw_tb (i := 1223) (by decide +kernel)) rfl, zt_of (lw_tb (i := 1224) (by decide +kernel)) rfl, zt_of (lw_tb (i := 8) (by decide +kernel)) rfl, by decide, by decide, by decide +kernel⟩
set_option maxRecDepth 100000 in
theorem yv_X7_sheet : zYv yX7_sheet cX7_sheet 5 (some .int) 3 7 := ⟨(RX7, TX7, 23), rfl, rfl, by decide, by decide, zt_of (lw_tb (i := 1238) rfl) rfl, zt_of (lw_tb (i := 1236) (by decide +kernel)) rfl, zt_of (lw_tb (i := 1237) (by decide +kernel)) rfl, zt_of (lw_tb (i := 8) (by decide +kernel)) rfl, by decide, by decide, by decide +kernel⟩
set_option maxRecDepth 100000 in
theorem yv_X7_write : zYv yX7_write cX7_write 7 (some .long) 3 7 := ⟨(RX7, TX7, 23), rfl, rfl, by decide, by decide, zt_of (lw_tb (i := 1242) rfl) rfl, zt_of (lw_tb (i := 1240) (by decide +kernel)) rfl, zt_of (lw_tb (i := 1241) (by decide +kernel)) rfl, zt_of (lw_tb (i := 8) (by decide +kernel)) rfl, by decide, by decide, by decide +kernel⟩
set_option maxRecDepth 100000 in
theorem yv_X7_copy : zYv yX7_copy cX7_copy 7 (some .int) 5 7 := ⟨(RX7, TX7, 23), rfl, rfl, by decide, by decide, zt_of (lw_tb (i := 1246) rfl) rfl, zt_of (lw_tb (i := 1244) (by decide +kernel)) rfl, zt_of (lw_tb (i := 1245) (by decide +kernel)) rfl, zt_of (lw_tb (i := 8) (by decide +kernel)) rfl, by decide, by decide, by decide +kernel⟩
set_option maxRecDepth 100000 in
theorem yv_X7_lacks : zYv yX7_lacks cX7_lacks 2 (some .int) 1 7 := ⟨(RX7, TX7, 23), rfl, rfl, by decide, by decide, zt_of (lw_tb (i := 1254) rfl) rfl, zt_of (lw_tb (i := 1253) (by decide +kernel)) rfl, zt_of (lw_sb (i := 74) (by decide +kernel)) rfl, zt_of (lw_tb (i := 8) (by decide +kernel)) rfl, by decide, by decide, by decide +kernel⟩
set_option maxRecDepth 100000 in
theorem yv_X7_turns : zYv yX7_turns cX7_turns 7 (some .int) 1 7 := ⟨(RX7, TX7, 23), rfl, rfl, by decide, by decide, zt_of (lw_tb (i := 1250) rfl) rfl, zt_of (lw_tb (i := 1248) (by decide +kernel)) rfl, zt_of (lw_tb (i := 1249) (by decide +kernel)) rfl, zt_of (lw_tb (i := 8) (by decide +kernel)) rfl, by decide, by decide, by decide +kernel⟩
set_option maxRecDepth 100000 in
theorem yv_X7_read : zYv yX7_read cX7_read 4 (some .int) 1 7 := ⟨(RX7, TX7, 23), rfl, rfl, by decide, by decide, zt_of (lw_tb (i := 1258) rfl) rfl, zt_of (lw_tb (i := 1256) (by decide +kernel)) rfl, zt_of (lw_tb (i := 1257) (by decide +kernel)) rfl, zt_of (lw_tb (i := 8) (by decide +kernel)) rfl, by decide, by decide, by decide +kernel⟩
set_option maxRecDepth 100000 in
theorem yv_X7_image : zYv yX7_image cX7_image 2 (some .int) 0 7 := ⟨(RX7, TX7, 23), rfl, rfl, by decide, by decide, zt_of (lw_tb (i := 1262) rfl) rfl, zt_of (lw_tb (i := 1260) (by decide +kernel)) rfl, zt_of (lw_tb (i := 1261) (by decide +kernel)) rfl, zt_of (lw_tb (i := 8) (by decide +kernel)) rfl, by decide, by decide, by decide +kernel⟩
set_option maxRecDepth 100000 in
theorem yv_X7_undo : zYv yX7_undo cX7_undo 2 (some .int) 0 7 := ⟨(RX7, TX7, 23), rfl, rfl, by decide, by decide, zt_of (lw_tb (i := 1266) rfl) rfl, zt_of (lw_tb (i := 1264) (by decide +kernel)) rfl, zt_of (lw_tb (i := 1265) (by decide +kernel)) rfl, zt_of (lw_tb (i := 8) (by decide +kernel)) rfl, by decide, by decide, by decide +kernel⟩
set_option maxRecDepth 100000 in
theorem yv_X7_tear : zYv yX7_tear cX7_tear 2 (some .int) 0 7 := ⟨(RX7, TX7, 23), rfl, rfl, by decide, by decide, zt_of (lw_tb (i := 1270) rfl) rfl, zt_of (lw_tb (i := 1268) (by decide +kernel)) rfl, zt_of (lw_tb (i := 1269) (by decide +kernel)) rfl, zt_of (lw_tb (i := 8) (by decide +kernel)) rfl, by decide, by decide, by decide +kernel⟩
set_option maxRecDepth 100000 in
theorem yv_X7_count : zYv yX7_count cX7_count 4 (some .int) 1 7 := ⟨(RX7, TX7, 23), rfl, rfl, by decide, by decide, zt_of (lw_tb (i := 1274) rfl) rfl, zt_of (lw_tb (i := 1272) (by decide +kernel)) rfl, zt_of (lw_tb (i := 1273) (by decide +kernel)) rfl, zt_of (lw_tb (i := 8) (by decide +kernel)) rfl, by decide, by decide, by decide +kernel⟩
set_option maxRecDepth 100000 in
theorem yv_X7_status : zYv yX7_status cX7_status 4 (some .int) 1 7 := ⟨(RX7, TX7, 23), rfl, rfl, by decide, by decide, zt_of (lw_tb (i := 1278) rfl) rfl, zt_of (lw_tb (i := 1276) (by decide +kernel)) rfl, zt_of (lw_tb (i := 1277) (by decide +kernel)) rfl, zt_of (lw_tb (i := 8) (by decide +kernel)) rfl, by decide, by decide, by decide +kernel⟩
set_option maxRecDepth 100000 in
theorem ys_J9_abs_0f7a4 : zYs yJ9_abs_0f7a4 cJ9_abs_0f7a4 1 (some .int) 1 := ⟨by decide, zt_of (lw_tb (i := 328) rfl) rfl, zt_of (lw_tb (i := 327) (by decide +kernel)) rfl, zt_of (lw_tb (i := 9) (by decide +kernel)) rfl, by decide, by decide, by decide +kernel⟩
set_option maxRecDepth 100000 in
theorem ys_J9_max_7cf53 : zYs yJ9_max_7cf53 cJ9_max_7cf53 2 (some .int) 2 := ⟨by decide, zt_of (lw_tb (i := 352) rfl) rfl, zt_of (lw_tb (i := 351) (by decide +kernel)) rfl, zt_of (lw_tb (i := 9) (by decide +kernel)) rfl, by decide, by decide, by decide +kernel⟩
set_option maxRecDepth 100000 in
theorem ys_J9_max_f86c9 : zYs yJ9_max_f86c9 cJ9_max_f86c9 4 (some .long) 2 := ⟨by decide, zt_of (lw_tb (i := 691) rfl) rfl, zt_of (lw_tb (i := 690) (by decide +kernel)) rfl, zt_of (lw_tb (i := 9) (by decide +kernel)) rfl, by decide, by decide, by decide +kernel⟩
set_option maxRecDepth 100000 in
theorem ys_J9_min_7cf53 : zYs yJ9_min_7cf53 cJ9_min_7cf53 2 (some .int) 2 := ⟨by decide, zt_of (lw_tb (i := 364) rfl) rfl, zt_of (lw_tb (i := 363) (by decide +kernel)) rfl, zt_of (lw_tb (i := 9) (by decide +kernel)) rfl, by decide, by decide, by decide +kernel⟩
