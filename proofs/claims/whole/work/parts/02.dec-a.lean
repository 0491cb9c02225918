theorem dX0_init_0 : decode cX0_init 0 = .ok (.aload_n 0, 1) := by decide +kernel
theorem dX0_init_1 : decode cX0_init 1 = .ok (.invokespecial 3, 3) := by decide +kernel
theorem dX0_init_4 : decode cX0_init 4 = .ok (.aload_n 0, 1) := by decide +kernel
theorem dX0_init_5 : decode cX0_init 5 = .ok (.sipush 200, 3) := by decide +kernel
theorem dX0_init_8 : decode cX0_init 8 = .ok (.newarray .long, 2) := by decide +kernel
theorem dX0_init_10 : decode cX0_init 10 = .ok (.putfield 9, 3) := by decide +kernel
theorem dX0_init_13 : decode cX0_init 13 = .ok (.aload_n 0, 1) := by decide +kernel
theorem dX0_init_14 : decode cX0_init 14 = .ok (.sipush 12200, 3) := by decide +kernel
theorem dX0_init_17 : decode cX0_init 17 = .ok (.newarray .long, 2) := by decide +kernel
theorem dX0_init_19 : decode cX0_init 19 = .ok (.putfield 15, 3) := by decide +kernel
theorem dX0_init_22 : decode cX0_init 22 = .ok (.aload_n 0, 1) := by decide +kernel
theorem dX0_init_23 : decode cX0_init 23 = .ok (.iconst 0, 1) := by decide +kernel
theorem dX0_init_24 : decode cX0_init 24 = .ok (.putfield 18, 3) := by decide +kernel
theorem dX0_init_27 : decode cX0_init 27 = .ok (.aload_n 0, 1) := by decide +kernel
theorem dX0_init_28 : decode cX0_init 28 = .ok (.iconst 0, 1) := by decide +kernel
theorem dX0_init_29 : decode cX0_init 29 = .ok (.putfield 22, 3) := by decide +kernel
theorem dX0_init_32 : decode cX0_init 32 = .ok (.aload_n 0, 1) := by decide +kernel
theorem dX0_init_33 : decode cX0_init 33 = .ok (.bipush 8, 2) := by decide +kernel
theorem dX0_init_35 : decode cX0_init 35 = .ok (.newarray .int, 2) := by decide +kernel
theorem dX0_init_37 : decode cX0_init 37 = .ok (.putfield 25, 3) := by decide +kernel
theorem dX0_init_40 : decode cX0_init 40 = .ok (.aload_n 0, 1) := by decide +kernel
theorem dX0_init_41 : decode cX0_init 41 = .ok (.lconst 0, 1) := by decide +kernel
theorem dX0_init_42 : decode cX0_init 42 = .ok (.putfield 29, 3) := by decide +kernel
theorem dX0_init_45 : decode cX0_init 45 = .ok (.aload_n 0, 1) := by decide +kernel
theorem dX0_init_46 : decode cX0_init 46 = .ok (.iconst 0, 1) := by decide +kernel
theorem dX0_init_47 : decode cX0_init 47 = .ok (.putfield 33, 3) := by decide +kernel
theorem dX0_init_50 : decode cX0_init 50 = .ok (.aload_n 0, 1) := by decide +kernel
theorem dX0_init_51 : decode cX0_init 51 = .ok (.iconst 0, 1) := by decide +kernel
theorem dX0_init_52 : decode cX0_init 52 = .ok (.putfield 36, 3) := by decide +kernel
theorem dX0_init_55 : decode cX0_init 55 = .ok (.return_, 1) := by decide +kernel
theorem dX0_make_0 : decode cX0_make 0 = .ok (.aload_n 0, 1) := by decide +kernel
theorem dX0_make_1 : decode cX0_make 1 = .ok (.iload_n 2, 1) := by decide +kernel
theorem dX0_make_2 : decode cX0_make 2 = .ok (.bipush 8, 2) := by decide +kernel
theorem dX0_make_4 : decode cX0_make 4 = .ok (.invokestatic 39, 3) := by decide +kernel
theorem dX0_make_7 : decode cX0_make 7 = .ok (.putfield 18, 3) := by decide +kernel
theorem dX0_make_10 : decode cX0_make 10 = .ok (.aload_n 0, 1) := by decide +kernel
theorem dX0_make_11 : decode cX0_make 11 = .ok (.aload_n 1, 1) := by decide +kernel
theorem dX0_make_12 : decode cX0_make 12 = .ok (.invokevirtual 45, 3) := by decide +kernel
theorem dX0_make_15 : decode cX0_make 15 = .ok (.bipush 60, 2) := by decide +kernel
theorem dX0_make_17 : decode cX0_make 17 = .ok (.invokestatic 39, 3) := by decide +kernel
theorem dX0_make_20 : decode cX0_make 20 = .ok (.putfield 22, 3) := by decide +kernel
theorem dX0_make_23 : decode cX0_make 23 = .ok (.aload_n 0, 1) := by decide +kernel
theorem dX0_make_24 : decode cX0_make 24 = .ok (.getfield 18, 3) := by decide +kernel
theorem dX0_make_27 : decode cX0_make 27 = .ok (.iconst 1, 1) := by decide +kernel
theorem dX0_make_28 : decode cX0_make 28 = .ok (.isub, 1) := by decide +kernel
theorem dX0_make_29 : decode cX0_make 29 = .ok (.istore_n 3, 1) := by decide +kernel
theorem dX0_make_30 : decode cX0_make 30 = .ok (.iload_n 3, 1) := by decide +kernel
theorem dX0_make_31 : decode cX0_make 31 = .ok (.ifCond .lt 20, 3) := by decide +kernel
theorem dX0_make_34 : decode cX0_make 34 = .ok (.aload_n 0, 1) := by decide +kernel
theorem dX0_make_35 : decode cX0_make 35 = .ok (.aload_n 1, 1) := by decide +kernel
theorem dX0_make_36 : decode cX0_make 36 = .ok (.iload_n 3, 1) := by decide +kernel
theorem dX0_make_37 : decode cX0_make 37 = .ok (.invokevirtual 51, 3) := by decide +kernel
theorem dX0_make_40 : decode cX0_make 40 = .ok (.aload_n 0, 1) := by decide +kernel
theorem dX0_make_41 : decode cX0_make 41 = .ok (.iload_n 3, 1) := by decide +kernel
theorem dX0_make_42 : decode cX0_make 42 = .ok (.invokevirtual 55, 3) := by decide +kernel
theorem dX0_make_45 : decode cX0_make 45 = .ok (.iinc 3 (-1), 3) := by decide +kernel
theorem dX0_make_48 : decode cX0_make 48 = .ok (.goto (-18), 3) := by decide +kernel
theorem dX0_make_51 : decode cX0_make 51 = .ok (.aload_n 0, 1) := by decide +kernel
theorem dX0_make_52 : decode cX0_make 52 = .ok (.aload_n 1, 1) := by decide +kernel
theorem dX0_make_53 : decode cX0_make 53 = .ok (.getfield 59, 3) := by decide +kernel
theorem dX0_make_56 : decode cX0_make 56 = .ok (.bipush 12, 2) := by decide +kernel
theorem dX0_make_58 : decode cX0_make 58 = .ok (.iadd, 1) := by decide +kernel
theorem dX0_make_59 : decode cX0_make 59 = .ok (.invokevirtual 62, 3) := by decide +kernel
theorem dX0_make_62 : decode cX0_make 62 = .ok (.aload_n 0, 1) := by decide +kernel
theorem dX0_make_63 : decode cX0_make 63 = .ok (.getfield 29, 3) := by decide +kernel
theorem dX0_make_66 : decode cX0_make 66 = .ok (.lreturn, 1) := by decide +kernel
theorem dX0_stay_0 : decode cX0_stay 0 = .ok (.iconst 0, 1) := by decide +kernel
theorem dX0_stay_1 : decode cX0_stay 1 = .ok (.istore_n 3, 1) := by decide +kernel
theorem dX0_stay_2 : decode cX0_stay 2 = .ok (.iload_n 3, 1) := by decide +kernel
theorem dX0_stay_3 : decode cX0_stay 3 = .ok (.bipush 25, 2) := by decide +kernel
theorem dX0_stay_5 : decode cX0_stay 5 = .ok (.if_icmp .ge 121, 3) := by decide +kernel
theorem dX0_stay_8 : decode cX0_stay 8 = .ok (.aload_n 1, 1) := by decide +kernel
theorem dX0_stay_9 : decode cX0_stay 9 = .ok (.aload_n 1, 1) := by decide +kernel
theorem dX0_stay_10 : decode cX0_stay 10 = .ok (.getfield 65, 3) := by decide +kernel
theorem dX0_stay_13 : decode cX0_stay 13 = .ok (.iconst 1, 1) := by decide +kernel
theorem dX0_stay_14 : decode cX0_stay 14 = .ok (.iadd, 1) := by decide +kernel
theorem dX0_stay_15 : decode cX0_stay 15 = .ok (.iload_n 2, 1) := by decide +kernel
theorem dX0_stay_16 : decode cX0_stay 16 = .ok (.iadd, 1) := by decide +kernel
theorem dX0_stay_17 : decode cX0_stay 17 = .ok (.iload_n 3, 1) := by decide +kernel
theorem dX0_stay_18 : decode cX0_stay 18 = .ok (.bipush 12, 2) := by decide +kernel
theorem dX0_stay_20 : decode cX0_stay 20 = .ok (.isub, 1) := by decide +kernel
theorem dX0_stay_21 : decode cX0_stay 21 = .ok (.invokevirtual 68, 3) := by decide +kernel
theorem dX0_stay_24 : decode cX0_stay 24 = .ok (.lstore 4, 2) := by decide +kernel
theorem dX0_stay_26 : decode cX0_stay 26 = .ok (.aload_n 0, 1) := by decide +kernel
theorem dX0_stay_27 : decode cX0_stay 27 = .ok (.getfield 9, 3) := by decide +kernel
theorem dX0_stay_30 : decode cX0_stay 30 = .ok (.iload_n 2, 1) := by decide +kernel
theorem dX0_stay_31 : decode cX0_stay 31 = .ok (.bipush 25, 2) := by decide +kernel
theorem dX0_stay_33 : decode cX0_stay 33 = .ok (.imul, 1) := by decide +kernel
theorem dX0_stay_34 : decode cX0_stay 34 = .ok (.iload_n 3, 1) := by decide +kernel
theorem dX0_stay_35 : decode cX0_stay 35 = .ok (.iadd, 1) := by decide +kernel
theorem dX0_stay_36 : decode cX0_stay 36 = .ok (.lload 4, 2) := by decide +kernel
theorem dX0_stay_38 : decode cX0_stay 38 = .ok (.lastore, 1) := by decide +kernel
theorem dX0_stay_39 : decode cX0_stay 39 = .ok (.iload_n 2, 1) := by decide +kernel
theorem dX0_stay_40 : decode cX0_stay 40 = .ok (.iload_n 3, 1) := by decide +kernel
theorem dX0_stay_41 : decode cX0_stay 41 = .ok (.iconst 0, 1) := by decide +kernel
theorem dX0_stay_42 : decode cX0_stay 42 = .ok (.invokestatic 72, 3) := by decide +kernel
theorem dX0_stay_45 : decode cX0_stay 45 = .ok (.istore 6, 2) := by decide +kernel
theorem dX0_stay_47 : decode cX0_stay 47 = .ok (.iload_n 2, 1) := by decide +kernel
theorem dX0_stay_48 : decode cX0_stay 48 = .ok (.iconst 1, 1) := by decide +kernel
theorem dX0_stay_49 : decode cX0_stay 49 = .ok (.iadd, 1) := by decide +kernel
theorem dX0_stay_50 : decode cX0_stay 50 = .ok (.iload_n 3, 1) := by decide +kernel
theorem dX0_stay_51 : decode cX0_stay 51 = .ok (.iconst 0, 1) := by decide +kernel
theorem dX0_stay_52 : decode cX0_stay 52 = .ok (.invokestatic 72, 3) := by decide +kernel
theorem dX0_stay_55 : decode cX0_stay 55 = .ok (.istore 7, 2) := by decide +kernel
theorem dX0_stay_57 : decode cX0_stay 57 = .ok (.iconst 0, 1) := by decide +kernel
theorem dX0_stay_58 : decode cX0_stay 58 = .ok (.istore 8, 2) := by decide +kernel
theorem dX0_stay_60 : decode cX0_stay 60 = .ok (.iload 8, 2) := by decide +kernel
theorem dX0_stay_62 : decode cX0_stay 62 = .ok (.aload_n 0, 1) := by decide +kernel
theorem dX0_stay_63 : decode cX0_stay 63 = .ok (.getfield 22, 3) := by decide +kernel
theorem dX0_stay_66 : decode cX0_stay 66 = .ok (.if_icmp .gt 54, 3) := by decide +kernel
theorem dX0_stay_69 : decode cX0_stay 69 = .ok (.iload_n 2, 1) := by decide +kernel
theorem dX0_stay_70 : decode cX0_stay 70 = .ok (.aload_n 0, 1) := by decide +kernel
theorem dX0_stay_71 : decode cX0_stay 71 = .ok (.getfield 18, 3) := by decide +kernel
theorem dX0_stay_74 : decode cX0_stay 74 = .ok (.iconst 1, 1) := by decide +kernel
theorem dX0_stay_75 : decode cX0_stay 75 = .ok (.isub, 1) := by decide +kernel
theorem dX0_stay_76 : decode cX0_stay 76 = .ok (.if_icmp .ge 16, 3) := by decide +kernel
theorem dX0_stay_79 : decode cX0_stay 79 = .ok (.aload_n 0, 1) := by decide +kernel
theorem dX0_stay_80 : decode cX0_stay 80 = .ok (.getfield 15, 3) := by decide +kernel
theorem dX0_stay_83 : decode cX0_stay 83 = .ok (.iload 7, 2) := by decide +kernel
theorem dX0_stay_85 : decode cX0_stay 85 = .ok (.iload 8, 2) := by decide +kernel
theorem dX0_stay_87 : decode cX0_stay 87 = .ok (.iadd, 1) := by decide +kernel
theorem dX0_stay_88 : decode cX0_stay 88 = .ok (.laload, 1) := by decide +kernel
theorem dX0_stay_89 : decode cX0_stay 89 = .ok (.goto 4, 3) := by decide +kernel
theorem dX0_stay_92 : decode cX0_stay 92 = .ok (.lconst 0, 1) := by decide +kernel
theorem dX0_stay_93 : decode cX0_stay 93 = .ok (.lstore 9, 2) := by decide +kernel
theorem dX0_stay_95 : decode cX0_stay 95 = .ok (.aload_n 0, 1) := by decide +kernel
theorem dX0_stay_96 : decode cX0_stay 96 = .ok (.getfield 15, 3) := by decide +kernel
theorem dX0_stay_99 : decode cX0_stay 99 = .ok (.iload 6, 2) := by decide +kernel
theorem dX0_stay_101 : decode cX0_stay 101 = .ok (.iload 8, 2) := by decide +kernel
theorem dX0_stay_103 : decode cX0_stay 103 = .ok (.iadd, 1) := by decide +kernel
theorem dX0_stay_104 : decode cX0_stay 104 = .ok (.lload 4, 2) := by decide +kernel
theorem dX0_stay_106 : decode cX0_stay 106 = .ok (.ldc2_w 76, 3) := by decide +kernel
theorem dX0_stay_109 : decode cX0_stay 109 = .ok (.lmul, 1) := by decide +kernel
theorem dX0_stay_110 : decode cX0_stay 110 = .ok (.lload 9, 2) := by decide +kernel
theorem dX0_stay_112 : decode cX0_stay 112 = .ok (.ladd, 1) := by decide +kernel
theorem dX0_stay_113 : decode cX0_stay 113 = .ok (.lastore, 1) := by decide +kernel
theorem dX0_stay_114 : decode cX0_stay 114 = .ok (.iinc 8 1, 3) := by decide +kernel
theorem dX0_stay_117 : decode cX0_stay 117 = .ok (.goto (-57), 3) := by decide +kernel
theorem dX0_stay_120 : decode cX0_stay 120 = .ok (.iinc 3 1, 3) := by decide +kernel
theorem dX0_stay_123 : decode cX0_stay 123 = .ok (.goto (-121), 3) := by decide +kernel
theorem dX0_stay_126 : decode cX0_stay 126 = .ok (.return_, 1) := by decide +kernel
theorem dX0_spread_0 : decode cX0_spread 0 = .ok (.bipush 23, 2) := by decide +kernel
theorem dX0_spread_2 : decode cX0_spread 2 = .ok (.istore_n 2, 1) := by decide +kernel
theorem dX0_spread_3 : decode cX0_spread 3 = .ok (.iload_n 2, 1) := by decide +kernel
theorem dX0_spread_4 : decode cX0_spread 4 = .ok (.ifCond .lt 18, 3) := by decide +kernel
theorem dX0_spread_7 : decode cX0_spread 7 = .ok (.aload_n 0, 1) := by decide +kernel
theorem dX0_spread_8 : decode cX0_spread 8 = .ok (.iload_n 1, 1) := by decide +kernel
theorem dX0_spread_9 : decode cX0_spread 9 = .ok (.iload_n 2, 1) := by decide +kernel
theorem dX0_spread_10 : decode cX0_spread 10 = .ok (.iload_n 2, 1) := by decide +kernel
theorem dX0_spread_11 : decode cX0_spread 11 = .ok (.iconst 1, 1) := by decide +kernel
theorem dX0_spread_12 : decode cX0_spread 12 = .ok (.iadd, 1) := by decide +kernel
theorem dX0_spread_13 : decode cX0_spread 13 = .ok (.invokevirtual 78, 3) := by decide +kernel
theorem dX0_spread_16 : decode cX0_spread 16 = .ok (.iinc 2 (-1), 3) := by decide +kernel
theorem dX0_spread_19 : decode cX0_spread 19 = .ok (.goto (-16), 3) := by decide +kernel
theorem dX0_spread_22 : decode cX0_spread 22 = .ok (.iconst 1, 1) := by decide +kernel
theorem dX0_spread_23 : decode cX0_spread 23 = .ok (.istore_n 2, 1) := by decide +kernel
theorem dX0_spread_24 : decode cX0_spread 24 = .ok (.iload_n 2, 1) := by decide +kernel
theorem dX0_spread_25 : decode cX0_spread 25 = .ok (.bipush 25, 2) := by decide +kernel
theorem dX0_spread_27 : decode cX0_spread 27 = .ok (.if_icmp .ge 18, 3) := by decide +kernel
theorem dX0_spread_30 : decode cX0_spread 30 = .ok (.aload_n 0, 1) := by decide +kernel
theorem dX0_spread_31 : decode cX0_spread 31 = .ok (.iload_n 1, 1) := by decide +kernel
theorem dX0_spread_32 : decode cX0_spread 32 = .ok (.iload_n 2, 1) := by decide +kernel
theorem dX0_spread_33 : decode cX0_spread 33 = .ok (.iload_n 2, 1) := by decide +kernel
theorem dX0_spread_34 : decode cX0_spread 34 = .ok (.iconst 1, 1) := by decide +kernel
theorem dX0_spread_35 : decode cX0_spread 35 = .ok (.isub, 1) := by decide +kernel
theorem dX0_spread_36 : decode cX0_spread 36 = .ok (.invokevirtual 78, 3) := by decide +kernel
theorem dX0_spread_39 : decode cX0_spread 39 = .ok (.iinc 2 1, 3) := by decide +kernel
theorem dX0_spread_42 : decode cX0_spread 42 = .ok (.goto (-18), 3) := by decide +kernel
theorem dX0_spread_45 : decode cX0_spread 45 = .ok (.return_, 1) := by decide +kernel
theorem dX0_step_0 : decode cX0_step 0 = .ok (.iload_n 1, 1) := by decide +kernel
theorem dX0_step_1 : decode cX0_step 1 = .ok (.iload_n 2, 1) := by decide +kernel
theorem dX0_step_2 : decode cX0_step 2 = .ok (.iconst 0, 1) := by decide +kernel
theorem dX0_step_3 : decode cX0_step 3 = .ok (.invokestatic 72, 3) := by decide +kernel
theorem dX0_step_6 : decode cX0_step 6 = .ok (.istore 4, 2) := by decide +kernel
theorem dX0_step_8 : decode cX0_step 8 = .ok (.iload_n 1, 1) := by decide +kernel
theorem dX0_step_9 : decode cX0_step 9 = .ok (.iload_n 3, 1) := by decide +kernel
theorem dX0_step_10 : decode cX0_step 10 = .ok (.iconst 0, 1) := by decide +kernel
theorem dX0_step_11 : decode cX0_step 11 = .ok (.invokestatic 72, 3) := by decide +kernel
theorem dX0_step_14 : decode cX0_step 14 = .ok (.istore 5, 2) := by decide +kernel
theorem dX0_step_16 : decode cX0_step 16 = .ok (.iconst 1, 1) := by decide +kernel
theorem dX0_step_17 : decode cX0_step 17 = .ok (.istore 6, 2) := by decide +kernel
theorem dX0_step_19 : decode cX0_step 19 = .ok (.iload 6, 2) := by decide +kernel
theorem dX0_step_21 : decode cX0_step 21 = .ok (.aload_n 0, 1) := by decide +kernel
theorem dX0_step_22 : decode cX0_step 22 = .ok (.getfield 22, 3) := by decide +kernel
theorem dX0_step_25 : decode cX0_step 25 = .ok (.if_icmp .gt 53, 3) := by decide +kernel
theorem dX0_step_28 : decode cX0_step 28 = .ok (.aload_n 0, 1) := by decide +kernel
theorem dX0_step_29 : decode cX0_step 29 = .ok (.getfield 15, 3) := by decide +kernel
theorem dX0_step_32 : decode cX0_step 32 = .ok (.iload 5, 2) := by decide +kernel
theorem dX0_step_34 : decode cX0_step 34 = .ok (.iload 6, 2) := by decide +kernel
theorem dX0_step_36 : decode cX0_step 36 = .ok (.iadd, 1) := by decide +kernel
theorem dX0_step_37 : decode cX0_step 37 = .ok (.iconst 1, 1) := by decide +kernel
theorem dX0_step_38 : decode cX0_step 38 = .ok (.isub, 1) := by decide +kernel
theorem dX0_step_39 : decode cX0_step 39 = .ok (.laload, 1) := by decide +kernel
theorem dX0_step_40 : decode cX0_step 40 = .ok (.lconst 1, 1) := by decide +kernel
theorem dX0_step_41 : decode cX0_step 41 = .ok (.lsub, 1) := by decide +kernel
theorem dX0_step_42 : decode cX0_step 42 = .ok (.lstore 7, 2) := by decide +kernel
theorem dX0_step_44 : decode cX0_step 44 = .ok (.lload 7, 2) := by decide +kernel
theorem dX0_step_46 : decode cX0_step 46 = .ok (.aload_n 0, 1) := by decide +kernel
theorem dX0_step_47 : decode cX0_step 47 = .ok (.getfield 15, 3) := by decide +kernel
theorem dX0_step_50 : decode cX0_step 50 = .ok (.iload 4, 2) := by decide +kernel
theorem dX0_step_52 : decode cX0_step 52 = .ok (.iload 6, 2) := by decide +kernel
theorem dX0_step_54 : decode cX0_step 54 = .ok (.iadd, 1) := by decide +kernel
theorem dX0_step_55 : decode cX0_step 55 = .ok (.laload, 1) := by decide +kernel
theorem dX0_step_56 : decode cX0_step 56 = .ok (.lcmp, 1) := by decide +kernel
theorem dX0_step_57 : decode cX0_step 57 = .ok (.ifCond .le 15, 3) := by decide +kernel
theorem dX0_step_60 : decode cX0_step 60 = .ok (.aload_n 0, 1) := by decide +kernel
theorem dX0_step_61 : decode cX0_step 61 = .ok (.getfield 15, 3) := by decide +kernel
theorem dX0_step_64 : decode cX0_step 64 = .ok (.iload 4, 2) := by decide +kernel
theorem dX0_step_66 : decode cX0_step 66 = .ok (.iload 6, 2) := by decide +kernel
theorem dX0_step_68 : decode cX0_step 68 = .ok (.iadd, 1) := by decide +kernel
theorem dX0_step_69 : decode cX0_step 69 = .ok (.lload 7, 2) := by decide +kernel
theorem dX0_step_71 : decode cX0_step 71 = .ok (.lastore, 1) := by decide +kernel
theorem dX0_step_72 : decode cX0_step 72 = .ok (.iinc 6 1, 3) := by decide +kernel
theorem dX0_step_75 : decode cX0_step 75 = .ok (.goto (-56), 3) := by decide +kernel
theorem dX0_step_78 : decode cX0_step 78 = .ok (.return_, 1) := by decide +kernel
theorem dX0_cell_0 : decode cX0_cell 0 = .ok (.iload_n 0, 1) := by decide +kernel
theorem dX0_cell_1 : decode cX0_cell 1 = .ok (.bipush 25, 2) := by decide +kernel
theorem dX0_cell_3 : decode cX0_cell 3 = .ok (.imul, 1) := by decide +kernel
theorem dX0_cell_4 : decode cX0_cell 4 = .ok (.iload_n 1, 1) := by decide +kernel
theorem dX0_cell_5 : decode cX0_cell 5 = .ok (.iadd, 1) := by decide +kernel
theorem dX0_cell_6 : decode cX0_cell 6 = .ok (.bipush 61, 2) := by decide +kernel
theorem dX0_cell_8 : decode cX0_cell 8 = .ok (.imul, 1) := by decide +kernel
theorem dX0_cell_9 : decode cX0_cell 9 = .ok (.iload_n 2, 1) := by decide +kernel
theorem dX0_cell_10 : decode cX0_cell 10 = .ok (.iadd, 1) := by decide +kernel
theorem dX0_cell_11 : decode cX0_cell 11 = .ok (.ireturn, 1) := by decide +kernel
theorem dX0_valueFrom_0 : decode cX0_valueFrom 0 = .ok (.iload_n 1, 1) := by decide +kernel
theorem dX0_valueFrom_1 : decode cX0_valueFrom 1 = .ok (.aload_n 0, 1) := by decide +kernel
theorem dX0_valueFrom_2 : decode cX0_valueFrom 2 = .ok (.getfield 18, 3) := by decide +kernel
theorem dX0_valueFrom_5 : decode cX0_valueFrom 5 = .ok (.if_icmp .ge 17, 3) := by decide +kernel
theorem dX0_valueFrom_8 : decode cX0_valueFrom 8 = .ok (.aload_n 0, 1) := by decide +kernel
theorem dX0_valueFrom_9 : decode cX0_valueFrom 9 = .ok (.getfield 15, 3) := by decide +kernel
theorem dX0_valueFrom_12 : decode cX0_valueFrom 12 = .ok (.iload_n 1, 1) := by decide +kernel
theorem dX0_valueFrom_13 : decode cX0_valueFrom 13 = .ok (.iload_n 2, 1) := by decide +kernel
theorem dX0_valueFrom_14 : decode cX0_valueFrom 14 = .ok (.iload_n 3, 1) := by decide +kernel
theorem dX0_valueFrom_15 : decode cX0_valueFrom 15 = .ok (.invokestatic 72, 3) := by decide +kernel
theorem dX0_valueFrom_18 : decode cX0_valueFrom 18 = .ok (.laload, 1) := by decide +kernel
theorem dX0_valueFrom_19 : decode cX0_valueFrom 19 = .ok (.goto 4, 3) := by decide +kernel
theorem dX0_valueFrom_22 : decode cX0_valueFrom 22 = .ok (.lconst 0, 1) := by decide +kernel
theorem dX0_valueFrom_23 : decode cX0_valueFrom 23 = .ok (.lreturn, 1) := by decide +kernel
theorem dX0_follow_0 : decode cX0_follow 0 = .ok (.iload_n 1, 1) := by decide +kernel
theorem dX0_follow_1 : decode cX0_follow 1 = .ok (.istore_n 2, 1) := by decide +kernel
theorem dX0_follow_2 : decode cX0_follow 2 = .ok (.aload_n 0, 1) := by decide +kernel
theorem dX0_follow_3 : decode cX0_follow 3 = .ok (.getfield 22, 3) := by decide +kernel
theorem dX0_follow_6 : decode cX0_follow 6 = .ok (.istore_n 3, 1) := by decide +kernel
theorem dX0_follow_7 : decode cX0_follow 7 = .ok (.aload_n 0, 1) := by decide +kernel
theorem dX0_follow_8 : decode cX0_follow 8 = .ok (.lconst 0, 1) := by decide +kernel
theorem dX0_follow_9 : decode cX0_follow 9 = .ok (.putfield 29, 3) := by decide +kernel
theorem dX0_follow_12 : decode cX0_follow 12 = .ok (.aload_n 0, 1) := by decide +kernel
theorem dX0_follow_13 : decode cX0_follow 13 = .ok (.iconst 0, 1) := by decide +kernel
theorem dX0_follow_14 : decode cX0_follow 14 = .ok (.putfield 36, 3) := by decide +kernel
theorem dX0_follow_17 : decode cX0_follow 17 = .ok (.iconst 0, 1) := by decide +kernel
theorem dX0_follow_18 : decode cX0_follow 18 = .ok (.istore 4, 2) := by decide +kernel
theorem dX0_follow_20 : decode cX0_follow 20 = .ok (.iload 4, 2) := by decide +kernel
theorem dX0_follow_22 : decode cX0_follow 22 = .ok (.aload_n 0, 1) := by decide +kernel
theorem dX0_follow_23 : decode cX0_follow 23 = .ok (.getfield 18, 3) := by decide +kernel
theorem dX0_follow_26 : decode cX0_follow 26 = .ok (.if_icmp .ge 81, 3) := by decide +kernel
theorem dX0_follow_29 : decode cX0_follow 29 = .ok (.aload_n 0, 1) := by decide +kernel
theorem dX0_follow_30 : decode cX0_follow 30 = .ok (.iload 4, 2) := by decide +kernel
theorem dX0_follow_32 : decode cX0_follow 32 = .ok (.iload_n 2, 1) := by decide +kernel
theorem dX0_follow_33 : decode cX0_follow 33 = .ok (.iload_n 3, 1) := by decide +kernel
theorem dX0_follow_34 : decode cX0_follow 34 = .ok (.invokevirtual 82, 3) := by decide +kernel
theorem dX0_follow_37 : decode cX0_follow 37 = .ok (.istore 5, 2) := by decide +kernel
theorem dX0_follow_39 : decode cX0_follow 39 = .ok (.aload_n 0, 1) := by decide +kernel
theorem dX0_follow_40 : decode cX0_follow 40 = .ok (.getfield 25, 3) := by decide +kernel
theorem dX0_follow_43 : decode cX0_follow 43 = .ok (.iload 4, 2) := by decide +kernel
theorem dX0_follow_45 : decode cX0_follow 45 = .ok (.iload 5, 2) := by decide +kernel
theorem dX0_follow_47 : decode cX0_follow 47 = .ok (.iastore, 1) := by decide +kernel
theorem dX0_follow_48 : decode cX0_follow 48 = .ok (.iload_n 2, 1) := by decide +kernel
theorem dX0_follow_49 : decode cX0_follow 49 = .ok (.iload 5, 2) := by decide +kernel
theorem dX0_follow_51 : decode cX0_follow 51 = .ok (.iadd, 1) := by decide +kernel
theorem dX0_follow_52 : decode cX0_follow 52 = .ok (.istore_n 2, 1) := by decide +kernel
theorem dX0_follow_53 : decode cX0_follow 53 = .ok (.iload_n 3, 1) := by decide +kernel
theorem dX0_follow_54 : decode cX0_follow 54 = .ok (.iload 5, 2) := by decide +kernel
theorem dX0_follow_56 : decode cX0_follow 56 = .ok (.invokestatic 85, 3) := by decide +kernel
theorem dX0_follow_59 : decode cX0_follow 59 = .ok (.isub, 1) := by decide +kernel
theorem dX0_follow_60 : decode cX0_follow 60 = .ok (.istore_n 3, 1) := by decide +kernel
theorem dX0_follow_61 : decode cX0_follow 61 = .ok (.aload_n 0, 1) := by decide +kernel
theorem dX0_follow_62 : decode cX0_follow 62 = .ok (.dup, 1) := by decide +kernel
theorem dX0_follow_63 : decode cX0_follow 63 = .ok (.getfield 29, 3) := by decide +kernel
theorem dX0_follow_66 : decode cX0_follow 66 = .ok (.aload_n 0, 1) := by decide +kernel
theorem dX0_follow_67 : decode cX0_follow 67 = .ok (.getfield 9, 3) := by decide +kernel
theorem dX0_follow_70 : decode cX0_follow 70 = .ok (.iload 4, 2) := by decide +kernel
theorem dX0_follow_72 : decode cX0_follow 72 = .ok (.bipush 25, 2) := by decide +kernel
theorem dX0_follow_74 : decode cX0_follow 74 = .ok (.imul, 1) := by decide +kernel
theorem dX0_follow_75 : decode cX0_follow 75 = .ok (.iload_n 2, 1) := by decide +kernel
theorem dX0_follow_76 : decode cX0_follow 76 = .ok (.iadd, 1) := by decide +kernel
theorem dX0_follow_77 : decode cX0_follow 77 = .ok (.laload, 1) := by decide +kernel
theorem dX0_follow_78 : decode cX0_follow 78 = .ok (.ladd, 1) := by decide +kernel
theorem dX0_follow_79 : decode cX0_follow 79 = .ok (.putfield 29, 3) := by decide +kernel
theorem dX0_follow_82 : decode cX0_follow 82 = .ok (.aload_n 0, 1) := by decide +kernel
theorem dX0_follow_83 : decode cX0_follow 83 = .ok (.dup, 1) := by decide +kernel
theorem dX0_follow_84 : decode cX0_follow 84 = .ok (.getfield 36, 3) := by decide +kernel
theorem dX0_follow_87 : decode cX0_follow 87 = .ok (.iload 5, 2) := by decide +kernel
theorem dX0_follow_89 : decode cX0_follow 89 = .ok (.ifCond .ne 7, 3) := by decide +kernel
theorem dX0_follow_92 : decode cX0_follow 92 = .ok (.iconst 0, 1) := by decide +kernel
theorem dX0_follow_93 : decode cX0_follow 93 = .ok (.goto 4, 3) := by decide +kernel
theorem dX0_follow_96 : decode cX0_follow 96 = .ok (.iconst 1, 1) := by decide +kernel
theorem dX0_follow_97 : decode cX0_follow 97 = .ok (.iadd, 1) := by decide +kernel
theorem dX0_follow_98 : decode cX0_follow 98 = .ok (.putfield 36, 3) := by decide +kernel
theorem dX0_follow_101 : decode cX0_follow 101 = .ok (.iinc 4 1, 3) := by decide +kernel
theorem dX0_follow_104 : decode cX0_follow 104 = .ok (.goto (-84), 3) := by decide +kernel
theorem dX0_follow_107 : decode cX0_follow 107 = .ok (.aload_n 0, 1) := by decide +kernel
theorem dX0_follow_108 : decode cX0_follow 108 = .ok (.aload_n 0, 1) := by decide +kernel
theorem dX0_follow_109 : decode cX0_follow 109 = .ok (.getfield 22, 3) := by decide +kernel
theorem dX0_follow_112 : decode cX0_follow 112 = .ok (.iload_n 3, 1) := by decide +kernel
theorem dX0_follow_113 : decode cX0_follow 113 = .ok (.isub, 1) := by decide +kernel
theorem dX0_follow_114 : decode cX0_follow 114 = .ok (.putfield 33, 3) := by decide +kernel
theorem dX0_follow_117 : decode cX0_follow 117 = .ok (.return_, 1) := by decide +kernel
theorem dX0_firstMove_0 : decode cX0_firstMove 0 = .ok (.iconst 0, 1) := by decide +kernel
theorem dX0_firstMove_1 : decode cX0_firstMove 1 = .ok (.istore 4, 2) := by decide +kernel
theorem dX0_firstMove_3 : decode cX0_firstMove 3 = .ok (.iload 4, 2) := by decide +kernel
theorem dX0_firstMove_5 : decode cX0_firstMove 5 = .ok (.iload_n 3, 1) := by decide +kernel
theorem dX0_firstMove_6 : decode cX0_firstMove 6 = .ok (.if_icmp .gt 48, 3) := by decide +kernel
theorem dX0_firstMove_9 : decode cX0_firstMove 9 = .ok (.iload 4, 2) := by decide +kernel
theorem dX0_firstMove_11 : decode cX0_firstMove 11 = .ok (.bipush 25, 2) := by decide +kernel
theorem dX0_firstMove_13 : decode cX0_firstMove 13 = .ok (.if_icmp .ge 41, 3) := by decide +kernel
theorem dX0_firstMove_16 : decode cX0_firstMove 16 = .ok (.aload_n 0, 1) := by decide +kernel
theorem dX0_firstMove_17 : decode cX0_firstMove 17 = .ok (.iload_n 1, 1) := by decide +kernel
theorem dX0_firstMove_18 : decode cX0_firstMove 18 = .ok (.iload_n 2, 1) := by decide +kernel
theorem dX0_firstMove_19 : decode cX0_firstMove 19 = .ok (.iload_n 3, 1) := by decide +kernel
theorem dX0_firstMove_20 : decode cX0_firstMove 20 = .ok (.iload 4, 2) := by decide +kernel
theorem dX0_firstMove_22 : decode cX0_firstMove 22 = .ok (.ineg, 1) := by decide +kernel
theorem dX0_firstMove_23 : decode cX0_firstMove 23 = .ok (.invokevirtual 89, 3) := by decide +kernel
theorem dX0_firstMove_26 : decode cX0_firstMove 26 = .ok (.ifCond .eq 7, 3) := by decide +kernel
theorem dX0_firstMove_29 : decode cX0_firstMove 29 = .ok (.iload 4, 2) := by decide +kernel
theorem dX0_firstMove_31 : decode cX0_firstMove 31 = .ok (.ineg, 1) := by decide +kernel
theorem dX0_firstMove_32 : decode cX0_firstMove 32 = .ok (.ireturn, 1) := by decide +kernel
theorem dX0_firstMove_33 : decode cX0_firstMove 33 = .ok (.aload_n 0, 1) := by decide +kernel
theorem dX0_firstMove_34 : decode cX0_firstMove 34 = .ok (.iload_n 1, 1) := by decide +kernel
theorem dX0_firstMove_35 : decode cX0_firstMove 35 = .ok (.iload_n 2, 1) := by decide +kernel
theorem dX0_firstMove_36 : decode cX0_firstMove 36 = .ok (.iload_n 3, 1) := by decide +kernel
theorem dX0_firstMove_37 : decode cX0_firstMove 37 = .ok (.iload 4, 2) := by decide +kernel
theorem dX0_firstMove_39 : decode cX0_firstMove 39 = .ok (.invokevirtual 89, 3) := by decide +kernel
theorem dX0_firstMove_42 : decode cX0_firstMove 42 = .ok (.ifCond .eq 6, 3) := by decide +kernel
theorem dX0_firstMove_45 : decode cX0_firstMove 45 = .ok (.iload 4, 2) := by decide +kernel
theorem dX0_firstMove_47 : decode cX0_firstMove 47 = .ok (.ireturn, 1) := by decide +kernel
theorem dX0_firstMove_48 : decode cX0_firstMove 48 = .ok (.iinc 4 1, 3) := by decide +kernel
theorem dX0_firstMove_51 : decode cX0_firstMove 51 = .ok (.goto (-48), 3) := by decide +kernel
theorem dX0_firstMove_54 : decode cX0_firstMove 54 = .ok (.iconst 0, 1) := by decide +kernel
theorem dX0_firstMove_55 : decode cX0_firstMove 55 = .ok (.ireturn, 1) := by decide +kernel
theorem dX0_keepsValue_0 : decode cX0_keepsValue 0 = .ok (.iload_n 2, 1) := by decide +kernel
theorem dX0_keepsValue_1 : decode cX0_keepsValue 1 = .ok (.iload 4, 2) := by decide +kernel
theorem dX0_keepsValue_3 : decode cX0_keepsValue 3 = .ok (.iadd, 1) := by decide +kernel
theorem dX0_keepsValue_4 : decode cX0_keepsValue 4 = .ok (.istore 5, 2) := by decide +kernel
theorem dX0_keepsValue_6 : decode cX0_keepsValue 6 = .ok (.iload 5, 2) := by decide +kernel
theorem dX0_keepsValue_8 : decode cX0_keepsValue 8 = .ok (.ifCond .lt 10, 3) := by decide +kernel
theorem dX0_keepsValue_11 : decode cX0_keepsValue 11 = .ok (.iload 5, 2) := by decide +kernel
theorem dX0_keepsValue_13 : decode cX0_keepsValue 13 = .ok (.bipush 25, 2) := by decide +kernel
theorem dX0_keepsValue_15 : decode cX0_keepsValue 15 = .ok (.if_icmp .lt 5, 3) := by decide +kernel
theorem dX0_keepsValue_18 : decode cX0_keepsValue 18 = .ok (.iconst 0, 1) := by decide +kernel
theorem dX0_keepsValue_19 : decode cX0_keepsValue 19 = .ok (.ireturn, 1) := by decide +kernel
theorem dX0_keepsValue_20 : decode cX0_keepsValue 20 = .ok (.iload 4, 2) := by decide +kernel
theorem dX0_keepsValue_22 : decode cX0_keepsValue 22 = .ok (.invokestatic 85, 3) := by decide +kernel
theorem dX0_keepsValue_25 : decode cX0_keepsValue 25 = .ok (.istore 6, 2) := by decide +kernel
theorem dX0_keepsValue_27 : decode cX0_keepsValue 27 = .ok (.aload_n 0, 1) := by decide +kernel
theorem dX0_keepsValue_28 : decode cX0_keepsValue 28 = .ok (.getfield 9, 3) := by decide +kernel
theorem dX0_keepsValue_31 : decode cX0_keepsValue 31 = .ok (.iload_n 1, 1) := by decide +kernel
theorem dX0_keepsValue_32 : decode cX0_keepsValue 32 = .ok (.bipush 25, 2) := by decide +kernel
theorem dX0_keepsValue_34 : decode cX0_keepsValue 34 = .ok (.imul, 1) := by decide +kernel
theorem dX0_keepsValue_35 : decode cX0_keepsValue 35 = .ok (.iload 5, 2) := by decide +kernel
theorem dX0_keepsValue_37 : decode cX0_keepsValue 37 = .ok (.iadd, 1) := by decide +kernel
theorem dX0_keepsValue_38 : decode cX0_keepsValue 38 = .ok (.laload, 1) := by decide +kernel
theorem dX0_keepsValue_39 : decode cX0_keepsValue 39 = .ok (.ldc2_w 76, 3) := by decide +kernel
theorem dX0_keepsValue_42 : decode cX0_keepsValue 42 = .ok (.lmul, 1) := by decide +kernel
theorem dX0_keepsValue_43 : decode cX0_keepsValue 43 = .ok (.aload_n 0, 1) := by decide +kernel
theorem dX0_keepsValue_44 : decode cX0_keepsValue 44 = .ok (.iload_n 1, 1) := by decide +kernel
theorem dX0_keepsValue_45 : decode cX0_keepsValue 45 = .ok (.iconst 1, 1) := by decide +kernel
theorem dX0_keepsValue_46 : decode cX0_keepsValue 46 = .ok (.iadd, 1) := by decide +kernel
theorem dX0_keepsValue_47 : decode cX0_keepsValue 47 = .ok (.iload 5, 2) := by decide +kernel
theorem dX0_keepsValue_49 : decode cX0_keepsValue 49 = .ok (.iload_n 3, 1) := by decide +kernel
theorem dX0_keepsValue_50 : decode cX0_keepsValue 50 = .ok (.iload 6, 2) := by decide +kernel
theorem dX0_keepsValue_52 : decode cX0_keepsValue 52 = .ok (.isub, 1) := by decide +kernel
theorem dX0_keepsValue_53 : decode cX0_keepsValue 53 = .ok (.invokevirtual 93, 3) := by decide +kernel
theorem dX0_keepsValue_56 : decode cX0_keepsValue 56 = .ok (.ladd, 1) := by decide +kernel
theorem dX0_keepsValue_57 : decode cX0_keepsValue 57 = .ok (.iload 6, 2) := by decide +kernel
theorem dX0_keepsValue_59 : decode cX0_keepsValue 59 = .ok (.i2l, 1) := by decide +kernel
theorem dX0_keepsValue_60 : decode cX0_keepsValue 60 = .ok (.lsub, 1) := by decide +kernel
theorem dX0_keepsValue_61 : decode cX0_keepsValue 61 = .ok (.lstore 7, 2) := by decide +kernel
theorem dX0_keepsValue_63 : decode cX0_keepsValue 63 = .ok (.lload 7, 2) := by decide +kernel
theorem dX0_keepsValue_65 : decode cX0_keepsValue 65 = .ok (.aload_n 0, 1) := by decide +kernel
theorem dX0_keepsValue_66 : decode cX0_keepsValue 66 = .ok (.getfield 15, 3) := by decide +kernel
theorem dX0_keepsValue_69 : decode cX0_keepsValue 69 = .ok (.iload_n 1, 1) := by decide +kernel
theorem dX0_keepsValue_70 : decode cX0_keepsValue 70 = .ok (.iload_n 2, 1) := by decide +kernel
theorem dX0_keepsValue_71 : decode cX0_keepsValue 71 = .ok (.iload_n 3, 1) := by decide +kernel
theorem dX0_keepsValue_72 : decode cX0_keepsValue 72 = .ok (.invokestatic 72, 3) := by decide +kernel
theorem dX0_keepsValue_75 : decode cX0_keepsValue 75 = .ok (.laload, 1) := by decide +kernel
theorem dX0_keepsValue_76 : decode cX0_keepsValue 76 = .ok (.lcmp, 1) := by decide +kernel
theorem dX0_keepsValue_77 : decode cX0_keepsValue 77 = .ok (.ifCond .ne 7, 3) := by decide +kernel
theorem dX0_keepsValue_80 : decode cX0_keepsValue 80 = .ok (.iconst 1, 1) := by decide +kernel
theorem dX0_keepsValue_81 : decode cX0_keepsValue 81 = .ok (.goto 4, 3) := by decide +kernel
theorem dX0_keepsValue_84 : decode cX0_keepsValue 84 = .ok (.iconst 0, 1) := by decide +kernel
theorem dX0_keepsValue_85 : decode cX0_keepsValue 85 = .ok (.ireturn, 1) := by decide +kernel
theorem dX1_init_0 : decode cX1_init 0 = .ok (.aload_n 0, 1) := by decide +kernel
theorem dX1_init_1 : decode cX1_init 1 = .ok (.invokespecial 3, 3) := by decide +kernel
theorem dX1_init_4 : decode cX1_init 4 = .ok (.aload_n 0, 1) := by decide +kernel
theorem dX1_init_5 : decode cX1_init 5 = .ok (.bipush 6, 2) := by decide +kernel
theorem dX1_init_7 : decode cX1_init 7 = .ok (.newarray .int, 2) := by decide +kernel
theorem dX1_init_9 : decode cX1_init 9 = .ok (.putfield 11, 3) := by decide +kernel
theorem dX1_init_12 : decode cX1_init 12 = .ok (.aload_n 0, 1) := by decide +kernel
theorem dX1_init_13 : decode cX1_init 13 = .ok (.iconst (-1), 1) := by decide +kernel
theorem dX1_init_14 : decode cX1_init 14 = .ok (.putfield 15, 3) := by decide +kernel
theorem dX1_init_17 : decode cX1_init 17 = .ok (.aload_n 0, 1) := by decide +kernel
theorem dX1_init_18 : decode cX1_init 18 = .ok (.iconst 0, 1) := by decide +kernel
theorem dX1_init_19 : decode cX1_init 19 = .ok (.putfield 19, 3) := by decide +kernel
theorem dX1_init_22 : decode cX1_init 22 = .ok (.aload_n 0, 1) := by decide +kernel
theorem dX1_init_23 : decode cX1_init 23 = .ok (.iconst 1, 1) := by decide +kernel
theorem dX1_init_24 : decode cX1_init 24 = .ok (.putfield 22, 3) := by decide +kernel
theorem dX1_init_27 : decode cX1_init 27 = .ok (.aload_n 0, 1) := by decide +kernel
theorem dX1_init_28 : decode cX1_init 28 = .ok (.iconst 0, 1) := by decide +kernel
theorem dX1_init_29 : decode cX1_init 29 = .ok (.putfield 26, 3) := by decide +kernel
theorem dX1_init_32 : decode cX1_init 32 = .ok (.aload_n 0, 1) := by decide +kernel
theorem dX1_init_33 : decode cX1_init 33 = .ok (.iconst 0, 1) := by decide +kernel
theorem dX1_init_34 : decode cX1_init 34 = .ok (.putfield 29, 3) := by decide +kernel
theorem dX1_init_37 : decode cX1_init 37 = .ok (.aload_n 0, 1) := by decide +kernel
theorem dX1_init_38 : decode cX1_init 38 = .ok (.iconst 0, 1) := by decide +kernel
theorem dX1_init_39 : decode cX1_init 39 = .ok (.putfield 32, 3) := by decide +kernel
theorem dX1_init_42 : decode cX1_init 42 = .ok (.aload_n 0, 1) := by decide +kernel
theorem dX1_init_43 : decode cX1_init 43 = .ok (.iconst 1, 1) := by decide +kernel
theorem dX1_init_44 : decode cX1_init 44 = .ok (.putfield 35, 3) := by decide +kernel
theorem dX1_init_47 : decode cX1_init 47 = .ok (.aload_n 0, 1) := by decide +kernel
theorem dX1_init_48 : decode cX1_init 48 = .ok (.iconst 5, 1) := by decide +kernel
theorem dX1_init_49 : decode cX1_init 49 = .ok (.newarray .int, 2) := by decide +kernel
theorem dX1_init_51 : decode cX1_init 51 = .ok (.putfield 38, 3) := by decide +kernel
theorem dX1_init_54 : decode cX1_init 54 = .ok (.aload_n 0, 1) := by decide +kernel
theorem dX1_init_55 : decode cX1_init 55 = .ok (.iconst 5, 1) := by decide +kernel
theorem dX1_init_56 : decode cX1_init 56 = .ok (.newarray .int, 2) := by decide +kernel
theorem dX1_init_58 : decode cX1_init 58 = .ok (.putfield 41, 3) := by decide +kernel
theorem dX1_init_61 : decode cX1_init 61 = .ok (.aload_n 0, 1) := by decide +kernel
theorem dX1_init_62 : decode cX1_init 62 = .ok (.iconst 0, 1) := by decide +kernel
theorem dX1_init_63 : decode cX1_init 63 = .ok (.putfield 44, 3) := by decide +kernel
theorem dX1_init_66 : decode cX1_init 66 = .ok (.aload_n 0, 1) := by decide +kernel
theorem dX1_init_67 : decode cX1_init 67 = .ok (.iconst 0, 1) := by decide +kernel
theorem dX1_init_68 : decode cX1_init 68 = .ok (.putfield 47, 3) := by decide +kernel
theorem dX1_init_71 : decode cX1_init 71 = .ok (.aload_n 0, 1) := by decide +kernel
theorem dX1_init_72 : decode cX1_init 72 = .ok (.bipush 61, 2) := by decide +kernel
theorem dX1_init_74 : decode cX1_init 74 = .ok (.putfield 50, 3) := by decide +kernel
theorem dX1_init_77 : decode cX1_init 77 = .ok (.aload_n 0, 1) := by decide +kernel
theorem dX1_init_78 : decode cX1_init 78 = .ok (.iconst 1, 1) := by decide +kernel
theorem dX1_init_79 : decode cX1_init 79 = .ok (.putfield 53, 3) := by decide +kernel
theorem dX1_init_82 : decode cX1_init 82 = .ok (.aload_n 0, 1) := by decide +kernel
theorem dX1_init_83 : decode cX1_init 83 = .ok (.iconst 0, 1) := by decide +kernel
theorem dX1_init_84 : decode cX1_init 84 = .ok (.putfield 56, 3) := by decide +kernel
theorem dX1_init_87 : decode cX1_init 87 = .ok (.aload_n 0, 1) := by decide +kernel
theorem dX1_init_88 : decode cX1_init 88 = .ok (.iconst 0, 1) := by decide +kernel
theorem dX1_init_89 : decode cX1_init 89 = .ok (.putfield 59, 3) := by decide +kernel
theorem dX1_init_92 : decode cX1_init 92 = .ok (.return_, 1) := by decide +kernel
theorem dX1_told_0 : decode cX1_told 0 = .ok (.aload_n 1, 1) := by decide +kernel
theorem dX1_told_1 : decode cX1_told 1 = .ok (.invokevirtual 62, 3) := by decide +kernel
theorem dX1_told_4 : decode cX1_told 4 = .ok (.ifCond .ne 5, 3) := by decide +kernel
theorem dX1_told_7 : decode cX1_told 7 = .ok (.iconst 0, 1) := by decide +kernel
theorem dX1_told_8 : decode cX1_told 8 = .ok (.ireturn, 1) := by decide +kernel
theorem dX1_told_9 : decode cX1_told 9 = .ok (.aload_n 0, 1) := by decide +kernel
theorem dX1_told_10 : decode cX1_told 10 = .ok (.aload_n 1, 1) := by decide +kernel
theorem dX1_told_11 : decode cX1_told 11 = .ok (.invokevirtual 68, 3) := by decide +kernel
theorem dX1_told_14 : decode cX1_told 14 = .ok (.aload_n 0, 1) := by decide +kernel
theorem dX1_told_15 : decode cX1_told 15 = .ok (.aload_n 1, 1) := by decide +kernel
theorem dX1_told_16 : decode cX1_told 16 = .ok (.getfield 72, 3) := by decide +kernel
theorem dX1_told_19 : decode cX1_told 19 = .ok (.aload_n 1, 1) := by decide +kernel
theorem dX1_told_20 : decode cX1_told 20 = .ok (.getfield 76, 3) := by decide +kernel
theorem dX1_told_23 : decode cX1_told 23 = .ok (.invokevirtual 79, 3) := by decide +kernel
theorem dX1_told_26 : decode cX1_told 26 = .ok (.aload_n 0, 1) := by decide +kernel
theorem dX1_told_27 : decode cX1_told 27 = .ok (.getfield 56, 3) := by decide +kernel
theorem dX1_told_30 : decode cX1_told 30 = .ok (.ifCond .eq 10, 3) := by decide +kernel
theorem dX1_told_33 : decode cX1_told 33 = .ok (.aload_n 0, 1) := by decide +kernel
theorem dX1_told_34 : decode cX1_told 34 = .ok (.getfield 59, 3) := by decide +kernel
theorem dX1_told_37 : decode cX1_told 37 = .ok (.goto 7, 3) := by decide +kernel
theorem dX1_told_40 : decode cX1_told 40 = .ok (.aload_n 0, 1) := by decide +kernel
theorem dX1_told_41 : decode cX1_told 41 = .ok (.getfield 32, 3) := by decide +kernel
theorem dX1_told_44 : decode cX1_told 44 = .ok (.ireturn, 1) := by decide +kernel
theorem dX1_faultOf_0 : decode cX1_faultOf 0 = .ok (.aload_n 0, 1) := by decide +kernel
theorem dX1_faultOf_1 : decode cX1_faultOf 1 = .ok (.aload_n 1, 1) := by decide +kernel
theorem dX1_faultOf_2 : decode cX1_faultOf 2 = .ok (.iload_n 2, 1) := by decide +kernel
theorem dX1_faultOf_3 : decode cX1_faultOf 3 = .ok (.invokevirtual 79, 3) := by decide +kernel
theorem dX1_faultOf_6 : decode cX1_faultOf 6 = .ok (.aload_n 0, 1) := by decide +kernel
theorem dX1_faultOf_7 : decode cX1_faultOf 7 = .ok (.getfield 15, 3) := by decide +kernel
theorem dX1_faultOf_10 : decode cX1_faultOf 10 = .ok (.ireturn, 1) := by decide +kernel
theorem dX1_learn_0 : decode cX1_learn 0 = .ok (.aload_n 1, 1) := by decide +kernel
theorem dX1_learn_1 : decode cX1_learn 1 = .ok (.invokevirtual 83, 3) := by decide +kernel
theorem dX1_learn_4 : decode cX1_learn 4 = .ok (.istore_n 2, 1) := by decide +kernel
theorem dX1_learn_5 : decode cX1_learn 5 = .ok (.aload_n 0, 1) := by decide +kernel
theorem dX1_learn_6 : decode cX1_learn 6 = .ok (.getfield 11, 3) := by decide +kernel
theorem dX1_learn_9 : decode cX1_learn 9 = .ok (.iconst 0, 1) := by decide +kernel
theorem dX1_learn_10 : decode cX1_learn 10 = .ok (.aload_n 1, 1) := by decide +kernel
theorem dX1_learn_11 : decode cX1_learn 11 = .ok (.aload_n 1, 1) := by decide +kernel
theorem dX1_learn_12 : decode cX1_learn 12 = .ok (.getfield 87, 3) := by decide +kernel
theorem dX1_learn_15 : decode cX1_learn 15 = .ok (.iconst 1, 1) := by decide +kernel
theorem dX1_learn_16 : decode cX1_learn 16 = .ok (.iadd, 1) := by decide +kernel
theorem dX1_learn_17 : decode cX1_learn 17 = .ok (.aload_n 1, 1) := by decide +kernel
theorem dX1_learn_18 : decode cX1_learn 18 = .ok (.getfield 90, 3) := by decide +kernel
theorem dX1_learn_21 : decode cX1_learn 21 = .ok (.invokevirtual 93, 3) := by decide +kernel
theorem dX1_learn_24 : decode cX1_learn 24 = .ok (.iastore, 1) := by decide +kernel
theorem dX1_learn_25 : decode cX1_learn 25 = .ok (.aload_n 0, 1) := by decide +kernel
theorem dX1_learn_26 : decode cX1_learn 26 = .ok (.getfield 11, 3) := by decide +kernel
theorem dX1_learn_29 : decode cX1_learn 29 = .ok (.iconst 1, 1) := by decide +kernel
theorem dX1_learn_30 : decode cX1_learn 30 = .ok (.iload_n 2, 1) := by decide +kernel
theorem dX1_learn_31 : decode cX1_learn 31 = .ok (.ifCond .ge 9, 3) := by decide +kernel
theorem dX1_learn_34 : decode cX1_learn 34 = .ok (.sipush 999, 3) := by decide +kernel
theorem dX1_learn_37 : decode cX1_learn 37 = .ok (.goto 9, 3) := by decide +kernel
theorem dX1_learn_40 : decode cX1_learn 40 = .ok (.iload_n 2, 1) := by decide +kernel
theorem dX1_learn_41 : decode cX1_learn 41 = .ok (.aload_n 1, 1) := by decide +kernel
theorem dX1_learn_42 : decode cX1_learn 42 = .ok (.getfield 87, 3) := by decide +kernel
theorem dX1_learn_45 : decode cX1_learn 45 = .ok (.isub, 1) := by decide +kernel
theorem dX1_learn_46 : decode cX1_learn 46 = .ok (.iastore, 1) := by decide +kernel
theorem dX1_learn_47 : decode cX1_learn 47 = .ok (.aload_n 0, 1) := by decide +kernel
theorem dX1_learn_48 : decode cX1_learn 48 = .ok (.getfield 11, 3) := by decide +kernel
theorem dX1_learn_51 : decode cX1_learn 51 = .ok (.iconst 2, 1) := by decide +kernel
theorem dX1_learn_52 : decode cX1_learn 52 = .ok (.aload_n 1, 1) := by decide +kernel
theorem dX1_learn_53 : decode cX1_learn 53 = .ok (.getfield 97, 3) := by decide +kernel
theorem dX1_learn_56 : decode cX1_learn 56 = .ok (.iconst 5, 1) := by decide +kernel
theorem dX1_learn_57 : decode cX1_learn 57 = .ok (.iaload, 1) := by decide +kernel
theorem dX1_learn_58 : decode cX1_learn 58 = .ok (.iastore, 1) := by decide +kernel
theorem dX1_learn_59 : decode cX1_learn 59 = .ok (.aload_n 0, 1) := by decide +kernel
theorem dX1_learn_60 : decode cX1_learn 60 = .ok (.getfield 11, 3) := by decide +kernel
theorem dX1_learn_63 : decode cX1_learn 63 = .ok (.iconst 3, 1) := by decide +kernel
theorem dX1_learn_64 : decode cX1_learn 64 = .ok (.aload_n 1, 1) := by decide +kernel
theorem dX1_learn_65 : decode cX1_learn 65 = .ok (.getfield 90, 3) := by decide +kernel
theorem dX1_learn_68 : decode cX1_learn 68 = .ok (.iastore, 1) := by decide +kernel
theorem dX1_learn_69 : decode cX1_learn 69 = .ok (.aload_n 0, 1) := by decide +kernel
theorem dX1_learn_70 : decode cX1_learn 70 = .ok (.getfield 11, 3) := by decide +kernel
theorem dX1_learn_73 : decode cX1_learn 73 = .ok (.iconst 4, 1) := by decide +kernel
theorem dX1_learn_74 : decode cX1_learn 74 = .ok (.aload_n 1, 1) := by decide +kernel
theorem dX1_learn_75 : decode cX1_learn 75 = .ok (.invokevirtual 100, 3) := by decide +kernel
theorem dX1_learn_78 : decode cX1_learn 78 = .ok (.iastore, 1) := by decide +kernel
theorem dX1_learn_79 : decode cX1_learn 79 = .ok (.aload_n 0, 1) := by decide +kernel
theorem dX1_learn_80 : decode cX1_learn 80 = .ok (.getfield 11, 3) := by decide +kernel
theorem dX1_learn_83 : decode cX1_learn 83 = .ok (.iconst 5, 1) := by decide +kernel
theorem dX1_learn_84 : decode cX1_learn 84 = .ok (.aload_n 1, 1) := by decide +kernel
theorem dX1_learn_85 : decode cX1_learn 85 = .ok (.getfield 87, 3) := by decide +kernel
theorem dX1_learn_88 : decode cX1_learn 88 = .ok (.iastore, 1) := by decide +kernel
theorem dX1_learn_89 : decode cX1_learn 89 = .ok (.return_, 1) := by decide +kernel
theorem dX1_nameOf_0 : decode cX1_nameOf 0 = .ok (.iload_n 0, 1) := by decide +kernel
theorem dX1_nameOf_1 : decode cX1_nameOf 1 = .ok (.tableswitch 99 99 116 #[87, 89, 99, 91, 99, 93, 99, 99, 99, 99, 99, 95, 99, 99, 99, 99, 99, 97], 87) := by decide +kernel
theorem dX1_nameOf_88 : decode cX1_nameOf 88 = .ok (.iconst 0, 1) := by decide +kernel
theorem dX1_nameOf_89 : decode cX1_nameOf 89 = .ok (.ireturn, 1) := by decide +kernel
theorem dX1_nameOf_90 : decode cX1_nameOf 90 = .ok (.iconst 1, 1) := by decide +kernel
theorem dX1_nameOf_91 : decode cX1_nameOf 91 = .ok (.ireturn, 1) := by decide +kernel
theorem dX1_nameOf_92 : decode cX1_nameOf 92 = .ok (.iconst 2, 1) := by decide +kernel
theorem dX1_nameOf_93 : decode cX1_nameOf 93 = .ok (.ireturn, 1) := by decide +kernel
theorem dX1_nameOf_94 : decode cX1_nameOf 94 = .ok (.iconst 3, 1) := by decide +kernel
theorem dX1_nameOf_95 : decode cX1_nameOf 95 = .ok (.ireturn, 1) := by decide +kernel
theorem dX1_nameOf_96 : decode cX1_nameOf 96 = .ok (.iconst 4, 1) := by decide +kernel
theorem dX1_nameOf_97 : decode cX1_nameOf 97 = .ok (.ireturn, 1) := by decide +kernel
theorem dX1_nameOf_98 : decode cX1_nameOf 98 = .ok (.iconst 5, 1) := by decide +kernel
theorem dX1_nameOf_99 : decode cX1_nameOf 99 = .ok (.ireturn, 1) := by decide +kernel
theorem dX1_nameOf_100 : decode cX1_nameOf 100 = .ok (.iconst (-1), 1) := by decide +kernel
theorem dX1_nameOf_101 : decode cX1_nameOf 101 = .ok (.ireturn, 1) := by decide +kernel
theorem dX1_readText_0 : decode cX1_readText 0 = .ok (.aload_n 0, 1) := by decide +kernel
theorem dX1_readText_1 : decode cX1_readText 1 = .ok (.iconst (-1), 1) := by decide +kernel
theorem dX1_readText_2 : decode cX1_readText 2 = .ok (.putfield 15, 3) := by decide +kernel
theorem dX1_readText_5 : decode cX1_readText 5 = .ok (.aload_n 0, 1) := by decide +kernel
theorem dX1_readText_6 : decode cX1_readText 6 = .ok (.iconst 0, 1) := by decide +kernel
theorem dX1_readText_7 : decode cX1_readText 7 = .ok (.putfield 44, 3) := by decide +kernel
theorem dX1_readText_10 : decode cX1_readText 10 = .ok (.aload_n 0, 1) := by decide +kernel
theorem dX1_readText_11 : decode cX1_readText 11 = .ok (.iconst 0, 1) := by decide +kernel
theorem dX1_readText_12 : decode cX1_readText 12 = .ok (.putfield 29, 3) := by decide +kernel
theorem dX1_readText_15 : decode cX1_readText 15 = .ok (.aload_n 0, 1) := by decide +kernel
theorem dX1_readText_16 : decode cX1_readText 16 = .ok (.iconst 1, 1) := by decide +kernel
theorem dX1_readText_17 : decode cX1_readText 17 = .ok (.putfield 53, 3) := by decide +kernel
theorem dX1_readText_20 : decode cX1_readText 20 = .ok (.aload_n 0, 1) := by decide +kernel
theorem dX1_readText_21 : decode cX1_readText 21 = .ok (.iconst 0, 1) := by decide +kernel
theorem dX1_readText_22 : decode cX1_readText 22 = .ok (.putfield 56, 3) := by decide +kernel
theorem dX1_readText_25 : decode cX1_readText 25 = .ok (.aload_n 0, 1) := by decide +kernel
theorem dX1_readText_26 : decode cX1_readText 26 = .ok (.iconst 0, 1) := by decide +kernel
theorem dX1_readText_27 : decode cX1_readText 27 = .ok (.invokevirtual 103, 3) := by decide +kernel
theorem dX1_readText_30 : decode cX1_readText 30 = .ok (.iconst 0, 1) := by decide +kernel
theorem dX1_readText_31 : decode cX1_readText 31 = .ok (.istore_n 3, 1) := by decide +kernel
theorem dX1_readText_32 : decode cX1_readText 32 = .ok (.iload_n 3, 1) := by decide +kernel
theorem dX1_readText_33 : decode cX1_readText 33 = .ok (.iload_n 2, 1) := by decide +kernel
theorem dX1_readText_34 : decode cX1_readText 34 = .ok (.if_icmp .ge 127, 3) := by decide +kernel
theorem dX1_readText_37 : decode cX1_readText 37 = .ok (.aload_n 0, 1) := by decide +kernel
theorem dX1_readText_38 : decode cX1_readText 38 = .ok (.getfield 15, 3) := by decide +kernel
theorem dX1_readText_41 : decode cX1_readText 41 = .ok (.iconst (-1), 1) := by decide +kernel
theorem dX1_readText_42 : decode cX1_readText 42 = .ok (.if_icmp .ne 119, 3) := by decide +kernel
theorem dX1_readText_45 : decode cX1_readText 45 = .ok (.aload_n 1, 1) := by decide +kernel
theorem dX1_readText_46 : decode cX1_readText 46 = .ok (.iload_n 3, 1) := by decide +kernel
theorem dX1_readText_47 : decode cX1_readText 47 = .ok (.baload, 1) := by decide +kernel
theorem dX1_readText_48 : decode cX1_readText 48 = .ok (.istore 4, 2) := by decide +kernel
theorem dX1_readText_50 : decode cX1_readText 50 = .ok (.iload 4, 2) := by decide +kernel
theorem dX1_readText_52 : decode cX1_readText 52 = .ok (.bipush 48, 2) := by decide +kernel
theorem dX1_readText_54 : decode cX1_readText 54 = .ok (.if_icmp .lt 14, 3) := by decide +kernel
theorem dX1_readText_57 : decode cX1_readText 57 = .ok (.iload 4, 2) := by decide +kernel
theorem dX1_readText_59 : decode cX1_readText 59 = .ok (.bipush 57, 2) := by decide +kernel
theorem dX1_readText_61 : decode cX1_readText 61 = .ok (.if_icmp .gt 7, 3) := by decide +kernel
theorem dX1_readText_64 : decode cX1_readText 64 = .ok (.iconst 1, 1) := by decide +kernel
theorem dX1_readText_65 : decode cX1_readText 65 = .ok (.goto 4, 3) := by decide +kernel
theorem dX1_readText_68 : decode cX1_readText 68 = .ok (.iconst 0, 1) := by decide +kernel
theorem dX1_readText_69 : decode cX1_readText 69 = .ok (.istore 5, 2) := by decide +kernel
theorem dX1_readText_71 : decode cX1_readText 71 = .ok (.iload 5, 2) := by decide +kernel
theorem dX1_readText_73 : decode cX1_readText 73 = .ok (.ifCond .ne 7, 3) := by decide +kernel
theorem dX1_readText_76 : decode cX1_readText 76 = .ok (.aload_n 0, 1) := by decide +kernel
theorem dX1_readText_77 : decode cX1_readText 77 = .ok (.invokevirtual 107, 3) := by decide +kernel
theorem dX1_readText_80 : decode cX1_readText 80 = .ok (.iload 5, 2) := by decide +kernel
theorem dX1_readText_82 : decode cX1_readText 82 = .ok (.ifCond .eq 15, 3) := by decide +kernel
theorem dX1_readText_85 : decode cX1_readText 85 = .ok (.aload_n 0, 1) := by decide +kernel
theorem dX1_readText_86 : decode cX1_readText 86 = .ok (.iload 4, 2) := by decide +kernel
theorem dX1_readText_88 : decode cX1_readText 88 = .ok (.bipush 48, 2) := by decide +kernel
theorem dX1_readText_90 : decode cX1_readText 90 = .ok (.isub, 1) := by decide +kernel
theorem dX1_readText_91 : decode cX1_readText 91 = .ok (.invokevirtual 110, 3) := by decide +kernel
theorem dX1_readText_94 : decode cX1_readText 94 = .ok (.goto 49, 3) := by decide +kernel
theorem dX1_readText_97 : decode cX1_readText 97 = .ok (.aload_n 0, 1) := by decide +kernel
theorem dX1_readText_98 : decode cX1_readText 98 = .ok (.getfield 22, 3) := by decide +kernel
theorem dX1_readText_101 : decode cX1_readText 101 = .ok (.ifCond .eq 12, 3) := by decide +kernel
theorem dX1_readText_104 : decode cX1_readText 104 = .ok (.aload_n 0, 1) := by decide +kernel
theorem dX1_readText_105 : decode cX1_readText 105 = .ok (.iload 4, 2) := by decide +kernel
theorem dX1_readText_107 : decode cX1_readText 107 = .ok (.invokevirtual 114, 3) := by decide +kernel
theorem dX1_readText_110 : decode cX1_readText 110 = .ok (.goto 33, 3) := by decide +kernel
theorem dX1_readText_113 : decode cX1_readText 113 = .ok (.aload_n 0, 1) := by decide +kernel
theorem dX1_readText_114 : decode cX1_readText 114 = .ok (.iload 4, 2) := by decide +kernel
theorem dX1_readText_116 : decode cX1_readText 116 = .ok (.invokevirtual 117, 3) := by decide +kernel
theorem dX1_readText_119 : decode cX1_readText 119 = .ok (.ifCond .ne 19, 3) := by decide +kernel
theorem dX1_readText_122 : decode cX1_readText 122 = .ok (.aload_n 0, 1) := by decide +kernel
theorem dX1_readText_123 : decode cX1_readText 123 = .ok (.getfield 44, 3) := by decide +kernel
theorem dX1_readText_126 : decode cX1_readText 126 = .ok (.ifCond .ne 16, 3) := by decide +kernel
theorem dX1_readText_129 : decode cX1_readText 129 = .ok (.aload_n 0, 1) := by decide +kernel
theorem dX1_readText_130 : decode cX1_readText 130 = .ok (.iload 4, 2) := by decide +kernel
theorem dX1_readText_132 : decode cX1_readText 132 = .ok (.invokevirtual 120, 3) := by decide +kernel
theorem dX1_readText_135 : decode cX1_readText 135 = .ok (.ifCond .eq 7, 3) := by decide +kernel
theorem dX1_readText_138 : decode cX1_readText 138 = .ok (.iconst 1, 1) := by decide +kernel
theorem dX1_readText_139 : decode cX1_readText 139 = .ok (.goto 4, 3) := by decide +kernel
theorem dX1_readText_142 : decode cX1_readText 142 = .ok (.iconst 0, 1) := by decide +kernel
theorem dX1_readText_143 : decode cX1_readText 143 = .ok (.istore 6, 2) := by decide +kernel
theorem dX1_readText_145 : decode cX1_readText 145 = .ok (.iload 6, 2) := by decide +kernel
theorem dX1_readText_147 : decode cX1_readText 147 = .ok (.ifCond .ne 8, 3) := by decide +kernel
theorem dX1_readText_150 : decode cX1_readText 150 = .ok (.aload_n 0, 1) := by decide +kernel
theorem dX1_readText_151 : decode cX1_readText 151 = .ok (.iload_n 3, 1) := by decide +kernel
theorem dX1_readText_152 : decode cX1_readText 152 = .ok (.putfield 15, 3) := by decide +kernel
theorem dX1_readText_155 : decode cX1_readText 155 = .ok (.iinc 3 1, 3) := by decide +kernel
theorem dX1_readText_158 : decode cX1_readText 158 = .ok (.goto (-126), 3) := by decide +kernel
theorem dX1_readText_161 : decode cX1_readText 161 = .ok (.aload_n 0, 1) := by decide +kernel
theorem dX1_readText_162 : decode cX1_readText 162 = .ok (.invokevirtual 107, 3) := by decide +kernel
theorem dX1_readText_165 : decode cX1_readText 165 = .ok (.aload_n 0, 1) := by decide +kernel
theorem dX1_readText_166 : decode cX1_readText 166 = .ok (.getfield 22, 3) := by decide +kernel
theorem dX1_readText_169 : decode cX1_readText 169 = .ok (.ifCond .ne 21, 3) := by decide +kernel
theorem dX1_readText_172 : decode cX1_readText 172 = .ok (.aload_n 0, 1) := by decide +kernel
theorem dX1_readText_173 : decode cX1_readText 173 = .ok (.getfield 44, 3) := by decide +kernel
theorem dX1_readText_176 : decode cX1_readText 176 = .ok (.ifCond .ne 14, 3) := by decide +kernel
theorem dX1_readText_179 : decode cX1_readText 179 = .ok (.aload_n 0, 1) := by decide +kernel
theorem dX1_readText_180 : decode cX1_readText 180 = .ok (.getfield 19, 3) := by decide +kernel
theorem dX1_readText_183 : decode cX1_readText 183 = .ok (.ifCond .ne 7, 3) := by decide +kernel
theorem dX1_readText_186 : decode cX1_readText 186 = .ok (.iconst 1, 1) := by decide +kernel
theorem dX1_readText_187 : decode cX1_readText 187 = .ok (.goto 4, 3) := by decide +kernel
theorem dX1_readText_190 : decode cX1_readText 190 = .ok (.iconst 0, 1) := by decide +kernel
theorem dX1_readText_191 : decode cX1_readText 191 = .ok (.istore_n 3, 1) := by decide +kernel
theorem dX1_readText_192 : decode cX1_readText 192 = .ok (.aload_n 0, 1) := by decide +kernel
theorem dX1_readText_193 : decode cX1_readText 193 = .ok (.getfield 15, 3) := by decide +kernel
theorem dX1_readText_196 : decode cX1_readText 196 = .ok (.iconst (-1), 1) := by decide +kernel
theorem dX1_readText_197 : decode cX1_readText 197 = .ok (.if_icmp .ne 12, 3) := by decide +kernel
theorem dX1_readText_200 : decode cX1_readText 200 = .ok (.iload_n 3, 1) := by decide +kernel
theorem dX1_readText_201 : decode cX1_readText 201 = .ok (.ifCond .ne 8, 3) := by decide +kernel
theorem dX1_readText_204 : decode cX1_readText 204 = .ok (.aload_n 0, 1) := by decide +kernel
theorem dX1_readText_205 : decode cX1_readText 205 = .ok (.iload_n 2, 1) := by decide +kernel
theorem dX1_readText_206 : decode cX1_readText 206 = .ok (.putfield 15, 3) := by decide +kernel
theorem dX1_readText_209 : decode cX1_readText 209 = .ok (.return_, 1) := by decide +kernel
theorem dX1_beginSum_0 : decode cX1_beginSum 0 = .ok (.aload_n 0, 1) := by decide +kernel
theorem dX1_beginSum_1 : decode cX1_beginSum 1 = .ok (.iload_n 1, 1) := by decide +kernel
theorem dX1_beginSum_2 : decode cX1_beginSum 2 = .ok (.putfield 19, 3) := by decide +kernel
theorem dX1_beginSum_5 : decode cX1_beginSum 5 = .ok (.aload_n 0, 1) := by decide +kernel
theorem dX1_beginSum_6 : decode cX1_beginSum 6 = .ok (.iconst 0, 1) := by decide +kernel
theorem dX1_beginSum_7 : decode cX1_beginSum 7 = .ok (.putfield 32, 3) := by decide +kernel
theorem dX1_beginSum_10 : decode cX1_beginSum 10 = .ok (.aload_n 0, 1) := by decide +kernel
theorem dX1_beginSum_11 : decode cX1_beginSum 11 = .ok (.iconst 1, 1) := by decide +kernel
theorem dX1_beginSum_12 : decode cX1_beginSum 12 = .ok (.putfield 35, 3) := by decide +kernel
theorem dX1_beginSum_15 : decode cX1_beginSum 15 = .ok (.aload_n 0, 1) := by decide +kernel
theorem dX1_beginSum_16 : decode cX1_beginSum 16 = .ok (.iconst 1, 1) := by decide +kernel
theorem dX1_beginSum_17 : decode cX1_beginSum 17 = .ok (.putfield 22, 3) := by decide +kernel
theorem dX1_beginSum_20 : decode cX1_beginSum 20 = .ok (.return_, 1) := by decide +kernel
theorem dX1_takesDigit_0 : decode cX1_takesDigit 0 = .ok (.aload_n 0, 1) := by decide +kernel
theorem dX1_takesDigit_1 : decode cX1_takesDigit 1 = .ok (.getfield 22, 3) := by decide +kernel
theorem dX1_takesDigit_4 : decode cX1_takesDigit 4 = .ok (.ifCond .eq 12, 3) := by decide +kernel
theorem dX1_takesDigit_7 : decode cX1_takesDigit 7 = .ok (.aload_n 0, 1) := by decide +kernel
theorem dX1_takesDigit_8 : decode cX1_takesDigit 8 = .ok (.getfield 29, 3) := by decide +kernel
theorem dX1_takesDigit_11 : decode cX1_takesDigit 11 = .ok (.bipush 7, 2) := by decide +kernel
theorem dX1_takesDigit_13 : decode cX1_takesDigit 13 = .ok (.if_icmp .ne 5, 3) := by decide +kernel
theorem dX1_takesDigit_16 : decode cX1_takesDigit 16 = .ok (.iconst 0, 1) := by decide +kernel
theorem dX1_takesDigit_17 : decode cX1_takesDigit 17 = .ok (.ireturn, 1) := by decide +kernel
theorem dX1_takesDigit_18 : decode cX1_takesDigit 18 = .ok (.aload_n 0, 1) := by decide +kernel
theorem dX1_takesDigit_19 : decode cX1_takesDigit 19 = .ok (.aload_n 0, 1) := by decide +kernel
theorem dX1_takesDigit_20 : decode cX1_takesDigit 20 = .ok (.getfield 29, 3) := by decide +kernel
theorem dX1_takesDigit_23 : decode cX1_takesDigit 23 = .ok (.ifCond .ne 7, 3) := by decide +kernel
theorem dX1_takesDigit_26 : decode cX1_takesDigit 26 = .ok (.iload_n 1, 1) := by decide +kernel
theorem dX1_takesDigit_27 : decode cX1_takesDigit 27 = .ok (.goto 12, 3) := by decide +kernel
theorem dX1_takesDigit_30 : decode cX1_takesDigit 30 = .ok (.bipush 10, 2) := by decide +kernel
theorem dX1_takesDigit_32 : decode cX1_takesDigit 32 = .ok (.aload_n 0, 1) := by decide +kernel
theorem dX1_takesDigit_33 : decode cX1_takesDigit 33 = .ok (.getfield 26, 3) := by decide +kernel
theorem dX1_takesDigit_36 : decode cX1_takesDigit 36 = .ok (.imul, 1) := by decide +kernel
theorem dX1_takesDigit_37 : decode cX1_takesDigit 37 = .ok (.iload_n 1, 1) := by decide +kernel
theorem dX1_takesDigit_38 : decode cX1_takesDigit 38 = .ok (.iadd, 1) := by decide +kernel
theorem dX1_takesDigit_39 : decode cX1_takesDigit 39 = .ok (.putfield 26, 3) := by decide +kernel
theorem dX1_takesDigit_42 : decode cX1_takesDigit 42 = .ok (.aload_n 0, 1) := by decide +kernel
theorem dX1_takesDigit_43 : decode cX1_takesDigit 43 = .ok (.dup, 1) := by decide +kernel
theorem dX1_takesDigit_44 : decode cX1_takesDigit 44 = .ok (.getfield 29, 3) := by decide +kernel
theorem dX1_takesDigit_47 : decode cX1_takesDigit 47 = .ok (.iconst 1, 1) := by decide +kernel
theorem dX1_takesDigit_48 : decode cX1_takesDigit 48 = .ok (.iadd, 1) := by decide +kernel
theorem dX1_takesDigit_49 : decode cX1_takesDigit 49 = .ok (.putfield 29, 3) := by decide +kernel
theorem dX1_takesDigit_52 : decode cX1_takesDigit 52 = .ok (.iconst 1, 1) := by decide +kernel
theorem dX1_takesDigit_53 : decode cX1_takesDigit 53 = .ok (.ireturn, 1) := by decide +kernel
theorem dX1_endNumber_0 : decode cX1_endNumber 0 = .ok (.aload_n 0, 1) := by decide +kernel
theorem dX1_endNumber_1 : decode cX1_endNumber 1 = .ok (.getfield 29, 3) := by decide +kernel
theorem dX1_endNumber_4 : decode cX1_endNumber 4 = .ok (.ifCond .le 16, 3) := by decide +kernel
theorem dX1_endNumber_7 : decode cX1_endNumber 7 = .ok (.aload_n 0, 1) := by decide +kernel
theorem dX1_endNumber_8 : decode cX1_endNumber 8 = .ok (.iconst 0, 1) := by decide +kernel
theorem dX1_endNumber_9 : decode cX1_endNumber 9 = .ok (.putfield 29, 3) := by decide +kernel
theorem dX1_endNumber_12 : decode cX1_endNumber 12 = .ok (.aload_n 0, 1) := by decide +kernel
theorem dX1_endNumber_13 : decode cX1_endNumber 13 = .ok (.aload_n 0, 1) := by decide +kernel
theorem dX1_endNumber_14 : decode cX1_endNumber 14 = .ok (.getfield 26, 3) := by decide +kernel
theorem dX1_endNumber_17 : decode cX1_endNumber 17 = .ok (.invokevirtual 123, 3) := by decide +kernel
theorem dX1_endNumber_20 : decode cX1_endNumber 20 = .ok (.return_, 1) := by decide +kernel
theorem dX1_takesInPart_0 : decode cX1_takesInPart 0 = .ok (.iload_n 1, 1) := by decide +kernel
theorem dX1_takesInPart_1 : decode cX1_takesInPart 1 = .ok (.invokestatic 126, 3) := by decide +kernel
theorem dX1_takesInPart_4 : decode cX1_takesInPart 4 = .ok (.istore_n 2, 1) := by decide +kernel
theorem dX1_takesInPart_5 : decode cX1_takesInPart 5 = .ok (.iload_n 2, 1) := by decide +kernel
theorem dX1_takesInPart_6 : decode cX1_takesInPart 6 = .ok (.iconst (-1), 1) := by decide +kernel
theorem dX1_takesInPart_7 : decode cX1_takesInPart 7 = .ok (.if_icmp .eq 15, 3) := by decide +kernel
theorem dX1_takesInPart_10 : decode cX1_takesInPart 10 = .ok (.aload_n 0, 1) := by decide +kernel
theorem dX1_takesInPart_11 : decode cX1_takesInPart 11 = .ok (.aload_n 0, 1) := by decide +kernel
theorem dX1_takesInPart_12 : decode cX1_takesInPart 12 = .ok (.getfield 11, 3) := by decide +kernel
theorem dX1_takesInPart_15 : decode cX1_takesInPart 15 = .ok (.iload_n 2, 1) := by decide +kernel
theorem dX1_takesInPart_16 : decode cX1_takesInPart 16 = .ok (.iaload, 1) := by decide +kernel
theorem dX1_takesInPart_17 : decode cX1_takesInPart 17 = .ok (.invokevirtual 123, 3) := by decide +kernel
theorem dX1_takesInPart_20 : decode cX1_takesInPart 20 = .ok (.iconst 1, 1) := by decide +kernel
theorem dX1_takesInPart_21 : decode cX1_takesInPart 21 = .ok (.ireturn, 1) := by decide +kernel
theorem dX1_takesInPart_22 : decode cX1_takesInPart 22 = .ok (.iload_n 1, 1) := by decide +kernel
theorem dX1_takesInPart_23 : decode cX1_takesInPart 23 = .ok (.bipush 45, 2) := by decide +kernel
theorem dX1_takesInPart_25 : decode cX1_takesInPart 25 = .ok (.if_icmp .eq 9, 3) := by decide +kernel
theorem dX1_takesInPart_28 : decode cX1_takesInPart 28 = .ok (.iload_n 1, 1) := by decide +kernel
theorem dX1_takesInPart_29 : decode cX1_takesInPart 29 = .ok (.bipush 40, 2) := by decide +kernel
theorem dX1_takesInPart_31 : decode cX1_takesInPart 31 = .ok (.if_icmp .ne 11, 3) := by decide +kernel
theorem dX1_takesInPart_34 : decode cX1_takesInPart 34 = .ok (.aload_n 0, 1) := by decide +kernel
theorem dX1_takesInPart_35 : decode cX1_takesInPart 35 = .ok (.getfield 44, 3) := by decide +kernel
theorem dX1_takesInPart_38 : decode cX1_takesInPart 38 = .ok (.iconst 5, 1) := by decide +kernel
theorem dX1_takesInPart_39 : decode cX1_takesInPart 39 = .ok (.if_icmp .lt 5, 3) := by decide +kernel
theorem dX1_takesInPart_42 : decode cX1_takesInPart 42 = .ok (.iconst 0, 1) := by decide +kernel
theorem dX1_takesInPart_43 : decode cX1_takesInPart 43 = .ok (.ireturn, 1) := by decide +kernel
theorem dX1_takesInPart_44 : decode cX1_takesInPart 44 = .ok (.aload_n 0, 1) := by decide +kernel
theorem dX1_takesInPart_45 : decode cX1_takesInPart 45 = .ok (.getfield 38, 3) := by decide +kernel
theorem dX1_takesInPart_48 : decode cX1_takesInPart 48 = .ok (.aload_n 0, 1) := by decide +kernel
theorem dX1_takesInPart_49 : decode cX1_takesInPart 49 = .ok (.getfield 44, 3) := by decide +kernel
theorem dX1_takesInPart_52 : decode cX1_takesInPart 52 = .ok (.aload_n 0, 1) := by decide +kernel
theorem dX1_takesInPart_53 : decode cX1_takesInPart 53 = .ok (.getfield 32, 3) := by decide +kernel
theorem dX1_takesInPart_56 : decode cX1_takesInPart 56 = .ok (.iastore, 1) := by decide +kernel
theorem dX1_takesInPart_57 : decode cX1_takesInPart 57 = .ok (.aload_n 0, 1) := by decide +kernel
theorem dX1_takesInPart_58 : decode cX1_takesInPart 58 = .ok (.getfield 41, 3) := by decide +kernel
theorem dX1_takesInPart_61 : decode cX1_takesInPart 61 = .ok (.aload_n 0, 1) := by decide +kernel
theorem dX1_takesInPart_62 : decode cX1_takesInPart 62 = .ok (.getfield 44, 3) := by decide +kernel
theorem dX1_takesInPart_65 : decode cX1_takesInPart 65 = .ok (.iload_n 1, 1) := by decide +kernel
theorem dX1_takesInPart_66 : decode cX1_takesInPart 66 = .ok (.bipush 45, 2) := by decide +kernel
theorem dX1_takesInPart_68 : decode cX1_takesInPart 68 = .ok (.if_icmp .ne 7, 3) := by decide +kernel
theorem dX1_takesInPart_71 : decode cX1_takesInPart 71 = .ok (.iconst 0, 1) := by decide +kernel
theorem dX1_takesInPart_72 : decode cX1_takesInPart 72 = .ok (.goto 7, 3) := by decide +kernel
theorem dX1_takesInPart_75 : decode cX1_takesInPart 75 = .ok (.aload_n 0, 1) := by decide +kernel
theorem dX1_takesInPart_76 : decode cX1_takesInPart 76 = .ok (.getfield 35, 3) := by decide +kernel
theorem dX1_takesInPart_79 : decode cX1_takesInPart 79 = .ok (.iastore, 1) := by decide +kernel
theorem dX1_takesInPart_80 : decode cX1_takesInPart 80 = .ok (.aload_n 0, 1) := by decide +kernel
theorem dX1_takesInPart_81 : decode cX1_takesInPart 81 = .ok (.dup, 1) := by decide +kernel
theorem dX1_takesInPart_82 : decode cX1_takesInPart 82 = .ok (.getfield 44, 3) := by decide +kernel
theorem dX1_takesInPart_85 : decode cX1_takesInPart 85 = .ok (.iconst 1, 1) := by decide +kernel
theorem dX1_takesInPart_86 : decode cX1_takesInPart 86 = .ok (.iadd, 1) := by decide +kernel
theorem dX1_takesInPart_87 : decode cX1_takesInPart 87 = .ok (.putfield 44, 3) := by decide +kernel
theorem dX1_takesInPart_90 : decode cX1_takesInPart 90 = .ok (.iload_n 1, 1) := by decide +kernel
theorem dX1_takesInPart_91 : decode cX1_takesInPart 91 = .ok (.bipush 40, 2) := by decide +kernel
theorem dX1_takesInPart_93 : decode cX1_takesInPart 93 = .ok (.if_icmp .ne 13, 3) := by decide +kernel
theorem dX1_takesInPart_96 : decode cX1_takesInPart 96 = .ok (.aload_n 0, 1) := by decide +kernel
theorem dX1_takesInPart_97 : decode cX1_takesInPart 97 = .ok (.iconst 0, 1) := by decide +kernel
theorem dX1_takesInPart_98 : decode cX1_takesInPart 98 = .ok (.putfield 32, 3) := by decide +kernel
theorem dX1_takesInPart_101 : decode cX1_takesInPart 101 = .ok (.aload_n 0, 1) := by decide +kernel
theorem dX1_takesInPart_102 : decode cX1_takesInPart 102 = .ok (.iconst 1, 1) := by decide +kernel
theorem dX1_takesInPart_103 : decode cX1_takesInPart 103 = .ok (.putfield 35, 3) := by decide +kernel
theorem dX1_takesInPart_106 : decode cX1_takesInPart 106 = .ok (.iconst 1, 1) := by decide +kernel
theorem dX1_takesInPart_107 : decode cX1_takesInPart 107 = .ok (.ireturn, 1) := by decide +kernel
theorem dX1_endPart_0 : decode cX1_endPart 0 = .ok (.iload_n 1, 1) := by decide +kernel
theorem dX1_endPart_1 : decode cX1_endPart 1 = .ok (.istore_n 2, 1) := by decide +kernel
theorem dX1_endPart_2 : decode cX1_endPart 2 = .ok (.aload_n 0, 1) := by decide +kernel
theorem dX1_endPart_3 : decode cX1_endPart 3 = .ok (.getfield 44, 3) := by decide +kernel
theorem dX1_endPart_6 : decode cX1_endPart 6 = .ok (.ifCond .le 33, 3) := by decide +kernel
theorem dX1_endPart_9 : decode cX1_endPart 9 = .ok (.aload_n 0, 1) := by decide +kernel
theorem dX1_endPart_10 : decode cX1_endPart 10 = .ok (.getfield 41, 3) := by decide +kernel
theorem dX1_endPart_13 : decode cX1_endPart 13 = .ok (.aload_n 0, 1) := by decide +kernel
theorem dX1_endPart_14 : decode cX1_endPart 14 = .ok (.getfield 44, 3) := by decide +kernel
theorem dX1_endPart_17 : decode cX1_endPart 17 = .ok (.iconst 1, 1) := by decide +kernel
theorem dX1_endPart_18 : decode cX1_endPart 18 = .ok (.isub, 1) := by decide +kernel
theorem dX1_endPart_19 : decode cX1_endPart 19 = .ok (.iaload, 1) := by decide +kernel
theorem dX1_endPart_20 : decode cX1_endPart 20 = .ok (.ifCond .ne 19, 3) := by decide +kernel
theorem dX1_endPart_23 : decode cX1_endPart 23 = .ok (.iload_n 2, 1) := by decide +kernel
theorem dX1_endPart_24 : decode cX1_endPart 24 = .ok (.ineg, 1) := by decide +kernel
theorem dX1_endPart_25 : decode cX1_endPart 25 = .ok (.istore_n 2, 1) := by decide +kernel
theorem dX1_endPart_26 : decode cX1_endPart 26 = .ok (.aload_n 0, 1) := by decide +kernel
theorem dX1_endPart_27 : decode cX1_endPart 27 = .ok (.dup, 1) := by decide +kernel
theorem dX1_endPart_28 : decode cX1_endPart 28 = .ok (.getfield 44, 3) := by decide +kernel
theorem dX1_endPart_31 : decode cX1_endPart 31 = .ok (.iconst 1, 1) := by decide +kernel
theorem dX1_endPart_32 : decode cX1_endPart 32 = .ok (.isub, 1) := by decide +kernel
theorem dX1_endPart_33 : decode cX1_endPart 33 = .ok (.putfield 44, 3) := by decide +kernel
theorem dX1_endPart_36 : decode cX1_endPart 36 = .ok (.goto (-34), 3) := by decide +kernel
theorem dX1_endPart_39 : decode cX1_endPart 39 = .ok (.aload_n 0, 1) := by decide +kernel
theorem dX1_endPart_40 : decode cX1_endPart 40 = .ok (.dup, 1) := by decide +kernel
theorem dX1_endPart_41 : decode cX1_endPart 41 = .ok (.getfield 32, 3) := by decide +kernel
theorem dX1_endPart_44 : decode cX1_endPart 44 = .ok (.aload_n 0, 1) := by decide +kernel
theorem dX1_endPart_45 : decode cX1_endPart 45 = .ok (.getfield 35, 3) := by decide +kernel
theorem dX1_endPart_48 : decode cX1_endPart 48 = .ok (.iload_n 2, 1) := by decide +kernel
theorem dX1_endPart_49 : decode cX1_endPart 49 = .ok (.imul, 1) := by decide +kernel
theorem dX1_endPart_50 : decode cX1_endPart 50 = .ok (.iadd, 1) := by decide +kernel
theorem dX1_endPart_51 : decode cX1_endPart 51 = .ok (.putfield 32, 3) := by decide +kernel
theorem dX1_endPart_54 : decode cX1_endPart 54 = .ok (.aload_n 0, 1) := by decide +kernel
theorem dX1_endPart_55 : decode cX1_endPart 55 = .ok (.iconst 0, 1) := by decide +kernel
theorem dX1_endPart_56 : decode cX1_endPart 56 = .ok (.putfield 22, 3) := by decide +kernel
theorem dX1_endPart_59 : decode cX1_endPart 59 = .ok (.return_, 1) := by decide +kernel
theorem dX1_takesBehindPart_0 : decode cX1_takesBehindPart 0 = .ok (.iload_n 1, 1) := by decide +kernel
theorem dX1_takesBehindPart_1 : decode cX1_takesBehindPart 1 = .ok (.bipush 43, 2) := by decide +kernel
theorem dX1_takesBehindPart_3 : decode cX1_takesBehindPart 3 = .ok (.if_icmp .eq 9, 3) := by decide +kernel
theorem dX1_takesBehindPart_6 : decode cX1_takesBehindPart 6 = .ok (.iload_n 1, 1) := by decide +kernel
theorem dX1_takesBehindPart_7 : decode cX1_takesBehindPart 7 = .ok (.bipush 45, 2) := by decide +kernel
theorem dX1_takesBehindPart_9 : decode cX1_takesBehindPart 9 = .ok (.if_icmp .ne 25, 3) := by decide +kernel
theorem dX1_takesBehindPart_12 : decode cX1_takesBehindPart 12 = .ok (.aload_n 0, 1) := by decide +kernel
theorem dX1_takesBehindPart_13 : decode cX1_takesBehindPart 13 = .ok (.iload_n 1, 1) := by decide +kernel
theorem dX1_takesBehindPart_14 : decode cX1_takesBehindPart 14 = .ok (.bipush 43, 2) := by decide +kernel
theorem dX1_takesBehindPart_16 : decode cX1_takesBehindPart 16 = .ok (.if_icmp .ne 7, 3) := by decide +kernel
theorem dX1_takesBehindPart_19 : decode cX1_takesBehindPart 19 = .ok (.iconst 1, 1) := by decide +kernel
theorem dX1_takesBehindPart_20 : decode cX1_takesBehindPart 20 = .ok (.goto 4, 3) := by decide +kernel
theorem dX1_takesBehindPart_23 : decode cX1_takesBehindPart 23 = .ok (.iconst (-1), 1) := by decide +kernel
theorem dX1_takesBehindPart_24 : decode cX1_takesBehindPart 24 = .ok (.putfield 35, 3) := by decide +kernel
theorem dX1_takesBehindPart_27 : decode cX1_takesBehindPart 27 = .ok (.aload_n 0, 1) := by decide +kernel
theorem dX1_takesBehindPart_28 : decode cX1_takesBehindPart 28 = .ok (.iconst 1, 1) := by decide +kernel
theorem dX1_takesBehindPart_29 : decode cX1_takesBehindPart 29 = .ok (.putfield 22, 3) := by decide +kernel
theorem dX1_takesBehindPart_32 : decode cX1_takesBehindPart 32 = .ok (.iconst 1, 1) := by decide +kernel
theorem dX1_takesBehindPart_33 : decode cX1_takesBehindPart 33 = .ok (.ireturn, 1) := by decide +kernel
theorem dX1_takesBehindPart_34 : decode cX1_takesBehindPart 34 = .ok (.iload_n 1, 1) := by decide +kernel
theorem dX1_takesBehindPart_35 : decode cX1_takesBehindPart 35 = .ok (.bipush 41, 2) := by decide +kernel
theorem dX1_takesBehindPart_37 : decode cX1_takesBehindPart 37 = .ok (.if_icmp .ne 10, 3) := by decide +kernel
theorem dX1_takesBehindPart_40 : decode cX1_takesBehindPart 40 = .ok (.aload_n 0, 1) := by decide +kernel
theorem dX1_takesBehindPart_41 : decode cX1_takesBehindPart 41 = .ok (.getfield 44, 3) := by decide +kernel
theorem dX1_takesBehindPart_44 : decode cX1_takesBehindPart 44 = .ok (.ifCond .ne 5, 3) := by decide +kernel
theorem dX1_takesBehindPart_47 : decode cX1_takesBehindPart 47 = .ok (.iconst 0, 1) := by decide +kernel
theorem dX1_takesBehindPart_48 : decode cX1_takesBehindPart 48 = .ok (.ireturn, 1) := by decide +kernel
theorem dX1_takesBehindPart_49 : decode cX1_takesBehindPart 49 = .ok (.aload_n 0, 1) := by decide +kernel
theorem dX1_takesBehindPart_50 : decode cX1_takesBehindPart 50 = .ok (.dup, 1) := by decide +kernel
theorem dX1_takesBehindPart_51 : decode cX1_takesBehindPart 51 = .ok (.getfield 44, 3) := by decide +kernel
theorem dX1_takesBehindPart_54 : decode cX1_takesBehindPart 54 = .ok (.iconst 1, 1) := by decide +kernel
theorem dX1_takesBehindPart_55 : decode cX1_takesBehindPart 55 = .ok (.isub, 1) := by decide +kernel
theorem dX1_takesBehindPart_56 : decode cX1_takesBehindPart 56 = .ok (.putfield 44, 3) := by decide +kernel
theorem dX1_takesBehindPart_59 : decode cX1_takesBehindPart 59 = .ok (.aload_n 0, 1) := by decide +kernel
theorem dX1_takesBehindPart_60 : decode cX1_takesBehindPart 60 = .ok (.getfield 32, 3) := by decide +kernel
theorem dX1_takesBehindPart_63 : decode cX1_takesBehindPart 63 = .ok (.istore_n 2, 1) := by decide +kernel
theorem dX1_takesBehindPart_64 : decode cX1_takesBehindPart 64 = .ok (.aload_n 0, 1) := by decide +kernel
theorem dX1_takesBehindPart_65 : decode cX1_takesBehindPart 65 = .ok (.aload_n 0, 1) := by decide +kernel
theorem dX1_takesBehindPart_66 : decode cX1_takesBehindPart 66 = .ok (.getfield 38, 3) := by decide +kernel
theorem dX1_takesBehindPart_69 : decode cX1_takesBehindPart 69 = .ok (.aload_n 0, 1) := by decide +kernel
theorem dX1_takesBehindPart_70 : decode cX1_takesBehindPart 70 = .ok (.getfield 44, 3) := by decide +kernel
theorem dX1_takesBehindPart_73 : decode cX1_takesBehindPart 73 = .ok (.iaload, 1) := by decide +kernel
theorem dX1_takesBehindPart_74 : decode cX1_takesBehindPart 74 = .ok (.putfield 32, 3) := by decide +kernel
theorem dX1_takesBehindPart_77 : decode cX1_takesBehindPart 77 = .ok (.aload_n 0, 1) := by decide +kernel
theorem dX1_takesBehindPart_78 : decode cX1_takesBehindPart 78 = .ok (.aload_n 0, 1) := by decide +kernel
theorem dX1_takesBehindPart_79 : decode cX1_takesBehindPart 79 = .ok (.getfield 41, 3) := by decide +kernel
theorem dX1_takesBehindPart_82 : decode cX1_takesBehindPart 82 = .ok (.aload_n 0, 1) := by decide +kernel
theorem dX1_takesBehindPart_83 : decode cX1_takesBehindPart 83 = .ok (.getfield 44, 3) := by decide +kernel
theorem dX1_takesBehindPart_86 : decode cX1_takesBehindPart 86 = .ok (.iaload, 1) := by decide +kernel
theorem dX1_takesBehindPart_87 : decode cX1_takesBehindPart 87 = .ok (.putfield 35, 3) := by decide +kernel
theorem dX1_takesBehindPart_90 : decode cX1_takesBehindPart 90 = .ok (.aload_n 0, 1) := by decide +kernel
theorem dX1_takesBehindPart_91 : decode cX1_takesBehindPart 91 = .ok (.iload_n 2, 1) := by decide +kernel
theorem dX1_takesBehindPart_92 : decode cX1_takesBehindPart 92 = .ok (.invokevirtual 123, 3) := by decide +kernel
theorem dX1_takesBehindPart_95 : decode cX1_takesBehindPart 95 = .ok (.iconst 1, 1) := by decide +kernel
theorem dX1_takesBehindPart_96 : decode cX1_takesBehindPart 96 = .ok (.ireturn, 1) := by decide +kernel
theorem dX1_takesBehindSum_0 : decode cX1_takesBehindSum 0 = .ok (.aload_n 0, 1) := by decide +kernel
theorem dX1_takesBehindSum_1 : decode cX1_takesBehindSum 1 = .ok (.iload_n 1, 1) := by decide +kernel
theorem dX1_takesBehindSum_2 : decode cX1_takesBehindSum 2 = .ok (.invokevirtual 130, 3) := by decide +kernel
theorem dX1_takesBehindSum_5 : decode cX1_takesBehindSum 5 = .ok (.istore_n 2, 1) := by decide +kernel
theorem dX1_takesBehindSum_6 : decode cX1_takesBehindSum 6 = .ok (.iload_n 2, 1) := by decide +kernel
theorem dX1_takesBehindSum_7 : decode cX1_takesBehindSum 7 = .ok (.iconst (-1), 1) := by decide +kernel
theorem dX1_takesBehindSum_8 : decode cX1_takesBehindSum 8 = .ok (.if_icmp .ne 5, 3) := by decide +kernel
theorem dX1_takesBehindSum_11 : decode cX1_takesBehindSum 11 = .ok (.iconst 0, 1) := by decide +kernel
theorem dX1_takesBehindSum_12 : decode cX1_takesBehindSum 12 = .ok (.ireturn, 1) := by decide +kernel
theorem dX1_takesBehindSum_13 : decode cX1_takesBehindSum 13 = .ok (.aload_n 0, 1) := by decide +kernel
theorem dX1_takesBehindSum_14 : decode cX1_takesBehindSum 14 = .ok (.getfield 19, 3) := by decide +kernel
theorem dX1_takesBehindSum_17 : decode cX1_takesBehindSum 17 = .ok (.lookupswitch 113 #[(1, 27), (3, 53)], 27) := by decide +kernel
theorem dX1_takesBehindSum_44 : decode cX1_takesBehindSum 44 = .ok (.aload_n 0, 1) := by decide +kernel
theorem dX1_takesBehindSum_45 : decode cX1_takesBehindSum 45 = .ok (.aload_n 0, 1) := by decide +kernel
theorem dX1_takesBehindSum_46 : decode cX1_takesBehindSum 46 = .ok (.getfield 53, 3) := by decide +kernel
theorem dX1_takesBehindSum_49 : decode cX1_takesBehindSum 49 = .ok (.ifCond .eq 14, 3) := by decide +kernel
theorem dX1_takesBehindSum_52 : decode cX1_takesBehindSum 52 = .ok (.aload_n 0, 1) := by decide +kernel
theorem dX1_takesBehindSum_53 : decode cX1_takesBehindSum 53 = .ok (.invokevirtual 133, 3) := by decide +kernel
theorem dX1_takesBehindSum_56 : decode cX1_takesBehindSum 56 = .ok (.ifCond .eq 7, 3) := by decide +kernel
theorem dX1_takesBehindSum_59 : decode cX1_takesBehindSum 59 = .ok (.iconst 1, 1) := by decide +kernel
theorem dX1_takesBehindSum_60 : decode cX1_takesBehindSum 60 = .ok (.goto 4, 3) := by decide +kernel
theorem dX1_takesBehindSum_63 : decode cX1_takesBehindSum 63 = .ok (.iconst 0, 1) := by decide +kernel
theorem dX1_takesBehindSum_64 : decode cX1_takesBehindSum 64 = .ok (.putfield 53, 3) := by decide +kernel
theorem dX1_takesBehindSum_67 : decode cX1_takesBehindSum 67 = .ok (.goto 76, 3) := by decide +kernel
theorem dX1_takesBehindSum_70 : decode cX1_takesBehindSum 70 = .ok (.aload_n 0, 1) := by decide +kernel
theorem dX1_takesBehindSum_71 : decode cX1_takesBehindSum 71 = .ok (.aload_n 0, 1) := by decide +kernel
theorem dX1_takesBehindSum_72 : decode cX1_takesBehindSum 72 = .ok (.getfield 53, 3) := by decide +kernel
theorem dX1_takesBehindSum_75 : decode cX1_takesBehindSum 75 = .ok (.ifCond .eq 17, 3) := by decide +kernel
theorem dX1_takesBehindSum_78 : decode cX1_takesBehindSum 78 = .ok (.aload_n 0, 1) := by decide +kernel
theorem dX1_takesBehindSum_79 : decode cX1_takesBehindSum 79 = .ok (.getfield 56, 3) := by decide +kernel
theorem dX1_takesBehindSum_82 : decode cX1_takesBehindSum 82 = .ok (.ifCond .ne 10, 3) := by decide +kernel
theorem dX1_takesBehindSum_85 : decode cX1_takesBehindSum 85 = .ok (.aload_n 0, 1) := by decide +kernel
theorem dX1_takesBehindSum_86 : decode cX1_takesBehindSum 86 = .ok (.getfield 32, 3) := by decide +kernel
theorem dX1_takesBehindSum_89 : decode cX1_takesBehindSum 89 = .ok (.goto 7, 3) := by decide +kernel
theorem dX1_takesBehindSum_92 : decode cX1_takesBehindSum 92 = .ok (.aload_n 0, 1) := by decide +kernel
theorem dX1_takesBehindSum_93 : decode cX1_takesBehindSum 93 = .ok (.getfield 59, 3) := by decide +kernel
theorem dX1_takesBehindSum_96 : decode cX1_takesBehindSum 96 = .ok (.putfield 59, 3) := by decide +kernel
theorem dX1_takesBehindSum_99 : decode cX1_takesBehindSum 99 = .ok (.aload_n 0, 1) := by decide +kernel
theorem dX1_takesBehindSum_100 : decode cX1_takesBehindSum 100 = .ok (.aload_n 0, 1) := by decide +kernel
theorem dX1_takesBehindSum_101 : decode cX1_takesBehindSum 101 = .ok (.getfield 56, 3) := by decide +kernel
theorem dX1_takesBehindSum_104 : decode cX1_takesBehindSum 104 = .ok (.ifCond .ne 10, 3) := by decide +kernel
theorem dX1_takesBehindSum_107 : decode cX1_takesBehindSum 107 = .ok (.aload_n 0, 1) := by decide +kernel
theorem dX1_takesBehindSum_108 : decode cX1_takesBehindSum 108 = .ok (.getfield 53, 3) := by decide +kernel
theorem dX1_takesBehindSum_111 : decode cX1_takesBehindSum 111 = .ok (.ifCond .eq 7, 3) := by decide +kernel
theorem dX1_takesBehindSum_114 : decode cX1_takesBehindSum 114 = .ok (.iconst 1, 1) := by decide +kernel
theorem dX1_takesBehindSum_115 : decode cX1_takesBehindSum 115 = .ok (.goto 4, 3) := by decide +kernel
theorem dX1_takesBehindSum_118 : decode cX1_takesBehindSum 118 = .ok (.iconst 0, 1) := by decide +kernel
theorem dX1_takesBehindSum_119 : decode cX1_takesBehindSum 119 = .ok (.putfield 56, 3) := by decide +kernel
theorem dX1_takesBehindSum_122 : decode cX1_takesBehindSum 122 = .ok (.aload_n 0, 1) := by decide +kernel
theorem dX1_takesBehindSum_123 : decode cX1_takesBehindSum 123 = .ok (.iconst 1, 1) := by decide +kernel
theorem dX1_takesBehindSum_124 : decode cX1_takesBehindSum 124 = .ok (.putfield 53, 3) := by decide +kernel
theorem dX1_takesBehindSum_127 : decode cX1_takesBehindSum 127 = .ok (.goto 16, 3) := by decide +kernel
theorem dX1_takesBehindSum_130 : decode cX1_takesBehindSum 130 = .ok (.aload_n 0, 1) := by decide +kernel
theorem dX1_takesBehindSum_131 : decode cX1_takesBehindSum 131 = .ok (.aload_n 0, 1) := by decide +kernel
theorem dX1_takesBehindSum_132 : decode cX1_takesBehindSum 132 = .ok (.getfield 32, 3) := by decide +kernel
theorem dX1_takesBehindSum_135 : decode cX1_takesBehindSum 135 = .ok (.putfield 47, 3) := by decide +kernel
theorem dX1_takesBehindSum_138 : decode cX1_takesBehindSum 138 = .ok (.aload_n 0, 1) := by decide +kernel
theorem dX1_takesBehindSum_139 : decode cX1_takesBehindSum 139 = .ok (.iload_n 1, 1) := by decide +kernel
theorem dX1_takesBehindSum_140 : decode cX1_takesBehindSum 140 = .ok (.putfield 50, 3) := by decide +kernel
theorem dX1_takesBehindSum_143 : decode cX1_takesBehindSum 143 = .ok (.aload_n 0, 1) := by decide +kernel
theorem dX1_takesBehindSum_144 : decode cX1_takesBehindSum 144 = .ok (.iload_n 2, 1) := by decide +kernel
theorem dX1_takesBehindSum_145 : decode cX1_takesBehindSum 145 = .ok (.invokevirtual 103, 3) := by decide +kernel
theorem dX1_takesBehindSum_148 : decode cX1_takesBehindSum 148 = .ok (.iconst 1, 1) := by decide +kernel
theorem dX1_takesBehindSum_149 : decode cX1_takesBehindSum 149 = .ok (.ireturn, 1) := by decide +kernel
theorem dX1_placeBehind_0 : decode cX1_placeBehind 0 = .ok (.iload_n 1, 1) := by decide +kernel
theorem dX1_placeBehind_1 : decode cX1_placeBehind 1 = .ok (.lookupswitch 122 #[(38, 80), (58, 108), (60, 59), (61, 59), (62, 59), (63, 94)], 59) := by decide +kernel
theorem dX1_placeBehind_60 : decode cX1_placeBehind 60 = .ok (.aload_n 0, 1) := by decide +kernel
theorem dX1_placeBehind_61 : decode cX1_placeBehind 61 = .ok (.getfield 19, 3) := by decide +kernel
theorem dX1_placeBehind_64 : decode cX1_placeBehind 64 = .ok (.ifCond .eq 11, 3) := by decide +kernel
theorem dX1_placeBehind_67 : decode cX1_placeBehind 67 = .ok (.aload_n 0, 1) := by decide +kernel
theorem dX1_placeBehind_68 : decode cX1_placeBehind 68 = .ok (.getfield 19, 3) := by decide +kernel
theorem dX1_placeBehind_71 : decode cX1_placeBehind 71 = .ok (.iconst 2, 1) := by decide +kernel
theorem dX1_placeBehind_72 : decode cX1_placeBehind 72 = .ok (.if_icmp .ne 7, 3) := by decide +kernel
theorem dX1_placeBehind_75 : decode cX1_placeBehind 75 = .ok (.iconst 1, 1) := by decide +kernel
theorem dX1_placeBehind_76 : decode cX1_placeBehind 76 = .ok (.goto 4, 3) := by decide +kernel
theorem dX1_placeBehind_79 : decode cX1_placeBehind 79 = .ok (.iconst (-1), 1) := by decide +kernel
theorem dX1_placeBehind_80 : decode cX1_placeBehind 80 = .ok (.ireturn, 1) := by decide +kernel
theorem dX1_placeBehind_81 : decode cX1_placeBehind 81 = .ok (.aload_n 0, 1) := by decide +kernel
theorem dX1_placeBehind_82 : decode cX1_placeBehind 82 = .ok (.getfield 19, 3) := by decide +kernel
theorem dX1_placeBehind_85 : decode cX1_placeBehind 85 = .ok (.iconst 1, 1) := by decide +kernel
theorem dX1_placeBehind_86 : decode cX1_placeBehind 86 = .ok (.if_icmp .ne 7, 3) := by decide +kernel
theorem dX1_placeBehind_89 : decode cX1_placeBehind 89 = .ok (.iconst 2, 1) := by decide +kernel
theorem dX1_placeBehind_90 : decode cX1_placeBehind 90 = .ok (.goto 4, 3) := by decide +kernel
theorem dX1_placeBehind_93 : decode cX1_placeBehind 93 = .ok (.iconst (-1), 1) := by decide +kernel
theorem dX1_placeBehind_94 : decode cX1_placeBehind 94 = .ok (.ireturn, 1) := by decide +kernel
theorem dX1_placeBehind_95 : decode cX1_placeBehind 95 = .ok (.aload_n 0, 1) := by decide +kernel
theorem dX1_placeBehind_96 : decode cX1_placeBehind 96 = .ok (.getfield 19, 3) := by decide +kernel
theorem dX1_placeBehind_99 : decode cX1_placeBehind 99 = .ok (.iconst 1, 1) := by decide +kernel
theorem dX1_placeBehind_100 : decode cX1_placeBehind 100 = .ok (.if_icmp .ne 7, 3) := by decide +kernel
theorem dX1_placeBehind_103 : decode cX1_placeBehind 103 = .ok (.iconst 3, 1) := by decide +kernel
theorem dX1_placeBehind_104 : decode cX1_placeBehind 104 = .ok (.goto 4, 3) := by decide +kernel
theorem dX1_placeBehind_107 : decode cX1_placeBehind 107 = .ok (.iconst (-1), 1) := by decide +kernel
theorem dX1_placeBehind_108 : decode cX1_placeBehind 108 = .ok (.ireturn, 1) := by decide +kernel
theorem dX1_placeBehind_109 : decode cX1_placeBehind 109 = .ok (.aload_n 0, 1) := by decide +kernel
theorem dX1_placeBehind_110 : decode cX1_placeBehind 110 = .ok (.getfield 19, 3) := by decide +kernel
theorem dX1_placeBehind_113 : decode cX1_placeBehind 113 = .ok (.iconst 3, 1) := by decide +kernel
theorem dX1_placeBehind_114 : decode cX1_placeBehind 114 = .ok (.if_icmp .ne 7, 3) := by decide +kernel
theorem dX1_placeBehind_117 : decode cX1_placeBehind 117 = .ok (.iconst 0, 1) := by decide +kernel
theorem dX1_placeBehind_118 : decode cX1_placeBehind 118 = .ok (.goto 4, 3) := by decide +kernel
theorem dX1_placeBehind_121 : decode cX1_placeBehind 121 = .ok (.iconst (-1), 1) := by decide +kernel
theorem dX1_placeBehind_122 : decode cX1_placeBehind 122 = .ok (.ireturn, 1) := by decide +kernel
theorem dX1_placeBehind_123 : decode cX1_placeBehind 123 = .ok (.iconst (-1), 1) := by decide +kernel
theorem dX1_placeBehind_124 : decode cX1_placeBehind 124 = .ok (.ireturn, 1) := by decide +kernel
theorem dX1_comparesRight_0 : decode cX1_comparesRight 0 = .ok (.aload_n 0, 1) := by decide +kernel
theorem dX1_comparesRight_1 : decode cX1_comparesRight 1 = .ok (.getfield 50, 3) := by decide +kernel
theorem dX1_comparesRight_4 : decode cX1_comparesRight 4 = .ok (.lookupswitch 62 #[(60, 28), (62, 45)], 28) := by decide +kernel
theorem dX1_comparesRight_32 : decode cX1_comparesRight 32 = .ok (.aload_n 0, 1) := by decide +kernel
theorem dX1_comparesRight_33 : decode cX1_comparesRight 33 = .ok (.getfield 47, 3) := by decide +kernel
theorem dX1_comparesRight_36 : decode cX1_comparesRight 36 = .ok (.aload_n 0, 1) := by decide +kernel
theorem dX1_comparesRight_37 : decode cX1_comparesRight 37 = .ok (.getfield 32, 3) := by decide +kernel
theorem dX1_comparesRight_40 : decode cX1_comparesRight 40 = .ok (.if_icmp .ge 7, 3) := by decide +kernel
theorem dX1_comparesRight_43 : decode cX1_comparesRight 43 = .ok (.iconst 1, 1) := by decide +kernel
theorem dX1_comparesRight_44 : decode cX1_comparesRight 44 = .ok (.goto 4, 3) := by decide +kernel
theorem dX1_comparesRight_47 : decode cX1_comparesRight 47 = .ok (.iconst 0, 1) := by decide +kernel
theorem dX1_comparesRight_48 : decode cX1_comparesRight 48 = .ok (.ireturn, 1) := by decide +kernel
theorem dX1_comparesRight_49 : decode cX1_comparesRight 49 = .ok (.aload_n 0, 1) := by decide +kernel
theorem dX1_comparesRight_50 : decode cX1_comparesRight 50 = .ok (.getfield 47, 3) := by decide +kernel
theorem dX1_comparesRight_53 : decode cX1_comparesRight 53 = .ok (.aload_n 0, 1) := by decide +kernel
theorem dX1_comparesRight_54 : decode cX1_comparesRight 54 = .ok (.getfield 32, 3) := by decide +kernel
theorem dX1_comparesRight_57 : decode cX1_comparesRight 57 = .ok (.if_icmp .le 7, 3) := by decide +kernel
theorem dX1_comparesRight_60 : decode cX1_comparesRight 60 = .ok (.iconst 1, 1) := by decide +kernel
theorem dX1_comparesRight_61 : decode cX1_comparesRight 61 = .ok (.goto 4, 3) := by decide +kernel
theorem dX1_comparesRight_64 : decode cX1_comparesRight 64 = .ok (.iconst 0, 1) := by decide +kernel
theorem dX1_comparesRight_65 : decode cX1_comparesRight 65 = .ok (.ireturn, 1) := by decide +kernel
theorem dX1_comparesRight_66 : decode cX1_comparesRight 66 = .ok (.aload_n 0, 1) := by decide +kernel
theorem dX1_comparesRight_67 : decode cX1_comparesRight 67 = .ok (.getfield 47, 3) := by decide +kernel
theorem dX1_comparesRight_70 : decode cX1_comparesRight 70 = .ok (.aload_n 0, 1) := by decide +kernel
theorem dX1_comparesRight_71 : decode cX1_comparesRight 71 = .ok (.getfield 32, 3) := by decide +kernel
theorem dX1_comparesRight_74 : decode cX1_comparesRight 74 = .ok (.if_icmp .ne 7, 3) := by decide +kernel
theorem dX1_comparesRight_77 : decode cX1_comparesRight 77 = .ok (.iconst 1, 1) := by decide +kernel
theorem dX1_comparesRight_78 : decode cX1_comparesRight 78 = .ok (.goto 4, 3) := by decide +kernel
theorem dX1_comparesRight_81 : decode cX1_comparesRight 81 = .ok (.iconst 0, 1) := by decide +kernel
theorem dX1_comparesRight_82 : decode cX1_comparesRight 82 = .ok (.ireturn, 1) := by decide +kernel
theorem dX2_init_0 : decode cX2_init 0 = .ok (.aload_n 0, 1) := by decide +kernel
theorem dX2_init_1 : decode cX2_init 1 = .ok (.invokespecial 3, 3) := by decide +kernel
theorem dX2_init_4 : decode cX2_init 4 = .ok (.aload_n 0, 1) := by decide +kernel
theorem dX2_init_5 : decode cX2_init 5 = .ok (.iconst 0, 1) := by decide +kernel
theorem dX2_init_6 : decode cX2_init 6 = .ok (.putfield 9, 3) := by decide +kernel
theorem dX2_init_9 : decode cX2_init 9 = .ok (.aload_n 0, 1) := by decide +kernel
theorem dX2_init_10 : decode cX2_init 10 = .ok (.iconst 0, 1) := by decide +kernel
theorem dX2_init_11 : decode cX2_init 11 = .ok (.putfield 15, 3) := by decide +kernel
theorem dX2_init_14 : decode cX2_init 14 = .ok (.aload_n 0, 1) := by decide +kernel
theorem dX2_init_15 : decode cX2_init 15 = .ok (.bipush 40, 2) := by decide +kernel
theorem dX2_init_17 : decode cX2_init 17 = .ok (.newarray .long, 2) := by decide +kernel
theorem dX2_init_19 : decode cX2_init 19 = .ok (.putfield 18, 3) := by decide +kernel
theorem dX2_init_22 : decode cX2_init 22 = .ok (.return_, 1) := by decide +kernel
theorem dX2_isMissing_0 : decode cX2_isMissing 0 = .ok (.aload_n 0, 1) := by decide +kernel
theorem dX2_isMissing_1 : decode cX2_isMissing 1 = .ok (.getfield 9, 3) := by decide +kernel
theorem dX2_isMissing_4 : decode cX2_isMissing 4 = .ok (.ifCond .ne 7, 3) := by decide +kernel
theorem dX2_isMissing_7 : decode cX2_isMissing 7 = .ok (.iconst 1, 1) := by decide +kernel
theorem dX2_isMissing_8 : decode cX2_isMissing 8 = .ok (.goto 4, 3) := by decide +kernel
theorem dX2_isMissing_11 : decode cX2_isMissing 11 = .ok (.iconst 0, 1) := by decide +kernel
theorem dX2_isMissing_12 : decode cX2_isMissing 12 = .ok (.ireturn, 1) := by decide +kernel
theorem dX2_begin_0 : decode cX2_begin 0 = .ok (.aload_n 0, 1) := by decide +kernel
theorem dX2_begin_1 : decode cX2_begin 1 = .ok (.iload_n 1, 1) := by decide +kernel
theorem dX2_begin_2 : decode cX2_begin 2 = .ok (.putfield 9, 3) := by decide +kernel
theorem dX2_begin_5 : decode cX2_begin 5 = .ok (.aload_n 0, 1) := by decide +kernel
theorem dX2_begin_6 : decode cX2_begin 6 = .ok (.aload_n 0, 1) := by decide +kernel
theorem dX2_begin_7 : decode cX2_begin 7 = .ok (.invokevirtual 22, 3) := by decide +kernel
theorem dX2_begin_10 : decode cX2_begin 10 = .ok (.ifCond .eq 7, 3) := by decide +kernel
theorem dX2_begin_13 : decode cX2_begin 13 = .ok (.iconst 0, 1) := by decide +kernel
theorem dX2_begin_14 : decode cX2_begin 14 = .ok (.goto 4, 3) := by decide +kernel
theorem dX2_begin_17 : decode cX2_begin 17 = .ok (.iload_n 2, 1) := by decide +kernel
theorem dX2_begin_18 : decode cX2_begin 18 = .ok (.putfield 15, 3) := by decide +kernel
theorem dX2_begin_21 : decode cX2_begin 21 = .ok (.iconst 0, 1) := by decide +kernel
theorem dX2_begin_22 : decode cX2_begin 22 = .ok (.istore_n 3, 1) := by decide +kernel
theorem dX2_begin_23 : decode cX2_begin 23 = .ok (.iload_n 3, 1) := by decide +kernel
theorem dX2_begin_24 : decode cX2_begin 24 = .ok (.bipush 40, 2) := by decide +kernel
theorem dX2_begin_26 : decode cX2_begin 26 = .ok (.if_icmp .ge 16, 3) := by decide +kernel
theorem dX2_begin_29 : decode cX2_begin 29 = .ok (.aload_n 0, 1) := by decide +kernel
theorem dX2_begin_30 : decode cX2_begin 30 = .ok (.getfield 18, 3) := by decide +kernel
theorem dX2_begin_33 : decode cX2_begin 33 = .ok (.iload_n 3, 1) := by decide +kernel
theorem dX2_begin_34 : decode cX2_begin 34 = .ok (.lconst 0, 1) := by decide +kernel
theorem dX2_begin_35 : decode cX2_begin 35 = .ok (.lastore, 1) := by decide +kernel
theorem dX2_begin_36 : decode cX2_begin 36 = .ok (.iinc 3 1, 3) := by decide +kernel
theorem dX2_begin_39 : decode cX2_begin 39 = .ok (.goto (-16), 3) := by decide +kernel
theorem dX2_begin_42 : decode cX2_begin 42 = .ok (.return_, 1) := by decide +kernel
theorem dX2_put_0 : decode cX2_put 0 = .ok (.aload_n 0, 1) := by decide +kernel
theorem dX2_put_1 : decode cX2_put 1 = .ok (.getfield 9, 3) := by decide +kernel
theorem dX2_put_4 : decode cX2_put 4 = .ok (.lookupswitch 54 #[(8, 28), (16, 41)], 28) := by decide +kernel
theorem dX2_put_32 : decode cX2_put 32 = .ok (.aload_n 0, 1) := by decide +kernel
theorem dX2_put_33 : decode cX2_put 33 = .ok (.getfield 18, 3) := by decide +kernel
theorem dX2_put_36 : decode cX2_put 36 = .ok (.iload_n 1, 1) := by decide +kernel
theorem dX2_put_37 : decode cX2_put 37 = .ok (.lload_n 2, 1) := by decide +kernel
theorem dX2_put_38 : decode cX2_put 38 = .ok (.l2i, 1) := by decide +kernel
theorem dX2_put_39 : decode cX2_put 39 = .ok (.i2b, 1) := by decide +kernel
theorem dX2_put_40 : decode cX2_put 40 = .ok (.i2l, 1) := by decide +kernel
theorem dX2_put_41 : decode cX2_put 41 = .ok (.lastore, 1) := by decide +kernel
theorem dX2_put_42 : decode cX2_put 42 = .ok (.goto 23, 3) := by decide +kernel
theorem dX2_put_45 : decode cX2_put 45 = .ok (.aload_n 0, 1) := by decide +kernel
theorem dX2_put_46 : decode cX2_put 46 = .ok (.getfield 18, 3) := by decide +kernel
theorem dX2_put_49 : decode cX2_put 49 = .ok (.iload_n 1, 1) := by decide +kernel
theorem dX2_put_50 : decode cX2_put 50 = .ok (.lload_n 2, 1) := by decide +kernel
theorem dX2_put_51 : decode cX2_put 51 = .ok (.l2i, 1) := by decide +kernel
theorem dX2_put_52 : decode cX2_put 52 = .ok (.i2s, 1) := by decide +kernel
theorem dX2_put_53 : decode cX2_put 53 = .ok (.i2l, 1) := by decide +kernel
theorem dX2_put_54 : decode cX2_put 54 = .ok (.lastore, 1) := by decide +kernel
theorem dX2_put_55 : decode cX2_put 55 = .ok (.goto 10, 3) := by decide +kernel
theorem dX2_put_58 : decode cX2_put 58 = .ok (.aload_n 0, 1) := by decide +kernel
theorem dX2_put_59 : decode cX2_put 59 = .ok (.getfield 18, 3) := by decide +kernel
theorem dX2_put_62 : decode cX2_put 62 = .ok (.iload_n 1, 1) := by decide +kernel
theorem dX2_put_63 : decode cX2_put 63 = .ok (.lload_n 2, 1) := by decide +kernel
theorem dX2_put_64 : decode cX2_put 64 = .ok (.lastore, 1) := by decide +kernel
theorem dX2_put_65 : decode cX2_put 65 = .ok (.return_, 1) := by decide +kernel
theorem dX2_hasFrom_0 : decode cX2_hasFrom 0 = .ok (.iload_n 1, 1) := by decide +kernel
theorem dX2_hasFrom_1 : decode cX2_hasFrom 1 = .ok (.ifCond .lt 29, 3) := by decide +kernel
theorem dX2_hasFrom_4 : decode cX2_hasFrom 4 = .ok (.iload_n 2, 1) := by decide +kernel
theorem dX2_hasFrom_5 : decode cX2_hasFrom 5 = .ok (.ifCond .lt 25, 3) := by decide +kernel
theorem dX2_hasFrom_8 : decode cX2_hasFrom 8 = .ok (.iload_n 2, 1) := by decide +kernel
theorem dX2_hasFrom_9 : decode cX2_hasFrom 9 = .ok (.aload_n 0, 1) := by decide +kernel
theorem dX2_hasFrom_10 : decode cX2_hasFrom 10 = .ok (.getfield 15, 3) := by decide +kernel
theorem dX2_hasFrom_13 : decode cX2_hasFrom 13 = .ok (.if_icmp .gt 17, 3) := by decide +kernel
theorem dX2_hasFrom_16 : decode cX2_hasFrom 16 = .ok (.iload_n 1, 1) := by decide +kernel
theorem dX2_hasFrom_17 : decode cX2_hasFrom 17 = .ok (.aload_n 0, 1) := by decide +kernel
theorem dX2_hasFrom_18 : decode cX2_hasFrom 18 = .ok (.getfield 15, 3) := by decide +kernel
theorem dX2_hasFrom_21 : decode cX2_hasFrom 21 = .ok (.iload_n 2, 1) := by decide +kernel
theorem dX2_hasFrom_22 : decode cX2_hasFrom 22 = .ok (.isub, 1) := by decide +kernel
theorem dX2_hasFrom_23 : decode cX2_hasFrom 23 = .ok (.if_icmp .gt 7, 3) := by decide +kernel
theorem dX2_hasFrom_26 : decode cX2_hasFrom 26 = .ok (.iconst 1, 1) := by decide +kernel
theorem dX2_hasFrom_27 : decode cX2_hasFrom 27 = .ok (.goto 4, 3) := by decide +kernel
theorem dX2_hasFrom_30 : decode cX2_hasFrom 30 = .ok (.iconst 0, 1) := by decide +kernel
theorem dX2_hasFrom_31 : decode cX2_hasFrom 31 = .ok (.ireturn, 1) := by decide +kernel
theorem dX2_isWithin_0 : decode cX2_isWithin 0 = .ok (.iconst 0, 1) := by decide +kernel
theorem dX2_isWithin_1 : decode cX2_isWithin 1 = .ok (.istore_n 2, 1) := by decide +kernel
theorem dX2_isWithin_2 : decode cX2_isWithin 2 = .ok (.iload_n 2, 1) := by decide +kernel
theorem dX2_isWithin_3 : decode cX2_isWithin 3 = .ok (.aload_n 0, 1) := by decide +kernel
theorem dX2_isWithin_4 : decode cX2_isWithin 4 = .ok (.getfield 15, 3) := by decide +kernel
theorem dX2_isWithin_7 : decode cX2_isWithin 7 = .ok (.if_icmp .ge 36, 3) := by decide +kernel
theorem dX2_isWithin_10 : decode cX2_isWithin 10 = .ok (.aload_n 0, 1) := by decide +kernel
theorem dX2_isWithin_11 : decode cX2_isWithin 11 = .ok (.getfield 18, 3) := by decide +kernel
theorem dX2_isWithin_14 : decode cX2_isWithin 14 = .ok (.iload_n 2, 1) := by decide +kernel
theorem dX2_isWithin_15 : decode cX2_isWithin 15 = .ok (.laload, 1) := by decide +kernel
theorem dX2_isWithin_16 : decode cX2_isWithin 16 = .ok (.iload_n 1, 1) := by decide +kernel
theorem dX2_isWithin_17 : decode cX2_isWithin 17 = .ok (.ineg, 1) := by decide +kernel
theorem dX2_isWithin_18 : decode cX2_isWithin 18 = .ok (.i2l, 1) := by decide +kernel
theorem dX2_isWithin_19 : decode cX2_isWithin 19 = .ok (.lcmp, 1) := by decide +kernel
theorem dX2_isWithin_20 : decode cX2_isWithin 20 = .ok (.ifCond .lt 15, 3) := by decide +kernel
theorem dX2_isWithin_23 : decode cX2_isWithin 23 = .ok (.aload_n 0, 1) := by decide +kernel
theorem dX2_isWithin_24 : decode cX2_isWithin 24 = .ok (.getfield 18, 3) := by decide +kernel
theorem dX2_isWithin_27 : decode cX2_isWithin 27 = .ok (.iload_n 2, 1) := by decide +kernel
theorem dX2_isWithin_28 : decode cX2_isWithin 28 = .ok (.laload, 1) := by decide +kernel
theorem dX2_isWithin_29 : decode cX2_isWithin 29 = .ok (.iload_n 1, 1) := by decide +kernel
theorem dX2_isWithin_30 : decode cX2_isWithin 30 = .ok (.i2l, 1) := by decide +kernel
theorem dX2_isWithin_31 : decode cX2_isWithin 31 = .ok (.lcmp, 1) := by decide +kernel
theorem dX2_isWithin_32 : decode cX2_isWithin 32 = .ok (.ifCond .le 5, 3) := by decide +kernel
theorem dX2_isWithin_35 : decode cX2_isWithin 35 = .ok (.iconst 0, 1) := by decide +kernel
theorem dX2_isWithin_36 : decode cX2_isWithin 36 = .ok (.ireturn, 1) := by decide +kernel
theorem dX2_isWithin_37 : decode cX2_isWithin 37 = .ok (.iinc 2 1, 3) := by decide +kernel
theorem dX2_isWithin_40 : decode cX2_isWithin 40 = .ok (.goto (-38), 3) := by decide +kernel
theorem dX2_isWithin_43 : decode cX2_isWithin 43 = .ok (.iconst 1, 1) := by decide +kernel
theorem dX2_isWithin_44 : decode cX2_isWithin 44 = .ok (.ireturn, 1) := by decide +kernel
theorem dX3_init_0 : decode cX3_init 0 = .ok (.aload_n 0, 1) := by decide +kernel
theorem dX3_init_1 : decode cX3_init 1 = .ok (.invokespecial 3, 3) := by decide +kernel
theorem dX3_init_4 : decode cX3_init 4 = .ok (.aload_n 0, 1) := by decide +kernel
theorem dX3_init_5 : decode cX3_init 5 = .ok (.bipush 12, 2) := by decide +kernel
theorem dX3_init_7 : decode cX3_init 7 = .ok (.newarray .int, 2) := by decide +kernel
theorem dX3_init_9 : decode cX3_init 9 = .ok (.putfield 9, 3) := by decide +kernel
theorem dX3_init_12 : decode cX3_init 12 = .ok (.aload_n 0, 1) := by decide +kernel
theorem dX3_init_13 : decode cX3_init 13 = .ok (.sipush 492, 3) := by decide +kernel
theorem dX3_init_16 : decode cX3_init 16 = .ok (.newarray .int, 2) := by decide +kernel
theorem dX3_init_18 : decode cX3_init 18 = .ok (.putfield 15, 3) := by decide +kernel
theorem dX3_init_21 : decode cX3_init 21 = .ok (.aload_n 0, 1) := by decide +kernel
theorem dX3_init_22 : decode cX3_init 22 = .ok (.bipush 41, 2) := by decide +kernel
theorem dX3_init_24 : decode cX3_init 24 = .ok (.newarray .int, 2) := by decide +kernel
theorem dX3_init_26 : decode cX3_init 26 = .ok (.putfield 18, 3) := by decide +kernel
theorem dX3_init_29 : decode cX3_init 29 = .ok (.aload_n 0, 1) := by decide +kernel
theorem dX3_init_30 : decode cX3_init 30 = .ok (.bipush 41, 2) := by decide +kernel
theorem dX3_init_32 : decode cX3_init 32 = .ok (.newarray .int, 2) := by decide +kernel
theorem dX3_init_34 : decode cX3_init 34 = .ok (.putfield 21, 3) := by decide +kernel
theorem dX3_init_37 : decode cX3_init 37 = .ok (.aload_n 0, 1) := by decide +kernel
theorem dX3_init_38 : decode cX3_init 38 = .ok (.bipush 12, 2) := by decide +kernel
theorem dX3_init_40 : decode cX3_init 40 = .ok (.newarray .int, 2) := by decide +kernel
theorem dX3_init_42 : decode cX3_init 42 = .ok (.putfield 24, 3) := by decide +kernel
theorem dX3_init_45 : decode cX3_init 45 = .ok (.aload_n 0, 1) := by decide +kernel
theorem dX3_init_46 : decode cX3_init 46 = .ok (.iconst 0, 1) := by decide +kernel
theorem dX3_init_47 : decode cX3_init 47 = .ok (.putfield 27, 3) := by decide +kernel
theorem dX3_init_50 : decode cX3_init 50 = .ok (.aload_n 0, 1) := by decide +kernel
theorem dX3_init_51 : decode cX3_init 51 = .ok (.iconst 0, 1) := by decide +kernel
theorem dX3_init_52 : decode cX3_init 52 = .ok (.putfield 31, 3) := by decide +kernel
theorem dX3_init_55 : decode cX3_init 55 = .ok (.aload_n 0, 1) := by decide +kernel
theorem dX3_init_56 : decode cX3_init 56 = .ok (.iconst 0, 1) := by decide +kernel
theorem dX3_init_57 : decode cX3_init 57 = .ok (.putfield 34, 3) := by decide +kernel
theorem dX3_init_60 : decode cX3_init 60 = .ok (.aload_n 0, 1) := by decide +kernel
theorem dX3_init_61 : decode cX3_init 61 = .ok (.iconst 0, 1) := by decide +kernel
theorem dX3_init_62 : decode cX3_init 62 = .ok (.putfield 37, 3) := by decide +kernel
theorem dX3_init_65 : decode cX3_init 65 = .ok (.aload_n 0, 1) := by decide +kernel
theorem dX3_init_66 : decode cX3_init 66 = .ok (.iconst 0, 1) := by decide +kernel
theorem dX3_init_67 : decode cX3_init 67 = .ok (.putfield 40, 3) := by decide +kernel
theorem dX3_init_70 : decode cX3_init 70 = .ok (.aload_n 0, 1) := by decide +kernel
theorem dX3_init_71 : decode cX3_init 71 = .ok (.iconst 0, 1) := by decide +kernel
theorem dX3_init_72 : decode cX3_init 72 = .ok (.putfield 43, 3) := by decide +kernel
theorem dX3_init_75 : decode cX3_init 75 = .ok (.return_, 1) := by decide +kernel
theorem dX3_load_0 : decode cX3_load 0 = .ok (.aload_n 0, 1) := by decide +kernel
theorem dX3_load_1 : decode cX3_load 1 = .ok (.aload_n 1, 1) := by decide +kernel
theorem dX3_load_2 : decode cX3_load 2 = .ok (.getfield 46, 3) := by decide +kernel
theorem dX3_load_5 : decode cX3_load 5 = .ok (.bipush 12, 2) := by decide +kernel
theorem dX3_load_7 : decode cX3_load 7 = .ok (.invokestatic 49, 3) := by decide +kernel
theorem dX3_load_10 : decode cX3_load 10 = .ok (.putfield 27, 3) := by decide +kernel
theorem dX3_load_13 : decode cX3_load 13 = .ok (.aload_n 0, 1) := by decide +kernel
theorem dX3_load_14 : decode cX3_load 14 = .ok (.iload_n 2, 1) := by decide +kernel
theorem dX3_load_15 : decode cX3_load 15 = .ok (.putfield 31, 3) := by decide +kernel
theorem dX3_load_18 : decode cX3_load 18 = .ok (.aload_n 0, 1) := by decide +kernel
theorem dX3_load_19 : decode cX3_load 19 = .ok (.iload_n 3, 1) := by decide +kernel
theorem dX3_load_20 : decode cX3_load 20 = .ok (.bipush 20, 2) := by decide +kernel
theorem dX3_load_22 : decode cX3_load 22 = .ok (.invokestatic 49, 3) := by decide +kernel
theorem dX3_load_25 : decode cX3_load 25 = .ok (.putfield 34, 3) := by decide +kernel
theorem dX3_load_28 : decode cX3_load 28 = .ok (.iconst 0, 1) := by decide +kernel
theorem dX3_load_29 : decode cX3_load 29 = .ok (.istore 4, 2) := by decide +kernel
theorem dX3_load_31 : decode cX3_load 31 = .ok (.iload 4, 2) := by decide +kernel
theorem dX3_load_33 : decode cX3_load 33 = .ok (.aload_n 0, 1) := by decide +kernel
theorem dX3_load_34 : decode cX3_load 34 = .ok (.getfield 27, 3) := by decide +kernel
theorem dX3_load_37 : decode cX3_load 37 = .ok (.if_icmp .ge 24, 3) := by decide +kernel
theorem dX3_load_40 : decode cX3_load 40 = .ok (.aload_n 0, 1) := by decide +kernel
theorem dX3_load_41 : decode cX3_load 41 = .ok (.getfield 9, 3) := by decide +kernel
theorem dX3_load_44 : decode cX3_load 44 = .ok (.iload 4, 2) := by decide +kernel
theorem dX3_load_46 : decode cX3_load 46 = .ok (.aload_n 1, 1) := by decide +kernel
theorem dX3_load_47 : decode cX3_load 47 = .ok (.getfield 55, 3) := by decide +kernel
theorem dX3_load_50 : decode cX3_load 50 = .ok (.iload 4, 2) := by decide +kernel
theorem dX3_load_52 : decode cX3_load 52 = .ok (.laload, 1) := by decide +kernel
theorem dX3_load_53 : decode cX3_load 53 = .ok (.l2i, 1) := by decide +kernel
theorem dX3_load_54 : decode cX3_load 54 = .ok (.iastore, 1) := by decide +kernel
theorem dX3_load_55 : decode cX3_load 55 = .ok (.iinc 4 1, 3) := by decide +kernel
theorem dX3_load_58 : decode cX3_load 58 = .ok (.goto (-27), 3) := by decide +kernel
theorem dX3_load_61 : decode cX3_load 61 = .ok (.aload_n 0, 1) := by decide +kernel
theorem dX3_load_62 : decode cX3_load 62 = .ok (.getfield 27, 3) := by decide +kernel
theorem dX3_load_65 : decode cX3_load 65 = .ok (.iconst 1, 1) := by decide +kernel
theorem dX3_load_66 : decode cX3_load 66 = .ok (.isub, 1) := by decide +kernel
theorem dX3_load_67 : decode cX3_load 67 = .ok (.istore 4, 2) := by decide +kernel
theorem dX3_load_69 : decode cX3_load 69 = .ok (.iload 4, 2) := by decide +kernel
theorem dX3_load_71 : decode cX3_load 71 = .ok (.ifCond .lt 21, 3) := by decide +kernel
theorem dX3_load_74 : decode cX3_load 74 = .ok (.aload_n 0, 1) := by decide +kernel
theorem dX3_load_75 : decode cX3_load 75 = .ok (.iload 4, 2) := by decide +kernel
theorem dX3_load_77 : decode cX3_load 77 = .ok (.invokevirtual 59, 3) := by decide +kernel
theorem dX3_load_80 : decode cX3_load 80 = .ok (.aload_n 0, 1) := by decide +kernel
theorem dX3_load_81 : decode cX3_load 81 = .ok (.iload 4, 2) := by decide +kernel
theorem dX3_load_83 : decode cX3_load 83 = .ok (.invokevirtual 63, 3) := by decide +kernel
theorem dX3_load_86 : decode cX3_load 86 = .ok (.iinc 4 (-1), 3) := by decide +kernel
theorem dX3_load_89 : decode cX3_load 89 = .ok (.goto (-20), 3) := by decide +kernel
theorem dX3_load_92 : decode cX3_load 92 = .ok (.aload_n 0, 1) := by decide +kernel
theorem dX3_load_93 : decode cX3_load 93 = .ok (.aload_n 0, 1) := by decide +kernel
theorem dX3_load_94 : decode cX3_load 94 = .ok (.getfield 21, 3) := by decide +kernel
theorem dX3_load_97 : decode cX3_load 97 = .ok (.iconst 0, 1) := by decide +kernel
theorem dX3_load_98 : decode cX3_load 98 = .ok (.iaload, 1) := by decide +kernel
theorem dX3_load_99 : decode cX3_load 99 = .ok (.putfield 37, 3) := by decide +kernel
theorem dX3_load_102 : decode cX3_load 102 = .ok (.aload_n 0, 1) := by decide +kernel
theorem dX3_load_103 : decode cX3_load 103 = .ok (.invokevirtual 66, 3) := by decide +kernel
theorem dX3_load_106 : decode cX3_load 106 = .ok (.ifCond .eq 7, 3) := by decide +kernel
theorem dX3_load_109 : decode cX3_load 109 = .ok (.aload_n 0, 1) := by decide +kernel
theorem dX3_load_110 : decode cX3_load 110 = .ok (.invokevirtual 70, 3) := by decide +kernel
theorem dX3_load_113 : decode cX3_load 113 = .ok (.return_, 1) := by decide +kernel
theorem dX3_canBe_0 : decode cX3_canBe 0 = .ok (.aload_n 0, 1) := by decide +kernel
theorem dX3_canBe_1 : decode cX3_canBe 1 = .ok (.getfield 37, 3) := by decide +kernel
theorem dX3_canBe_4 : decode cX3_canBe 4 = .ok (.ldc 73, 2) := by decide +kernel
theorem dX3_canBe_6 : decode cX3_canBe 6 = .ok (.if_icmp .ge 7, 3) := by decide +kernel
theorem dX3_canBe_9 : decode cX3_canBe 9 = .ok (.iconst 1, 1) := by decide +kernel
theorem dX3_canBe_10 : decode cX3_canBe 10 = .ok (.goto 4, 3) := by decide +kernel
theorem dX3_canBe_13 : decode cX3_canBe 13 = .ok (.iconst 0, 1) := by decide +kernel
theorem dX3_canBe_14 : decode cX3_canBe 14 = .ok (.ireturn, 1) := by decide +kernel
theorem dX3_weigh_0 : decode cX3_weigh 0 = .ok (.aload_n 0, 1) := by decide +kernel
theorem dX3_weigh_1 : decode cX3_weigh 1 = .ok (.getfield 34, 3) := by decide +kernel
theorem dX3_weigh_4 : decode cX3_weigh 4 = .ok (.ineg, 1) := by decide +kernel
theorem dX3_weigh_5 : decode cX3_weigh 5 = .ok (.istore_n 2, 1) := by decide +kernel
theorem dX3_weigh_6 : decode cX3_weigh 6 = .ok (.iload_n 2, 1) := by decide +kernel
theorem dX3_weigh_7 : decode cX3_weigh 7 = .ok (.aload_n 0, 1) := by decide +kernel
theorem dX3_weigh_8 : decode cX3_weigh 8 = .ok (.getfield 34, 3) := by decide +kernel
theorem dX3_weigh_11 : decode cX3_weigh 11 = .ok (.if_icmp .gt 61, 3) := by decide +kernel
theorem dX3_weigh_14 : decode cX3_weigh 14 = .ok (.iload_n 1, 1) := by decide +kernel
theorem dX3_weigh_15 : decode cX3_weigh 15 = .ok (.aload_n 0, 1) := by decide +kernel
theorem dX3_weigh_16 : decode cX3_weigh 16 = .ok (.getfield 27, 3) := by decide +kernel
theorem dX3_weigh_19 : decode cX3_weigh 19 = .ok (.iconst 1, 1) := by decide +kernel
theorem dX3_weigh_20 : decode cX3_weigh 20 = .ok (.isub, 1) := by decide +kernel
theorem dX3_weigh_21 : decode cX3_weigh 21 = .ok (.if_icmp .ne 7, 3) := by decide +kernel
theorem dX3_weigh_24 : decode cX3_weigh 24 = .ok (.iconst 0, 1) := by decide +kernel
theorem dX3_weigh_25 : decode cX3_weigh 25 = .ok (.goto 9, 3) := by decide +kernel
theorem dX3_weigh_28 : decode cX3_weigh 28 = .ok (.aload_n 0, 1) := by decide +kernel
theorem dX3_weigh_29 : decode cX3_weigh 29 = .ok (.iload_n 1, 1) := by decide +kernel
theorem dX3_weigh_30 : decode cX3_weigh 30 = .ok (.iload_n 2, 1) := by decide +kernel
theorem dX3_weigh_31 : decode cX3_weigh 31 = .ok (.invokevirtual 74, 3) := by decide +kernel
theorem dX3_weigh_34 : decode cX3_weigh 34 = .ok (.istore_n 3, 1) := by decide +kernel
theorem dX3_weigh_35 : decode cX3_weigh 35 = .ok (.iload_n 3, 1) := by decide +kernel
theorem dX3_weigh_36 : decode cX3_weigh 36 = .ok (.iload_n 2, 1) := by decide +kernel
theorem dX3_weigh_37 : decode cX3_weigh 37 = .ok (.invokestatic 77, 3) := by decide +kernel
theorem dX3_weigh_40 : decode cX3_weigh 40 = .ok (.iadd, 1) := by decide +kernel
theorem dX3_weigh_41 : decode cX3_weigh 41 = .ok (.istore 4, 2) := by decide +kernel
theorem dX3_weigh_43 : decode cX3_weigh 43 = .ok (.aload_n 0, 1) := by decide +kernel
theorem dX3_weigh_44 : decode cX3_weigh 44 = .ok (.getfield 15, 3) := by decide +kernel
theorem dX3_weigh_47 : decode cX3_weigh 47 = .ok (.iload_n 1, 1) := by decide +kernel
theorem dX3_weigh_48 : decode cX3_weigh 48 = .ok (.bipush 41, 2) := by decide +kernel
theorem dX3_weigh_50 : decode cX3_weigh 50 = .ok (.imul, 1) := by decide +kernel
theorem dX3_weigh_51 : decode cX3_weigh 51 = .ok (.aload_n 0, 1) := by decide +kernel
theorem dX3_weigh_52 : decode cX3_weigh 52 = .ok (.getfield 34, 3) := by decide +kernel
theorem dX3_weigh_55 : decode cX3_weigh 55 = .ok (.iadd, 1) := by decide +kernel
theorem dX3_weigh_56 : decode cX3_weigh 56 = .ok (.iload_n 2, 1) := by decide +kernel
theorem dX3_weigh_57 : decode cX3_weigh 57 = .ok (.iadd, 1) := by decide +kernel
theorem dX3_weigh_58 : decode cX3_weigh 58 = .ok (.iload 4, 2) := by decide +kernel
theorem dX3_weigh_60 : decode cX3_weigh 60 = .ok (.ldc 73, 2) := by decide +kernel
theorem dX3_weigh_62 : decode cX3_weigh 62 = .ok (.invokestatic 49, 3) := by decide +kernel
theorem dX3_weigh_65 : decode cX3_weigh 65 = .ok (.iastore, 1) := by decide +kernel
theorem dX3_weigh_66 : decode cX3_weigh 66 = .ok (.iinc 2 1, 3) := by decide +kernel
theorem dX3_weigh_69 : decode cX3_weigh 69 = .ok (.goto (-63), 3) := by decide +kernel
theorem dX3_weigh_72 : decode cX3_weigh 72 = .ok (.return_, 1) := by decide +kernel
theorem dX3_costOf_0 : decode cX3_costOf 0 = .ok (.iload_n 0, 1) := by decide +kernel
theorem dX3_costOf_1 : decode cX3_costOf 1 = .ok (.ifCond .ne 7, 3) := by decide +kernel
theorem dX3_costOf_4 : decode cX3_costOf 4 = .ok (.iconst 0, 1) := by decide +kernel
theorem dX3_costOf_5 : decode cX3_costOf 5 = .ok (.goto 11, 3) := by decide +kernel
theorem dX3_costOf_8 : decode cX3_costOf 8 = .ok (.sipush 1000, 3) := by decide +kernel
theorem dX3_costOf_11 : decode cX3_costOf 11 = .ok (.iload_n 0, 1) := by decide +kernel
theorem dX3_costOf_12 : decode cX3_costOf 12 = .ok (.invokestatic 81, 3) := by decide +kernel
theorem dX3_costOf_15 : decode cX3_costOf 15 = .ok (.iadd, 1) := by decide +kernel
theorem dX3_costOf_16 : decode cX3_costOf 16 = .ok (.ireturn, 1) := by decide +kernel
theorem dX3_costBehind_0 : decode cX3_costBehind 0 = .ok (.aload_n 0, 1) := by decide +kernel
theorem dX3_costBehind_1 : decode cX3_costBehind 1 = .ok (.getfield 9, 3) := by decide +kernel
theorem dX3_costBehind_4 : decode cX3_costBehind 4 = .ok (.iload_n 1, 1) := by decide +kernel
theorem dX3_costBehind_5 : decode cX3_costBehind 5 = .ok (.iaload, 1) := by decide +kernel
theorem dX3_costBehind_6 : decode cX3_costBehind 6 = .ok (.iload_n 2, 1) := by decide +kernel
theorem dX3_costBehind_7 : decode cX3_costBehind 7 = .ok (.iadd, 1) := by decide +kernel
theorem dX3_costBehind_8 : decode cX3_costBehind 8 = .ok (.aload_n 0, 1) := by decide +kernel
theorem dX3_costBehind_9 : decode cX3_costBehind 9 = .ok (.getfield 9, 3) := by decide +kernel
theorem dX3_costBehind_12 : decode cX3_costBehind 12 = .ok (.iload_n 1, 1) := by decide +kernel
theorem dX3_costBehind_13 : decode cX3_costBehind 13 = .ok (.iconst 1, 1) := by decide +kernel
theorem dX3_costBehind_14 : decode cX3_costBehind 14 = .ok (.iadd, 1) := by decide +kernel
theorem dX3_costBehind_15 : decode cX3_costBehind 15 = .ok (.iaload, 1) := by decide +kernel
theorem dX3_costBehind_16 : decode cX3_costBehind 16 = .ok (.isub, 1) := by decide +kernel
theorem dX3_costBehind_17 : decode cX3_costBehind 17 = .ok (.aload_n 0, 1) := by decide +kernel
theorem dX3_costBehind_18 : decode cX3_costBehind 18 = .ok (.getfield 34, 3) := by decide +kernel
theorem dX3_costBehind_21 : decode cX3_costBehind 21 = .ok (.iadd, 1) := by decide +kernel
theorem dX3_costBehind_22 : decode cX3_costBehind 22 = .ok (.istore_n 3, 1) := by decide +kernel
theorem dX3_costBehind_23 : decode cX3_costBehind 23 = .ok (.iload_n 3, 1) := by decide +kernel
theorem dX3_costBehind_24 : decode cX3_costBehind 24 = .ok (.aload_n 0, 1) := by decide +kernel
theorem dX3_costBehind_25 : decode cX3_costBehind 25 = .ok (.getfield 31, 3) := by decide +kernel
theorem dX3_costBehind_28 : decode cX3_costBehind 28 = .ok (.isub, 1) := by decide +kernel
theorem dX3_costBehind_29 : decode cX3_costBehind 29 = .ok (.iconst 2, 1) := by decide +kernel
theorem dX3_costBehind_30 : decode cX3_costBehind 30 = .ok (.aload_n 0, 1) := by decide +kernel
theorem dX3_costBehind_31 : decode cX3_costBehind 31 = .ok (.getfield 34, 3) := by decide +kernel
theorem dX3_costBehind_34 : decode cX3_costBehind 34 = .ok (.imul, 1) := by decide +kernel
theorem dX3_costBehind_35 : decode cX3_costBehind 35 = .ok (.invokestatic 49, 3) := by decide +kernel
theorem dX3_costBehind_38 : decode cX3_costBehind 38 = .ok (.istore 4, 2) := by decide +kernel
theorem dX3_costBehind_40 : decode cX3_costBehind 40 = .ok (.iload_n 3, 1) := by decide +kernel
theorem dX3_costBehind_41 : decode cX3_costBehind 41 = .ok (.aload_n 0, 1) := by decide +kernel
theorem dX3_costBehind_42 : decode cX3_costBehind 42 = .ok (.getfield 31, 3) := by decide +kernel
theorem dX3_costBehind_45 : decode cX3_costBehind 45 = .ok (.iadd, 1) := by decide +kernel
theorem dX3_costBehind_46 : decode cX3_costBehind 46 = .ok (.iconst 0, 1) := by decide +kernel
theorem dX3_costBehind_47 : decode cX3_costBehind 47 = .ok (.invokestatic 84, 3) := by decide +kernel
theorem dX3_costBehind_50 : decode cX3_costBehind 50 = .ok (.istore 5, 2) := by decide +kernel
theorem dX3_costBehind_52 : decode cX3_costBehind 52 = .ok (.iload 4, 2) := by decide +kernel
theorem dX3_costBehind_54 : decode cX3_costBehind 54 = .ok (.ifCond .ge 8, 3) := by decide +kernel
theorem dX3_costBehind_57 : decode cX3_costBehind 57 = .ok (.ldc 73, 2) := by decide +kernel
theorem dX3_costBehind_59 : decode cX3_costBehind 59 = .ok (.goto 10, 3) := by decide +kernel
theorem dX3_costBehind_62 : decode cX3_costBehind 62 = .ok (.aload_n 0, 1) := by decide +kernel
theorem dX3_costBehind_63 : decode cX3_costBehind 63 = .ok (.getfield 18, 3) := by decide +kernel
theorem dX3_costBehind_66 : decode cX3_costBehind 66 = .ok (.iload 4, 2) := by decide +kernel
theorem dX3_costBehind_68 : decode cX3_costBehind 68 = .ok (.iaload, 1) := by decide +kernel
theorem dX3_costBehind_69 : decode cX3_costBehind 69 = .ok (.istore 6, 2) := by decide +kernel
theorem dX3_costBehind_71 : decode cX3_costBehind 71 = .ok (.iload 5, 2) := by decide +kernel
theorem dX3_costBehind_73 : decode cX3_costBehind 73 = .ok (.iconst 2, 1) := by decide +kernel
theorem dX3_costBehind_74 : decode cX3_costBehind 74 = .ok (.aload_n 0, 1) := by decide +kernel
theorem dX3_costBehind_75 : decode cX3_costBehind 75 = .ok (.getfield 34, 3) := by decide +kernel
theorem dX3_costBehind_78 : decode cX3_costBehind 78 = .ok (.imul, 1) := by decide +kernel
theorem dX3_costBehind_79 : decode cX3_costBehind 79 = .ok (.if_icmp .le 8, 3) := by decide +kernel
theorem dX3_costBehind_82 : decode cX3_costBehind 82 = .ok (.ldc 73, 2) := by decide +kernel
theorem dX3_costBehind_84 : decode cX3_costBehind 84 = .ok (.goto 10, 3) := by decide +kernel
theorem dX3_costBehind_87 : decode cX3_costBehind 87 = .ok (.aload_n 0, 1) := by decide +kernel
theorem dX3_costBehind_88 : decode cX3_costBehind 88 = .ok (.getfield 21, 3) := by decide +kernel
theorem dX3_costBehind_91 : decode cX3_costBehind 91 = .ok (.iload 5, 2) := by decide +kernel
theorem dX3_costBehind_93 : decode cX3_costBehind 93 = .ok (.iaload, 1) := by decide +kernel
theorem dX3_costBehind_94 : decode cX3_costBehind 94 = .ok (.istore 7, 2) := by decide +kernel
theorem dX3_costBehind_96 : decode cX3_costBehind 96 = .ok (.iload 6, 2) := by decide +kernel
theorem dX3_costBehind_98 : decode cX3_costBehind 98 = .ok (.iload 7, 2) := by decide +kernel
theorem dX3_costBehind_100 : decode cX3_costBehind 100 = .ok (.invokestatic 49, 3) := by decide +kernel
theorem dX3_costBehind_103 : decode cX3_costBehind 103 = .ok (.ireturn, 1) := by decide +kernel
theorem dX3_gather_0 : decode cX3_gather 0 = .ok (.ldc 73, 2) := by decide +kernel
theorem dX3_gather_2 : decode cX3_gather 2 = .ok (.istore_n 2, 1) := by decide +kernel
theorem dX3_gather_3 : decode cX3_gather 3 = .ok (.iconst 0, 1) := by decide +kernel
theorem dX3_gather_4 : decode cX3_gather 4 = .ok (.istore_n 3, 1) := by decide +kernel
theorem dX3_gather_5 : decode cX3_gather 5 = .ok (.iload_n 3, 1) := by decide +kernel
theorem dX3_gather_6 : decode cX3_gather 6 = .ok (.iconst 2, 1) := by decide +kernel
theorem dX3_gather_7 : decode cX3_gather 7 = .ok (.aload_n 0, 1) := by decide +kernel
theorem dX3_gather_8 : decode cX3_gather 8 = .ok (.getfield 34, 3) := by decide +kernel
theorem dX3_gather_11 : decode cX3_gather 11 = .ok (.imul, 1) := by decide +kernel
theorem dX3_gather_12 : decode cX3_gather 12 = .ok (.if_icmp .gt 32, 3) := by decide +kernel
theorem dX3_gather_15 : decode cX3_gather 15 = .ok (.iload_n 2, 1) := by decide +kernel
theorem dX3_gather_16 : decode cX3_gather 16 = .ok (.aload_n 0, 1) := by decide +kernel
theorem dX3_gather_17 : decode cX3_gather 17 = .ok (.getfield 15, 3) := by decide +kernel
theorem dX3_gather_20 : decode cX3_gather 20 = .ok (.iload_n 1, 1) := by decide +kernel
theorem dX3_gather_21 : decode cX3_gather 21 = .ok (.bipush 41, 2) := by decide +kernel
theorem dX3_gather_23 : decode cX3_gather 23 = .ok (.imul, 1) := by decide +kernel
theorem dX3_gather_24 : decode cX3_gather 24 = .ok (.iload_n 3, 1) := by decide +kernel
theorem dX3_gather_25 : decode cX3_gather 25 = .ok (.iadd, 1) := by decide +kernel
theorem dX3_gather_26 : decode cX3_gather 26 = .ok (.iaload, 1) := by decide +kernel
theorem dX3_gather_27 : decode cX3_gather 27 = .ok (.invokestatic 49, 3) := by decide +kernel
theorem dX3_gather_30 : decode cX3_gather 30 = .ok (.istore_n 2, 1) := by decide +kernel
theorem dX3_gather_31 : decode cX3_gather 31 = .ok (.aload_n 0, 1) := by decide +kernel
theorem dX3_gather_32 : decode cX3_gather 32 = .ok (.getfield 18, 3) := by decide +kernel
theorem dX3_gather_35 : decode cX3_gather 35 = .ok (.iload_n 3, 1) := by decide +kernel
theorem dX3_gather_36 : decode cX3_gather 36 = .ok (.iload_n 2, 1) := by decide +kernel
theorem dX3_gather_37 : decode cX3_gather 37 = .ok (.iastore, 1) := by decide +kernel
theorem dX3_gather_38 : decode cX3_gather 38 = .ok (.iinc 3 1, 3) := by decide +kernel
theorem dX3_gather_41 : decode cX3_gather 41 = .ok (.goto (-36), 3) := by decide +kernel
theorem dX3_gather_44 : decode cX3_gather 44 = .ok (.ldc 73, 2) := by decide +kernel
theorem dX3_gather_46 : decode cX3_gather 46 = .ok (.istore_n 2, 1) := by decide +kernel
theorem dX3_gather_47 : decode cX3_gather 47 = .ok (.iconst 2, 1) := by decide +kernel
theorem dX3_gather_48 : decode cX3_gather 48 = .ok (.aload_n 0, 1) := by decide +kernel
theorem dX3_gather_49 : decode cX3_gather 49 = .ok (.getfield 34, 3) := by decide +kernel
theorem dX3_gather_52 : decode cX3_gather 52 = .ok (.imul, 1) := by decide +kernel
theorem dX3_gather_53 : decode cX3_gather 53 = .ok (.istore_n 3, 1) := by decide +kernel
theorem dX3_gather_54 : decode cX3_gather 54 = .ok (.iload_n 3, 1) := by decide +kernel
theorem dX3_gather_55 : decode cX3_gather 55 = .ok (.ifCond .lt 32, 3) := by decide +kernel
theorem dX3_gather_58 : decode cX3_gather 58 = .ok (.iload_n 2, 1) := by decide +kernel
theorem dX3_gather_59 : decode cX3_gather 59 = .ok (.aload_n 0, 1) := by decide +kernel
theorem dX3_gather_60 : decode cX3_gather 60 = .ok (.getfield 15, 3) := by decide +kernel
theorem dX3_gather_63 : decode cX3_gather 63 = .ok (.iload_n 1, 1) := by decide +kernel
theorem dX3_gather_64 : decode cX3_gather 64 = .ok (.bipush 41, 2) := by decide +kernel
theorem dX3_gather_66 : decode cX3_gather 66 = .ok (.imul, 1) := by decide +kernel
theorem dX3_gather_67 : decode cX3_gather 67 = .ok (.iload_n 3, 1) := by decide +kernel
theorem dX3_gather_68 : decode cX3_gather 68 = .ok (.iadd, 1) := by decide +kernel
theorem dX3_gather_69 : decode cX3_gather 69 = .ok (.iaload, 1) := by decide +kernel
theorem dX3_gather_70 : decode cX3_gather 70 = .ok (.invokestatic 49, 3) := by decide +kernel
theorem dX3_gather_73 : decode cX3_gather 73 = .ok (.istore_n 2, 1) := by decide +kernel
theorem dX3_gather_74 : decode cX3_gather 74 = .ok (.aload_n 0, 1) := by decide +kernel
theorem dX3_gather_75 : decode cX3_gather 75 = .ok (.getfield 21, 3) := by decide +kernel
theorem dX3_gather_78 : decode cX3_gather 78 = .ok (.iload_n 3, 1) := by decide +kernel
theorem dX3_gather_79 : decode cX3_gather 79 = .ok (.iload_n 2, 1) := by decide +kernel
theorem dX3_gather_80 : decode cX3_gather 80 = .ok (.iastore, 1) := by decide +kernel
theorem dX3_gather_81 : decode cX3_gather 81 = .ok (.iinc 3 (-1), 3) := by decide +kernel
theorem dX3_gather_84 : decode cX3_gather 84 = .ok (.goto (-30), 3) := by decide +kernel
theorem dX3_gather_87 : decode cX3_gather 87 = .ok (.return_, 1) := by decide +kernel
theorem dX3_follow_0 : decode cX3_follow 0 = .ok (.aload_n 0, 1) := by decide +kernel
theorem dX3_follow_1 : decode cX3_follow 1 = .ok (.getfield 37, 3) := by decide +kernel
theorem dX3_follow_4 : decode cX3_follow 4 = .ok (.istore_n 1, 1) := by decide +kernel
theorem dX3_follow_5 : decode cX3_follow 5 = .ok (.aload_n 0, 1) := by decide +kernel
theorem dX3_follow_6 : decode cX3_follow 6 = .ok (.iconst 0, 1) := by decide +kernel
theorem dX3_follow_7 : decode cX3_follow 7 = .ok (.putfield 40, 3) := by decide +kernel
theorem dX3_follow_10 : decode cX3_follow 10 = .ok (.aload_n 0, 1) := by decide +kernel
theorem dX3_follow_11 : decode cX3_follow 11 = .ok (.iconst 0, 1) := by decide +kernel
theorem dX3_follow_12 : decode cX3_follow 12 = .ok (.putfield 43, 3) := by decide +kernel
theorem dX3_follow_15 : decode cX3_follow 15 = .ok (.iconst 0, 1) := by decide +kernel
theorem dX3_follow_16 : decode cX3_follow 16 = .ok (.istore_n 2, 1) := by decide +kernel
theorem dX3_follow_17 : decode cX3_follow 17 = .ok (.iload_n 2, 1) := by decide +kernel
theorem dX3_follow_18 : decode cX3_follow 18 = .ok (.aload_n 0, 1) := by decide +kernel
theorem dX3_follow_19 : decode cX3_follow 19 = .ok (.getfield 27, 3) := by decide +kernel
theorem dX3_follow_22 : decode cX3_follow 22 = .ok (.if_icmp .ge 61, 3) := by decide +kernel
theorem dX3_follow_25 : decode cX3_follow 25 = .ok (.aload_n 0, 1) := by decide +kernel
theorem dX3_follow_26 : decode cX3_follow 26 = .ok (.iload_n 2, 1) := by decide +kernel
theorem dX3_follow_27 : decode cX3_follow 27 = .ok (.iload_n 1, 1) := by decide +kernel
theorem dX3_follow_28 : decode cX3_follow 28 = .ok (.invokevirtual 87, 3) := by decide +kernel
theorem dX3_follow_31 : decode cX3_follow 31 = .ok (.istore_n 3, 1) := by decide +kernel
theorem dX3_follow_32 : decode cX3_follow 32 = .ok (.aload_n 0, 1) := by decide +kernel
theorem dX3_follow_33 : decode cX3_follow 33 = .ok (.getfield 24, 3) := by decide +kernel
theorem dX3_follow_36 : decode cX3_follow 36 = .ok (.iload_n 2, 1) := by decide +kernel
theorem dX3_follow_37 : decode cX3_follow 37 = .ok (.iload_n 3, 1) := by decide +kernel
theorem dX3_follow_38 : decode cX3_follow 38 = .ok (.iastore, 1) := by decide +kernel
theorem dX3_follow_39 : decode cX3_follow 39 = .ok (.iload_n 1, 1) := by decide +kernel
theorem dX3_follow_40 : decode cX3_follow 40 = .ok (.iload_n 3, 1) := by decide +kernel
theorem dX3_follow_41 : decode cX3_follow 41 = .ok (.invokestatic 77, 3) := by decide +kernel
theorem dX3_follow_44 : decode cX3_follow 44 = .ok (.isub, 1) := by decide +kernel
theorem dX3_follow_45 : decode cX3_follow 45 = .ok (.istore_n 1, 1) := by decide +kernel
theorem dX3_follow_46 : decode cX3_follow 46 = .ok (.aload_n 0, 1) := by decide +kernel
theorem dX3_follow_47 : decode cX3_follow 47 = .ok (.dup, 1) := by decide +kernel
theorem dX3_follow_48 : decode cX3_follow 48 = .ok (.getfield 40, 3) := by decide +kernel
theorem dX3_follow_51 : decode cX3_follow 51 = .ok (.iload_n 3, 1) := by decide +kernel
theorem dX3_follow_52 : decode cX3_follow 52 = .ok (.ifCond .ne 7, 3) := by decide +kernel
theorem dX3_follow_55 : decode cX3_follow 55 = .ok (.iconst 0, 1) := by decide +kernel
theorem dX3_follow_56 : decode cX3_follow 56 = .ok (.goto 4, 3) := by decide +kernel
theorem dX3_follow_59 : decode cX3_follow 59 = .ok (.iconst 1, 1) := by decide +kernel
theorem dX3_follow_60 : decode cX3_follow 60 = .ok (.iadd, 1) := by decide +kernel
theorem dX3_follow_61 : decode cX3_follow 61 = .ok (.putfield 40, 3) := by decide +kernel
theorem dX3_follow_64 : decode cX3_follow 64 = .ok (.aload_n 0, 1) := by decide +kernel
theorem dX3_follow_65 : decode cX3_follow 65 = .ok (.dup, 1) := by decide +kernel
theorem dX3_follow_66 : decode cX3_follow 66 = .ok (.getfield 43, 3) := by decide +kernel
theorem dX3_follow_69 : decode cX3_follow 69 = .ok (.iload_n 3, 1) := by decide +kernel
theorem dX3_follow_70 : decode cX3_follow 70 = .ok (.invokestatic 81, 3) := by decide +kernel
theorem dX3_follow_73 : decode cX3_follow 73 = .ok (.iadd, 1) := by decide +kernel
theorem dX3_follow_74 : decode cX3_follow 74 = .ok (.putfield 43, 3) := by decide +kernel
theorem dX3_follow_77 : decode cX3_follow 77 = .ok (.iinc 2 1, 3) := by decide +kernel
theorem dX3_follow_80 : decode cX3_follow 80 = .ok (.goto (-63), 3) := by decide +kernel
theorem dX3_follow_83 : decode cX3_follow 83 = .ok (.return_, 1) := by decide +kernel
theorem dX3_firstMove_0 : decode cX3_firstMove 0 = .ok (.iconst 0, 1) := by decide +kernel
theorem dX3_firstMove_1 : decode cX3_firstMove 1 = .ok (.istore_n 3, 1) := by decide +kernel
theorem dX3_firstMove_2 : decode cX3_firstMove 2 = .ok (.iload_n 3, 1) := by decide +kernel
theorem dX3_firstMove_3 : decode cX3_firstMove 3 = .ok (.aload_n 0, 1) := by decide +kernel
theorem dX3_firstMove_4 : decode cX3_firstMove 4 = .ok (.getfield 34, 3) := by decide +kernel
theorem dX3_firstMove_7 : decode cX3_firstMove 7 = .ok (.if_icmp .gt 35, 3) := by decide +kernel
theorem dX3_firstMove_10 : decode cX3_firstMove 10 = .ok (.aload_n 0, 1) := by decide +kernel
theorem dX3_firstMove_11 : decode cX3_firstMove 11 = .ok (.iload_n 1, 1) := by decide +kernel
theorem dX3_firstMove_12 : decode cX3_firstMove 12 = .ok (.iload_n 3, 1) := by decide +kernel
theorem dX3_firstMove_13 : decode cX3_firstMove 13 = .ok (.ineg, 1) := by decide +kernel
theorem dX3_firstMove_14 : decode cX3_firstMove 14 = .ok (.iload_n 2, 1) := by decide +kernel
theorem dX3_firstMove_15 : decode cX3_firstMove 15 = .ok (.invokevirtual 90, 3) := by decide +kernel
theorem dX3_firstMove_18 : decode cX3_firstMove 18 = .ok (.ifCond .eq 6, 3) := by decide +kernel
theorem dX3_firstMove_21 : decode cX3_firstMove 21 = .ok (.iload_n 3, 1) := by decide +kernel
theorem dX3_firstMove_22 : decode cX3_firstMove 22 = .ok (.ineg, 1) := by decide +kernel
theorem dX3_firstMove_23 : decode cX3_firstMove 23 = .ok (.ireturn, 1) := by decide +kernel
theorem dX3_firstMove_24 : decode cX3_firstMove 24 = .ok (.aload_n 0, 1) := by decide +kernel
theorem dX3_firstMove_25 : decode cX3_firstMove 25 = .ok (.iload_n 1, 1) := by decide +kernel
theorem dX3_firstMove_26 : decode cX3_firstMove 26 = .ok (.iload_n 3, 1) := by decide +kernel
theorem dX3_firstMove_27 : decode cX3_firstMove 27 = .ok (.iload_n 2, 1) := by decide +kernel
theorem dX3_firstMove_28 : decode cX3_firstMove 28 = .ok (.invokevirtual 90, 3) := by decide +kernel
theorem dX3_firstMove_31 : decode cX3_firstMove 31 = .ok (.ifCond .eq 5, 3) := by decide +kernel
theorem dX3_firstMove_34 : decode cX3_firstMove 34 = .ok (.iload_n 3, 1) := by decide +kernel
theorem dX3_firstMove_35 : decode cX3_firstMove 35 = .ok (.ireturn, 1) := by decide +kernel
theorem dX3_firstMove_36 : decode cX3_firstMove 36 = .ok (.iinc 3 1, 3) := by decide +kernel
theorem dX3_firstMove_39 : decode cX3_firstMove 39 = .ok (.goto (-37), 3) := by decide +kernel
theorem dX3_firstMove_42 : decode cX3_firstMove 42 = .ok (.iconst 0, 1) := by decide +kernel
theorem dX3_firstMove_43 : decode cX3_firstMove 43 = .ok (.ireturn, 1) := by decide +kernel
theorem dX3_fits_0 : decode cX3_fits 0 = .ok (.aload_n 0, 1) := by decide +kernel
theorem dX3_fits_1 : decode cX3_fits 1 = .ok (.getfield 15, 3) := by decide +kernel
theorem dX3_fits_4 : decode cX3_fits 4 = .ok (.iload_n 1, 1) := by decide +kernel
theorem dX3_fits_5 : decode cX3_fits 5 = .ok (.bipush 41, 2) := by decide +kernel
theorem dX3_fits_7 : decode cX3_fits 7 = .ok (.imul, 1) := by decide +kernel
theorem dX3_fits_8 : decode cX3_fits 8 = .ok (.aload_n 0, 1) := by decide +kernel
theorem dX3_fits_9 : decode cX3_fits 9 = .ok (.getfield 34, 3) := by decide +kernel
theorem dX3_fits_12 : decode cX3_fits 12 = .ok (.iadd, 1) := by decide +kernel
theorem dX3_fits_13 : decode cX3_fits 13 = .ok (.iload_n 2, 1) := by decide +kernel
theorem dX3_fits_14 : decode cX3_fits 14 = .ok (.iadd, 1) := by decide +kernel
theorem dX3_fits_15 : decode cX3_fits 15 = .ok (.iaload, 1) := by decide +kernel
theorem dX3_fits_16 : decode cX3_fits 16 = .ok (.iload_n 3, 1) := by decide +kernel
theorem dX3_fits_17 : decode cX3_fits 17 = .ok (.if_icmp .eq 5, 3) := by decide +kernel
theorem dX3_fits_20 : decode cX3_fits 20 = .ok (.iconst 0, 1) := by decide +kernel
theorem dX3_fits_21 : decode cX3_fits 21 = .ok (.ireturn, 1) := by decide +kernel
theorem dX3_fits_22 : decode cX3_fits 22 = .ok (.iload_n 1, 1) := by decide +kernel
theorem dX3_fits_23 : decode cX3_fits 23 = .ok (.ifCond .eq 39, 3) := by decide +kernel
theorem dX3_fits_26 : decode cX3_fits 26 = .ok (.aload_n 0, 1) := by decide +kernel
theorem dX3_fits_27 : decode cX3_fits 27 = .ok (.getfield 9, 3) := by decide +kernel
theorem dX3_fits_30 : decode cX3_fits 30 = .ok (.iload_n 1, 1) := by decide +kernel
theorem dX3_fits_31 : decode cX3_fits 31 = .ok (.iaload, 1) := by decide +kernel
theorem dX3_fits_32 : decode cX3_fits 32 = .ok (.iload_n 2, 1) := by decide +kernel
theorem dX3_fits_33 : decode cX3_fits 33 = .ok (.iadd, 1) := by decide +kernel
theorem dX3_fits_34 : decode cX3_fits 34 = .ok (.aload_n 0, 1) := by decide +kernel
theorem dX3_fits_35 : decode cX3_fits 35 = .ok (.getfield 9, 3) := by decide +kernel
theorem dX3_fits_38 : decode cX3_fits 38 = .ok (.iload_n 1, 1) := by decide +kernel
theorem dX3_fits_39 : decode cX3_fits 39 = .ok (.iconst 1, 1) := by decide +kernel
theorem dX3_fits_40 : decode cX3_fits 40 = .ok (.isub, 1) := by decide +kernel
theorem dX3_fits_41 : decode cX3_fits 41 = .ok (.iaload, 1) := by decide +kernel
theorem dX3_fits_42 : decode cX3_fits 42 = .ok (.isub, 1) := by decide +kernel
theorem dX3_fits_43 : decode cX3_fits 43 = .ok (.aload_n 0, 1) := by decide +kernel
theorem dX3_fits_44 : decode cX3_fits 44 = .ok (.getfield 24, 3) := by decide +kernel
theorem dX3_fits_47 : decode cX3_fits 47 = .ok (.iload_n 1, 1) := by decide +kernel
theorem dX3_fits_48 : decode cX3_fits 48 = .ok (.iconst 1, 1) := by decide +kernel
theorem dX3_fits_49 : decode cX3_fits 49 = .ok (.isub, 1) := by decide +kernel
theorem dX3_fits_50 : decode cX3_fits 50 = .ok (.iaload, 1) := by decide +kernel
theorem dX3_fits_51 : decode cX3_fits 51 = .ok (.isub, 1) := by decide +kernel
theorem dX3_fits_52 : decode cX3_fits 52 = .ok (.invokestatic 81, 3) := by decide +kernel
theorem dX3_fits_55 : decode cX3_fits 55 = .ok (.aload_n 0, 1) := by decide +kernel
theorem dX3_fits_56 : decode cX3_fits 56 = .ok (.getfield 31, 3) := by decide +kernel
theorem dX3_fits_59 : decode cX3_fits 59 = .ok (.if_icmp .lt 7, 3) := by decide +kernel
theorem dX3_fits_62 : decode cX3_fits 62 = .ok (.iconst 1, 1) := by decide +kernel
theorem dX3_fits_63 : decode cX3_fits 63 = .ok (.goto 4, 3) := by decide +kernel
theorem dX3_fits_66 : decode cX3_fits 66 = .ok (.iconst 0, 1) := by decide +kernel
theorem dX3_fits_67 : decode cX3_fits 67 = .ok (.ireturn, 1) := by decide +kernel
theorem dX4_init_0 : decode cX4_init 0 = .ok (.aload_n 0, 1) := by decide +kernel
theorem dX4_init_1 : decode cX4_init 1 = .ok (.invokespecial 3, 3) := by decide +kernel
theorem dX4_init_4 : decode cX4_init 4 = .ok (.aload_n 0, 1) := by decide +kernel
theorem dX4_init_5 : decode cX4_init 5 = .ok (.iconst 0, 1) := by decide +kernel
theorem dX4_init_6 : decode cX4_init 6 = .ok (.putfield 11, 3) := by decide +kernel
theorem dX4_init_9 : decode cX4_init 9 = .ok (.aload_n 0, 1) := by decide +kernel
theorem dX4_init_10 : decode cX4_init 10 = .ok (.iconst 0, 1) := by decide +kernel
theorem dX4_init_11 : decode cX4_init 11 = .ok (.putfield 15, 3) := by decide +kernel
theorem dX4_init_14 : decode cX4_init 14 = .ok (.aload_n 0, 1) := by decide +kernel
theorem dX4_init_15 : decode cX4_init 15 = .ok (.iconst 0, 1) := by decide +kernel
theorem dX4_init_16 : decode cX4_init 16 = .ok (.putfield 18, 3) := by decide +kernel
theorem dX4_init_19 : decode cX4_init 19 = .ok (.aload_n 0, 1) := by decide +kernel
theorem dX4_init_20 : decode cX4_init 20 = .ok (.iconst 0, 1) := by decide +kernel
theorem dX4_init_21 : decode cX4_init 21 = .ok (.putfield 21, 3) := by decide +kernel
theorem dX4_init_24 : decode cX4_init 24 = .ok (.aload_n 0, 1) := by decide +kernel
theorem dX4_init_25 : decode cX4_init 25 = .ok (.iconst 0, 1) := by decide +kernel
theorem dX4_init_26 : decode cX4_init 26 = .ok (.putfield 24, 3) := by decide +kernel
theorem dX4_init_29 : decode cX4_init 29 = .ok (.aload_n 0, 1) := by decide +kernel
theorem dX4_init_30 : decode cX4_init 30 = .ok (.iconst 0, 1) := by decide +kernel
theorem dX4_init_31 : decode cX4_init 31 = .ok (.putfield 27, 3) := by decide +kernel
theorem dX4_init_34 : decode cX4_init 34 = .ok (.return_, 1) := by decide +kernel
theorem dX4_begin_0 : decode cX4_begin 0 = .ok (.aload_n 0, 1) := by decide +kernel
theorem dX4_begin_1 : decode cX4_begin 1 = .ok (.iload_n 1, 1) := by decide +kernel
theorem dX4_begin_2 : decode cX4_begin 2 = .ok (.putfield 11, 3) := by decide +kernel
theorem dX4_begin_5 : decode cX4_begin 5 = .ok (.aload_n 0, 1) := by decide +kernel
theorem dX4_begin_6 : decode cX4_begin 6 = .ok (.iload_n 2, 1) := by decide +kernel
theorem dX4_begin_7 : decode cX4_begin 7 = .ok (.putfield 15, 3) := by decide +kernel
theorem dX4_begin_10 : decode cX4_begin 10 = .ok (.aload_n 0, 1) := by decide +kernel
theorem dX4_begin_11 : decode cX4_begin 11 = .ok (.iload_n 3, 1) := by decide +kernel
theorem dX4_begin_12 : decode cX4_begin 12 = .ok (.putfield 18, 3) := by decide +kernel
theorem dX4_begin_15 : decode cX4_begin 15 = .ok (.aload_n 0, 1) := by decide +kernel
theorem dX4_begin_16 : decode cX4_begin 16 = .ok (.iload 4, 2) := by decide +kernel
theorem dX4_begin_18 : decode cX4_begin 18 = .ok (.putfield 21, 3) := by decide +kernel
theorem dX4_begin_21 : decode cX4_begin 21 = .ok (.aload_n 0, 1) := by decide +kernel
theorem dX4_begin_22 : decode cX4_begin 22 = .ok (.iload 5, 2) := by decide +kernel
theorem dX4_begin_24 : decode cX4_begin 24 = .ok (.putfield 24, 3) := by decide +kernel
theorem dX4_begin_27 : decode cX4_begin 27 = .ok (.aload_n 0, 1) := by decide +kernel
theorem dX4_begin_28 : decode cX4_begin 28 = .ok (.iconst 0, 1) := by decide +kernel
theorem dX4_begin_29 : decode cX4_begin 29 = .ok (.putfield 27, 3) := by decide +kernel
theorem dX4_begin_32 : decode cX4_begin 32 = .ok (.return_, 1) := by decide +kernel
theorem dX4_become_0 : decode cX4_become 0 = .ok (.aload_n 0, 1) := by decide +kernel
theorem dX4_become_1 : decode cX4_become 1 = .ok (.aload_n 1, 1) := by decide +kernel
theorem dX4_become_2 : decode cX4_become 2 = .ok (.getfield 11, 3) := by decide +kernel
theorem dX4_become_5 : decode cX4_become 5 = .ok (.aload_n 1, 1) := by decide +kernel
theorem dX4_become_6 : decode cX4_become 6 = .ok (.getfield 15, 3) := by decide +kernel
theorem dX4_become_9 : decode cX4_become 9 = .ok (.aload_n 1, 1) := by decide +kernel
theorem dX4_become_10 : decode cX4_become 10 = .ok (.getfield 18, 3) := by decide +kernel
theorem dX4_become_13 : decode cX4_become 13 = .ok (.aload_n 1, 1) := by decide +kernel
theorem dX4_become_14 : decode cX4_become 14 = .ok (.getfield 21, 3) := by decide +kernel
theorem dX4_become_17 : decode cX4_become 17 = .ok (.aload_n 1, 1) := by decide +kernel
theorem dX4_become_18 : decode cX4_become 18 = .ok (.getfield 24, 3) := by decide +kernel
theorem dX4_become_21 : decode cX4_become 21 = .ok (.invokevirtual 30, 3) := by decide +kernel
theorem dX4_become_24 : decode cX4_become 24 = .ok (.aload_n 0, 1) := by decide +kernel
theorem dX4_become_25 : decode cX4_become 25 = .ok (.aload_n 1, 1) := by decide +kernel
theorem dX4_become_26 : decode cX4_become 26 = .ok (.getfield 27, 3) := by decide +kernel
theorem dX4_become_29 : decode cX4_become 29 = .ok (.putfield 27, 3) := by decide +kernel
theorem dX4_become_32 : decode cX4_become 32 = .ok (.return_, 1) := by decide +kernel
theorem dX4_isOneOf_0 : decode cX4_isOneOf 0 = .ok (.iload_n 1, 1) := by decide +kernel
theorem dX4_isOneOf_1 : decode cX4_isOneOf 1 = .ok (.ifCond .eq 23, 3) := by decide +kernel
theorem dX4_isOneOf_4 : decode cX4_isOneOf 4 = .ok (.iload_n 1, 1) := by decide +kernel
theorem dX4_isOneOf_5 : decode cX4_isOneOf 5 = .ok (.aload_n 0, 1) := by decide +kernel
theorem dX4_isOneOf_6 : decode cX4_isOneOf 6 = .ok (.getfield 11, 3) := by decide +kernel
theorem dX4_isOneOf_9 : decode cX4_isOneOf 9 = .ok (.if_icmp .eq 15, 3) := by decide +kernel
theorem dX4_isOneOf_12 : decode cX4_isOneOf 12 = .ok (.iload_n 1, 1) := by decide +kernel
theorem dX4_isOneOf_13 : decode cX4_isOneOf 13 = .ok (.getstatic 34, 3) := by decide +kernel
theorem dX4_isOneOf_16 : decode cX4_isOneOf 16 = .ok (.aload_n 0, 1) := by decide +kernel
theorem dX4_isOneOf_17 : decode cX4_isOneOf 17 = .ok (.getfield 11, 3) := by decide +kernel
theorem dX4_isOneOf_20 : decode cX4_isOneOf 20 = .ok (.iaload, 1) := by decide +kernel
theorem dX4_isOneOf_21 : decode cX4_isOneOf 21 = .ok (.if_icmp .ne 7, 3) := by decide +kernel
theorem dX4_isOneOf_24 : decode cX4_isOneOf 24 = .ok (.iconst 1, 1) := by decide +kernel
theorem dX4_isOneOf_25 : decode cX4_isOneOf 25 = .ok (.goto 4, 3) := by decide +kernel
theorem dX4_isOneOf_28 : decode cX4_isOneOf 28 = .ok (.iconst 0, 1) := by decide +kernel
theorem dX4_isOneOf_29 : decode cX4_isOneOf 29 = .ok (.ireturn, 1) := by decide +kernel
theorem dX4_strikeAt_0 : decode cX4_strikeAt 0 = .ok (.iload_n 1, 1) := by decide +kernel
theorem dX4_strikeAt_1 : decode cX4_strikeAt 1 = .ok (.aload_n 0, 1) := by decide +kernel
theorem dX4_strikeAt_2 : decode cX4_strikeAt 2 = .ok (.getfield 18, 3) := by decide +kernel
theorem dX4_strikeAt_5 : decode cX4_strikeAt 5 = .ok (.if_icmp .le 12, 3) := by decide +kernel
theorem dX4_strikeAt_8 : decode cX4_strikeAt 8 = .ok (.iload_n 1, 1) := by decide +kernel
theorem dX4_strikeAt_9 : decode cX4_strikeAt 9 = .ok (.aload_n 0, 1) := by decide +kernel
theorem dX4_strikeAt_10 : decode cX4_strikeAt 10 = .ok (.getfield 18, 3) := by decide +kernel
theorem dX4_strikeAt_13 : decode cX4_strikeAt 13 = .ok (.isub, 1) := by decide +kernel
theorem dX4_strikeAt_14 : decode cX4_strikeAt 14 = .ok (.goto 9, 3) := by decide +kernel
theorem dX4_strikeAt_17 : decode cX4_strikeAt 17 = .ok (.aload_n 0, 1) := by decide +kernel
theorem dX4_strikeAt_18 : decode cX4_strikeAt 18 = .ok (.getfield 18, 3) := by decide +kernel
theorem dX4_strikeAt_21 : decode cX4_strikeAt 21 = .ok (.iload_n 1, 1) := by decide +kernel
theorem dX4_strikeAt_22 : decode cX4_strikeAt 22 = .ok (.isub, 1) := by decide +kernel
theorem dX4_strikeAt_23 : decode cX4_strikeAt 23 = .ok (.istore_n 2, 1) := by decide +kernel
theorem dX4_strikeAt_24 : decode cX4_strikeAt 24 = .ok (.aload_n 0, 1) := by decide +kernel
theorem dX4_strikeAt_25 : decode cX4_strikeAt 25 = .ok (.getfield 11, 3) := by decide +kernel
theorem dX4_strikeAt_28 : decode cX4_strikeAt 28 = .ok (.iconst 2, 1) := by decide +kernel
theorem dX4_strikeAt_29 : decode cX4_strikeAt 29 = .ok (.if_icmp .eq 11, 3) := by decide +kernel
theorem dX4_strikeAt_32 : decode cX4_strikeAt 32 = .ok (.aload_n 0, 1) := by decide +kernel
theorem dX4_strikeAt_33 : decode cX4_strikeAt 33 = .ok (.getfield 11, 3) := by decide +kernel
theorem dX4_strikeAt_36 : decode cX4_strikeAt 36 = .ok (.iconst 4, 1) := by decide +kernel
theorem dX4_strikeAt_37 : decode cX4_strikeAt 37 = .ok (.if_icmp .ne 7, 3) := by decide +kernel
theorem dX4_strikeAt_40 : decode cX4_strikeAt 40 = .ok (.iconst 1, 1) := by decide +kernel
theorem dX4_strikeAt_41 : decode cX4_strikeAt 41 = .ok (.goto 4, 3) := by decide +kernel
theorem dX4_strikeAt_44 : decode cX4_strikeAt 44 = .ok (.iconst 0, 1) := by decide +kernel
theorem dX4_strikeAt_45 : decode cX4_strikeAt 45 = .ok (.istore_n 3, 1) := by decide +kernel
theorem dX4_strikeAt_46 : decode cX4_strikeAt 46 = .ok (.aload_n 0, 1) := by decide +kernel
theorem dX4_strikeAt_47 : decode cX4_strikeAt 47 = .ok (.getfield 11, 3) := by decide +kernel
theorem dX4_strikeAt_50 : decode cX4_strikeAt 50 = .ok (.iconst 3, 1) := by decide +kernel
theorem dX4_strikeAt_51 : decode cX4_strikeAt 51 = .ok (.if_icmp .ne 9, 3) := by decide +kernel
theorem dX4_strikeAt_54 : decode cX4_strikeAt 54 = .ok (.iload_n 2, 1) := by decide +kernel
theorem dX4_strikeAt_55 : decode cX4_strikeAt 55 = .ok (.iconst 2, 1) := by decide +kernel
theorem dX4_strikeAt_56 : decode cX4_strikeAt 56 = .ok (.idiv, 1) := by decide +kernel
theorem dX4_strikeAt_57 : decode cX4_strikeAt 57 = .ok (.goto 18, 3) := by decide +kernel
theorem dX4_strikeAt_60 : decode cX4_strikeAt 60 = .ok (.iload_n 3, 1) := by decide +kernel
theorem dX4_strikeAt_61 : decode cX4_strikeAt 61 = .ok (.ifCond .eq 13, 3) := by decide +kernel
theorem dX4_strikeAt_64 : decode cX4_strikeAt 64 = .ok (.iload_n 2, 1) := by decide +kernel
theorem dX4_strikeAt_65 : decode cX4_strikeAt 65 = .ok (.ifCond .le 9, 3) := by decide +kernel
theorem dX4_strikeAt_68 : decode cX4_strikeAt 68 = .ok (.iload_n 2, 1) := by decide +kernel
theorem dX4_strikeAt_69 : decode cX4_strikeAt 69 = .ok (.iconst 1, 1) := by decide +kernel
theorem dX4_strikeAt_70 : decode cX4_strikeAt 70 = .ok (.iadd, 1) := by decide +kernel
theorem dX4_strikeAt_71 : decode cX4_strikeAt 71 = .ok (.goto 4, 3) := by decide +kernel
theorem dX4_strikeAt_74 : decode cX4_strikeAt 74 = .ok (.iload_n 2, 1) := by decide +kernel
theorem dX4_strikeAt_75 : decode cX4_strikeAt 75 = .ok (.istore 4, 2) := by decide +kernel
theorem dX4_strikeAt_77 : decode cX4_strikeAt 77 = .ok (.aload_n 0, 1) := by decide +kernel
theorem dX4_strikeAt_78 : decode cX4_strikeAt 78 = .ok (.getfield 21, 3) := by decide +kernel
theorem dX4_strikeAt_81 : decode cX4_strikeAt 81 = .ok (.iconst 1, 1) := by decide +kernel
theorem dX4_strikeAt_82 : decode cX4_strikeAt 82 = .ok (.iadd, 1) := by decide +kernel
theorem dX4_strikeAt_83 : decode cX4_strikeAt 83 = .ok (.istore 5, 2) := by decide +kernel
theorem dX4_strikeAt_85 : decode cX4_strikeAt 85 = .ok (.iload 5, 2) := by decide +kernel
theorem dX4_strikeAt_87 : decode cX4_strikeAt 87 = .ok (.iconst 1, 1) := by decide +kernel
theorem dX4_strikeAt_88 : decode cX4_strikeAt 88 = .ok (.if_icmp .lt 10, 3) := by decide +kernel
theorem dX4_strikeAt_91 : decode cX4_strikeAt 91 = .ok (.iload 4, 2) := by decide +kernel
theorem dX4_strikeAt_93 : decode cX4_strikeAt 93 = .ok (.iload 5, 2) := by decide +kernel
theorem dX4_strikeAt_95 : decode cX4_strikeAt 95 = .ok (.if_icmp .lt 7, 3) := by decide +kernel
theorem dX4_strikeAt_98 : decode cX4_strikeAt 98 = .ok (.iconst 0, 1) := by decide +kernel
theorem dX4_strikeAt_99 : decode cX4_strikeAt 99 = .ok (.goto 16, 3) := by decide +kernel
theorem dX4_strikeAt_102 : decode cX4_strikeAt 102 = .ok (.aload_n 0, 1) := by decide +kernel
theorem dX4_strikeAt_103 : decode cX4_strikeAt 103 = .ok (.getfield 24, 3) := by decide +kernel
theorem dX4_strikeAt_106 : decode cX4_strikeAt 106 = .ok (.iload 5, 2) := by decide +kernel
theorem dX4_strikeAt_108 : decode cX4_strikeAt 108 = .ok (.iload 4, 2) := by decide +kernel
theorem dX4_strikeAt_110 : decode cX4_strikeAt 110 = .ok (.isub, 1) := by decide +kernel
theorem dX4_strikeAt_111 : decode cX4_strikeAt 111 = .ok (.imul, 1) := by decide +kernel
theorem dX4_strikeAt_112 : decode cX4_strikeAt 112 = .ok (.iload 5, 2) := by decide +kernel
theorem dX4_strikeAt_114 : decode cX4_strikeAt 114 = .ok (.idiv, 1) := by decide +kernel
theorem dX4_strikeAt_115 : decode cX4_strikeAt 115 = .ok (.istore 6, 2) := by decide +kernel
theorem dX4_strikeAt_117 : decode cX4_strikeAt 117 = .ok (.iload 6, 2) := by decide +kernel
theorem dX4_strikeAt_119 : decode cX4_strikeAt 119 = .ok (.iload 6, 2) := by decide +kernel
theorem dX4_strikeAt_121 : decode cX4_strikeAt 121 = .ok (.iconst 2, 1) := by decide +kernel
theorem dX4_strikeAt_122 : decode cX4_strikeAt 122 = .ok (.idiv, 1) := by decide +kernel
theorem dX4_strikeAt_123 : decode cX4_strikeAt 123 = .ok (.iadd, 1) := by decide +kernel
theorem dX4_strikeAt_124 : decode cX4_strikeAt 124 = .ok (.istore 7, 2) := by decide +kernel
theorem dX4_strikeAt_126 : decode cX4_strikeAt 126 = .ok (.iload 7, 2) := by decide +kernel
theorem dX4_strikeAt_128 : decode cX4_strikeAt 128 = .ok (.ldc 38, 2) := by decide +kernel
theorem dX4_strikeAt_130 : decode cX4_strikeAt 130 = .ok (.if_icmp .le 8, 3) := by decide +kernel
theorem dX4_strikeAt_133 : decode cX4_strikeAt 133 = .ok (.ldc 38, 2) := by decide +kernel
theorem dX4_strikeAt_135 : decode cX4_strikeAt 135 = .ok (.goto 5, 3) := by decide +kernel
theorem dX4_strikeAt_138 : decode cX4_strikeAt 138 = .ok (.iload 7, 2) := by decide +kernel
theorem dX4_strikeAt_140 : decode cX4_strikeAt 140 = .ok (.istore 8, 2) := by decide +kernel
theorem dX4_strikeAt_142 : decode cX4_strikeAt 142 = .ok (.aload_n 0, 1) := by decide +kernel
theorem dX4_strikeAt_143 : decode cX4_strikeAt 143 = .ok (.getfield 11, 3) := by decide +kernel
theorem dX4_strikeAt_146 : decode cX4_strikeAt 146 = .ok (.tableswitch 47 1 5 #[34, 47, 47, 37, 42], 34) := by decide +kernel
theorem dX4_strikeAt_180 : decode cX4_strikeAt 180 = .ok (.iload 8, 2) := by decide +kernel
theorem dX4_strikeAt_182 : decode cX4_strikeAt 182 = .ok (.ireturn, 1) := by decide +kernel
theorem dX4_strikeAt_183 : decode cX4_strikeAt 183 = .ok (.iload 6, 2) := by decide +kernel
theorem dX4_strikeAt_185 : decode cX4_strikeAt 185 = .ok (.iconst 2, 1) := by decide +kernel
theorem dX4_strikeAt_186 : decode cX4_strikeAt 186 = .ok (.idiv, 1) := by decide +kernel
theorem dX4_strikeAt_187 : decode cX4_strikeAt 187 = .ok (.ireturn, 1) := by decide +kernel
theorem dX4_strikeAt_188 : decode cX4_strikeAt 188 = .ok (.iload 8, 2) := by decide +kernel
theorem dX4_strikeAt_190 : decode cX4_strikeAt 190 = .ok (.iconst 4, 1) := by decide +kernel
theorem dX4_strikeAt_191 : decode cX4_strikeAt 191 = .ok (.idiv, 1) := by decide +kernel
theorem dX4_strikeAt_192 : decode cX4_strikeAt 192 = .ok (.ireturn, 1) := by decide +kernel
theorem dX4_strikeAt_193 : decode cX4_strikeAt 193 = .ok (.iload 6, 2) := by decide +kernel
theorem dX4_strikeAt_195 : decode cX4_strikeAt 195 = .ok (.ireturn, 1) := by decide +kernel
theorem dX4_chanceBehind_0 : decode cX4_chanceBehind 0 = .ok (.iload_n 2, 1) := by decide +kernel
theorem dX4_chanceBehind_1 : decode cX4_chanceBehind 1 = .ok (.ifCond .eq 7, 3) := by decide +kernel
theorem dX4_chanceBehind_4 : decode cX4_chanceBehind 4 = .ok (.iload_n 1, 1) := by decide +kernel
theorem dX4_chanceBehind_5 : decode cX4_chanceBehind 5 = .ok (.goto 7, 3) := by decide +kernel
theorem dX4_chanceBehind_8 : decode cX4_chanceBehind 8 = .ok (.bipush 100, 2) := by decide +kernel
theorem dX4_chanceBehind_10 : decode cX4_chanceBehind 10 = .ok (.iload_n 1, 1) := by decide +kernel
theorem dX4_chanceBehind_11 : decode cX4_chanceBehind 11 = .ok (.isub, 1) := by decide +kernel
theorem dX4_chanceBehind_12 : decode cX4_chanceBehind 12 = .ok (.istore_n 3, 1) := by decide +kernel
theorem dX4_chanceBehind_13 : decode cX4_chanceBehind 13 = .ok (.aload_n 0, 1) := by decide +kernel
theorem dX4_chanceBehind_14 : decode cX4_chanceBehind 14 = .ok (.getfield 24, 3) := by decide +kernel
theorem dX4_chanceBehind_17 : decode cX4_chanceBehind 17 = .ok (.i2l, 1) := by decide +kernel
theorem dX4_chanceBehind_18 : decode cX4_chanceBehind 18 = .ok (.iload_n 3, 1) := by decide +kernel
theorem dX4_chanceBehind_19 : decode cX4_chanceBehind 19 = .ok (.i2l, 1) := by decide +kernel
theorem dX4_chanceBehind_20 : decode cX4_chanceBehind 20 = .ok (.lmul, 1) := by decide +kernel
theorem dX4_chanceBehind_21 : decode cX4_chanceBehind 21 = .ok (.lstore 4, 2) := by decide +kernel
theorem dX4_chanceBehind_23 : decode cX4_chanceBehind 23 = .ok (.ldc 38, 2) := by decide +kernel
theorem dX4_chanceBehind_25 : decode cX4_chanceBehind 25 = .ok (.aload_n 0, 1) := by decide +kernel
theorem dX4_chanceBehind_26 : decode cX4_chanceBehind 26 = .ok (.getfield 24, 3) := by decide +kernel
theorem dX4_chanceBehind_29 : decode cX4_chanceBehind 29 = .ok (.isub, 1) := by decide +kernel
theorem dX4_chanceBehind_30 : decode cX4_chanceBehind 30 = .ok (.i2l, 1) := by decide +kernel
theorem dX4_chanceBehind_31 : decode cX4_chanceBehind 31 = .ok (.bipush 100, 2) := by decide +kernel
theorem dX4_chanceBehind_33 : decode cX4_chanceBehind 33 = .ok (.iload_n 3, 1) := by decide +kernel
theorem dX4_chanceBehind_34 : decode cX4_chanceBehind 34 = .ok (.isub, 1) := by decide +kernel
theorem dX4_chanceBehind_35 : decode cX4_chanceBehind 35 = .ok (.i2l, 1) := by decide +kernel
theorem dX4_chanceBehind_36 : decode cX4_chanceBehind 36 = .ok (.lmul, 1) := by decide +kernel
theorem dX4_chanceBehind_37 : decode cX4_chanceBehind 37 = .ok (.lstore 6, 2) := by decide +kernel
theorem dX4_chanceBehind_39 : decode cX4_chanceBehind 39 = .ok (.lload 4, 2) := by decide +kernel
theorem dX4_chanceBehind_41 : decode cX4_chanceBehind 41 = .ok (.lload 6, 2) := by decide +kernel
theorem dX4_chanceBehind_43 : decode cX4_chanceBehind 43 = .ok (.ladd, 1) := by decide +kernel
theorem dX4_chanceBehind_44 : decode cX4_chanceBehind 44 = .ok (.lstore 8, 2) := by decide +kernel
theorem dX4_chanceBehind_46 : decode cX4_chanceBehind 46 = .ok (.lload 8, 2) := by decide +kernel
theorem dX4_chanceBehind_48 : decode cX4_chanceBehind 48 = .ok (.lconst 0, 1) := by decide +kernel
theorem dX4_chanceBehind_49 : decode cX4_chanceBehind 49 = .ok (.lcmp, 1) := by decide +kernel
theorem dX4_chanceBehind_50 : decode cX4_chanceBehind 50 = .ok (.ifCond .ne 7, 3) := by decide +kernel
theorem dX4_chanceBehind_53 : decode cX4_chanceBehind 53 = .ok (.iconst (-1), 1) := by decide +kernel
theorem dX4_chanceBehind_54 : decode cX4_chanceBehind 54 = .ok (.goto 13, 3) := by decide +kernel
theorem dX4_chanceBehind_57 : decode cX4_chanceBehind 57 = .ok (.lload 4, 2) := by decide +kernel
theorem dX4_chanceBehind_59 : decode cX4_chanceBehind 59 = .ok (.ldc2_w 39, 3) := by decide +kernel
theorem dX4_chanceBehind_62 : decode cX4_chanceBehind 62 = .ok (.lmul, 1) := by decide +kernel
theorem dX4_chanceBehind_63 : decode cX4_chanceBehind 63 = .ok (.lload 8, 2) := by decide +kernel
theorem dX4_chanceBehind_65 : decode cX4_chanceBehind 65 = .ok (.ldiv, 1) := by decide +kernel
theorem dX4_chanceBehind_66 : decode cX4_chanceBehind 66 = .ok (.l2i, 1) := by decide +kernel
theorem dX4_chanceBehind_67 : decode cX4_chanceBehind 67 = .ok (.ireturn, 1) := by decide +kernel
theorem dX4_chanceIfItCanBe_0 : decode cX4_chanceIfItCanBe 0 = .ok (.aload_n 0, 1) := by decide +kernel
theorem dX4_chanceIfItCanBe_1 : decode cX4_chanceIfItCanBe 1 = .ok (.iload_n 1, 1) := by decide +kernel
theorem dX4_chanceIfItCanBe_2 : decode cX4_chanceIfItCanBe 2 = .ok (.iload_n 2, 1) := by decide +kernel
theorem dX4_chanceIfItCanBe_3 : decode cX4_chanceIfItCanBe 3 = .ok (.invokevirtual 41, 3) := by decide +kernel
theorem dX4_chanceIfItCanBe_6 : decode cX4_chanceIfItCanBe 6 = .ok (.istore_n 3, 1) := by decide +kernel
theorem dX4_chanceIfItCanBe_7 : decode cX4_chanceIfItCanBe 7 = .ok (.iload_n 3, 1) := by decide +kernel
theorem dX4_chanceIfItCanBe_8 : decode cX4_chanceIfItCanBe 8 = .ok (.iconst (-1), 1) := by decide +kernel
theorem dX4_chanceIfItCanBe_9 : decode cX4_chanceIfItCanBe 9 = .ok (.if_icmp .ne 10, 3) := by decide +kernel
theorem dX4_chanceIfItCanBe_12 : decode cX4_chanceIfItCanBe 12 = .ok (.aload_n 0, 1) := by decide +kernel
theorem dX4_chanceIfItCanBe_13 : decode cX4_chanceIfItCanBe 13 = .ok (.getfield 24, 3) := by decide +kernel
theorem dX4_chanceIfItCanBe_16 : decode cX4_chanceIfItCanBe 16 = .ok (.goto 4, 3) := by decide +kernel
theorem dX4_chanceIfItCanBe_19 : decode cX4_chanceIfItCanBe 19 = .ok (.iload_n 3, 1) := by decide +kernel
theorem dX4_chanceIfItCanBe_20 : decode cX4_chanceIfItCanBe 20 = .ok (.ireturn, 1) := by decide +kernel
theorem dX4_chanceToTell_0 : decode cX4_chanceToTell 0 = .ok (.aload_n 0, 1) := by decide +kernel
theorem dX4_chanceToTell_1 : decode cX4_chanceToTell 1 = .ok (.getfield 24, 3) := by decide +kernel
theorem dX4_chanceToTell_4 : decode cX4_chanceToTell 4 = .ok (.i2l, 1) := by decide +kernel
theorem dX4_chanceToTell_5 : decode cX4_chanceToTell 5 = .ok (.iload_n 1, 1) := by decide +kernel
theorem dX4_chanceToTell_6 : decode cX4_chanceToTell 6 = .ok (.i2l, 1) := by decide +kernel
theorem dX4_chanceToTell_7 : decode cX4_chanceToTell 7 = .ok (.lmul, 1) := by decide +kernel
theorem dX4_chanceToTell_8 : decode cX4_chanceToTell 8 = .ok (.lstore_n 2, 1) := by decide +kernel
theorem dX4_chanceToTell_9 : decode cX4_chanceToTell 9 = .ok (.ldc 38, 2) := by decide +kernel
theorem dX4_chanceToTell_11 : decode cX4_chanceToTell 11 = .ok (.aload_n 0, 1) := by decide +kernel
theorem dX4_chanceToTell_12 : decode cX4_chanceToTell 12 = .ok (.getfield 24, 3) := by decide +kernel
theorem dX4_chanceToTell_15 : decode cX4_chanceToTell 15 = .ok (.isub, 1) := by decide +kernel
theorem dX4_chanceToTell_16 : decode cX4_chanceToTell 16 = .ok (.i2l, 1) := by decide +kernel
theorem dX4_chanceToTell_17 : decode cX4_chanceToTell 17 = .ok (.bipush 100, 2) := by decide +kernel
theorem dX4_chanceToTell_19 : decode cX4_chanceToTell 19 = .ok (.iload_n 1, 1) := by decide +kernel
theorem dX4_chanceToTell_20 : decode cX4_chanceToTell 20 = .ok (.isub, 1) := by decide +kernel
theorem dX4_chanceToTell_21 : decode cX4_chanceToTell 21 = .ok (.i2l, 1) := by decide +kernel
theorem dX4_chanceToTell_22 : decode cX4_chanceToTell 22 = .ok (.lmul, 1) := by decide +kernel
theorem dX4_chanceToTell_23 : decode cX4_chanceToTell 23 = .ok (.lstore 4, 2) := by decide +kernel
theorem dX4_chanceToTell_25 : decode cX4_chanceToTell 25 = .ok (.lload_n 2, 1) := by decide +kernel
theorem dX4_chanceToTell_26 : decode cX4_chanceToTell 26 = .ok (.lload 4, 2) := by decide +kernel
theorem dX4_chanceToTell_28 : decode cX4_chanceToTell 28 = .ok (.ladd, 1) := by decide +kernel
theorem dX4_chanceToTell_29 : decode cX4_chanceToTell 29 = .ok (.ldc2_w 45, 3) := by decide +kernel
theorem dX4_chanceToTell_32 : decode cX4_chanceToTell 32 = .ok (.ldiv, 1) := by decide +kernel
theorem dX4_chanceToTell_33 : decode cX4_chanceToTell 33 = .ok (.l2i, 1) := by decide +kernel
theorem dX4_chanceToTell_34 : decode cX4_chanceToTell 34 = .ok (.ireturn, 1) := by decide +kernel
theorem dX5_init_0 : decode cX5_init 0 = .ok (.aload_n 0, 1) := by decide +kernel
theorem dX5_init_1 : decode cX5_init 1 = .ok (.invokespecial 3, 3) := by decide +kernel
theorem dX5_init_4 : decode cX5_init 4 = .ok (.aload_n 0, 1) := by decide +kernel
theorem dX5_init_5 : decode cX5_init 5 = .ok (.iconst 0, 1) := by decide +kernel
theorem dX5_init_6 : decode cX5_init 6 = .ok (.putfield 9, 3) := by decide +kernel
theorem dX5_init_9 : decode cX5_init 9 = .ok (.aload_n 0, 1) := by decide +kernel
theorem dX5_init_10 : decode cX5_init 10 = .ok (.iconst 0, 1) := by decide +kernel
theorem dX5_init_11 : decode cX5_init 11 = .ok (.putfield 15, 3) := by decide +kernel
theorem dX5_init_14 : decode cX5_init 14 = .ok (.aload_n 0, 1) := by decide +kernel
theorem dX5_init_15 : decode cX5_init 15 = .ok (.lconst 0, 1) := by decide +kernel
theorem dX5_init_16 : decode cX5_init 16 = .ok (.putfield 18, 3) := by decide +kernel
theorem dX5_init_19 : decode cX5_init 19 = .ok (.aload_n 0, 1) := by decide +kernel
theorem dX5_init_20 : decode cX5_init 20 = .ok (.lconst 0, 1) := by decide +kernel
theorem dX5_init_21 : decode cX5_init 21 = .ok (.putfield 22, 3) := by decide +kernel
theorem dX5_init_24 : decode cX5_init 24 = .ok (.aload_n 0, 1) := by decide +kernel
theorem dX5_init_25 : decode cX5_init 25 = .ok (.bipush 6, 2) := by decide +kernel
theorem dX5_init_27 : decode cX5_init 27 = .ok (.newarray .int, 2) := by decide +kernel
theorem dX5_init_29 : decode cX5_init 29 = .ok (.dup, 1) := by decide +kernel
theorem dX5_init_30 : decode cX5_init 30 = .ok (.iconst 0, 1) := by decide +kernel
theorem dX5_init_31 : decode cX5_init 31 = .ok (.iconst 1, 1) := by decide +kernel
theorem dX5_init_32 : decode cX5_init 32 = .ok (.iastore, 1) := by decide +kernel
theorem dX5_init_33 : decode cX5_init 33 = .ok (.dup, 1) := by decide +kernel
theorem dX5_init_34 : decode cX5_init 34 = .ok (.iconst 1, 1) := by decide +kernel
theorem dX5_init_35 : decode cX5_init 35 = .ok (.bipush 100, 2) := by decide +kernel
theorem dX5_init_37 : decode cX5_init 37 = .ok (.iastore, 1) := by decide +kernel
theorem dX5_init_38 : decode cX5_init 38 = .ok (.dup, 1) := by decide +kernel
theorem dX5_init_39 : decode cX5_init 39 = .ok (.iconst 2, 1) := by decide +kernel
theorem dX5_init_40 : decode cX5_init 40 = .ok (.bipush 10, 2) := by decide +kernel
theorem dX5_init_42 : decode cX5_init 42 = .ok (.iastore, 1) := by decide +kernel
theorem dX5_init_43 : decode cX5_init 43 = .ok (.dup, 1) := by decide +kernel
theorem dX5_init_44 : decode cX5_init 44 = .ok (.iconst 3, 1) := by decide +kernel
theorem dX5_init_45 : decode cX5_init 45 = .ok (.ldc 25, 2) := by decide +kernel
theorem dX5_init_47 : decode cX5_init 47 = .ok (.iastore, 1) := by decide +kernel
theorem dX5_init_48 : decode cX5_init 48 = .ok (.dup, 1) := by decide +kernel
theorem dX5_init_49 : decode cX5_init 49 = .ok (.iconst 4, 1) := by decide +kernel
theorem dX5_init_50 : decode cX5_init 50 = .ok (.iconst 0, 1) := by decide +kernel
theorem dX5_init_51 : decode cX5_init 51 = .ok (.iastore, 1) := by decide +kernel
theorem dX5_init_52 : decode cX5_init 52 = .ok (.dup, 1) := by decide +kernel
theorem dX5_init_53 : decode cX5_init 53 = .ok (.iconst 5, 1) := by decide +kernel
theorem dX5_init_54 : decode cX5_init 54 = .ok (.bipush 9, 2) := by decide +kernel
theorem dX5_init_56 : decode cX5_init 56 = .ok (.iastore, 1) := by decide +kernel
theorem dX5_init_57 : decode cX5_init 57 = .ok (.putfield 26, 3) := by decide +kernel
theorem dX5_init_60 : decode cX5_init 60 = .ok (.aload_n 0, 1) := by decide +kernel
theorem dX5_init_61 : decode cX5_init 61 = .ok (.bipush 12, 2) := by decide +kernel
theorem dX5_init_63 : decode cX5_init 63 = .ok (.anewarray 30, 3) := by decide +kernel
theorem dX5_init_66 : decode cX5_init 66 = .ok (.putfield 32, 3) := by decide +kernel
theorem dX5_init_69 : decode cX5_init 69 = .ok (.aload_n 0, 1) := by decide +kernel
theorem dX5_init_70 : decode cX5_init 70 = .ok (.iconst 0, 1) := by decide +kernel
theorem dX5_init_71 : decode cX5_init 71 = .ok (.putfield 36, 3) := by decide +kernel
theorem dX5_init_74 : decode cX5_init 74 = .ok (.aload_n 0, 1) := by decide +kernel
theorem dX5_init_75 : decode cX5_init 75 = .ok (.bipush 60, 2) := by decide +kernel
theorem dX5_init_77 : decode cX5_init 77 = .ok (.newarray .byte, 2) := by decide +kernel
theorem dX5_init_79 : decode cX5_init 79 = .ok (.putfield 39, 3) := by decide +kernel
theorem dX5_init_82 : decode cX5_init 82 = .ok (.aload_n 0, 1) := by decide +kernel
theorem dX5_init_83 : decode cX5_init 83 = .ok (.iconst 0, 1) := by decide +kernel
theorem dX5_init_84 : decode cX5_init 84 = .ok (.putfield 43, 3) := by decide +kernel
theorem dX5_init_87 : decode cX5_init 87 = .ok (.iconst 0, 1) := by decide +kernel
theorem dX5_init_88 : decode cX5_init 88 = .ok (.istore_n 1, 1) := by decide +kernel
theorem dX5_init_89 : decode cX5_init 89 = .ok (.iload_n 1, 1) := by decide +kernel
theorem dX5_init_90 : decode cX5_init 90 = .ok (.bipush 12, 2) := by decide +kernel
theorem dX5_init_92 : decode cX5_init 92 = .ok (.if_icmp .ge 22, 3) := by decide +kernel
theorem dX5_init_95 : decode cX5_init 95 = .ok (.aload_n 0, 1) := by decide +kernel
theorem dX5_init_96 : decode cX5_init 96 = .ok (.getfield 32, 3) := by decide +kernel
theorem dX5_init_99 : decode cX5_init 99 = .ok (.iload_n 1, 1) := by decide +kernel
theorem dX5_init_100 : decode cX5_init 100 = .ok (.new 30, 3) := by decide +kernel
theorem dX5_init_103 : decode cX5_init 103 = .ok (.dup, 1) := by decide +kernel
theorem dX5_init_104 : decode cX5_init 104 = .ok (.invokespecial 46, 3) := by decide +kernel
theorem dX5_init_107 : decode cX5_init 107 = .ok (.aastore, 1) := by decide +kernel
theorem dX5_init_108 : decode cX5_init 108 = .ok (.iinc 1 1, 3) := by decide +kernel
theorem dX5_init_111 : decode cX5_init 111 = .ok (.goto (-22), 3) := by decide +kernel
theorem dX5_init_114 : decode cX5_init 114 = .ok (.return_, 1) := by decide +kernel
theorem dX5_become_0 : decode cX5_become 0 = .ok (.aload_n 0, 1) := by decide +kernel
theorem dX5_become_1 : decode cX5_become 1 = .ok (.aload_n 1, 1) := by decide +kernel
theorem dX5_become_2 : decode cX5_become 2 = .ok (.getfield 9, 3) := by decide +kernel
theorem dX5_become_5 : decode cX5_become 5 = .ok (.putfield 9, 3) := by decide +kernel
theorem dX5_become_8 : decode cX5_become 8 = .ok (.aload_n 0, 1) := by decide +kernel
theorem dX5_become_9 : decode cX5_become 9 = .ok (.aload_n 1, 1) := by decide +kernel
theorem dX5_become_10 : decode cX5_become 10 = .ok (.getfield 15, 3) := by decide +kernel
theorem dX5_become_13 : decode cX5_become 13 = .ok (.putfield 15, 3) := by decide +kernel
theorem dX5_become_16 : decode cX5_become 16 = .ok (.aload_n 0, 1) := by decide +kernel
theorem dX5_become_17 : decode cX5_become 17 = .ok (.aload_n 1, 1) := by decide +kernel
theorem dX5_become_18 : decode cX5_become 18 = .ok (.getfield 18, 3) := by decide +kernel
theorem dX5_become_21 : decode cX5_become 21 = .ok (.putfield 18, 3) := by decide +kernel
theorem dX5_become_24 : decode cX5_become 24 = .ok (.aload_n 0, 1) := by decide +kernel
theorem dX5_become_25 : decode cX5_become 25 = .ok (.aload_n 1, 1) := by decide +kernel
theorem dX5_become_26 : decode cX5_become 26 = .ok (.getfield 22, 3) := by decide +kernel
theorem dX5_become_29 : decode cX5_become 29 = .ok (.putfield 22, 3) := by decide +kernel
theorem dX5_become_32 : decode cX5_become 32 = .ok (.aload_n 1, 1) := by decide +kernel
theorem dX5_become_33 : decode cX5_become 33 = .ok (.getfield 26, 3) := by decide +kernel
theorem dX5_become_36 : decode cX5_become 36 = .ok (.iconst 0, 1) := by decide +kernel
theorem dX5_become_37 : decode cX5_become 37 = .ok (.aload_n 0, 1) := by decide +kernel
theorem dX5_become_38 : decode cX5_become 38 = .ok (.getfield 26, 3) := by decide +kernel
theorem dX5_become_41 : decode cX5_become 41 = .ok (.iconst 0, 1) := by decide +kernel
theorem dX5_become_42 : decode cX5_become 42 = .ok (.aload_n 0, 1) := by decide +kernel
theorem dX5_become_43 : decode cX5_become 43 = .ok (.getfield 26, 3) := by decide +kernel
theorem dX5_become_46 : decode cX5_become 46 = .ok (.arraylength, 1) := by decide +kernel
theorem dX5_become_47 : decode cX5_become 47 = .ok (.invokestatic 47, 3) := by decide +kernel
theorem dX5_become_50 : decode cX5_become 50 = .ok (.aload_n 0, 1) := by decide +kernel
theorem dX5_become_51 : decode cX5_become 51 = .ok (.aload_n 1, 1) := by decide +kernel
theorem dX5_become_52 : decode cX5_become 52 = .ok (.getfield 36, 3) := by decide +kernel
theorem dX5_become_55 : decode cX5_become 55 = .ok (.putfield 36, 3) := by decide +kernel
theorem dX5_become_58 : decode cX5_become 58 = .ok (.iconst 0, 1) := by decide +kernel
theorem dX5_become_59 : decode cX5_become 59 = .ok (.istore_n 2, 1) := by decide +kernel
theorem dX5_become_60 : decode cX5_become 60 = .ok (.iload_n 2, 1) := by decide +kernel
theorem dX5_become_61 : decode cX5_become 61 = .ok (.aload_n 0, 1) := by decide +kernel
theorem dX5_become_62 : decode cX5_become 62 = .ok (.getfield 36, 3) := by decide +kernel
theorem dX5_become_65 : decode cX5_become 65 = .ok (.if_icmp .ge 24, 3) := by decide +kernel
theorem dX5_become_68 : decode cX5_become 68 = .ok (.aload_n 0, 1) := by decide +kernel
theorem dX5_become_69 : decode cX5_become 69 = .ok (.getfield 32, 3) := by decide +kernel
theorem dX5_become_72 : decode cX5_become 72 = .ok (.iload_n 2, 1) := by decide +kernel
theorem dX5_become_73 : decode cX5_become 73 = .ok (.aaload, 1) := by decide +kernel
theorem dX5_become_74 : decode cX5_become 74 = .ok (.aload_n 1, 1) := by decide +kernel
theorem dX5_become_75 : decode cX5_become 75 = .ok (.getfield 32, 3) := by decide +kernel
theorem dX5_become_78 : decode cX5_become 78 = .ok (.iload_n 2, 1) := by decide +kernel
theorem dX5_become_79 : decode cX5_become 79 = .ok (.aaload, 1) := by decide +kernel
theorem dX5_become_80 : decode cX5_become 80 = .ok (.invokevirtual 53, 3) := by decide +kernel
theorem dX5_become_83 : decode cX5_become 83 = .ok (.iinc 2 1, 3) := by decide +kernel
theorem dX5_become_86 : decode cX5_become 86 = .ok (.goto (-26), 3) := by decide +kernel
theorem dX5_become_89 : decode cX5_become 89 = .ok (.aload_n 0, 1) := by decide +kernel
theorem dX5_become_90 : decode cX5_become 90 = .ok (.aload_n 1, 1) := by decide +kernel
theorem dX5_become_91 : decode cX5_become 91 = .ok (.getfield 43, 3) := by decide +kernel
theorem dX5_become_94 : decode cX5_become 94 = .ok (.putfield 43, 3) := by decide +kernel
theorem dX5_become_97 : decode cX5_become 97 = .ok (.aload_n 1, 1) := by decide +kernel
theorem dX5_become_98 : decode cX5_become 98 = .ok (.getfield 39, 3) := by decide +kernel
theorem dX5_become_101 : decode cX5_become 101 = .ok (.iconst 0, 1) := by decide +kernel
theorem dX5_become_102 : decode cX5_become 102 = .ok (.aload_n 0, 1) := by decide +kernel
theorem dX5_become_103 : decode cX5_become 103 = .ok (.getfield 39, 3) := by decide +kernel
theorem dX5_become_106 : decode cX5_become 106 = .ok (.iconst 0, 1) := by decide +kernel
theorem dX5_become_107 : decode cX5_become 107 = .ok (.aload_n 0, 1) := by decide +kernel
theorem dX5_become_108 : decode cX5_become 108 = .ok (.getfield 43, 3) := by decide +kernel
theorem dX5_become_111 : decode cX5_become 111 = .ok (.invokestatic 47, 3) := by decide +kernel
theorem dX5_become_114 : decode cX5_become 114 = .ok (.return_, 1) := by decide +kernel
theorem dX5_hasRule_0 : decode cX5_hasRule 0 = .ok (.aload_n 0, 1) := by decide +kernel
theorem dX5_hasRule_1 : decode cX5_hasRule 1 = .ok (.getfield 43, 3) := by decide +kernel
theorem dX5_hasRule_4 : decode cX5_hasRule 4 = .ok (.ifCond .le 7, 3) := by decide +kernel
theorem dX5_hasRule_7 : decode cX5_hasRule 7 = .ok (.iconst 1, 1) := by decide +kernel
theorem dX5_hasRule_8 : decode cX5_hasRule 8 = .ok (.goto 4, 3) := by decide +kernel
theorem dX5_hasRule_11 : decode cX5_hasRule 11 = .ok (.iconst 0, 1) := by decide +kernel
theorem dX5_hasRule_12 : decode cX5_hasRule 12 = .ok (.ireturn, 1) := by decide +kernel
theorem dX5_isOpen_0 : decode cX5_isOpen 0 = .ok (.aload_n 1, 1) := by decide +kernel
theorem dX5_isOpen_1 : decode cX5_isOpen 1 = .ok (.getfield 57, 3) := by decide +kernel
theorem dX5_isOpen_4 : decode cX5_isOpen 4 = .ok (.aload_n 0, 1) := by decide +kernel
theorem dX5_isOpen_5 : decode cX5_isOpen 5 = .ok (.getfield 9, 3) := by decide +kernel
theorem dX5_isOpen_8 : decode cX5_isOpen 8 = .ok (.if_icmp .le 7, 3) := by decide +kernel
theorem dX5_isOpen_11 : decode cX5_isOpen 11 = .ok (.iconst 1, 1) := by decide +kernel
theorem dX5_isOpen_12 : decode cX5_isOpen 12 = .ok (.goto 4, 3) := by decide +kernel
theorem dX5_isOpen_15 : decode cX5_isOpen 15 = .ok (.iconst 0, 1) := by decide +kernel
theorem dX5_isOpen_16 : decode cX5_isOpen 16 = .ok (.ireturn, 1) := by decide +kernel
theorem dX5_openOnes_0 : decode cX5_openOnes 0 = .ok (.iconst 0, 1) := by decide +kernel
theorem dX5_openOnes_1 : decode cX5_openOnes 1 = .ok (.istore_n 1, 1) := by decide +kernel
theorem dX5_openOnes_2 : decode cX5_openOnes 2 = .ok (.iconst 0, 1) := by decide +kernel
theorem dX5_openOnes_3 : decode cX5_openOnes 3 = .ok (.istore_n 2, 1) := by decide +kernel
theorem dX5_openOnes_4 : decode cX5_openOnes 4 = .ok (.iload_n 2, 1) := by decide +kernel
theorem dX5_openOnes_5 : decode cX5_openOnes 5 = .ok (.aload_n 0, 1) := by decide +kernel
theorem dX5_openOnes_6 : decode cX5_openOnes 6 = .ok (.getfield 36, 3) := by decide +kernel
theorem dX5_openOnes_9 : decode cX5_openOnes 9 = .ok (.if_icmp .ge 25, 3) := by decide +kernel
theorem dX5_openOnes_12 : decode cX5_openOnes 12 = .ok (.aload_n 0, 1) := by decide +kernel
theorem dX5_openOnes_13 : decode cX5_openOnes 13 = .ok (.aload_n 0, 1) := by decide +kernel
theorem dX5_openOnes_14 : decode cX5_openOnes 14 = .ok (.getfield 32, 3) := by decide +kernel
theorem dX5_openOnes_17 : decode cX5_openOnes 17 = .ok (.iload_n 2, 1) := by decide +kernel
theorem dX5_openOnes_18 : decode cX5_openOnes 18 = .ok (.aaload, 1) := by decide +kernel
theorem dX5_openOnes_19 : decode cX5_openOnes 19 = .ok (.invokevirtual 60, 3) := by decide +kernel
theorem dX5_openOnes_22 : decode cX5_openOnes 22 = .ok (.ifCond .eq 6, 3) := by decide +kernel
theorem dX5_openOnes_25 : decode cX5_openOnes 25 = .ok (.iinc 1 1, 3) := by decide +kernel
theorem dX5_openOnes_28 : decode cX5_openOnes 28 = .ok (.iinc 2 1, 3) := by decide +kernel
theorem dX5_openOnes_31 : decode cX5_openOnes 31 = .ok (.goto (-27), 3) := by decide +kernel
theorem dX5_openOnes_34 : decode cX5_openOnes 34 = .ok (.iload_n 1, 1) := by decide +kernel
theorem dX5_openOnes_35 : decode cX5_openOnes 35 = .ok (.ireturn, 1) := by decide +kernel
theorem dX5_allLooks_0 : decode cX5_allLooks 0 = .ok (.iconst 0, 1) := by decide +kernel
theorem dX5_allLooks_1 : decode cX5_allLooks 1 = .ok (.istore_n 1, 1) := by decide +kernel
theorem dX5_allLooks_2 : decode cX5_allLooks 2 = .ok (.iconst 0, 1) := by decide +kernel
theorem dX5_allLooks_3 : decode cX5_allLooks 3 = .ok (.istore_n 2, 1) := by decide +kernel
theorem dX5_allLooks_4 : decode cX5_allLooks 4 = .ok (.iload_n 2, 1) := by decide +kernel
theorem dX5_allLooks_5 : decode cX5_allLooks 5 = .ok (.aload_n 0, 1) := by decide +kernel
theorem dX5_allLooks_6 : decode cX5_allLooks 6 = .ok (.getfield 36, 3) := by decide +kernel
theorem dX5_allLooks_9 : decode cX5_allLooks 9 = .ok (.if_icmp .ge 21, 3) := by decide +kernel
theorem dX5_allLooks_12 : decode cX5_allLooks 12 = .ok (.iload_n 1, 1) := by decide +kernel
theorem dX5_allLooks_13 : decode cX5_allLooks 13 = .ok (.aload_n 0, 1) := by decide +kernel
theorem dX5_allLooks_14 : decode cX5_allLooks 14 = .ok (.getfield 32, 3) := by decide +kernel
theorem dX5_allLooks_17 : decode cX5_allLooks 17 = .ok (.iload_n 2, 1) := by decide +kernel
theorem dX5_allLooks_18 : decode cX5_allLooks 18 = .ok (.aaload, 1) := by decide +kernel
theorem dX5_allLooks_19 : decode cX5_allLooks 19 = .ok (.getfield 64, 3) := by decide +kernel
theorem dX5_allLooks_22 : decode cX5_allLooks 22 = .ok (.iadd, 1) := by decide +kernel
theorem dX5_allLooks_23 : decode cX5_allLooks 23 = .ok (.istore_n 1, 1) := by decide +kernel
theorem dX5_allLooks_24 : decode cX5_allLooks 24 = .ok (.iinc 2 1, 3) := by decide +kernel
theorem dX5_allLooks_27 : decode cX5_allLooks 27 = .ok (.goto (-23), 3) := by decide +kernel
theorem dX5_allLooks_30 : decode cX5_allLooks 30 = .ok (.iload_n 1, 1) := by decide +kernel
theorem dX5_allLooks_31 : decode cX5_allLooks 31 = .ok (.ireturn, 1) := by decide +kernel
theorem dX5_nextWarned_0 : decode cX5_nextWarned 0 = .ok (.iconst (-1), 1) := by decide +kernel
theorem dX5_nextWarned_1 : decode cX5_nextWarned 1 = .ok (.istore_n 1, 1) := by decide +kernel
theorem dX5_nextWarned_2 : decode cX5_nextWarned 2 = .ok (.iconst 0, 1) := by decide +kernel
theorem dX5_nextWarned_3 : decode cX5_nextWarned 3 = .ok (.istore_n 2, 1) := by decide +kernel
theorem dX5_nextWarned_4 : decode cX5_nextWarned 4 = .ok (.iload_n 2, 1) := by decide +kernel
theorem dX5_nextWarned_5 : decode cX5_nextWarned 5 = .ok (.aload_n 0, 1) := by decide +kernel
theorem dX5_nextWarned_6 : decode cX5_nextWarned 6 = .ok (.getfield 36, 3) := by decide +kernel
theorem dX5_nextWarned_9 : decode cX5_nextWarned 9 = .ok (.if_icmp .ge 38, 3) := by decide +kernel
theorem dX5_nextWarned_12 : decode cX5_nextWarned 12 = .ok (.aload_n 0, 1) := by decide +kernel
theorem dX5_nextWarned_13 : decode cX5_nextWarned 13 = .ok (.getfield 32, 3) := by decide +kernel
theorem dX5_nextWarned_16 : decode cX5_nextWarned 16 = .ok (.iload_n 2, 1) := by decide +kernel
theorem dX5_nextWarned_17 : decode cX5_nextWarned 17 = .ok (.aaload, 1) := by decide +kernel
theorem dX5_nextWarned_18 : decode cX5_nextWarned 18 = .ok (.getfield 57, 3) := by decide +kernel
theorem dX5_nextWarned_21 : decode cX5_nextWarned 21 = .ok (.istore_n 3, 1) := by decide +kernel
theorem dX5_nextWarned_22 : decode cX5_nextWarned 22 = .ok (.iload_n 3, 1) := by decide +kernel
theorem dX5_nextWarned_23 : decode cX5_nextWarned 23 = .ok (.aload_n 0, 1) := by decide +kernel
theorem dX5_nextWarned_24 : decode cX5_nextWarned 24 = .ok (.getfield 9, 3) := by decide +kernel
theorem dX5_nextWarned_27 : decode cX5_nextWarned 27 = .ok (.if_icmp .le 14, 3) := by decide +kernel
theorem dX5_nextWarned_30 : decode cX5_nextWarned 30 = .ok (.iload_n 1, 1) := by decide +kernel
theorem dX5_nextWarned_31 : decode cX5_nextWarned 31 = .ok (.ifCond .lt 8, 3) := by decide +kernel
theorem dX5_nextWarned_34 : decode cX5_nextWarned 34 = .ok (.iload_n 3, 1) := by decide +kernel
theorem dX5_nextWarned_35 : decode cX5_nextWarned 35 = .ok (.iload_n 1, 1) := by decide +kernel
theorem dX5_nextWarned_36 : decode cX5_nextWarned 36 = .ok (.if_icmp .ge 5, 3) := by decide +kernel
theorem dX5_nextWarned_39 : decode cX5_nextWarned 39 = .ok (.iload_n 3, 1) := by decide +kernel
theorem dX5_nextWarned_40 : decode cX5_nextWarned 40 = .ok (.istore_n 1, 1) := by decide +kernel
theorem dX5_nextWarned_41 : decode cX5_nextWarned 41 = .ok (.iinc 2 1, 3) := by decide +kernel
theorem dX5_nextWarned_44 : decode cX5_nextWarned 44 = .ok (.goto (-40), 3) := by decide +kernel
theorem dX5_nextWarned_47 : decode cX5_nextWarned 47 = .ok (.iload_n 1, 1) := by decide +kernel
theorem dX5_nextWarned_48 : decode cX5_nextWarned 48 = .ok (.ireturn, 1) := by decide +kernel
theorem dX5_dangerOn_0 : decode cX5_dangerOn 0 = .ok (.iconst 0, 1) := by decide +kernel
theorem dX5_dangerOn_1 : decode cX5_dangerOn 1 = .ok (.istore_n 3, 1) := by decide +kernel
theorem dX5_dangerOn_2 : decode cX5_dangerOn 2 = .ok (.iconst 0, 1) := by decide +kernel
theorem dX5_dangerOn_3 : decode cX5_dangerOn 3 = .ok (.istore 4, 2) := by decide +kernel
theorem dX5_dangerOn_5 : decode cX5_dangerOn 5 = .ok (.iload 4, 2) := by decide +kernel
theorem dX5_dangerOn_7 : decode cX5_dangerOn 7 = .ok (.aload_n 0, 1) := by decide +kernel
theorem dX5_dangerOn_8 : decode cX5_dangerOn 8 = .ok (.getfield 36, 3) := by decide +kernel
theorem dX5_dangerOn_11 : decode cX5_dangerOn 11 = .ok (.if_icmp .ge 37, 3) := by decide +kernel
theorem dX5_dangerOn_14 : decode cX5_dangerOn 14 = .ok (.aload_n 0, 1) := by decide +kernel
theorem dX5_dangerOn_15 : decode cX5_dangerOn 15 = .ok (.getfield 32, 3) := by decide +kernel
theorem dX5_dangerOn_18 : decode cX5_dangerOn 18 = .ok (.iload 4, 2) := by decide +kernel
theorem dX5_dangerOn_20 : decode cX5_dangerOn 20 = .ok (.aaload, 1) := by decide +kernel
theorem dX5_dangerOn_21 : decode cX5_dangerOn 21 = .ok (.getfield 57, 3) := by decide +kernel
theorem dX5_dangerOn_24 : decode cX5_dangerOn 24 = .ok (.iload_n 1, 1) := by decide +kernel
theorem dX5_dangerOn_25 : decode cX5_dangerOn 25 = .ok (.if_icmp .ne 17, 3) := by decide +kernel
theorem dX5_dangerOn_28 : decode cX5_dangerOn 28 = .ok (.iload_n 3, 1) := by decide +kernel
theorem dX5_dangerOn_29 : decode cX5_dangerOn 29 = .ok (.aload_n 0, 1) := by decide +kernel
theorem dX5_dangerOn_30 : decode cX5_dangerOn 30 = .ok (.getfield 32, 3) := by decide +kernel
theorem dX5_dangerOn_33 : decode cX5_dangerOn 33 = .ok (.iload 4, 2) := by decide +kernel
theorem dX5_dangerOn_35 : decode cX5_dangerOn 35 = .ok (.aaload, 1) := by decide +kernel
theorem dX5_dangerOn_36 : decode cX5_dangerOn 36 = .ok (.iload_n 2, 1) := by decide +kernel
theorem dX5_dangerOn_37 : decode cX5_dangerOn 37 = .ok (.invokevirtual 67, 3) := by decide +kernel
theorem dX5_dangerOn_40 : decode cX5_dangerOn 40 = .ok (.iadd, 1) := by decide +kernel
theorem dX5_dangerOn_41 : decode cX5_dangerOn 41 = .ok (.istore_n 3, 1) := by decide +kernel
theorem dX5_dangerOn_42 : decode cX5_dangerOn 42 = .ok (.iinc 4 1, 3) := by decide +kernel
theorem dX5_dangerOn_45 : decode cX5_dangerOn 45 = .ok (.goto (-40), 3) := by decide +kernel
theorem dX5_dangerOn_48 : decode cX5_dangerOn 48 = .ok (.iload_n 3, 1) := by decide +kernel
theorem dX5_dangerOn_49 : decode cX5_dangerOn 49 = .ok (.ldc 25, 2) := by decide +kernel
theorem dX5_dangerOn_51 : decode cX5_dangerOn 51 = .ok (.invokestatic 71, 3) := by decide +kernel
theorem dX5_dangerOn_54 : decode cX5_dangerOn 54 = .ok (.ireturn, 1) := by decide +kernel
theorem dX5_useAt_0 : decode cX5_useAt 0 = .ok (.aload_n 0, 1) := by decide +kernel
theorem dX5_useAt_1 : decode cX5_useAt 1 = .ok (.getfield 26, 3) := by decide +kernel
theorem dX5_useAt_4 : decode cX5_useAt 4 = .ok (.iconst 1, 1) := by decide +kernel
theorem dX5_useAt_5 : decode cX5_useAt 5 = .ok (.iaload, 1) := by decide +kernel
theorem dX5_useAt_6 : decode cX5_useAt 6 = .ok (.aload_n 0, 1) := by decide +kernel
theorem dX5_useAt_7 : decode cX5_useAt 7 = .ok (.getfield 26, 3) := by decide +kernel
theorem dX5_useAt_10 : decode cX5_useAt 10 = .ok (.iconst 2, 1) := by decide +kernel
theorem dX5_useAt_11 : decode cX5_useAt 11 = .ok (.iaload, 1) := by decide +kernel
theorem dX5_useAt_12 : decode cX5_useAt 12 = .ok (.iload_n 1, 1) := by decide +kernel
theorem dX5_useAt_13 : decode cX5_useAt 13 = .ok (.invokestatic 77, 3) := by decide +kernel
theorem dX5_useAt_16 : decode cX5_useAt 16 = .ok (.imul, 1) := by decide +kernel
theorem dX5_useAt_17 : decode cX5_useAt 17 = .ok (.isub, 1) := by decide +kernel
theorem dX5_useAt_18 : decode cX5_useAt 18 = .ok (.iconst 0, 1) := by decide +kernel
theorem dX5_useAt_19 : decode cX5_useAt 19 = .ok (.invokestatic 80, 3) := by decide +kernel
theorem dX5_useAt_22 : decode cX5_useAt 22 = .ok (.ireturn, 1) := by decide +kernel
theorem dX5_worthOf_0 : decode cX5_worthOf 0 = .ok (.aload_n 0, 1) := by decide +kernel
theorem dX5_worthOf_1 : decode cX5_worthOf 1 = .ok (.iload_n 2, 1) := by decide +kernel
theorem dX5_worthOf_2 : decode cX5_worthOf 2 = .ok (.invokevirtual 83, 3) := by decide +kernel
theorem dX5_worthOf_5 : decode cX5_worthOf 5 = .ok (.i2l, 1) := by decide +kernel
theorem dX5_worthOf_6 : decode cX5_worthOf 6 = .ok (.aload_n 0, 1) := by decide +kernel
theorem dX5_worthOf_7 : decode cX5_worthOf 7 = .ok (.getfield 26, 3) := by decide +kernel
theorem dX5_worthOf_10 : decode cX5_worthOf 10 = .ok (.iconst 3, 1) := by decide +kernel
theorem dX5_worthOf_11 : decode cX5_worthOf 11 = .ok (.iaload, 1) := by decide +kernel
theorem dX5_worthOf_12 : decode cX5_worthOf 12 = .ok (.i2l, 1) := by decide +kernel
theorem dX5_worthOf_13 : decode cX5_worthOf 13 = .ok (.aload_n 0, 1) := by decide +kernel
theorem dX5_worthOf_14 : decode cX5_worthOf 14 = .ok (.iload_n 1, 1) := by decide +kernel
theorem dX5_worthOf_15 : decode cX5_worthOf 15 = .ok (.iload_n 2, 1) := by decide +kernel
theorem dX5_worthOf_16 : decode cX5_worthOf 16 = .ok (.invokevirtual 86, 3) := by decide +kernel
theorem dX5_worthOf_19 : decode cX5_worthOf 19 = .ok (.i2l, 1) := by decide +kernel
theorem dX5_worthOf_20 : decode cX5_worthOf 20 = .ok (.lmul, 1) := by decide +kernel
theorem dX5_worthOf_21 : decode cX5_worthOf 21 = .ok (.ldc2_w 89, 3) := by decide +kernel
theorem dX5_worthOf_24 : decode cX5_worthOf 24 = .ok (.ldiv, 1) := by decide +kernel
theorem dX5_worthOf_25 : decode cX5_worthOf 25 = .ok (.lsub, 1) := by decide +kernel
theorem dX5_worthOf_26 : decode cX5_worthOf 26 = .ok (.lreturn, 1) := by decide +kernel
theorem dX5_canShift_0 : decode cX5_canShift 0 = .ok (.iload_n 1, 1) := by decide +kernel
theorem dX5_canShift_1 : decode cX5_canShift 1 = .ok (.ifCond .ne 5, 3) := by decide +kernel
theorem dX5_canShift_4 : decode cX5_canShift 4 = .ok (.iconst 1, 1) := by decide +kernel
theorem dX5_canShift_5 : decode cX5_canShift 5 = .ok (.ireturn, 1) := by decide +kernel
theorem dX5_canShift_6 : decode cX5_canShift 6 = .ok (.aload_n 0, 1) := by decide +kernel
theorem dX5_canShift_7 : decode cX5_canShift 7 = .ok (.getfield 26, 3) := by decide +kernel
theorem dX5_canShift_10 : decode cX5_canShift 10 = .ok (.iconst 5, 1) := by decide +kernel
theorem dX5_canShift_11 : decode cX5_canShift 11 = .ok (.iaload, 1) := by decide +kernel
theorem dX5_canShift_12 : decode cX5_canShift 12 = .ok (.aload_n 0, 1) := by decide +kernel
theorem dX5_canShift_13 : decode cX5_canShift 13 = .ok (.getfield 26, 3) := by decide +kernel
theorem dX5_canShift_16 : decode cX5_canShift 16 = .ok (.iconst 0, 1) := by decide +kernel
theorem dX5_canShift_17 : decode cX5_canShift 17 = .ok (.iaload, 1) := by decide +kernel
theorem dX5_canShift_18 : decode cX5_canShift 18 = .ok (.iload_n 1, 1) := by decide +kernel
theorem dX5_canShift_19 : decode cX5_canShift 19 = .ok (.invokestatic 77, 3) := by decide +kernel
theorem dX5_canShift_22 : decode cX5_canShift 22 = .ok (.imul, 1) := by decide +kernel
theorem dX5_canShift_23 : decode cX5_canShift 23 = .ok (.isub, 1) := by decide +kernel
theorem dX5_canShift_24 : decode cX5_canShift 24 = .ok (.istore_n 2, 1) := by decide +kernel
theorem dX5_canShift_25 : decode cX5_canShift 25 = .ok (.aload_n 0, 1) := by decide +kernel
theorem dX5_canShift_26 : decode cX5_canShift 26 = .ok (.getfield 15, 3) := by decide +kernel
theorem dX5_canShift_29 : decode cX5_canShift 29 = .ok (.iload_n 1, 1) := by decide +kernel
theorem dX5_canShift_30 : decode cX5_canShift 30 = .ok (.iadd, 1) := by decide +kernel
theorem dX5_canShift_31 : decode cX5_canShift 31 = .ok (.invokestatic 77, 3) := by decide +kernel
theorem dX5_canShift_34 : decode cX5_canShift 34 = .ok (.bipush 12, 2) := by decide +kernel
theorem dX5_canShift_36 : decode cX5_canShift 36 = .ok (.if_icmp .gt 17, 3) := by decide +kernel
theorem dX5_canShift_39 : decode cX5_canShift 39 = .ok (.iload_n 2, 1) := by decide +kernel
theorem dX5_canShift_40 : decode cX5_canShift 40 = .ok (.aload_n 0, 1) := by decide +kernel
theorem dX5_canShift_41 : decode cX5_canShift 41 = .ok (.getfield 26, 3) := by decide +kernel
theorem dX5_canShift_44 : decode cX5_canShift 44 = .ok (.iconst 4, 1) := by decide +kernel
theorem dX5_canShift_45 : decode cX5_canShift 45 = .ok (.iaload, 1) := by decide +kernel
theorem dX5_canShift_46 : decode cX5_canShift 46 = .ok (.if_icmp .lt 7, 3) := by decide +kernel
theorem dX5_canShift_49 : decode cX5_canShift 49 = .ok (.iconst 1, 1) := by decide +kernel
theorem dX5_canShift_50 : decode cX5_canShift 50 = .ok (.goto 4, 3) := by decide +kernel
theorem dX5_canShift_53 : decode cX5_canShift 53 = .ok (.iconst 0, 1) := by decide +kernel
theorem dX5_canShift_54 : decode cX5_canShift 54 = .ok (.ireturn, 1) := by decide +kernel
theorem dX5_shift_0 : decode cX5_shift 0 = .ok (.aload_n 0, 1) := by decide +kernel
theorem dX5_shift_1 : decode cX5_shift 1 = .ok (.dup, 1) := by decide +kernel
theorem dX5_shift_2 : decode cX5_shift 2 = .ok (.getfield 15, 3) := by decide +kernel
theorem dX5_shift_5 : decode cX5_shift 5 = .ok (.iload_n 1, 1) := by decide +kernel
theorem dX5_shift_6 : decode cX5_shift 6 = .ok (.iadd, 1) := by decide +kernel
theorem dX5_shift_7 : decode cX5_shift 7 = .ok (.putfield 15, 3) := by decide +kernel
theorem dX5_shift_10 : decode cX5_shift 10 = .ok (.aload_n 0, 1) := by decide +kernel
theorem dX5_shift_11 : decode cX5_shift 11 = .ok (.getfield 26, 3) := by decide +kernel
theorem dX5_shift_14 : decode cX5_shift 14 = .ok (.iconst 5, 1) := by decide +kernel
theorem dX5_shift_15 : decode cX5_shift 15 = .ok (.dup2, 1) := by decide +kernel
theorem dX5_shift_16 : decode cX5_shift 16 = .ok (.iaload, 1) := by decide +kernel
theorem dX5_shift_17 : decode cX5_shift 17 = .ok (.aload_n 0, 1) := by decide +kernel
theorem dX5_shift_18 : decode cX5_shift 18 = .ok (.getfield 26, 3) := by decide +kernel
theorem dX5_shift_21 : decode cX5_shift 21 = .ok (.iconst 0, 1) := by decide +kernel
theorem dX5_shift_22 : decode cX5_shift 22 = .ok (.iaload, 1) := by decide +kernel
theorem dX5_shift_23 : decode cX5_shift 23 = .ok (.iload_n 1, 1) := by decide +kernel
theorem dX5_shift_24 : decode cX5_shift 24 = .ok (.invokestatic 77, 3) := by decide +kernel
theorem dX5_shift_27 : decode cX5_shift 27 = .ok (.imul, 1) := by decide +kernel
theorem dX5_shift_28 : decode cX5_shift 28 = .ok (.isub, 1) := by decide +kernel
theorem dX5_shift_29 : decode cX5_shift 29 = .ok (.iastore, 1) := by decide +kernel
theorem dX5_shift_30 : decode cX5_shift 30 = .ok (.return_, 1) := by decide +kernel
theorem dX5_stepsLeft_0 : decode cX5_stepsLeft 0 = .ok (.aload_n 0, 1) := by decide +kernel
theorem dX5_stepsLeft_1 : decode cX5_stepsLeft 1 = .ok (.getfield 26, 3) := by decide +kernel
theorem dX5_stepsLeft_4 : decode cX5_stepsLeft 4 = .ok (.iconst 5, 1) := by decide +kernel
theorem dX5_stepsLeft_5 : decode cX5_stepsLeft 5 = .ok (.iaload, 1) := by decide +kernel
theorem dX5_stepsLeft_6 : decode cX5_stepsLeft 6 = .ok (.aload_n 0, 1) := by decide +kernel
theorem dX5_stepsLeft_7 : decode cX5_stepsLeft 7 = .ok (.getfield 26, 3) := by decide +kernel
theorem dX5_stepsLeft_10 : decode cX5_stepsLeft 10 = .ok (.iconst 4, 1) := by decide +kernel
theorem dX5_stepsLeft_11 : decode cX5_stepsLeft 11 = .ok (.iaload, 1) := by decide +kernel
theorem dX5_stepsLeft_12 : decode cX5_stepsLeft 12 = .ok (.isub, 1) := by decide +kernel
theorem dX5_stepsLeft_13 : decode cX5_stepsLeft 13 = .ok (.istore_n 1, 1) := by decide +kernel
theorem dX5_stepsLeft_14 : decode cX5_stepsLeft 14 = .ok (.aload_n 0, 1) := by decide +kernel
theorem dX5_stepsLeft_15 : decode cX5_stepsLeft 15 = .ok (.getfield 26, 3) := by decide +kernel
theorem dX5_stepsLeft_18 : decode cX5_stepsLeft 18 = .ok (.iconst 0, 1) := by decide +kernel
theorem dX5_stepsLeft_19 : decode cX5_stepsLeft 19 = .ok (.iaload, 1) := by decide +kernel
theorem dX5_stepsLeft_20 : decode cX5_stepsLeft 20 = .ok (.iconst 1, 1) := by decide +kernel
theorem dX5_stepsLeft_21 : decode cX5_stepsLeft 21 = .ok (.if_icmp .lt 7, 3) := by decide +kernel
theorem dX5_stepsLeft_24 : decode cX5_stepsLeft 24 = .ok (.iload_n 1, 1) := by decide +kernel
theorem dX5_stepsLeft_25 : decode cX5_stepsLeft 25 = .ok (.ifCond .ge 7, 3) := by decide +kernel
theorem dX5_stepsLeft_28 : decode cX5_stepsLeft 28 = .ok (.iconst 0, 1) := by decide +kernel
theorem dX5_stepsLeft_29 : decode cX5_stepsLeft 29 = .ok (.goto 11, 3) := by decide +kernel
theorem dX5_stepsLeft_32 : decode cX5_stepsLeft 32 = .ok (.iload_n 1, 1) := by decide +kernel
theorem dX5_stepsLeft_33 : decode cX5_stepsLeft 33 = .ok (.aload_n 0, 1) := by decide +kernel
theorem dX5_stepsLeft_34 : decode cX5_stepsLeft 34 = .ok (.getfield 26, 3) := by decide +kernel
theorem dX5_stepsLeft_37 : decode cX5_stepsLeft 37 = .ok (.iconst 0, 1) := by decide +kernel
theorem dX5_stepsLeft_38 : decode cX5_stepsLeft 38 = .ok (.iaload, 1) := by decide +kernel
theorem dX5_stepsLeft_39 : decode cX5_stepsLeft 39 = .ok (.idiv, 1) := by decide +kernel
theorem dX5_stepsLeft_40 : decode cX5_stepsLeft 40 = .ok (.ireturn, 1) := by decide +kernel
theorem dX5_endDay_0 : decode cX5_endDay 0 = .ok (.aload_n 0, 1) := by decide +kernel
theorem dX5_endDay_1 : decode cX5_endDay 1 = .ok (.dup, 1) := by decide +kernel
theorem dX5_endDay_2 : decode cX5_endDay 2 = .ok (.getfield 9, 3) := by decide +kernel
theorem dX5_endDay_5 : decode cX5_endDay 5 = .ok (.iconst 1, 1) := by decide +kernel
theorem dX5_endDay_6 : decode cX5_endDay 6 = .ok (.iadd, 1) := by decide +kernel
theorem dX5_endDay_7 : decode cX5_endDay 7 = .ok (.putfield 9, 3) := by decide +kernel
theorem dX5_endDay_10 : decode cX5_endDay 10 = .ok (.aload_n 0, 1) := by decide +kernel
theorem dX5_endDay_11 : decode cX5_endDay 11 = .ok (.dup, 1) := by decide +kernel
theorem dX5_endDay_12 : decode cX5_endDay 12 = .ok (.getfield 18, 3) := by decide +kernel
theorem dX5_endDay_15 : decode cX5_endDay 15 = .ok (.aload_n 0, 1) := by decide +kernel
theorem dX5_endDay_16 : decode cX5_endDay 16 = .ok (.aload_n 0, 1) := by decide +kernel
theorem dX5_endDay_17 : decode cX5_endDay 17 = .ok (.getfield 15, 3) := by decide +kernel
theorem dX5_endDay_20 : decode cX5_endDay 20 = .ok (.invokevirtual 83, 3) := by decide +kernel
theorem dX5_endDay_23 : decode cX5_endDay 23 = .ok (.i2l, 1) := by decide +kernel
theorem dX5_endDay_24 : decode cX5_endDay 24 = .ok (.ladd, 1) := by decide +kernel
theorem dX5_endDay_25 : decode cX5_endDay 25 = .ok (.putfield 18, 3) := by decide +kernel
theorem dX5_endDay_28 : decode cX5_endDay 28 = .ok (.aload_n 0, 1) := by decide +kernel
theorem dX5_endDay_29 : decode cX5_endDay 29 = .ok (.dup, 1) := by decide +kernel
theorem dX5_endDay_30 : decode cX5_endDay 30 = .ok (.getfield 22, 3) := by decide +kernel
theorem dX5_endDay_33 : decode cX5_endDay 33 = .ok (.aload_n 0, 1) := by decide +kernel
theorem dX5_endDay_34 : decode cX5_endDay 34 = .ok (.aload_n 0, 1) := by decide +kernel
theorem dX5_endDay_35 : decode cX5_endDay 35 = .ok (.getfield 9, 3) := by decide +kernel
theorem dX5_endDay_38 : decode cX5_endDay 38 = .ok (.aload_n 0, 1) := by decide +kernel
theorem dX5_endDay_39 : decode cX5_endDay 39 = .ok (.getfield 15, 3) := by decide +kernel
theorem dX5_endDay_42 : decode cX5_endDay 42 = .ok (.invokevirtual 86, 3) := by decide +kernel
theorem dX5_endDay_45 : decode cX5_endDay 45 = .ok (.i2l, 1) := by decide +kernel
theorem dX5_endDay_46 : decode cX5_endDay 46 = .ok (.ladd, 1) := by decide +kernel
theorem dX5_endDay_47 : decode cX5_endDay 47 = .ok (.putfield 22, 3) := by decide +kernel
theorem dX5_endDay_50 : decode cX5_endDay 50 = .ok (.return_, 1) := by decide +kernel
theorem dX5_moveBy_0 : decode cX5_moveBy 0 = .ok (.bipush (-24), 2) := by decide +kernel
theorem dX5_moveBy_2 : decode cX5_moveBy 2 = .ok (.bipush 24, 2) := by decide +kernel
theorem dX5_moveBy_4 : decode cX5_moveBy 4 = .ok (.aload_n 1, 1) := by decide +kernel
theorem dX5_moveBy_5 : decode cX5_moveBy 5 = .ok (.aload_n 0, 1) := by decide +kernel
theorem dX5_moveBy_6 : decode cX5_moveBy 6 = .ok (.invokevirtual 91, 3) := by decide +kernel
theorem dX5_moveBy_9 : decode cX5_moveBy 9 = .ok (.invokestatic 71, 3) := by decide +kernel
theorem dX5_moveBy_12 : decode cX5_moveBy 12 = .ok (.invokestatic 80, 3) := by decide +kernel
theorem dX5_moveBy_15 : decode cX5_moveBy 15 = .ok (.istore_n 2, 1) := by decide +kernel
theorem dX5_moveBy_16 : decode cX5_moveBy 16 = .ok (.iload_n 2, 1) := by decide +kernel
theorem dX5_moveBy_17 : decode cX5_moveBy 17 = .ok (.ifCond .ge 7, 3) := by decide +kernel
theorem dX5_moveBy_20 : decode cX5_moveBy 20 = .ok (.iconst (-1), 1) := by decide +kernel
theorem dX5_moveBy_21 : decode cX5_moveBy 21 = .ok (.goto 4, 3) := by decide +kernel
theorem dX5_moveBy_24 : decode cX5_moveBy 24 = .ok (.iconst 1, 1) := by decide +kernel
theorem dX5_moveBy_25 : decode cX5_moveBy 25 = .ok (.istore_n 3, 1) := by decide +kernel
theorem dX5_moveBy_26 : decode cX5_moveBy 26 = .ok (.iload_n 2, 1) := by decide +kernel
theorem dX5_moveBy_27 : decode cX5_moveBy 27 = .ok (.iload_n 3, 1) := by decide +kernel
theorem dX5_moveBy_28 : decode cX5_moveBy 28 = .ok (.imul, 1) := by decide +kernel
theorem dX5_moveBy_29 : decode cX5_moveBy 29 = .ok (.istore 4, 2) := by decide +kernel
theorem dX5_moveBy_31 : decode cX5_moveBy 31 = .ok (.iload 4, 2) := by decide +kernel
theorem dX5_moveBy_33 : decode cX5_moveBy 33 = .ok (.ifCond .le 20, 3) := by decide +kernel
theorem dX5_moveBy_36 : decode cX5_moveBy 36 = .ok (.aload_n 0, 1) := by decide +kernel
theorem dX5_moveBy_37 : decode cX5_moveBy 37 = .ok (.iload_n 3, 1) := by decide +kernel
theorem dX5_moveBy_38 : decode cX5_moveBy 38 = .ok (.iload 4, 2) := by decide +kernel
theorem dX5_moveBy_40 : decode cX5_moveBy 40 = .ok (.imul, 1) := by decide +kernel
theorem dX5_moveBy_41 : decode cX5_moveBy 41 = .ok (.invokevirtual 97, 3) := by decide +kernel
theorem dX5_moveBy_44 : decode cX5_moveBy 44 = .ok (.ifCond .ne 9, 3) := by decide +kernel
theorem dX5_moveBy_47 : decode cX5_moveBy 47 = .ok (.iinc 4 (-1), 3) := by decide +kernel
theorem dX5_moveBy_50 : decode cX5_moveBy 50 = .ok (.goto (-19), 3) := by decide +kernel
theorem dX5_moveBy_53 : decode cX5_moveBy 53 = .ok (.iload_n 3, 1) := by decide +kernel
theorem dX5_moveBy_54 : decode cX5_moveBy 54 = .ok (.iload 4, 2) := by decide +kernel
theorem dX5_moveBy_56 : decode cX5_moveBy 56 = .ok (.imul, 1) := by decide +kernel
theorem dX5_moveBy_57 : decode cX5_moveBy 57 = .ok (.ireturn, 1) := by decide +kernel
theorem dJ9_abs_0f7a4_0 : decode cJ9_abs_0f7a4 0 = .ok (.iload_n 0, 1) := by decide +kernel
theorem dJ9_abs_0f7a4_1 : decode cJ9_abs_0f7a4 1 = .ok (.ifCond .ge 8, 3) := by decide +kernel
theorem dJ9_abs_0f7a4_4 : decode cJ9_abs_0f7a4 4 = .ok (.iload_n 0, 1) := by decide +kernel
theorem dJ9_abs_0f7a4_5 : decode cJ9_abs_0f7a4 5 = .ok (.ineg, 1) := by decide +kernel
theorem dJ9_abs_0f7a4_6 : decode cJ9_abs_0f7a4 6 = .ok (.goto 4, 3) := by decide +kernel
theorem dJ9_abs_0f7a4_9 : decode cJ9_abs_0f7a4 9 = .ok (.iload_n 0, 1) := by decide +kernel
theorem dJ9_abs_0f7a4_10 : decode cJ9_abs_0f7a4 10 = .ok (.ireturn, 1) := by decide +kernel
theorem dJ9_max_7cf53_0 : decode cJ9_max_7cf53 0 = .ok (.iload_n 0, 1) := by decide +kernel
theorem dJ9_max_7cf53_1 : decode cJ9_max_7cf53 1 = .ok (.iload_n 1, 1) := by decide +kernel
theorem dJ9_max_7cf53_2 : decode cJ9_max_7cf53 2 = .ok (.if_icmp .lt 7, 3) := by decide +kernel
theorem dJ9_max_7cf53_5 : decode cJ9_max_7cf53 5 = .ok (.iload_n 0, 1) := by decide +kernel
theorem dJ9_max_7cf53_6 : decode cJ9_max_7cf53 6 = .ok (.goto 4, 3) := by decide +kernel
theorem dJ9_max_7cf53_9 : decode cJ9_max_7cf53 9 = .ok (.iload_n 1, 1) := by decide +kernel
theorem dJ9_max_7cf53_10 : decode cJ9_max_7cf53 10 = .ok (.ireturn, 1) := by decide +kernel
theorem dJ9_max_f86c9_0 : decode cJ9_max_f86c9 0 = .ok (.lload_n 0, 1) := by decide +kernel
theorem dJ9_max_f86c9_1 : decode cJ9_max_f86c9 1 = .ok (.lload_n 2, 1) := by decide +kernel
theorem dJ9_max_f86c9_2 : decode cJ9_max_f86c9 2 = .ok (.lcmp, 1) := by decide +kernel
theorem dJ9_max_f86c9_3 : decode cJ9_max_f86c9 3 = .ok (.ifCond .lt 7, 3) := by decide +kernel
theorem dJ9_max_f86c9_6 : decode cJ9_max_f86c9 6 = .ok (.lload_n 0, 1) := by decide +kernel
theorem dJ9_max_f86c9_7 : decode cJ9_max_f86c9 7 = .ok (.goto 4, 3) := by decide +kernel
theorem dJ9_max_f86c9_10 : decode cJ9_max_f86c9 10 = .ok (.lload_n 2, 1) := by decide +kernel
theorem dJ9_max_f86c9_11 : decode cJ9_max_f86c9 11 = .ok (.lreturn, 1) := by decide +kernel
theorem dJ9_min_7cf53_0 : decode cJ9_min_7cf53 0 = .ok (.iload_n 0, 1) := by decide +kernel
theorem dJ9_min_7cf53_1 : decode cJ9_min_7cf53 1 = .ok (.iload_n 1, 1) := by decide +kernel
theorem dJ9_min_7cf53_2 : decode cJ9_min_7cf53 2 = .ok (.if_icmp .gt 7, 3) := by decide +kernel
theorem dJ9_min_7cf53_5 : decode cJ9_min_7cf53 5 = .ok (.iload_n 0, 1) := by decide +kernel
theorem dJ9_min_7cf53_6 : decode cJ9_min_7cf53 6 = .ok (.goto 4, 3) := by decide +kernel
theorem dJ9_min_7cf53_9 : decode cJ9_min_7cf53 9 = .ok (.iload_n 1, 1) := by decide +kernel
theorem dJ9_min_7cf53_10 : decode cJ9_min_7cf53 10 = .ok (.ireturn, 1) := by decide +kernel
