theorem dX6_init_0 : decode cX6_init 0 = .ok (.aload_n 0, 1) := by decide +kernel
theorem dX6_init_1 : decode cX6_init 1 = .ok (.invokespecial 1, 3) := by decide +kernel
theorem dX6_init_4 : decode cX6_init 4 = .ok (.aload_n 0, 1) := by decide +kernel
theorem dX6_init_5 : decode cX6_init 5 = .ok (.new 7, 3) := by decide +kernel
theorem dX6_init_8 : decode cX6_init 8 = .ok (.dup, 1) := by decide +kernel
theorem dX6_init_9 : decode cX6_init 9 = .ok (.invokespecial 9, 3) := by decide +kernel
theorem dX6_init_12 : decode cX6_init 12 = .ok (.putfield 10, 3) := by decide +kernel
theorem dX6_init_15 : decode cX6_init 15 = .ok (.aload_n 0, 1) := by decide +kernel
theorem dX6_init_16 : decode cX6_init 16 = .ok (.new 7, 3) := by decide +kernel
theorem dX6_init_19 : decode cX6_init 19 = .ok (.dup, 1) := by decide +kernel
theorem dX6_init_20 : decode cX6_init 20 = .ok (.invokespecial 9, 3) := by decide +kernel
theorem dX6_init_23 : decode cX6_init 23 = .ok (.putfield 16, 3) := by decide +kernel
theorem dX6_init_26 : decode cX6_init 26 = .ok (.aload_n 0, 1) := by decide +kernel
theorem dX6_init_27 : decode cX6_init 27 = .ok (.new 7, 3) := by decide +kernel
theorem dX6_init_30 : decode cX6_init 30 = .ok (.dup, 1) := by decide +kernel
theorem dX6_init_31 : decode cX6_init 31 = .ok (.invokespecial 9, 3) := by decide +kernel
theorem dX6_init_34 : decode cX6_init 34 = .ok (.putfield 19, 3) := by decide +kernel
theorem dX6_init_37 : decode cX6_init 37 = .ok (.aload_n 0, 1) := by decide +kernel
theorem dX6_init_38 : decode cX6_init 38 = .ok (.iconst 0, 1) := by decide +kernel
theorem dX6_init_39 : decode cX6_init 39 = .ok (.putfield 22, 3) := by decide +kernel
theorem dX6_init_42 : decode cX6_init 42 = .ok (.aload_n 0, 1) := by decide +kernel
theorem dX6_init_43 : decode cX6_init 43 = .ok (.bipush 60, 2) := by decide +kernel
theorem dX6_init_45 : decode cX6_init 45 = .ok (.newarray .byte, 2) := by decide +kernel
theorem dX6_init_47 : decode cX6_init 47 = .ok (.putfield 26, 3) := by decide +kernel
theorem dX6_init_50 : decode cX6_init 50 = .ok (.aload_n 0, 1) := by decide +kernel
theorem dX6_init_51 : decode cX6_init 51 = .ok (.iconst 0, 1) := by decide +kernel
theorem dX6_init_52 : decode cX6_init 52 = .ok (.putfield 30, 3) := by decide +kernel
theorem dX6_init_55 : decode cX6_init 55 = .ok (.aload_n 0, 1) := by decide +kernel
theorem dX6_init_56 : decode cX6_init 56 = .ok (.iconst 4, 1) := by decide +kernel
theorem dX6_init_57 : decode cX6_init 57 = .ok (.anewarray 34, 3) := by decide +kernel
theorem dX6_init_60 : decode cX6_init 60 = .ok (.putfield 36, 3) := by decide +kernel
theorem dX6_init_63 : decode cX6_init 63 = .ok (.aload_n 0, 1) := by decide +kernel
theorem dX6_init_64 : decode cX6_init 64 = .ok (.bipush 7, 2) := by decide +kernel
theorem dX6_init_66 : decode cX6_init 66 = .ok (.newarray .int, 2) := by decide +kernel
theorem dX6_init_68 : decode cX6_init 68 = .ok (.putfield 40, 3) := by decide +kernel
theorem dX6_init_71 : decode cX6_init 71 = .ok (.aload_n 0, 1) := by decide +kernel
theorem dX6_init_72 : decode cX6_init 72 = .ok (.new 44, 3) := by decide +kernel
theorem dX6_init_75 : decode cX6_init 75 = .ok (.dup, 1) := by decide +kernel
theorem dX6_init_76 : decode cX6_init 76 = .ok (.invokespecial 46, 3) := by decide +kernel
theorem dX6_init_79 : decode cX6_init 79 = .ok (.putfield 47, 3) := by decide +kernel
theorem dX6_init_82 : decode cX6_init 82 = .ok (.aload_n 0, 1) := by decide +kernel
theorem dX6_init_83 : decode cX6_init 83 = .ok (.new 51, 3) := by decide +kernel
theorem dX6_init_86 : decode cX6_init 86 = .ok (.dup, 1) := by decide +kernel
theorem dX6_init_87 : decode cX6_init 87 = .ok (.invokespecial 53, 3) := by decide +kernel
theorem dX6_init_90 : decode cX6_init 90 = .ok (.putfield 54, 3) := by decide +kernel
theorem dX6_init_93 : decode cX6_init 93 = .ok (.aload_n 0, 1) := by decide +kernel
theorem dX6_init_94 : decode cX6_init 94 = .ok (.new 58, 3) := by decide +kernel
theorem dX6_init_97 : decode cX6_init 97 = .ok (.dup, 1) := by decide +kernel
theorem dX6_init_98 : decode cX6_init 98 = .ok (.invokespecial 60, 3) := by decide +kernel
theorem dX6_init_101 : decode cX6_init 101 = .ok (.putfield 61, 3) := by decide +kernel
theorem dX6_init_104 : decode cX6_init 104 = .ok (.aload_n 0, 1) := by decide +kernel
theorem dX6_init_105 : decode cX6_init 105 = .ok (.bipush 100, 2) := by decide +kernel
theorem dX6_init_107 : decode cX6_init 107 = .ok (.newarray .int, 2) := by decide +kernel
theorem dX6_init_109 : decode cX6_init 109 = .ok (.putfield 65, 3) := by decide +kernel
theorem dX6_init_112 : decode cX6_init 112 = .ok (.iconst 0, 1) := by decide +kernel
theorem dX6_init_113 : decode cX6_init 113 = .ok (.istore_n 1, 1) := by decide +kernel
theorem dX6_init_114 : decode cX6_init 114 = .ok (.iload_n 1, 1) := by decide +kernel
theorem dX6_init_115 : decode cX6_init 115 = .ok (.iconst 4, 1) := by decide +kernel
theorem dX6_init_116 : decode cX6_init 116 = .ok (.if_icmp .ge 22, 3) := by decide +kernel
theorem dX6_init_119 : decode cX6_init 119 = .ok (.aload_n 0, 1) := by decide +kernel
theorem dX6_init_120 : decode cX6_init 120 = .ok (.getfield 36, 3) := by decide +kernel
theorem dX6_init_123 : decode cX6_init 123 = .ok (.iload_n 1, 1) := by decide +kernel
theorem dX6_init_124 : decode cX6_init 124 = .ok (.new 34, 3) := by decide +kernel
theorem dX6_init_127 : decode cX6_init 127 = .ok (.dup, 1) := by decide +kernel
theorem dX6_init_128 : decode cX6_init 128 = .ok (.invokespecial 68, 3) := by decide +kernel
theorem dX6_init_131 : decode cX6_init 131 = .ok (.aastore, 1) := by decide +kernel
theorem dX6_init_132 : decode cX6_init 132 = .ok (.iinc 1 1, 3) := by decide +kernel
theorem dX6_init_135 : decode cX6_init 135 = .ok (.goto (-21), 3) := by decide +kernel
theorem dX6_init_138 : decode cX6_init 138 = .ok (.return_, 1) := by decide +kernel
theorem dX6_plan_0 : decode cX6_plan 0 = .ok (.iload_n 1, 1) := by decide +kernel
theorem dX6_plan_1 : decode cX6_plan 1 = .ok (.iconst 0, 1) := by decide +kernel
theorem dX6_plan_2 : decode cX6_plan 2 = .ok (.iconst 5, 1) := by decide +kernel
theorem dX6_plan_3 : decode cX6_plan 3 = .ok (.invokestatic 69, 3) := by decide +kernel
theorem dX6_plan_6 : decode cX6_plan 6 = .ok (.ifCond .ne 20, 3) := by decide +kernel
theorem dX6_plan_9 : decode cX6_plan 9 = .ok (.iload_n 2, 1) := by decide +kernel
theorem dX6_plan_10 : decode cX6_plan 10 = .ok (.getstatic 73, 3) := by decide +kernel
theorem dX6_plan_13 : decode cX6_plan 13 = .ok (.iload_n 1, 1) := by decide +kernel
theorem dX6_plan_14 : decode cX6_plan 14 = .ok (.iaload, 1) := by decide +kernel
theorem dX6_plan_15 : decode cX6_plan 15 = .ok (.getstatic 76, 3) := by decide +kernel
theorem dX6_plan_18 : decode cX6_plan 18 = .ok (.iload_n 1, 1) := by decide +kernel
theorem dX6_plan_19 : decode cX6_plan 19 = .ok (.iaload, 1) := by decide +kernel
theorem dX6_plan_20 : decode cX6_plan 20 = .ok (.invokestatic 69, 3) := by decide +kernel
theorem dX6_plan_23 : decode cX6_plan 23 = .ok (.ifCond .eq 10, 3) := by decide +kernel
theorem dX6_plan_26 : decode cX6_plan 26 = .ok (.aload_n 0, 1) := by decide +kernel
theorem dX6_plan_27 : decode cX6_plan 27 = .ok (.ldc 79, 2) := by decide +kernel
theorem dX6_plan_29 : decode cX6_plan 29 = .ok (.invokevirtual 80, 3) := by decide +kernel
theorem dX6_plan_32 : decode cX6_plan 32 = .ok (.ireturn, 1) := by decide +kernel
theorem dX6_plan_33 : decode cX6_plan 33 = .ok (.aload_n 0, 1) := by decide +kernel
theorem dX6_plan_34 : decode cX6_plan 34 = .ok (.getfield 10, 3) := by decide +kernel
theorem dX6_plan_37 : decode cX6_plan 37 = .ok (.getfield 84, 3) := by decide +kernel
theorem dX6_plan_40 : decode cX6_plan 40 = .ok (.iload_n 1, 1) := by decide +kernel
theorem dX6_plan_41 : decode cX6_plan 41 = .ok (.iaload, 1) := by decide +kernel
theorem dX6_plan_42 : decode cX6_plan 42 = .ok (.istore_n 3, 1) := by decide +kernel
theorem dX6_plan_43 : decode cX6_plan 43 = .ok (.aload_n 0, 1) := by decide +kernel
theorem dX6_plan_44 : decode cX6_plan 44 = .ok (.getfield 10, 3) := by decide +kernel
theorem dX6_plan_47 : decode cX6_plan 47 = .ok (.getfield 84, 3) := by decide +kernel
theorem dX6_plan_50 : decode cX6_plan 50 = .ok (.iload_n 1, 1) := by decide +kernel
theorem dX6_plan_51 : decode cX6_plan 51 = .ok (.iload_n 2, 1) := by decide +kernel
theorem dX6_plan_52 : decode cX6_plan 52 = .ok (.iastore, 1) := by decide +kernel
theorem dX6_plan_53 : decode cX6_plan 53 = .ok (.iload_n 3, 1) := by decide +kernel
theorem dX6_plan_54 : decode cX6_plan 54 = .ok (.ireturn, 1) := by decide +kernel
theorem dX6_move_0 : decode cX6_move 0 = .ok (.iload_n 1, 1) := by decide +kernel
theorem dX6_move_1 : decode cX6_move 1 = .ok (.invokestatic 87, 3) := by decide +kernel
theorem dX6_move_4 : decode cX6_move 4 = .ok (.ifCond .eq 10, 3) := by decide +kernel
theorem dX6_move_7 : decode cX6_move 7 = .ok (.aload_n 0, 1) := by decide +kernel
theorem dX6_move_8 : decode cX6_move 8 = .ok (.ldc 79, 2) := by decide +kernel
theorem dX6_move_10 : decode cX6_move 10 = .ok (.invokevirtual 80, 3) := by decide +kernel
theorem dX6_move_13 : decode cX6_move 13 = .ok (.ireturn, 1) := by decide +kernel
theorem dX6_move_14 : decode cX6_move 14 = .ok (.aload_n 0, 1) := by decide +kernel
theorem dX6_move_15 : decode cX6_move 15 = .ok (.getfield 10, 3) := by decide +kernel
theorem dX6_move_18 : decode cX6_move 18 = .ok (.iload_n 1, 1) := by decide +kernel
theorem dX6_move_19 : decode cX6_move 19 = .ok (.invokevirtual 91, 3) := by decide +kernel
theorem dX6_move_22 : decode cX6_move 22 = .ok (.ifCond .ne 10, 3) := by decide +kernel
theorem dX6_move_25 : decode cX6_move 25 = .ok (.aload_n 0, 1) := by decide +kernel
theorem dX6_move_26 : decode cX6_move 26 = .ok (.ldc 94, 2) := by decide +kernel
theorem dX6_move_28 : decode cX6_move 28 = .ok (.invokevirtual 80, 3) := by decide +kernel
theorem dX6_move_31 : decode cX6_move 31 = .ok (.ireturn, 1) := by decide +kernel
theorem dX6_move_32 : decode cX6_move 32 = .ok (.aload_n 0, 1) := by decide +kernel
theorem dX6_move_33 : decode cX6_move 33 = .ok (.getfield 10, 3) := by decide +kernel
theorem dX6_move_36 : decode cX6_move 36 = .ok (.iload_n 1, 1) := by decide +kernel
theorem dX6_move_37 : decode cX6_move 37 = .ok (.invokevirtual 95, 3) := by decide +kernel
theorem dX6_move_40 : decode cX6_move 40 = .ok (.aload_n 0, 1) := by decide +kernel
theorem dX6_move_41 : decode cX6_move 41 = .ok (.getfield 10, 3) := by decide +kernel
theorem dX6_move_44 : decode cX6_move 44 = .ok (.getfield 99, 3) := by decide +kernel
theorem dX6_move_47 : decode cX6_move 47 = .ok (.ireturn, 1) := by decide +kernel
theorem dX6_may_0 : decode cX6_may 0 = .ok (.iload_n 1, 1) := by decide +kernel
theorem dX6_may_1 : decode cX6_may 1 = .ok (.invokestatic 87, 3) := by decide +kernel
theorem dX6_may_4 : decode cX6_may 4 = .ok (.ifCond .eq 10, 3) := by decide +kernel
theorem dX6_may_7 : decode cX6_may 7 = .ok (.aload_n 0, 1) := by decide +kernel
theorem dX6_may_8 : decode cX6_may 8 = .ok (.ldc 79, 2) := by decide +kernel
theorem dX6_may_10 : decode cX6_may 10 = .ok (.invokevirtual 80, 3) := by decide +kernel
theorem dX6_may_13 : decode cX6_may 13 = .ok (.ireturn, 1) := by decide +kernel
theorem dX6_may_14 : decode cX6_may 14 = .ok (.aload_n 0, 1) := by decide +kernel
theorem dX6_may_15 : decode cX6_may 15 = .ok (.getfield 10, 3) := by decide +kernel
theorem dX6_may_18 : decode cX6_may 18 = .ok (.iload_n 1, 1) := by decide +kernel
theorem dX6_may_19 : decode cX6_may 19 = .ok (.invokevirtual 91, 3) := by decide +kernel
theorem dX6_may_22 : decode cX6_may 22 = .ok (.ifCond .eq 7, 3) := by decide +kernel
theorem dX6_may_25 : decode cX6_may 25 = .ok (.iconst 1, 1) := by decide +kernel
theorem dX6_may_26 : decode cX6_may 26 = .ok (.goto 4, 3) := by decide +kernel
theorem dX6_may_29 : decode cX6_may 29 = .ok (.iconst 0, 1) := by decide +kernel
theorem dX6_may_30 : decode cX6_may 30 = .ok (.ireturn, 1) := by decide +kernel
theorem dX6_days_0 : decode cX6_days 0 = .ok (.iload_n 1, 1) := by decide +kernel
theorem dX6_days_1 : decode cX6_days 1 = .ok (.iconst 1, 1) := by decide +kernel
theorem dX6_days_2 : decode cX6_days 2 = .ok (.bipush 100, 2) := by decide +kernel
theorem dX6_days_4 : decode cX6_days 4 = .ok (.invokestatic 69, 3) := by decide +kernel
theorem dX6_days_7 : decode cX6_days 7 = .ok (.ifCond .eq 10, 3) := by decide +kernel
theorem dX6_days_10 : decode cX6_days 10 = .ok (.aload_n 0, 1) := by decide +kernel
theorem dX6_days_11 : decode cX6_days 11 = .ok (.ldc 79, 2) := by decide +kernel
theorem dX6_days_13 : decode cX6_days 13 = .ok (.invokevirtual 80, 3) := by decide +kernel
theorem dX6_days_16 : decode cX6_days 16 = .ok (.ireturn, 1) := by decide +kernel
theorem dX6_days_17 : decode cX6_days 17 = .ok (.aload_n 0, 1) := by decide +kernel
theorem dX6_days_18 : decode cX6_days 18 = .ok (.getfield 10, 3) := by decide +kernel
theorem dX6_days_21 : decode cX6_days 21 = .ok (.getfield 102, 3) := by decide +kernel
theorem dX6_days_24 : decode cX6_days 24 = .ok (.iload_n 1, 1) := by decide +kernel
theorem dX6_days_25 : decode cX6_days 25 = .ok (.iadd, 1) := by decide +kernel
theorem dX6_days_26 : decode cX6_days 26 = .ok (.sipush 999, 3) := by decide +kernel
theorem dX6_days_29 : decode cX6_days 29 = .ok (.if_icmp .le 10, 3) := by decide +kernel
theorem dX6_days_32 : decode cX6_days 32 = .ok (.aload_n 0, 1) := by decide +kernel
theorem dX6_days_33 : decode cX6_days 33 = .ok (.ldc 94, 2) := by decide +kernel
theorem dX6_days_35 : decode cX6_days 35 = .ok (.invokevirtual 80, 3) := by decide +kernel
theorem dX6_days_38 : decode cX6_days 38 = .ok (.ireturn, 1) := by decide +kernel
theorem dX6_days_39 : decode cX6_days 39 = .ok (.iconst 0, 1) := by decide +kernel
theorem dX6_days_40 : decode cX6_days 40 = .ok (.istore_n 2, 1) := by decide +kernel
theorem dX6_days_41 : decode cX6_days 41 = .ok (.iload_n 2, 1) := by decide +kernel
theorem dX6_days_42 : decode cX6_days 42 = .ok (.iload_n 1, 1) := by decide +kernel
theorem dX6_days_43 : decode cX6_days 43 = .ok (.if_icmp .ge 16, 3) := by decide +kernel
theorem dX6_days_46 : decode cX6_days 46 = .ok (.aload_n 0, 1) := by decide +kernel
theorem dX6_days_47 : decode cX6_days 47 = .ok (.getfield 10, 3) := by decide +kernel
theorem dX6_days_50 : decode cX6_days 50 = .ok (.invokevirtual 105, 3) := by decide +kernel
theorem dX6_days_53 : decode cX6_days 53 = .ok (.iinc 2 1, 3) := by decide +kernel
theorem dX6_days_56 : decode cX6_days 56 = .ok (.goto (-15), 3) := by decide +kernel
theorem dX6_days_59 : decode cX6_days 59 = .ok (.aload_n 0, 1) := by decide +kernel
theorem dX6_days_60 : decode cX6_days 60 = .ok (.getfield 10, 3) := by decide +kernel
theorem dX6_days_63 : decode cX6_days 63 = .ok (.getfield 102, 3) := by decide +kernel
theorem dX6_days_66 : decode cX6_days 66 = .ok (.ireturn, 1) := by decide +kernel
theorem dX6_runs_0 : decode cX6_runs 0 = .ok (.iload_n 1, 1) := by decide +kernel
theorem dX6_runs_1 : decode cX6_runs 1 = .ok (.iconst 1, 1) := by decide +kernel
theorem dX6_runs_2 : decode cX6_runs 2 = .ok (.bipush 100, 2) := by decide +kernel
theorem dX6_runs_4 : decode cX6_runs 4 = .ok (.invokestatic 69, 3) := by decide +kernel
theorem dX6_runs_7 : decode cX6_runs 7 = .ok (.ifCond .eq 10, 3) := by decide +kernel
theorem dX6_runs_10 : decode cX6_runs 10 = .ok (.aload_n 0, 1) := by decide +kernel
theorem dX6_runs_11 : decode cX6_runs 11 = .ok (.ldc 79, 2) := by decide +kernel
theorem dX6_runs_13 : decode cX6_runs 13 = .ok (.invokevirtual 80, 3) := by decide +kernel
theorem dX6_runs_16 : decode cX6_runs 16 = .ok (.ireturn, 1) := by decide +kernel
theorem dX6_runs_17 : decode cX6_runs 17 = .ok (.aload_n 0, 1) := by decide +kernel
theorem dX6_runs_18 : decode cX6_runs 18 = .ok (.getfield 10, 3) := by decide +kernel
theorem dX6_runs_21 : decode cX6_runs 21 = .ok (.getfield 102, 3) := by decide +kernel
theorem dX6_runs_24 : decode cX6_runs 24 = .ok (.iload_n 1, 1) := by decide +kernel
theorem dX6_runs_25 : decode cX6_runs 25 = .ok (.iadd, 1) := by decide +kernel
theorem dX6_runs_26 : decode cX6_runs 26 = .ok (.sipush 999, 3) := by decide +kernel
theorem dX6_runs_29 : decode cX6_runs 29 = .ok (.if_icmp .le 10, 3) := by decide +kernel
theorem dX6_runs_32 : decode cX6_runs 32 = .ok (.aload_n 0, 1) := by decide +kernel
theorem dX6_runs_33 : decode cX6_runs 33 = .ok (.ldc 94, 2) := by decide +kernel
theorem dX6_runs_35 : decode cX6_runs 35 = .ok (.invokevirtual 80, 3) := by decide +kernel
theorem dX6_runs_38 : decode cX6_runs 38 = .ok (.ireturn, 1) := by decide +kernel
theorem dX6_runs_39 : decode cX6_runs 39 = .ok (.iconst 0, 1) := by decide +kernel
theorem dX6_runs_40 : decode cX6_runs 40 = .ok (.istore_n 2, 1) := by decide +kernel
theorem dX6_runs_41 : decode cX6_runs 41 = .ok (.iload_n 2, 1) := by decide +kernel
theorem dX6_runs_42 : decode cX6_runs 42 = .ok (.iload_n 1, 1) := by decide +kernel
theorem dX6_runs_43 : decode cX6_runs 43 = .ok (.if_icmp .ge 34, 3) := by decide +kernel
theorem dX6_runs_46 : decode cX6_runs 46 = .ok (.aload_n 0, 1) := by decide +kernel
theorem dX6_runs_47 : decode cX6_runs 47 = .ok (.getfield 10, 3) := by decide +kernel
theorem dX6_runs_50 : decode cX6_runs 50 = .ok (.aload_n 0, 1) := by decide +kernel
theorem dX6_runs_51 : decode cX6_runs 51 = .ok (.getfield 10, 3) := by decide +kernel
theorem dX6_runs_54 : decode cX6_runs 54 = .ok (.aload_n 0, 1) := by decide +kernel
theorem dX6_runs_55 : decode cX6_runs 55 = .ok (.getfield 47, 3) := by decide +kernel
theorem dX6_runs_58 : decode cX6_runs 58 = .ok (.invokevirtual 108, 3) := by decide +kernel
theorem dX6_runs_61 : decode cX6_runs 61 = .ok (.invokevirtual 95, 3) := by decide +kernel
theorem dX6_runs_64 : decode cX6_runs 64 = .ok (.aload_n 0, 1) := by decide +kernel
theorem dX6_runs_65 : decode cX6_runs 65 = .ok (.getfield 10, 3) := by decide +kernel
theorem dX6_runs_68 : decode cX6_runs 68 = .ok (.invokevirtual 105, 3) := by decide +kernel
theorem dX6_runs_71 : decode cX6_runs 71 = .ok (.iinc 2 1, 3) := by decide +kernel
theorem dX6_runs_74 : decode cX6_runs 74 = .ok (.goto (-33), 3) := by decide +kernel
theorem dX6_runs_77 : decode cX6_runs 77 = .ok (.aload_n 0, 1) := by decide +kernel
theorem dX6_runs_78 : decode cX6_runs 78 = .ok (.getfield 10, 3) := by decide +kernel
theorem dX6_runs_81 : decode cX6_runs 81 = .ok (.getfield 102, 3) := by decide +kernel
theorem dX6_runs_84 : decode cX6_runs 84 = .ok (.ireturn, 1) := by decide +kernel
theorem dX6_thing_0 : decode cX6_thing 0 = .ok (.iload_n 1, 1) := by decide +kernel
theorem dX6_thing_1 : decode cX6_thing 1 = .ok (.tableswitch 80 0 4 #[35, 44, 53, 64, 72], 35) := by decide +kernel
theorem dX6_thing_36 : decode cX6_thing 36 = .ok (.aload_n 0, 1) := by decide +kernel
theorem dX6_thing_37 : decode cX6_thing 37 = .ok (.getfield 10, 3) := by decide +kernel
theorem dX6_thing_40 : decode cX6_thing 40 = .ok (.getfield 102, 3) := by decide +kernel
theorem dX6_thing_43 : decode cX6_thing 43 = .ok (.i2l, 1) := by decide +kernel
theorem dX6_thing_44 : decode cX6_thing 44 = .ok (.lreturn, 1) := by decide +kernel
theorem dX6_thing_45 : decode cX6_thing 45 = .ok (.aload_n 0, 1) := by decide +kernel
theorem dX6_thing_46 : decode cX6_thing 46 = .ok (.getfield 10, 3) := by decide +kernel
theorem dX6_thing_49 : decode cX6_thing 49 = .ok (.getfield 99, 3) := by decide +kernel
theorem dX6_thing_52 : decode cX6_thing 52 = .ok (.i2l, 1) := by decide +kernel
theorem dX6_thing_53 : decode cX6_thing 53 = .ok (.lreturn, 1) := by decide +kernel
theorem dX6_thing_54 : decode cX6_thing 54 = .ok (.aload_n 0, 1) := by decide +kernel
theorem dX6_thing_55 : decode cX6_thing 55 = .ok (.getfield 10, 3) := by decide +kernel
theorem dX6_thing_58 : decode cX6_thing 58 = .ok (.getfield 84, 3) := by decide +kernel
theorem dX6_thing_61 : decode cX6_thing 61 = .ok (.iconst 5, 1) := by decide +kernel
theorem dX6_thing_62 : decode cX6_thing 62 = .ok (.iaload, 1) := by decide +kernel
theorem dX6_thing_63 : decode cX6_thing 63 = .ok (.i2l, 1) := by decide +kernel
theorem dX6_thing_64 : decode cX6_thing 64 = .ok (.lreturn, 1) := by decide +kernel
theorem dX6_thing_65 : decode cX6_thing 65 = .ok (.aload_n 0, 1) := by decide +kernel
theorem dX6_thing_66 : decode cX6_thing 66 = .ok (.getfield 10, 3) := by decide +kernel
theorem dX6_thing_69 : decode cX6_thing 69 = .ok (.getfield 112, 3) := by decide +kernel
theorem dX6_thing_72 : decode cX6_thing 72 = .ok (.lreturn, 1) := by decide +kernel
theorem dX6_thing_73 : decode cX6_thing 73 = .ok (.aload_n 0, 1) := by decide +kernel
theorem dX6_thing_74 : decode cX6_thing 74 = .ok (.getfield 10, 3) := by decide +kernel
theorem dX6_thing_77 : decode cX6_thing 77 = .ok (.getfield 116, 3) := by decide +kernel
theorem dX6_thing_80 : decode cX6_thing 80 = .ok (.lreturn, 1) := by decide +kernel
theorem dX6_thing_81 : decode cX6_thing 81 = .ok (.aload_n 0, 1) := by decide +kernel
theorem dX6_thing_82 : decode cX6_thing 82 = .ok (.ldc 79, 2) := by decide +kernel
theorem dX6_thing_84 : decode cX6_thing 84 = .ok (.invokevirtual 80, 3) := by decide +kernel
theorem dX6_thing_87 : decode cX6_thing 87 = .ok (.i2l, 1) := by decide +kernel
theorem dX6_thing_88 : decode cX6_thing 88 = .ok (.lreturn, 1) := by decide +kernel
theorem dX6_warn_0 : decode cX6_warn 0 = .ok (.iload_n 2, 1) := by decide +kernel
theorem dX6_warn_1 : decode cX6_warn 1 = .ok (.sipush 10000, 3) := by decide +kernel
theorem dX6_warn_4 : decode cX6_warn 4 = .ok (.idiv, 1) := by decide +kernel
theorem dX6_warn_5 : decode cX6_warn 5 = .ok (.istore 4, 2) := by decide +kernel
theorem dX6_warn_7 : decode cX6_warn 7 = .ok (.iload_n 2, 1) := by decide +kernel
theorem dX6_warn_8 : decode cX6_warn 8 = .ok (.bipush 100, 2) := by decide +kernel
theorem dX6_warn_10 : decode cX6_warn 10 = .ok (.idiv, 1) := by decide +kernel
theorem dX6_warn_11 : decode cX6_warn 11 = .ok (.bipush 100, 2) := by decide +kernel
theorem dX6_warn_13 : decode cX6_warn 13 = .ok (.irem, 1) := by decide +kernel
theorem dX6_warn_14 : decode cX6_warn 14 = .ok (.bipush 12, 2) := by decide +kernel
theorem dX6_warn_16 : decode cX6_warn 16 = .ok (.isub, 1) := by decide +kernel
theorem dX6_warn_17 : decode cX6_warn 17 = .ok (.istore 5, 2) := by decide +kernel
theorem dX6_warn_19 : decode cX6_warn 19 = .ok (.iload_n 2, 1) := by decide +kernel
theorem dX6_warn_20 : decode cX6_warn 20 = .ok (.bipush 100, 2) := by decide +kernel
theorem dX6_warn_22 : decode cX6_warn 22 = .ok (.irem, 1) := by decide +kernel
theorem dX6_warn_23 : decode cX6_warn 23 = .ok (.istore 6, 2) := by decide +kernel
theorem dX6_warn_25 : decode cX6_warn 25 = .ok (.iload_n 1, 1) := by decide +kernel
theorem dX6_warn_26 : decode cX6_warn 26 = .ok (.iconst 0, 1) := by decide +kernel
theorem dX6_warn_27 : decode cX6_warn 27 = .ok (.iconst 5, 1) := by decide +kernel
theorem dX6_warn_28 : decode cX6_warn 28 = .ok (.invokestatic 69, 3) := by decide +kernel
theorem dX6_warn_31 : decode cX6_warn 31 = .ok (.ifCond .ne 56, 3) := by decide +kernel
theorem dX6_warn_34 : decode cX6_warn 34 = .ok (.iload_n 2, 1) := by decide +kernel
theorem dX6_warn_35 : decode cX6_warn 35 = .ok (.ifCond .lt 52, 3) := by decide +kernel
theorem dX6_warn_38 : decode cX6_warn 38 = .ok (.iload 5, 2) := by decide +kernel
theorem dX6_warn_40 : decode cX6_warn 40 = .ok (.invokestatic 121, 3) := by decide +kernel
theorem dX6_warn_43 : decode cX6_warn 43 = .ok (.ifCond .ne 44, 3) := by decide +kernel
theorem dX6_warn_46 : decode cX6_warn 46 = .ok (.iload 6, 2) := by decide +kernel
theorem dX6_warn_48 : decode cX6_warn 48 = .ok (.iconst 0, 1) := by decide +kernel
theorem dX6_warn_49 : decode cX6_warn 49 = .ok (.bipush 9, 2) := by decide +kernel
theorem dX6_warn_51 : decode cX6_warn 51 = .ok (.invokestatic 69, 3) := by decide +kernel
theorem dX6_warn_54 : decode cX6_warn 54 = .ok (.ifCond .ne 33, 3) := by decide +kernel
theorem dX6_warn_57 : decode cX6_warn 57 = .ok (.iload 4, 2) := by decide +kernel
theorem dX6_warn_59 : decode cX6_warn 59 = .ok (.aload_n 0, 1) := by decide +kernel
theorem dX6_warn_60 : decode cX6_warn 60 = .ok (.getfield 10, 3) := by decide +kernel
theorem dX6_warn_63 : decode cX6_warn 63 = .ok (.getfield 102, 3) := by decide +kernel
theorem dX6_warn_66 : decode cX6_warn 66 = .ok (.iconst 1, 1) := by decide +kernel
theorem dX6_warn_67 : decode cX6_warn 67 = .ok (.iadd, 1) := by decide +kernel
theorem dX6_warn_68 : decode cX6_warn 68 = .ok (.sipush 999, 3) := by decide +kernel
theorem dX6_warn_71 : decode cX6_warn 71 = .ok (.invokestatic 69, 3) := by decide +kernel
theorem dX6_warn_74 : decode cX6_warn 74 = .ok (.ifCond .ne 13, 3) := by decide +kernel
theorem dX6_warn_77 : decode cX6_warn 77 = .ok (.iload_n 3, 1) := by decide +kernel
theorem dX6_warn_78 : decode cX6_warn 78 = .ok (.iconst 0, 1) := by decide +kernel
theorem dX6_warn_79 : decode cX6_warn 79 = .ok (.ldc 124, 2) := by decide +kernel
theorem dX6_warn_81 : decode cX6_warn 81 = .ok (.invokestatic 69, 3) := by decide +kernel
theorem dX6_warn_84 : decode cX6_warn 84 = .ok (.ifCond .eq 10, 3) := by decide +kernel
theorem dX6_warn_87 : decode cX6_warn 87 = .ok (.aload_n 0, 1) := by decide +kernel
theorem dX6_warn_88 : decode cX6_warn 88 = .ok (.ldc 79, 2) := by decide +kernel
theorem dX6_warn_90 : decode cX6_warn 90 = .ok (.invokevirtual 80, 3) := by decide +kernel
theorem dX6_warn_93 : decode cX6_warn 93 = .ok (.ireturn, 1) := by decide +kernel
theorem dX6_warn_94 : decode cX6_warn 94 = .ok (.aload_n 0, 1) := by decide +kernel
theorem dX6_warn_95 : decode cX6_warn 95 = .ok (.getfield 10, 3) := by decide +kernel
theorem dX6_warn_98 : decode cX6_warn 98 = .ok (.getfield 125, 3) := by decide +kernel
theorem dX6_warn_101 : decode cX6_warn 101 = .ok (.bipush 12, 2) := by decide +kernel
theorem dX6_warn_103 : decode cX6_warn 103 = .ok (.if_icmp .lt 10, 3) := by decide +kernel
theorem dX6_warn_106 : decode cX6_warn 106 = .ok (.aload_n 0, 1) := by decide +kernel
theorem dX6_warn_107 : decode cX6_warn 107 = .ok (.ldc 128, 2) := by decide +kernel
theorem dX6_warn_109 : decode cX6_warn 109 = .ok (.invokevirtual 80, 3) := by decide +kernel
theorem dX6_warn_112 : decode cX6_warn 112 = .ok (.ireturn, 1) := by decide +kernel
theorem dX6_warn_113 : decode cX6_warn 113 = .ok (.aload_n 0, 1) := by decide +kernel
theorem dX6_warn_114 : decode cX6_warn 114 = .ok (.getfield 10, 3) := by decide +kernel
theorem dX6_warn_117 : decode cX6_warn 117 = .ok (.getfield 129, 3) := by decide +kernel
theorem dX6_warn_120 : decode cX6_warn 120 = .ok (.aload_n 0, 1) := by decide +kernel
theorem dX6_warn_121 : decode cX6_warn 121 = .ok (.getfield 10, 3) := by decide +kernel
theorem dX6_warn_124 : decode cX6_warn 124 = .ok (.getfield 125, 3) := by decide +kernel
theorem dX6_warn_127 : decode cX6_warn 127 = .ok (.aaload, 1) := by decide +kernel
theorem dX6_warn_128 : decode cX6_warn 128 = .ok (.iload_n 1, 1) := by decide +kernel
theorem dX6_warn_129 : decode cX6_warn 129 = .ok (.iload 4, 2) := by decide +kernel
theorem dX6_warn_131 : decode cX6_warn 131 = .ok (.iload 5, 2) := by decide +kernel
theorem dX6_warn_133 : decode cX6_warn 133 = .ok (.iload 6, 2) := by decide +kernel
theorem dX6_warn_135 : decode cX6_warn 135 = .ok (.iload_n 3, 1) := by decide +kernel
theorem dX6_warn_136 : decode cX6_warn 136 = .ok (.invokevirtual 133, 3) := by decide +kernel
theorem dX6_warn_139 : decode cX6_warn 139 = .ok (.aload_n 0, 1) := by decide +kernel
theorem dX6_warn_140 : decode cX6_warn 140 = .ok (.getfield 10, 3) := by decide +kernel
theorem dX6_warn_143 : decode cX6_warn 143 = .ok (.dup, 1) := by decide +kernel
theorem dX6_warn_144 : decode cX6_warn 144 = .ok (.getfield 125, 3) := by decide +kernel
theorem dX6_warn_147 : decode cX6_warn 147 = .ok (.iconst 1, 1) := by decide +kernel
theorem dX6_warn_148 : decode cX6_warn 148 = .ok (.iadd, 1) := by decide +kernel
theorem dX6_warn_149 : decode cX6_warn 149 = .ok (.putfield 125, 3) := by decide +kernel
theorem dX6_warn_152 : decode cX6_warn 152 = .ok (.aload_n 0, 1) := by decide +kernel
theorem dX6_warn_153 : decode cX6_warn 153 = .ok (.getfield 10, 3) := by decide +kernel
theorem dX6_warn_156 : decode cX6_warn 156 = .ok (.getfield 125, 3) := by decide +kernel
theorem dX6_warn_159 : decode cX6_warn 159 = .ok (.iconst 1, 1) := by decide +kernel
theorem dX6_warn_160 : decode cX6_warn 160 = .ok (.isub, 1) := by decide +kernel
theorem dX6_warn_161 : decode cX6_warn 161 = .ok (.ireturn, 1) := by decide +kernel
theorem dX6_of_0 : decode cX6_of 0 = .ok (.aload_n 0, 1) := by decide +kernel
theorem dX6_of_1 : decode cX6_of 1 = .ok (.iload_n 1, 1) := by decide +kernel
theorem dX6_of_2 : decode cX6_of 2 = .ok (.invokevirtual 137, 3) := by decide +kernel
theorem dX6_of_5 : decode cX6_of 5 = .ok (.ifCond .eq 10, 3) := by decide +kernel
theorem dX6_of_8 : decode cX6_of 8 = .ok (.aload_n 0, 1) := by decide +kernel
theorem dX6_of_9 : decode cX6_of 9 = .ok (.ldc 79, 2) := by decide +kernel
theorem dX6_of_11 : decode cX6_of 11 = .ok (.invokevirtual 80, 3) := by decide +kernel
theorem dX6_of_14 : decode cX6_of 14 = .ok (.ireturn, 1) := by decide +kernel
theorem dX6_of_15 : decode cX6_of 15 = .ok (.aload_n 0, 1) := by decide +kernel
theorem dX6_of_16 : decode cX6_of 16 = .ok (.getfield 10, 3) := by decide +kernel
theorem dX6_of_19 : decode cX6_of 19 = .ok (.getfield 129, 3) := by decide +kernel
theorem dX6_of_22 : decode cX6_of 22 = .ok (.iload_n 1, 1) := by decide +kernel
theorem dX6_of_23 : decode cX6_of 23 = .ok (.aaload, 1) := by decide +kernel
theorem dX6_of_24 : decode cX6_of 24 = .ok (.astore_n 3, 1) := by decide +kernel
theorem dX6_of_25 : decode cX6_of 25 = .ok (.iload_n 2, 1) := by decide +kernel
theorem dX6_of_26 : decode cX6_of 26 = .ok (.tableswitch 89 0 6 #[42, 47, 52, 57, 62, 67, 72], 42) := by decide +kernel
theorem dX6_of_68 : decode cX6_of 68 = .ok (.aload_n 3, 1) := by decide +kernel
theorem dX6_of_69 : decode cX6_of 69 = .ok (.getfield 140, 3) := by decide +kernel
theorem dX6_of_72 : decode cX6_of 72 = .ok (.ireturn, 1) := by decide +kernel
theorem dX6_of_73 : decode cX6_of 73 = .ok (.aload_n 3, 1) := by decide +kernel
theorem dX6_of_74 : decode cX6_of 74 = .ok (.getfield 143, 3) := by decide +kernel
theorem dX6_of_77 : decode cX6_of 77 = .ok (.ireturn, 1) := by decide +kernel
theorem dX6_of_78 : decode cX6_of 78 = .ok (.aload_n 3, 1) := by decide +kernel
theorem dX6_of_79 : decode cX6_of 79 = .ok (.getfield 146, 3) := by decide +kernel
theorem dX6_of_82 : decode cX6_of 82 = .ok (.ireturn, 1) := by decide +kernel
theorem dX6_of_83 : decode cX6_of 83 = .ok (.aload_n 3, 1) := by decide +kernel
theorem dX6_of_84 : decode cX6_of 84 = .ok (.getfield 149, 3) := by decide +kernel
theorem dX6_of_87 : decode cX6_of 87 = .ok (.ireturn, 1) := by decide +kernel
theorem dX6_of_88 : decode cX6_of 88 = .ok (.aload_n 3, 1) := by decide +kernel
theorem dX6_of_89 : decode cX6_of 89 = .ok (.getfield 152, 3) := by decide +kernel
theorem dX6_of_92 : decode cX6_of 92 = .ok (.ireturn, 1) := by decide +kernel
theorem dX6_of_93 : decode cX6_of 93 = .ok (.aload_n 3, 1) := by decide +kernel
theorem dX6_of_94 : decode cX6_of 94 = .ok (.getfield 155, 3) := by decide +kernel
theorem dX6_of_97 : decode cX6_of 97 = .ok (.ireturn, 1) := by decide +kernel
theorem dX6_of_98 : decode cX6_of 98 = .ok (.aload_n 0, 1) := by decide +kernel
theorem dX6_of_99 : decode cX6_of 99 = .ok (.getfield 10, 3) := by decide +kernel
theorem dX6_of_102 : decode cX6_of 102 = .ok (.aload_n 3, 1) := by decide +kernel
theorem dX6_of_103 : decode cX6_of 103 = .ok (.invokevirtual 158, 3) := by decide +kernel
theorem dX6_of_106 : decode cX6_of 106 = .ok (.ifCond .eq 7, 3) := by decide +kernel
theorem dX6_of_109 : decode cX6_of 109 = .ok (.iconst 1, 1) := by decide +kernel
theorem dX6_of_110 : decode cX6_of 110 = .ok (.goto 4, 3) := by decide +kernel
theorem dX6_of_113 : decode cX6_of 113 = .ok (.iconst 0, 1) := by decide +kernel
theorem dX6_of_114 : decode cX6_of 114 = .ok (.ireturn, 1) := by decide +kernel
theorem dX6_of_115 : decode cX6_of 115 = .ok (.aload_n 0, 1) := by decide +kernel
theorem dX6_of_116 : decode cX6_of 116 = .ok (.ldc 79, 2) := by decide +kernel
theorem dX6_of_118 : decode cX6_of 118 = .ok (.invokevirtual 80, 3) := by decide +kernel
theorem dX6_of_121 : decode cX6_of 121 = .ok (.ireturn, 1) := by decide +kernel
theorem dX6_as_0 : decode cX6_as 0 = .ok (.aload_n 0, 1) := by decide +kernel
theorem dX6_as_1 : decode cX6_as 1 = .ok (.iload_n 1, 1) := by decide +kernel
theorem dX6_as_2 : decode cX6_as 2 = .ok (.invokevirtual 137, 3) := by decide +kernel
theorem dX6_as_5 : decode cX6_as 5 = .ok (.ifCond .ne 12, 3) := by decide +kernel
theorem dX6_as_8 : decode cX6_as 8 = .ok (.iload_n 2, 1) := by decide +kernel
theorem dX6_as_9 : decode cX6_as 9 = .ok (.iconst 0, 1) := by decide +kernel
theorem dX6_as_10 : decode cX6_as 10 = .ok (.iconst 5, 1) := by decide +kernel
theorem dX6_as_11 : decode cX6_as 11 = .ok (.invokestatic 69, 3) := by decide +kernel
theorem dX6_as_14 : decode cX6_as 14 = .ok (.ifCond .eq 10, 3) := by decide +kernel
theorem dX6_as_17 : decode cX6_as 17 = .ok (.aload_n 0, 1) := by decide +kernel
theorem dX6_as_18 : decode cX6_as 18 = .ok (.ldc 79, 2) := by decide +kernel
theorem dX6_as_20 : decode cX6_as 20 = .ok (.invokevirtual 80, 3) := by decide +kernel
theorem dX6_as_23 : decode cX6_as 23 = .ok (.ireturn, 1) := by decide +kernel
theorem dX6_as_24 : decode cX6_as 24 = .ok (.aload_n 0, 1) := by decide +kernel
theorem dX6_as_25 : decode cX6_as 25 = .ok (.getfield 10, 3) := by decide +kernel
theorem dX6_as_28 : decode cX6_as 28 = .ok (.getfield 129, 3) := by decide +kernel
theorem dX6_as_31 : decode cX6_as 31 = .ok (.iload_n 1, 1) := by decide +kernel
theorem dX6_as_32 : decode cX6_as 32 = .ok (.aaload, 1) := by decide +kernel
theorem dX6_as_33 : decode cX6_as 33 = .ok (.astore_n 3, 1) := by decide +kernel
theorem dX6_as_34 : decode cX6_as 34 = .ok (.aload_n 3, 1) := by decide +kernel
theorem dX6_as_35 : decode cX6_as 35 = .ok (.iload_n 2, 1) := by decide +kernel
theorem dX6_as_36 : decode cX6_as 36 = .ok (.invokevirtual 162, 3) := by decide +kernel
theorem dX6_as_39 : decode cX6_as 39 = .ok (.ifCond .eq 10, 3) := by decide +kernel
theorem dX6_as_42 : decode cX6_as 42 = .ok (.aload_n 3, 1) := by decide +kernel
theorem dX6_as_43 : decode cX6_as 43 = .ok (.getfield 152, 3) := by decide +kernel
theorem dX6_as_46 : decode cX6_as 46 = .ok (.goto 9, 3) := by decide +kernel
theorem dX6_as_49 : decode cX6_as 49 = .ok (.aload_n 0, 1) := by decide +kernel
theorem dX6_as_50 : decode cX6_as 50 = .ok (.ldc 165, 2) := by decide +kernel
theorem dX6_as_52 : decode cX6_as 52 = .ok (.invokevirtual 80, 3) := by decide +kernel
theorem dX6_as_55 : decode cX6_as 55 = .ok (.ireturn, 1) := by decide +kernel
theorem dX6_struck_0 : decode cX6_struck 0 = .ok (.aload_n 0, 1) := by decide +kernel
theorem dX6_struck_1 : decode cX6_struck 1 = .ok (.iload_n 1, 1) := by decide +kernel
theorem dX6_struck_2 : decode cX6_struck 2 = .ok (.invokevirtual 137, 3) := by decide +kernel
theorem dX6_struck_5 : decode cX6_struck 5 = .ok (.ifCond .ne 10, 3) := by decide +kernel
theorem dX6_struck_8 : decode cX6_struck 8 = .ok (.iload_n 2, 1) := by decide +kernel
theorem dX6_struck_9 : decode cX6_struck 9 = .ok (.invokestatic 121, 3) := by decide +kernel
theorem dX6_struck_12 : decode cX6_struck 12 = .ok (.ifCond .eq 10, 3) := by decide +kernel
theorem dX6_struck_15 : decode cX6_struck 15 = .ok (.aload_n 0, 1) := by decide +kernel
theorem dX6_struck_16 : decode cX6_struck 16 = .ok (.ldc 79, 2) := by decide +kernel
theorem dX6_struck_18 : decode cX6_struck 18 = .ok (.invokevirtual 80, 3) := by decide +kernel
theorem dX6_struck_21 : decode cX6_struck 21 = .ok (.ireturn, 1) := by decide +kernel
theorem dX6_struck_22 : decode cX6_struck 22 = .ok (.aload_n 0, 1) := by decide +kernel
theorem dX6_struck_23 : decode cX6_struck 23 = .ok (.getfield 10, 3) := by decide +kernel
theorem dX6_struck_26 : decode cX6_struck 26 = .ok (.getfield 129, 3) := by decide +kernel
theorem dX6_struck_29 : decode cX6_struck 29 = .ok (.iload_n 1, 1) := by decide +kernel
theorem dX6_struck_30 : decode cX6_struck 30 = .ok (.aaload, 1) := by decide +kernel
theorem dX6_struck_31 : decode cX6_struck 31 = .ok (.iload_n 2, 1) := by decide +kernel
theorem dX6_struck_32 : decode cX6_struck 32 = .ok (.invokevirtual 166, 3) := by decide +kernel
theorem dX6_struck_35 : decode cX6_struck 35 = .ok (.ireturn, 1) := by decide +kernel
theorem dX6_look_0 : decode cX6_look 0 = .ok (.aload_n 0, 1) := by decide +kernel
theorem dX6_look_1 : decode cX6_look 1 = .ok (.iload_n 1, 1) := by decide +kernel
theorem dX6_look_2 : decode cX6_look 2 = .ok (.invokevirtual 137, 3) := by decide +kernel
theorem dX6_look_5 : decode cX6_look 5 = .ok (.ifCond .ne 10, 3) := by decide +kernel
theorem dX6_look_8 : decode cX6_look 8 = .ok (.iload_n 2, 1) := by decide +kernel
theorem dX6_look_9 : decode cX6_look 9 = .ok (.invokestatic 169, 3) := by decide +kernel
theorem dX6_look_12 : decode cX6_look 12 = .ok (.ifCond .eq 10, 3) := by decide +kernel
theorem dX6_look_15 : decode cX6_look 15 = .ok (.aload_n 0, 1) := by decide +kernel
theorem dX6_look_16 : decode cX6_look 16 = .ok (.ldc 79, 2) := by decide +kernel
theorem dX6_look_18 : decode cX6_look 18 = .ok (.invokevirtual 80, 3) := by decide +kernel
theorem dX6_look_21 : decode cX6_look 21 = .ok (.ireturn, 1) := by decide +kernel
theorem dX6_look_22 : decode cX6_look 22 = .ok (.aload_n 0, 1) := by decide +kernel
theorem dX6_look_23 : decode cX6_look 23 = .ok (.getfield 10, 3) := by decide +kernel
theorem dX6_look_26 : decode cX6_look 26 = .ok (.getfield 129, 3) := by decide +kernel
theorem dX6_look_29 : decode cX6_look 29 = .ok (.iload_n 1, 1) := by decide +kernel
theorem dX6_look_30 : decode cX6_look 30 = .ok (.aaload, 1) := by decide +kernel
theorem dX6_look_31 : decode cX6_look 31 = .ok (.astore 4, 2) := by decide +kernel
theorem dX6_look_33 : decode cX6_look 33 = .ok (.aload 4, 2) := by decide +kernel
theorem dX6_look_35 : decode cX6_look 35 = .ok (.iload_n 2, 1) := by decide +kernel
theorem dX6_look_36 : decode cX6_look 36 = .ok (.iload_n 3, 1) := by decide +kernel
theorem dX6_look_37 : decode cX6_look 37 = .ok (.invokevirtual 172, 3) := by decide +kernel
theorem dX6_look_40 : decode cX6_look 40 = .ok (.istore 5, 2) := by decide +kernel
theorem dX6_look_42 : decode cX6_look 42 = .ok (.aload_n 0, 1) := by decide +kernel
theorem dX6_look_43 : decode cX6_look 43 = .ok (.getfield 10, 3) := by decide +kernel
theorem dX6_look_46 : decode cX6_look 46 = .ok (.aload 4, 2) := by decide +kernel
theorem dX6_look_48 : decode cX6_look 48 = .ok (.invokevirtual 158, 3) := by decide +kernel
theorem dX6_look_51 : decode cX6_look 51 = .ok (.ifCond .eq 9, 3) := by decide +kernel
theorem dX6_look_54 : decode cX6_look 54 = .ok (.iload 5, 2) := by decide +kernel
theorem dX6_look_56 : decode cX6_look 56 = .ok (.iconst (-1), 1) := by decide +kernel
theorem dX6_look_57 : decode cX6_look 57 = .ok (.if_icmp .ne 10, 3) := by decide +kernel
theorem dX6_look_60 : decode cX6_look 60 = .ok (.aload_n 0, 1) := by decide +kernel
theorem dX6_look_61 : decode cX6_look 61 = .ok (.ldc 94, 2) := by decide +kernel
theorem dX6_look_63 : decode cX6_look 63 = .ok (.invokevirtual 80, 3) := by decide +kernel
theorem dX6_look_66 : decode cX6_look 66 = .ok (.ireturn, 1) := by decide +kernel
theorem dX6_look_67 : decode cX6_look 67 = .ok (.aload 4, 2) := by decide +kernel
theorem dX6_look_69 : decode cX6_look 69 = .ok (.iload 5, 2) := by decide +kernel
theorem dX6_look_71 : decode cX6_look 71 = .ok (.putfield 152, 3) := by decide +kernel
theorem dX6_look_74 : decode cX6_look 74 = .ok (.aload 4, 2) := by decide +kernel
theorem dX6_look_76 : decode cX6_look 76 = .ok (.dup, 1) := by decide +kernel
theorem dX6_look_77 : decode cX6_look 77 = .ok (.getfield 155, 3) := by decide +kernel
theorem dX6_look_80 : decode cX6_look 80 = .ok (.iconst 1, 1) := by decide +kernel
theorem dX6_look_81 : decode cX6_look 81 = .ok (.iadd, 1) := by decide +kernel
theorem dX6_look_82 : decode cX6_look 82 = .ok (.putfield 155, 3) := by decide +kernel
theorem dX6_look_85 : decode cX6_look 85 = .ok (.iload 5, 2) := by decide +kernel
theorem dX6_look_87 : decode cX6_look 87 = .ok (.ireturn, 1) := by decide +kernel
theorem dX6_think_0 : decode cX6_think 0 = .ok (.aload_n 0, 1) := by decide +kernel
theorem dX6_think_1 : decode cX6_think 1 = .ok (.iload_n 1, 1) := by decide +kernel
theorem dX6_think_2 : decode cX6_think 2 = .ok (.invokevirtual 137, 3) := by decide +kernel
theorem dX6_think_5 : decode cX6_think 5 = .ok (.ifCond .ne 10, 3) := by decide +kernel
theorem dX6_think_8 : decode cX6_think 8 = .ok (.iload_n 2, 1) := by decide +kernel
theorem dX6_think_9 : decode cX6_think 9 = .ok (.invokestatic 169, 3) := by decide +kernel
theorem dX6_think_12 : decode cX6_think 12 = .ok (.ifCond .eq 10, 3) := by decide +kernel
theorem dX6_think_15 : decode cX6_think 15 = .ok (.aload_n 0, 1) := by decide +kernel
theorem dX6_think_16 : decode cX6_think 16 = .ok (.ldc 79, 2) := by decide +kernel
theorem dX6_think_18 : decode cX6_think 18 = .ok (.invokevirtual 80, 3) := by decide +kernel
theorem dX6_think_21 : decode cX6_think 21 = .ok (.ireturn, 1) := by decide +kernel
theorem dX6_think_22 : decode cX6_think 22 = .ok (.aload_n 0, 1) := by decide +kernel
theorem dX6_think_23 : decode cX6_think 23 = .ok (.getfield 10, 3) := by decide +kernel
theorem dX6_think_26 : decode cX6_think 26 = .ok (.getfield 129, 3) := by decide +kernel
theorem dX6_think_29 : decode cX6_think 29 = .ok (.iload_n 1, 1) := by decide +kernel
theorem dX6_think_30 : decode cX6_think 30 = .ok (.aaload, 1) := by decide +kernel
theorem dX6_think_31 : decode cX6_think 31 = .ok (.astore 4, 2) := by decide +kernel
theorem dX6_think_33 : decode cX6_think 33 = .ok (.aload 4, 2) := by decide +kernel
theorem dX6_think_35 : decode cX6_think 35 = .ok (.iload_n 2, 1) := by decide +kernel
theorem dX6_think_36 : decode cX6_think 36 = .ok (.iload_n 3, 1) := by decide +kernel
theorem dX6_think_37 : decode cX6_think 37 = .ok (.invokevirtual 172, 3) := by decide +kernel
theorem dX6_think_40 : decode cX6_think 40 = .ok (.istore 5, 2) := by decide +kernel
theorem dX6_think_42 : decode cX6_think 42 = .ok (.aload_n 0, 1) := by decide +kernel
theorem dX6_think_43 : decode cX6_think 43 = .ok (.getfield 10, 3) := by decide +kernel
theorem dX6_think_46 : decode cX6_think 46 = .ok (.aload 4, 2) := by decide +kernel
theorem dX6_think_48 : decode cX6_think 48 = .ok (.invokevirtual 158, 3) := by decide +kernel
theorem dX6_think_51 : decode cX6_think 51 = .ok (.ifCond .eq 9, 3) := by decide +kernel
theorem dX6_think_54 : decode cX6_think 54 = .ok (.iload 5, 2) := by decide +kernel
theorem dX6_think_56 : decode cX6_think 56 = .ok (.iconst (-1), 1) := by decide +kernel
theorem dX6_think_57 : decode cX6_think 57 = .ok (.if_icmp .ne 10, 3) := by decide +kernel
theorem dX6_think_60 : decode cX6_think 60 = .ok (.aload_n 0, 1) := by decide +kernel
theorem dX6_think_61 : decode cX6_think 61 = .ok (.ldc 94, 2) := by decide +kernel
theorem dX6_think_63 : decode cX6_think 63 = .ok (.invokevirtual 80, 3) := by decide +kernel
theorem dX6_think_66 : decode cX6_think 66 = .ok (.ireturn, 1) := by decide +kernel
theorem dX6_think_67 : decode cX6_think 67 = .ok (.iload 5, 2) := by decide +kernel
theorem dX6_think_69 : decode cX6_think 69 = .ok (.ireturn, 1) := by decide +kernel
theorem dX6_danger_0 : decode cX6_danger 0 = .ok (.iload_n 1, 1) := by decide +kernel
theorem dX6_danger_1 : decode cX6_danger 1 = .ok (.iconst 0, 1) := by decide +kernel
theorem dX6_danger_2 : decode cX6_danger 2 = .ok (.sipush 999, 3) := by decide +kernel
theorem dX6_danger_5 : decode cX6_danger 5 = .ok (.invokestatic 69, 3) := by decide +kernel
theorem dX6_danger_8 : decode cX6_danger 8 = .ok (.ifCond .ne 10, 3) := by decide +kernel
theorem dX6_danger_11 : decode cX6_danger 11 = .ok (.iload_n 2, 1) := by decide +kernel
theorem dX6_danger_12 : decode cX6_danger 12 = .ok (.invokestatic 121, 3) := by decide +kernel
theorem dX6_danger_15 : decode cX6_danger 15 = .ok (.ifCond .eq 10, 3) := by decide +kernel
theorem dX6_danger_18 : decode cX6_danger 18 = .ok (.aload_n 0, 1) := by decide +kernel
theorem dX6_danger_19 : decode cX6_danger 19 = .ok (.ldc 79, 2) := by decide +kernel
theorem dX6_danger_21 : decode cX6_danger 21 = .ok (.invokevirtual 80, 3) := by decide +kernel
theorem dX6_danger_24 : decode cX6_danger 24 = .ok (.ireturn, 1) := by decide +kernel
theorem dX6_danger_25 : decode cX6_danger 25 = .ok (.aload_n 0, 1) := by decide +kernel
theorem dX6_danger_26 : decode cX6_danger 26 = .ok (.getfield 10, 3) := by decide +kernel
theorem dX6_danger_29 : decode cX6_danger 29 = .ok (.iload_n 1, 1) := by decide +kernel
theorem dX6_danger_30 : decode cX6_danger 30 = .ok (.iload_n 2, 1) := by decide +kernel
theorem dX6_danger_31 : decode cX6_danger 31 = .ok (.invokevirtual 176, 3) := by decide +kernel
theorem dX6_danger_34 : decode cX6_danger 34 = .ok (.ireturn, 1) := by decide +kernel
theorem dX6_safest_0 : decode cX6_safest 0 = .ok (.iload_n 1, 1) := by decide +kernel
theorem dX6_safest_1 : decode cX6_safest 1 = .ok (.iconst 0, 1) := by decide +kernel
theorem dX6_safest_2 : decode cX6_safest 2 = .ok (.sipush 999, 3) := by decide +kernel
theorem dX6_safest_5 : decode cX6_safest 5 = .ok (.invokestatic 69, 3) := by decide +kernel
theorem dX6_safest_8 : decode cX6_safest 8 = .ok (.ifCond .eq 10, 3) := by decide +kernel
theorem dX6_safest_11 : decode cX6_safest 11 = .ok (.aload_n 0, 1) := by decide +kernel
theorem dX6_safest_12 : decode cX6_safest 12 = .ok (.ldc 79, 2) := by decide +kernel
theorem dX6_safest_14 : decode cX6_safest 14 = .ok (.invokevirtual 80, 3) := by decide +kernel
theorem dX6_safest_17 : decode cX6_safest 17 = .ok (.ireturn, 1) := by decide +kernel
theorem dX6_safest_18 : decode cX6_safest 18 = .ok (.aload_n 0, 1) := by decide +kernel
theorem dX6_safest_19 : decode cX6_safest 19 = .ok (.getfield 10, 3) := by decide +kernel
theorem dX6_safest_22 : decode cX6_safest 22 = .ok (.getfield 99, 3) := by decide +kernel
theorem dX6_safest_25 : decode cX6_safest 25 = .ok (.istore_n 2, 1) := by decide +kernel
theorem dX6_safest_26 : decode cX6_safest 26 = .ok (.aload_n 0, 1) := by decide +kernel
theorem dX6_safest_27 : decode cX6_safest 27 = .ok (.getfield 10, 3) := by decide +kernel
theorem dX6_safest_30 : decode cX6_safest 30 = .ok (.iload_n 1, 1) := by decide +kernel
theorem dX6_safest_31 : decode cX6_safest 31 = .ok (.iload_n 2, 1) := by decide +kernel
theorem dX6_safest_32 : decode cX6_safest 32 = .ok (.invokevirtual 176, 3) := by decide +kernel
theorem dX6_safest_35 : decode cX6_safest 35 = .ok (.istore_n 3, 1) := by decide +kernel
theorem dX6_safest_36 : decode cX6_safest 36 = .ok (.iconst 1, 1) := by decide +kernel
theorem dX6_safest_37 : decode cX6_safest 37 = .ok (.istore 4, 2) := by decide +kernel
theorem dX6_safest_39 : decode cX6_safest 39 = .ok (.iload 4, 2) := by decide +kernel
theorem dX6_safest_41 : decode cX6_safest 41 = .ok (.bipush 25, 2) := by decide +kernel
theorem dX6_safest_43 : decode cX6_safest 43 = .ok (.if_icmp .ge 75, 3) := by decide +kernel
theorem dX6_safest_46 : decode cX6_safest 46 = .ok (.iconst (-1), 1) := by decide +kernel
theorem dX6_safest_47 : decode cX6_safest 47 = .ok (.istore 5, 2) := by decide +kernel
theorem dX6_safest_49 : decode cX6_safest 49 = .ok (.iload 5, 2) := by decide +kernel
theorem dX6_safest_51 : decode cX6_safest 51 = .ok (.iconst 1, 1) := by decide +kernel
theorem dX6_safest_52 : decode cX6_safest 52 = .ok (.if_icmp .gt 60, 3) := by decide +kernel
theorem dX6_safest_55 : decode cX6_safest 55 = .ok (.aload_n 0, 1) := by decide +kernel
theorem dX6_safest_56 : decode cX6_safest 56 = .ok (.getfield 10, 3) := by decide +kernel
theorem dX6_safest_59 : decode cX6_safest 59 = .ok (.getfield 99, 3) := by decide +kernel
theorem dX6_safest_62 : decode cX6_safest 62 = .ok (.iload 5, 2) := by decide +kernel
theorem dX6_safest_64 : decode cX6_safest 64 = .ok (.iload 4, 2) := by decide +kernel
theorem dX6_safest_66 : decode cX6_safest 66 = .ok (.imul, 1) := by decide +kernel
theorem dX6_safest_67 : decode cX6_safest 67 = .ok (.iadd, 1) := by decide +kernel
theorem dX6_safest_68 : decode cX6_safest 68 = .ok (.istore 6, 2) := by decide +kernel
theorem dX6_safest_70 : decode cX6_safest 70 = .ok (.iload 6, 2) := by decide +kernel
theorem dX6_safest_72 : decode cX6_safest 72 = .ok (.invokestatic 121, 3) := by decide +kernel
theorem dX6_safest_75 : decode cX6_safest 75 = .ok (.ifCond .ne 31, 3) := by decide +kernel
theorem dX6_safest_78 : decode cX6_safest 78 = .ok (.aload_n 0, 1) := by decide +kernel
theorem dX6_safest_79 : decode cX6_safest 79 = .ok (.getfield 10, 3) := by decide +kernel
theorem dX6_safest_82 : decode cX6_safest 82 = .ok (.iload_n 1, 1) := by decide +kernel
theorem dX6_safest_83 : decode cX6_safest 83 = .ok (.iload 6, 2) := by decide +kernel
theorem dX6_safest_85 : decode cX6_safest 85 = .ok (.invokevirtual 176, 3) := by decide +kernel
theorem dX6_safest_88 : decode cX6_safest 88 = .ok (.iload_n 3, 1) := by decide +kernel
theorem dX6_safest_89 : decode cX6_safest 89 = .ok (.if_icmp .ge 17, 3) := by decide +kernel
theorem dX6_safest_92 : decode cX6_safest 92 = .ok (.iload 6, 2) := by decide +kernel
theorem dX6_safest_94 : decode cX6_safest 94 = .ok (.istore_n 2, 1) := by decide +kernel
theorem dX6_safest_95 : decode cX6_safest 95 = .ok (.aload_n 0, 1) := by decide +kernel
theorem dX6_safest_96 : decode cX6_safest 96 = .ok (.getfield 10, 3) := by decide +kernel
theorem dX6_safest_99 : decode cX6_safest 99 = .ok (.iload_n 1, 1) := by decide +kernel
theorem dX6_safest_100 : decode cX6_safest 100 = .ok (.iload 6, 2) := by decide +kernel
theorem dX6_safest_102 : decode cX6_safest 102 = .ok (.invokevirtual 176, 3) := by decide +kernel
theorem dX6_safest_105 : decode cX6_safest 105 = .ok (.istore_n 3, 1) := by decide +kernel
theorem dX6_safest_106 : decode cX6_safest 106 = .ok (.iinc 5 2, 3) := by decide +kernel
theorem dX6_safest_109 : decode cX6_safest 109 = .ok (.goto (-60), 3) := by decide +kernel
theorem dX6_safest_112 : decode cX6_safest 112 = .ok (.iinc 4 1, 3) := by decide +kernel
theorem dX6_safest_115 : decode cX6_safest 115 = .ok (.goto (-76), 3) := by decide +kernel
theorem dX6_safest_118 : decode cX6_safest 118 = .ok (.iload_n 2, 1) := by decide +kernel
theorem dX6_safest_119 : decode cX6_safest 119 = .ok (.ireturn, 1) := by decide +kernel
theorem dX6_open_0 : decode cX6_open 0 = .ok (.iconst 0, 1) := by decide +kernel
theorem dX6_open_1 : decode cX6_open 1 = .ok (.istore_n 1, 1) := by decide +kernel
theorem dX6_open_2 : decode cX6_open 2 = .ok (.iconst 0, 1) := by decide +kernel
theorem dX6_open_3 : decode cX6_open 3 = .ok (.istore_n 2, 1) := by decide +kernel
theorem dX6_open_4 : decode cX6_open 4 = .ok (.iload_n 2, 1) := by decide +kernel
theorem dX6_open_5 : decode cX6_open 5 = .ok (.aload_n 0, 1) := by decide +kernel
theorem dX6_open_6 : decode cX6_open 6 = .ok (.getfield 10, 3) := by decide +kernel
theorem dX6_open_9 : decode cX6_open 9 = .ok (.getfield 125, 3) := by decide +kernel
theorem dX6_open_12 : decode cX6_open 12 = .ok (.if_icmp .ge 34, 3) := by decide +kernel
theorem dX6_open_15 : decode cX6_open 15 = .ok (.aload_n 0, 1) := by decide +kernel
theorem dX6_open_16 : decode cX6_open 16 = .ok (.getfield 10, 3) := by decide +kernel
theorem dX6_open_19 : decode cX6_open 19 = .ok (.aload_n 0, 1) := by decide +kernel
theorem dX6_open_20 : decode cX6_open 20 = .ok (.getfield 10, 3) := by decide +kernel
theorem dX6_open_23 : decode cX6_open 23 = .ok (.getfield 129, 3) := by decide +kernel
theorem dX6_open_26 : decode cX6_open 26 = .ok (.iload_n 2, 1) := by decide +kernel
theorem dX6_open_27 : decode cX6_open 27 = .ok (.aaload, 1) := by decide +kernel
theorem dX6_open_28 : decode cX6_open 28 = .ok (.invokevirtual 158, 3) := by decide +kernel
theorem dX6_open_31 : decode cX6_open 31 = .ok (.ifCond .eq 9, 3) := by decide +kernel
theorem dX6_open_34 : decode cX6_open 34 = .ok (.iload_n 1, 1) := by decide +kernel
theorem dX6_open_35 : decode cX6_open 35 = .ok (.iconst 1, 1) := by decide +kernel
theorem dX6_open_36 : decode cX6_open 36 = .ok (.iload_n 2, 1) := by decide +kernel
theorem dX6_open_37 : decode cX6_open 37 = .ok (.ishl, 1) := by decide +kernel
theorem dX6_open_38 : decode cX6_open 38 = .ok (.ior, 1) := by decide +kernel
theorem dX6_open_39 : decode cX6_open 39 = .ok (.istore_n 1, 1) := by decide +kernel
theorem dX6_open_40 : decode cX6_open 40 = .ok (.iinc 2 1, 3) := by decide +kernel
theorem dX6_open_43 : decode cX6_open 43 = .ok (.goto (-39), 3) := by decide +kernel
theorem dX6_open_46 : decode cX6_open 46 = .ok (.iload_n 1, 1) := by decide +kernel
theorem dX6_open_47 : decode cX6_open 47 = .ok (.ireturn, 1) := by decide +kernel
theorem dX6_feed_0 : decode cX6_feed 0 = .ok (.iload_n 2, 1) := by decide +kernel
theorem dX6_feed_1 : decode cX6_feed 1 = .ok (.iconst 1, 1) := by decide +kernel
theorem dX6_feed_2 : decode cX6_feed 2 = .ok (.iconst 4, 1) := by decide +kernel
theorem dX6_feed_3 : decode cX6_feed 3 = .ok (.invokestatic 69, 3) := by decide +kernel
theorem dX6_feed_6 : decode cX6_feed 6 = .ok (.ifCond .eq 10, 3) := by decide +kernel
theorem dX6_feed_9 : decode cX6_feed 9 = .ok (.aload_n 0, 1) := by decide +kernel
theorem dX6_feed_10 : decode cX6_feed 10 = .ok (.ldc 79, 2) := by decide +kernel
theorem dX6_feed_12 : decode cX6_feed 12 = .ok (.invokevirtual 80, 3) := by decide +kernel
theorem dX6_feed_15 : decode cX6_feed 15 = .ok (.ireturn, 1) := by decide +kernel
theorem dX6_feed_16 : decode cX6_feed 16 = .ok (.aload_n 0, 1) := by decide +kernel
theorem dX6_feed_17 : decode cX6_feed 17 = .ok (.getfield 30, 3) := by decide +kernel
theorem dX6_feed_20 : decode cX6_feed 20 = .ok (.iload_n 2, 1) := by decide +kernel
theorem dX6_feed_21 : decode cX6_feed 21 = .ok (.iadd, 1) := by decide +kernel
theorem dX6_feed_22 : decode cX6_feed 22 = .ok (.bipush 60, 2) := by decide +kernel
theorem dX6_feed_24 : decode cX6_feed 24 = .ok (.if_icmp .le 10, 3) := by decide +kernel
theorem dX6_feed_27 : decode cX6_feed 27 = .ok (.aload_n 0, 1) := by decide +kernel
theorem dX6_feed_28 : decode cX6_feed 28 = .ok (.ldc 128, 2) := by decide +kernel
theorem dX6_feed_30 : decode cX6_feed 30 = .ok (.invokevirtual 80, 3) := by decide +kernel
theorem dX6_feed_33 : decode cX6_feed 33 = .ok (.ireturn, 1) := by decide +kernel
theorem dX6_feed_34 : decode cX6_feed 34 = .ok (.iload_n 2, 1) := by decide +kernel
theorem dX6_feed_35 : decode cX6_feed 35 = .ok (.iconst 1, 1) := by decide +kernel
theorem dX6_feed_36 : decode cX6_feed 36 = .ok (.isub, 1) := by decide +kernel
theorem dX6_feed_37 : decode cX6_feed 37 = .ok (.istore_n 3, 1) := by decide +kernel
theorem dX6_feed_38 : decode cX6_feed 38 = .ok (.iload_n 3, 1) := by decide +kernel
theorem dX6_feed_39 : decode cX6_feed 39 = .ok (.ifCond .lt 35, 3) := by decide +kernel
theorem dX6_feed_42 : decode cX6_feed 42 = .ok (.aload_n 0, 1) := by decide +kernel
theorem dX6_feed_43 : decode cX6_feed 43 = .ok (.getfield 26, 3) := by decide +kernel
theorem dX6_feed_46 : decode cX6_feed 46 = .ok (.aload_n 0, 1) := by decide +kernel
theorem dX6_feed_47 : decode cX6_feed 47 = .ok (.getfield 30, 3) := by decide +kernel
theorem dX6_feed_50 : decode cX6_feed 50 = .ok (.iload_n 1, 1) := by decide +kernel
theorem dX6_feed_51 : decode cX6_feed 51 = .ok (.bipush 8, 2) := by decide +kernel
theorem dX6_feed_53 : decode cX6_feed 53 = .ok (.iload_n 3, 1) := by decide +kernel
theorem dX6_feed_54 : decode cX6_feed 54 = .ok (.imul, 1) := by decide +kernel
theorem dX6_feed_55 : decode cX6_feed 55 = .ok (.ishr, 1) := by decide +kernel
theorem dX6_feed_56 : decode cX6_feed 56 = .ok (.i2b, 1) := by decide +kernel
theorem dX6_feed_57 : decode cX6_feed 57 = .ok (.bastore, 1) := by decide +kernel
theorem dX6_feed_58 : decode cX6_feed 58 = .ok (.aload_n 0, 1) := by decide +kernel
theorem dX6_feed_59 : decode cX6_feed 59 = .ok (.dup, 1) := by decide +kernel
theorem dX6_feed_60 : decode cX6_feed 60 = .ok (.getfield 30, 3) := by decide +kernel
theorem dX6_feed_63 : decode cX6_feed 63 = .ok (.iconst 1, 1) := by decide +kernel
theorem dX6_feed_64 : decode cX6_feed 64 = .ok (.iadd, 1) := by decide +kernel
theorem dX6_feed_65 : decode cX6_feed 65 = .ok (.putfield 30, 3) := by decide +kernel
theorem dX6_feed_68 : decode cX6_feed 68 = .ok (.iinc 3 (-1), 3) := by decide +kernel
theorem dX6_feed_71 : decode cX6_feed 71 = .ok (.goto (-33), 3) := by decide +kernel
theorem dX6_feed_74 : decode cX6_feed 74 = .ok (.aload_n 0, 1) := by decide +kernel
theorem dX6_feed_75 : decode cX6_feed 75 = .ok (.getfield 30, 3) := by decide +kernel
theorem dX6_feed_78 : decode cX6_feed 78 = .ok (.ireturn, 1) := by decide +kernel
theorem dX6_wipe_0 : decode cX6_wipe 0 = .ok (.aload_n 0, 1) := by decide +kernel
theorem dX6_wipe_1 : decode cX6_wipe 1 = .ok (.getfield 30, 3) := by decide +kernel
theorem dX6_wipe_4 : decode cX6_wipe 4 = .ok (.istore_n 1, 1) := by decide +kernel
theorem dX6_wipe_5 : decode cX6_wipe 5 = .ok (.aload_n 0, 1) := by decide +kernel
theorem dX6_wipe_6 : decode cX6_wipe 6 = .ok (.iconst 0, 1) := by decide +kernel
theorem dX6_wipe_7 : decode cX6_wipe 7 = .ok (.putfield 30, 3) := by decide +kernel
theorem dX6_wipe_10 : decode cX6_wipe 10 = .ok (.iload_n 1, 1) := by decide +kernel
theorem dX6_wipe_11 : decode cX6_wipe 11 = .ok (.ireturn, 1) := by decide +kernel
theorem dX6_rule_0 : decode cX6_rule 0 = .ok (.aload_n 0, 1) := by decide +kernel
theorem dX6_rule_1 : decode cX6_rule 1 = .ok (.getfield 47, 3) := by decide +kernel
theorem dX6_rule_4 : decode cX6_rule 4 = .ok (.aload_n 0, 1) := by decide +kernel
theorem dX6_rule_5 : decode cX6_rule 5 = .ok (.getfield 26, 3) := by decide +kernel
theorem dX6_rule_8 : decode cX6_rule 8 = .ok (.aload_n 0, 1) := by decide +kernel
theorem dX6_rule_9 : decode cX6_rule 9 = .ok (.getfield 30, 3) := by decide +kernel
theorem dX6_rule_12 : decode cX6_rule 12 = .ok (.invokevirtual 180, 3) := by decide +kernel
theorem dX6_rule_15 : decode cX6_rule 15 = .ok (.istore_n 1, 1) := by decide +kernel
theorem dX6_rule_16 : decode cX6_rule 16 = .ok (.iload_n 1, 1) := by decide +kernel
theorem dX6_rule_17 : decode cX6_rule 17 = .ok (.iconst (-1), 1) := by decide +kernel
theorem dX6_rule_18 : decode cX6_rule 18 = .ok (.if_icmp .eq 7, 3) := by decide +kernel
theorem dX6_rule_21 : decode cX6_rule 21 = .ok (.iconst (-1), 1) := by decide +kernel
theorem dX6_rule_22 : decode cX6_rule 22 = .ok (.iload_n 1, 1) := by decide +kernel
theorem dX6_rule_23 : decode cX6_rule 23 = .ok (.isub, 1) := by decide +kernel
theorem dX6_rule_24 : decode cX6_rule 24 = .ok (.ireturn, 1) := by decide +kernel
theorem dX6_rule_25 : decode cX6_rule 25 = .ok (.aload_n 0, 1) := by decide +kernel
theorem dX6_rule_26 : decode cX6_rule 26 = .ok (.getfield 26, 3) := by decide +kernel
theorem dX6_rule_29 : decode cX6_rule 29 = .ok (.iconst 0, 1) := by decide +kernel
theorem dX6_rule_30 : decode cX6_rule 30 = .ok (.aload_n 0, 1) := by decide +kernel
theorem dX6_rule_31 : decode cX6_rule 31 = .ok (.getfield 10, 3) := by decide +kernel
theorem dX6_rule_34 : decode cX6_rule 34 = .ok (.getfield 184, 3) := by decide +kernel
theorem dX6_rule_37 : decode cX6_rule 37 = .ok (.iconst 0, 1) := by decide +kernel
theorem dX6_rule_38 : decode cX6_rule 38 = .ok (.aload_n 0, 1) := by decide +kernel
theorem dX6_rule_39 : decode cX6_rule 39 = .ok (.getfield 30, 3) := by decide +kernel
theorem dX6_rule_42 : decode cX6_rule 42 = .ok (.invokestatic 187, 3) := by decide +kernel
theorem dX6_rule_45 : decode cX6_rule 45 = .ok (.aload_n 0, 1) := by decide +kernel
theorem dX6_rule_46 : decode cX6_rule 46 = .ok (.getfield 10, 3) := by decide +kernel
theorem dX6_rule_49 : decode cX6_rule 49 = .ok (.aload_n 0, 1) := by decide +kernel
theorem dX6_rule_50 : decode cX6_rule 50 = .ok (.getfield 30, 3) := by decide +kernel
theorem dX6_rule_53 : decode cX6_rule 53 = .ok (.putfield 193, 3) := by decide +kernel
theorem dX6_rule_56 : decode cX6_rule 56 = .ok (.aload_n 0, 1) := by decide +kernel
theorem dX6_rule_57 : decode cX6_rule 57 = .ok (.iconst 0, 1) := by decide +kernel
theorem dX6_rule_58 : decode cX6_rule 58 = .ok (.putfield 30, 3) := by decide +kernel
theorem dX6_rule_61 : decode cX6_rule 61 = .ok (.iconst 0, 1) := by decide +kernel
theorem dX6_rule_62 : decode cX6_rule 62 = .ok (.ireturn, 1) := by decide +kernel
theorem dX6_drift_0 : decode cX6_drift 0 = .ok (.aload_n 0, 1) := by decide +kernel
theorem dX6_drift_1 : decode cX6_drift 1 = .ok (.getfield 10, 3) := by decide +kernel
theorem dX6_drift_4 : decode cX6_drift 4 = .ok (.invokevirtual 196, 3) := by decide +kernel
theorem dX6_drift_7 : decode cX6_drift 7 = .ok (.ifCond .eq 7, 3) := by decide +kernel
theorem dX6_drift_10 : decode cX6_drift 10 = .ok (.iconst 1, 1) := by decide +kernel
theorem dX6_drift_11 : decode cX6_drift 11 = .ok (.goto 4, 3) := by decide +kernel
theorem dX6_drift_14 : decode cX6_drift 14 = .ok (.iconst 0, 1) := by decide +kernel
theorem dX6_drift_15 : decode cX6_drift 15 = .ok (.istore_n 1, 1) := by decide +kernel
theorem dX6_drift_16 : decode cX6_drift 16 = .ok (.aload_n 0, 1) := by decide +kernel
theorem dX6_drift_17 : decode cX6_drift 17 = .ok (.getfield 10, 3) := by decide +kernel
theorem dX6_drift_20 : decode cX6_drift 20 = .ok (.iconst 0, 1) := by decide +kernel
theorem dX6_drift_21 : decode cX6_drift 21 = .ok (.putfield 193, 3) := by decide +kernel
theorem dX6_drift_24 : decode cX6_drift 24 = .ok (.iload_n 1, 1) := by decide +kernel
theorem dX6_drift_25 : decode cX6_drift 25 = .ok (.ireturn, 1) := by decide +kernel
theorem dX6_says_0 : decode cX6_says 0 = .ok (.iload_n 1, 1) := by decide +kernel
theorem dX6_says_1 : decode cX6_says 1 = .ok (.lookupswitch 51 #[(0, 27), (1, 39)], 27) := by decide +kernel
theorem dX6_says_28 : decode cX6_says 28 = .ok (.aload_n 0, 1) := by decide +kernel
theorem dX6_says_29 : decode cX6_says 29 = .ok (.getfield 47, 3) := by decide +kernel
theorem dX6_says_32 : decode cX6_says 32 = .ok (.aload_n 0, 1) := by decide +kernel
theorem dX6_says_33 : decode cX6_says 33 = .ok (.getfield 10, 3) := by decide +kernel
theorem dX6_says_36 : decode cX6_says 36 = .ok (.invokevirtual 200, 3) := by decide +kernel
theorem dX6_says_39 : decode cX6_says 39 = .ok (.ireturn, 1) := by decide +kernel
theorem dX6_says_40 : decode cX6_says 40 = .ok (.aload_n 0, 1) := by decide +kernel
theorem dX6_says_41 : decode cX6_says 41 = .ok (.getfield 10, 3) := by decide +kernel
theorem dX6_says_44 : decode cX6_says 44 = .ok (.aload_n 0, 1) := by decide +kernel
theorem dX6_says_45 : decode cX6_says 45 = .ok (.getfield 47, 3) := by decide +kernel
theorem dX6_says_48 : decode cX6_says 48 = .ok (.invokevirtual 108, 3) := by decide +kernel
theorem dX6_says_51 : decode cX6_says 51 = .ok (.ireturn, 1) := by decide +kernel
theorem dX6_says_52 : decode cX6_says 52 = .ok (.aload_n 0, 1) := by decide +kernel
theorem dX6_says_53 : decode cX6_says 53 = .ok (.ldc 79, 2) := by decide +kernel
theorem dX6_says_55 : decode cX6_says 55 = .ok (.invokevirtual 80, 3) := by decide +kernel
theorem dX6_says_58 : decode cX6_says 58 = .ok (.ireturn, 1) := by decide +kernel
theorem dX6_best_0 : decode cX6_best 0 = .ok (.iload_n 1, 1) := by decide +kernel
theorem dX6_best_1 : decode cX6_best 1 = .ok (.iconst 1, 1) := by decide +kernel
theorem dX6_best_2 : decode cX6_best 2 = .ok (.bipush 8, 2) := by decide +kernel
theorem dX6_best_4 : decode cX6_best 4 = .ok (.invokestatic 69, 3) := by decide +kernel
theorem dX6_best_7 : decode cX6_best 7 = .ok (.ifCond .ne 12, 3) := by decide +kernel
theorem dX6_best_10 : decode cX6_best 10 = .ok (.iload_n 2, 1) := by decide +kernel
theorem dX6_best_11 : decode cX6_best 11 = .ok (.iconst 0, 1) := by decide +kernel
theorem dX6_best_12 : decode cX6_best 12 = .ok (.iconst 3, 1) := by decide +kernel
theorem dX6_best_13 : decode cX6_best 13 = .ok (.invokestatic 69, 3) := by decide +kernel
theorem dX6_best_16 : decode cX6_best 16 = .ok (.ifCond .eq 11, 3) := by decide +kernel
theorem dX6_best_19 : decode cX6_best 19 = .ok (.aload_n 0, 1) := by decide +kernel
theorem dX6_best_20 : decode cX6_best 20 = .ok (.ldc 79, 2) := by decide +kernel
theorem dX6_best_22 : decode cX6_best 22 = .ok (.invokevirtual 80, 3) := by decide +kernel
theorem dX6_best_25 : decode cX6_best 25 = .ok (.i2l, 1) := by decide +kernel
theorem dX6_best_26 : decode cX6_best 26 = .ok (.lreturn, 1) := by decide +kernel
theorem dX6_best_27 : decode cX6_best 27 = .ok (.aload_n 0, 1) := by decide +kernel
theorem dX6_best_28 : decode cX6_best 28 = .ok (.getfield 54, 3) := by decide +kernel
theorem dX6_best_31 : decode cX6_best 31 = .ok (.aload_n 0, 1) := by decide +kernel
theorem dX6_best_32 : decode cX6_best 32 = .ok (.getfield 10, 3) := by decide +kernel
theorem dX6_best_35 : decode cX6_best 35 = .ok (.iload_n 1, 1) := by decide +kernel
theorem dX6_best_36 : decode cX6_best 36 = .ok (.invokevirtual 204, 3) := by decide +kernel
theorem dX6_best_39 : decode cX6_best 39 = .ok (.pop2, 1) := by decide +kernel
theorem dX6_best_40 : decode cX6_best 40 = .ok (.iload_n 2, 1) := by decide +kernel
theorem dX6_best_41 : decode cX6_best 41 = .ok (.tableswitch 63 0 2 #[27, 35, 54], 27) := by decide +kernel
theorem dX6_best_68 : decode cX6_best 68 = .ok (.aload_n 0, 1) := by decide +kernel
theorem dX6_best_69 : decode cX6_best 69 = .ok (.getfield 54, 3) := by decide +kernel
theorem dX6_best_72 : decode cX6_best 72 = .ok (.getfield 208, 3) := by decide +kernel
theorem dX6_best_75 : decode cX6_best 75 = .ok (.lreturn, 1) := by decide +kernel
theorem dX6_best_76 : decode cX6_best 76 = .ok (.aload_n 0, 1) := by decide +kernel
theorem dX6_best_77 : decode cX6_best 77 = .ok (.getfield 54, 3) := by decide +kernel
theorem dX6_best_80 : decode cX6_best 80 = .ok (.getfield 211, 3) := by decide +kernel
theorem dX6_best_83 : decode cX6_best 83 = .ok (.aload_n 0, 1) := by decide +kernel
theorem dX6_best_84 : decode cX6_best 84 = .ok (.getfield 10, 3) := by decide +kernel
theorem dX6_best_87 : decode cX6_best 87 = .ok (.getfield 84, 3) := by decide +kernel
theorem dX6_best_90 : decode cX6_best 90 = .ok (.iconst 0, 1) := by decide +kernel
theorem dX6_best_91 : decode cX6_best 91 = .ok (.iaload, 1) := by decide +kernel
theorem dX6_best_92 : decode cX6_best 92 = .ok (.imul, 1) := by decide +kernel
theorem dX6_best_93 : decode cX6_best 93 = .ok (.i2l, 1) := by decide +kernel
theorem dX6_best_94 : decode cX6_best 94 = .ok (.lreturn, 1) := by decide +kernel
theorem dX6_best_95 : decode cX6_best 95 = .ok (.aload_n 0, 1) := by decide +kernel
theorem dX6_best_96 : decode cX6_best 96 = .ok (.getfield 54, 3) := by decide +kernel
theorem dX6_best_99 : decode cX6_best 99 = .ok (.getfield 214, 3) := by decide +kernel
theorem dX6_best_102 : decode cX6_best 102 = .ok (.i2l, 1) := by decide +kernel
theorem dX6_best_103 : decode cX6_best 103 = .ok (.lreturn, 1) := by decide +kernel
theorem dX6_best_104 : decode cX6_best 104 = .ok (.aload_n 0, 1) := by decide +kernel
theorem dX6_best_105 : decode cX6_best 105 = .ok (.getfield 54, 3) := by decide +kernel
theorem dX6_best_108 : decode cX6_best 108 = .ok (.getfield 217, 3) := by decide +kernel
theorem dX6_best_111 : decode cX6_best 111 = .ok (.iconst 0, 1) := by decide +kernel
theorem dX6_best_112 : decode cX6_best 112 = .ok (.iaload, 1) := by decide +kernel
theorem dX6_best_113 : decode cX6_best 113 = .ok (.i2l, 1) := by decide +kernel
theorem dX6_best_114 : decode cX6_best 114 = .ok (.lreturn, 1) := by decide +kernel
theorem dX6_turn_0 : decode cX6_turn 0 = .ok (.iload_n 1, 1) := by decide +kernel
theorem dX6_turn_1 : decode cX6_turn 1 = .ok (.iconst 1, 1) := by decide +kernel
theorem dX6_turn_2 : decode cX6_turn 2 = .ok (.bipush 8, 2) := by decide +kernel
theorem dX6_turn_4 : decode cX6_turn 4 = .ok (.invokestatic 69, 3) := by decide +kernel
theorem dX6_turn_7 : decode cX6_turn 7 = .ok (.ifCond .ne 14, 3) := by decide +kernel
theorem dX6_turn_10 : decode cX6_turn 10 = .ok (.iload_n 2, 1) := by decide +kernel
theorem dX6_turn_11 : decode cX6_turn 11 = .ok (.iconst 0, 1) := by decide +kernel
theorem dX6_turn_12 : decode cX6_turn 12 = .ok (.iload_n 1, 1) := by decide +kernel
theorem dX6_turn_13 : decode cX6_turn 13 = .ok (.iconst 1, 1) := by decide +kernel
theorem dX6_turn_14 : decode cX6_turn 14 = .ok (.isub, 1) := by decide +kernel
theorem dX6_turn_15 : decode cX6_turn 15 = .ok (.invokestatic 69, 3) := by decide +kernel
theorem dX6_turn_18 : decode cX6_turn 18 = .ok (.ifCond .eq 10, 3) := by decide +kernel
theorem dX6_turn_21 : decode cX6_turn 21 = .ok (.aload_n 0, 1) := by decide +kernel
theorem dX6_turn_22 : decode cX6_turn 22 = .ok (.ldc 79, 2) := by decide +kernel
theorem dX6_turn_24 : decode cX6_turn 24 = .ok (.invokevirtual 80, 3) := by decide +kernel
theorem dX6_turn_27 : decode cX6_turn 27 = .ok (.ireturn, 1) := by decide +kernel
theorem dX6_turn_28 : decode cX6_turn 28 = .ok (.aload_n 0, 1) := by decide +kernel
theorem dX6_turn_29 : decode cX6_turn 29 = .ok (.getfield 54, 3) := by decide +kernel
theorem dX6_turn_32 : decode cX6_turn 32 = .ok (.aload_n 0, 1) := by decide +kernel
theorem dX6_turn_33 : decode cX6_turn 33 = .ok (.getfield 10, 3) := by decide +kernel
theorem dX6_turn_36 : decode cX6_turn 36 = .ok (.iload_n 1, 1) := by decide +kernel
theorem dX6_turn_37 : decode cX6_turn 37 = .ok (.invokevirtual 204, 3) := by decide +kernel
theorem dX6_turn_40 : decode cX6_turn 40 = .ok (.pop2, 1) := by decide +kernel
theorem dX6_turn_41 : decode cX6_turn 41 = .ok (.aload_n 0, 1) := by decide +kernel
theorem dX6_turn_42 : decode cX6_turn 42 = .ok (.getfield 54, 3) := by decide +kernel
theorem dX6_turn_45 : decode cX6_turn 45 = .ok (.getfield 217, 3) := by decide +kernel
theorem dX6_turn_48 : decode cX6_turn 48 = .ok (.iload_n 2, 1) := by decide +kernel
theorem dX6_turn_49 : decode cX6_turn 49 = .ok (.iaload, 1) := by decide +kernel
theorem dX6_turn_50 : decode cX6_turn 50 = .ok (.ireturn, 1) := by decide +kernel
theorem dX6_rest_0 : decode cX6_rest 0 = .ok (.iload_n 1, 1) := by decide +kernel
theorem dX6_rest_1 : decode cX6_rest 1 = .ok (.iconst 1, 1) := by decide +kernel
theorem dX6_rest_2 : decode cX6_rest 2 = .ok (.bipush 8, 2) := by decide +kernel
theorem dX6_rest_4 : decode cX6_rest 4 = .ok (.invokestatic 69, 3) := by decide +kernel
theorem dX6_rest_7 : decode cX6_rest 7 = .ok (.ifCond .eq 11, 3) := by decide +kernel
theorem dX6_rest_10 : decode cX6_rest 10 = .ok (.aload_n 0, 1) := by decide +kernel
theorem dX6_rest_11 : decode cX6_rest 11 = .ok (.ldc 79, 2) := by decide +kernel
theorem dX6_rest_13 : decode cX6_rest 13 = .ok (.invokevirtual 80, 3) := by decide +kernel
theorem dX6_rest_16 : decode cX6_rest 16 = .ok (.i2l, 1) := by decide +kernel
theorem dX6_rest_17 : decode cX6_rest 17 = .ok (.lreturn, 1) := by decide +kernel
theorem dX6_rest_18 : decode cX6_rest 18 = .ok (.lconst 0, 1) := by decide +kernel
theorem dX6_rest_19 : decode cX6_rest 19 = .ok (.lstore_n 2, 1) := by decide +kernel
theorem dX6_rest_20 : decode cX6_rest 20 = .ok (.iconst 1, 1) := by decide +kernel
theorem dX6_rest_21 : decode cX6_rest 21 = .ok (.istore 4, 2) := by decide +kernel
theorem dX6_rest_23 : decode cX6_rest 23 = .ok (.iload 4, 2) := by decide +kernel
theorem dX6_rest_25 : decode cX6_rest 25 = .ok (.iload_n 1, 1) := by decide +kernel
theorem dX6_rest_26 : decode cX6_rest 26 = .ok (.if_icmp .gt 36, 3) := by decide +kernel
theorem dX6_rest_29 : decode cX6_rest 29 = .ok (.lload_n 2, 1) := by decide +kernel
theorem dX6_rest_30 : decode cX6_rest 30 = .ok (.aload_n 0, 1) := by decide +kernel
theorem dX6_rest_31 : decode cX6_rest 31 = .ok (.getfield 10, 3) := by decide +kernel
theorem dX6_rest_34 : decode cX6_rest 34 = .ok (.aload_n 0, 1) := by decide +kernel
theorem dX6_rest_35 : decode cX6_rest 35 = .ok (.getfield 10, 3) := by decide +kernel
theorem dX6_rest_38 : decode cX6_rest 38 = .ok (.getfield 102, 3) := by decide +kernel
theorem dX6_rest_41 : decode cX6_rest 41 = .ok (.iload 4, 2) := by decide +kernel
theorem dX6_rest_43 : decode cX6_rest 43 = .ok (.iadd, 1) := by decide +kernel
theorem dX6_rest_44 : decode cX6_rest 44 = .ok (.aload_n 0, 1) := by decide +kernel
theorem dX6_rest_45 : decode cX6_rest 45 = .ok (.getfield 10, 3) := by decide +kernel
theorem dX6_rest_48 : decode cX6_rest 48 = .ok (.getfield 99, 3) := by decide +kernel
theorem dX6_rest_51 : decode cX6_rest 51 = .ok (.invokevirtual 220, 3) := by decide +kernel
theorem dX6_rest_54 : decode cX6_rest 54 = .ok (.ladd, 1) := by decide +kernel
theorem dX6_rest_55 : decode cX6_rest 55 = .ok (.lstore_n 2, 1) := by decide +kernel
theorem dX6_rest_56 : decode cX6_rest 56 = .ok (.iinc 4 1, 3) := by decide +kernel
theorem dX6_rest_59 : decode cX6_rest 59 = .ok (.goto (-36), 3) := by decide +kernel
theorem dX6_rest_62 : decode cX6_rest 62 = .ok (.lload_n 2, 1) := by decide +kernel
theorem dX6_rest_63 : decode cX6_rest 63 = .ok (.lreturn, 1) := by decide +kernel
theorem dX6_home_0 : decode cX6_home 0 = .ok (.iload_n 1, 1) := by decide +kernel
theorem dX6_home_1 : decode cX6_home 1 = .ok (.iconst 0, 1) := by decide +kernel
theorem dX6_home_2 : decode cX6_home 2 = .ok (.ldc 124, 2) := by decide +kernel
theorem dX6_home_4 : decode cX6_home 4 = .ok (.invokestatic 69, 3) := by decide +kernel
theorem dX6_home_7 : decode cX6_home 7 = .ok (.ifCond .ne 13, 3) := by decide +kernel
theorem dX6_home_10 : decode cX6_home 10 = .ok (.iload_n 2, 1) := by decide +kernel
theorem dX6_home_11 : decode cX6_home 11 = .ok (.iconst 0, 1) := by decide +kernel
theorem dX6_home_12 : decode cX6_home 12 = .ok (.bipush 20, 2) := by decide +kernel
theorem dX6_home_14 : decode cX6_home 14 = .ok (.invokestatic 69, 3) := by decide +kernel
theorem dX6_home_17 : decode cX6_home 17 = .ok (.ifCond .eq 10, 3) := by decide +kernel
theorem dX6_home_20 : decode cX6_home 20 = .ok (.aload_n 0, 1) := by decide +kernel
theorem dX6_home_21 : decode cX6_home 21 = .ok (.ldc 79, 2) := by decide +kernel
theorem dX6_home_23 : decode cX6_home 23 = .ok (.invokevirtual 80, 3) := by decide +kernel
theorem dX6_home_26 : decode cX6_home 26 = .ok (.ireturn, 1) := by decide +kernel
theorem dX6_home_27 : decode cX6_home 27 = .ok (.aload_n 0, 1) := by decide +kernel
theorem dX6_home_28 : decode cX6_home 28 = .ok (.getfield 10, 3) := by decide +kernel
theorem dX6_home_31 : decode cX6_home 31 = .ok (.getfield 99, 3) := by decide +kernel
theorem dX6_home_34 : decode cX6_home 34 = .ok (.ifCond .ne 10, 3) := by decide +kernel
theorem dX6_home_37 : decode cX6_home 37 = .ok (.aload_n 0, 1) := by decide +kernel
theorem dX6_home_38 : decode cX6_home 38 = .ok (.ldc 94, 2) := by decide +kernel
theorem dX6_home_40 : decode cX6_home 40 = .ok (.invokevirtual 80, 3) := by decide +kernel
theorem dX6_home_43 : decode cX6_home 43 = .ok (.ireturn, 1) := by decide +kernel
theorem dX6_home_44 : decode cX6_home 44 = .ok (.aload_n 0, 1) := by decide +kernel
theorem dX6_home_45 : decode cX6_home 45 = .ok (.getfield 10, 3) := by decide +kernel
theorem dX6_home_48 : decode cX6_home 48 = .ok (.aload_n 0, 1) := by decide +kernel
theorem dX6_home_49 : decode cX6_home 49 = .ok (.getfield 10, 3) := by decide +kernel
theorem dX6_home_52 : decode cX6_home 52 = .ok (.getfield 99, 3) := by decide +kernel
theorem dX6_home_55 : decode cX6_home 55 = .ok (.ineg, 1) := by decide +kernel
theorem dX6_home_56 : decode cX6_home 56 = .ok (.invokevirtual 91, 3) := by decide +kernel
theorem dX6_home_59 : decode cX6_home 59 = .ok (.ifCond .eq 12, 3) := by decide +kernel
theorem dX6_home_62 : decode cX6_home 62 = .ok (.aload_n 0, 1) := by decide +kernel
theorem dX6_home_63 : decode cX6_home 63 = .ok (.iload_n 1, 1) := by decide +kernel
theorem dX6_home_64 : decode cX6_home 64 = .ok (.iload_n 2, 1) := by decide +kernel
theorem dX6_home_65 : decode cX6_home 65 = .ok (.invokevirtual 224, 3) := by decide +kernel
theorem dX6_home_68 : decode cX6_home 68 = .ok (.goto 4, 3) := by decide +kernel
theorem dX6_home_71 : decode cX6_home 71 = .ok (.iconst 0, 1) := by decide +kernel
theorem dX6_home_72 : decode cX6_home 72 = .ok (.istore_n 3, 1) := by decide +kernel
theorem dX6_home_73 : decode cX6_home 73 = .ok (.iload_n 3, 1) := by decide +kernel
theorem dX6_home_74 : decode cX6_home 74 = .ok (.ifCond .ne 12, 3) := by decide +kernel
theorem dX6_home_77 : decode cX6_home 77 = .ok (.aload_n 0, 1) := by decide +kernel
theorem dX6_home_78 : decode cX6_home 78 = .ok (.ldc 227, 2) := by decide +kernel
theorem dX6_home_80 : decode cX6_home 80 = .ok (.invokevirtual 80, 3) := by decide +kernel
theorem dX6_home_83 : decode cX6_home 83 = .ok (.goto 4, 3) := by decide +kernel
theorem dX6_home_86 : decode cX6_home 86 = .ok (.iload_n 3, 1) := by decide +kernel
theorem dX6_home_87 : decode cX6_home 87 = .ok (.ireturn, 1) := by decide +kernel
theorem dX6_know_0 : decode cX6_know 0 = .ok (.aload_n 0, 1) := by decide +kernel
theorem dX6_know_1 : decode cX6_know 1 = .ok (.iload_n 1, 1) := by decide +kernel
theorem dX6_know_2 : decode cX6_know 2 = .ok (.invokevirtual 137, 3) := by decide +kernel
theorem dX6_know_5 : decode cX6_know 5 = .ok (.ifCond .ne 20, 3) := by decide +kernel
theorem dX6_know_8 : decode cX6_know 8 = .ok (.iload_n 2, 1) := by decide +kernel
theorem dX6_know_9 : decode cX6_know 9 = .ok (.invokestatic 169, 3) := by decide +kernel
theorem dX6_know_12 : decode cX6_know 12 = .ok (.ifCond .ne 13, 3) := by decide +kernel
theorem dX6_know_15 : decode cX6_know 15 = .ok (.iload_n 3, 1) := by decide +kernel
theorem dX6_know_16 : decode cX6_know 16 = .ok (.iconst 1, 1) := by decide +kernel
theorem dX6_know_17 : decode cX6_know 17 = .ok (.bipush 8, 2) := by decide +kernel
theorem dX6_know_19 : decode cX6_know 19 = .ok (.invokestatic 69, 3) := by decide +kernel
theorem dX6_know_22 : decode cX6_know 22 = .ok (.ifCond .eq 11, 3) := by decide +kernel
theorem dX6_know_25 : decode cX6_know 25 = .ok (.aload_n 0, 1) := by decide +kernel
theorem dX6_know_26 : decode cX6_know 26 = .ok (.ldc 79, 2) := by decide +kernel
theorem dX6_know_28 : decode cX6_know 28 = .ok (.invokevirtual 80, 3) := by decide +kernel
theorem dX6_know_31 : decode cX6_know 31 = .ok (.i2l, 1) := by decide +kernel
theorem dX6_know_32 : decode cX6_know 32 = .ok (.lreturn, 1) := by decide +kernel
theorem dX6_know_33 : decode cX6_know 33 = .ok (.aload_n 0, 1) := by decide +kernel
theorem dX6_know_34 : decode cX6_know 34 = .ok (.getfield 10, 3) := by decide +kernel
theorem dX6_know_37 : decode cX6_know 37 = .ok (.getfield 129, 3) := by decide +kernel
theorem dX6_know_40 : decode cX6_know 40 = .ok (.iload_n 1, 1) := by decide +kernel
theorem dX6_know_41 : decode cX6_know 41 = .ok (.aaload, 1) := by decide +kernel
theorem dX6_know_42 : decode cX6_know 42 = .ok (.astore 4, 2) := by decide +kernel
theorem dX6_know_44 : decode cX6_know 44 = .ok (.aload_n 0, 1) := by decide +kernel
theorem dX6_know_45 : decode cX6_know 45 = .ok (.getfield 10, 3) := by decide +kernel
theorem dX6_know_48 : decode cX6_know 48 = .ok (.aload 4, 2) := by decide +kernel
theorem dX6_know_50 : decode cX6_know 50 = .ok (.invokevirtual 158, 3) := by decide +kernel
theorem dX6_know_53 : decode cX6_know 53 = .ok (.ifCond .ne 11, 3) := by decide +kernel
theorem dX6_know_56 : decode cX6_know 56 = .ok (.aload_n 0, 1) := by decide +kernel
theorem dX6_know_57 : decode cX6_know 57 = .ok (.ldc 94, 2) := by decide +kernel
theorem dX6_know_59 : decode cX6_know 59 = .ok (.invokevirtual 80, 3) := by decide +kernel
theorem dX6_know_62 : decode cX6_know 62 = .ok (.i2l, 1) := by decide +kernel
theorem dX6_know_63 : decode cX6_know 63 = .ok (.lreturn, 1) := by decide +kernel
theorem dX6_know_64 : decode cX6_know 64 = .ok (.aload_n 0, 1) := by decide +kernel
theorem dX6_know_65 : decode cX6_know 65 = .ok (.getfield 54, 3) := by decide +kernel
theorem dX6_know_68 : decode cX6_know 68 = .ok (.aload_n 0, 1) := by decide +kernel
theorem dX6_know_69 : decode cX6_know 69 = .ok (.getfield 10, 3) := by decide +kernel
theorem dX6_know_72 : decode cX6_know 72 = .ok (.iload_n 3, 1) := by decide +kernel
theorem dX6_know_73 : decode cX6_know 73 = .ok (.invokevirtual 204, 3) := by decide +kernel
theorem dX6_know_76 : decode cX6_know 76 = .ok (.lstore 5, 2) := by decide +kernel
theorem dX6_know_78 : decode cX6_know 78 = .ok (.aload_n 0, 1) := by decide +kernel
theorem dX6_know_79 : decode cX6_know 79 = .ok (.getfield 19, 3) := by decide +kernel
theorem dX6_know_82 : decode cX6_know 82 = .ok (.aload_n 0, 1) := by decide +kernel
theorem dX6_know_83 : decode cX6_know 83 = .ok (.getfield 10, 3) := by decide +kernel
theorem dX6_know_86 : decode cX6_know 86 = .ok (.invokevirtual 228, 3) := by decide +kernel
theorem dX6_know_89 : decode cX6_know 89 = .ok (.aload_n 0, 1) := by decide +kernel
theorem dX6_know_90 : decode cX6_know 90 = .ok (.getfield 19, 3) := by decide +kernel
theorem dX6_know_93 : decode cX6_know 93 = .ok (.getfield 129, 3) := by decide +kernel
theorem dX6_know_96 : decode cX6_know 96 = .ok (.iload_n 1, 1) := by decide +kernel
theorem dX6_know_97 : decode cX6_know 97 = .ok (.aaload, 1) := by decide +kernel
theorem dX6_know_98 : decode cX6_know 98 = .ok (.aload 4, 2) := by decide +kernel
theorem dX6_know_100 : decode cX6_know 100 = .ok (.iload_n 2, 1) := by decide +kernel
theorem dX6_know_101 : decode cX6_know 101 = .ok (.iconst 1, 1) := by decide +kernel
theorem dX6_know_102 : decode cX6_know 102 = .ok (.invokevirtual 232, 3) := by decide +kernel
theorem dX6_know_105 : decode cX6_know 105 = .ok (.putfield 152, 3) := by decide +kernel
theorem dX6_know_108 : decode cX6_know 108 = .ok (.aload_n 0, 1) := by decide +kernel
theorem dX6_know_109 : decode cX6_know 109 = .ok (.getfield 54, 3) := by decide +kernel
theorem dX6_know_112 : decode cX6_know 112 = .ok (.aload_n 0, 1) := by decide +kernel
theorem dX6_know_113 : decode cX6_know 113 = .ok (.getfield 19, 3) := by decide +kernel
theorem dX6_know_116 : decode cX6_know 116 = .ok (.iload_n 3, 1) := by decide +kernel
theorem dX6_know_117 : decode cX6_know 117 = .ok (.invokevirtual 204, 3) := by decide +kernel
theorem dX6_know_120 : decode cX6_know 120 = .ok (.lstore 7, 2) := by decide +kernel
theorem dX6_know_122 : decode cX6_know 122 = .ok (.aload_n 0, 1) := by decide +kernel
theorem dX6_know_123 : decode cX6_know 123 = .ok (.getfield 19, 3) := by decide +kernel
theorem dX6_know_126 : decode cX6_know 126 = .ok (.getfield 129, 3) := by decide +kernel
theorem dX6_know_129 : decode cX6_know 129 = .ok (.iload_n 1, 1) := by decide +kernel
theorem dX6_know_130 : decode cX6_know 130 = .ok (.aaload, 1) := by decide +kernel
theorem dX6_know_131 : decode cX6_know 131 = .ok (.aload 4, 2) := by decide +kernel
theorem dX6_know_133 : decode cX6_know 133 = .ok (.iload_n 2, 1) := by decide +kernel
theorem dX6_know_134 : decode cX6_know 134 = .ok (.iconst 0, 1) := by decide +kernel
theorem dX6_know_135 : decode cX6_know 135 = .ok (.invokevirtual 232, 3) := by decide +kernel
theorem dX6_know_138 : decode cX6_know 138 = .ok (.putfield 152, 3) := by decide +kernel
theorem dX6_know_141 : decode cX6_know 141 = .ok (.aload_n 0, 1) := by decide +kernel
theorem dX6_know_142 : decode cX6_know 142 = .ok (.getfield 54, 3) := by decide +kernel
theorem dX6_know_145 : decode cX6_know 145 = .ok (.aload_n 0, 1) := by decide +kernel
theorem dX6_know_146 : decode cX6_know 146 = .ok (.getfield 19, 3) := by decide +kernel
theorem dX6_know_149 : decode cX6_know 149 = .ok (.iload_n 3, 1) := by decide +kernel
theorem dX6_know_150 : decode cX6_know 150 = .ok (.invokevirtual 204, 3) := by decide +kernel
theorem dX6_know_153 : decode cX6_know 153 = .ok (.lstore 9, 2) := by decide +kernel
theorem dX6_know_155 : decode cX6_know 155 = .ok (.aload 4, 2) := by decide +kernel
theorem dX6_know_157 : decode cX6_know 157 = .ok (.iload_n 2, 1) := by decide +kernel
theorem dX6_know_158 : decode cX6_know 158 = .ok (.invokevirtual 235, 3) := by decide +kernel
theorem dX6_know_161 : decode cX6_know 161 = .ok (.i2l, 1) := by decide +kernel
theorem dX6_know_162 : decode cX6_know 162 = .ok (.lstore 11, 2) := by decide +kernel
theorem dX6_know_164 : decode cX6_know 164 = .ok (.lload 7, 2) := by decide +kernel
theorem dX6_know_166 : decode cX6_know 166 = .ok (.lload 11, 2) := by decide +kernel
theorem dX6_know_168 : decode cX6_know 168 = .ok (.lmul, 1) := by decide +kernel
theorem dX6_know_169 : decode cX6_know 169 = .ok (.lload 9, 2) := by decide +kernel
theorem dX6_know_171 : decode cX6_know 171 = .ok (.ldc2_w 238, 3) := by decide +kernel
theorem dX6_know_174 : decode cX6_know 174 = .ok (.lload 11, 2) := by decide +kernel
theorem dX6_know_176 : decode cX6_know 176 = .ok (.lsub, 1) := by decide +kernel
theorem dX6_know_177 : decode cX6_know 177 = .ok (.lmul, 1) := by decide +kernel
theorem dX6_know_178 : decode cX6_know 178 = .ok (.ladd, 1) := by decide +kernel
theorem dX6_know_179 : decode cX6_know 179 = .ok (.ldc2_w 238, 3) := by decide +kernel
theorem dX6_know_182 : decode cX6_know 182 = .ok (.ldiv, 1) := by decide +kernel
theorem dX6_know_183 : decode cX6_know 183 = .ok (.lload 5, 2) := by decide +kernel
theorem dX6_know_185 : decode cX6_know 185 = .ok (.lsub, 1) := by decide +kernel
theorem dX6_know_186 : decode cX6_know 186 = .ok (.lreturn, 1) := by decide +kernel
theorem dX6_life_0 : decode cX6_life 0 = .ok (.iload_n 2, 1) := by decide +kernel
theorem dX6_life_1 : decode cX6_life 1 = .ok (.iconst 1, 1) := by decide +kernel
theorem dX6_life_2 : decode cX6_life 2 = .ok (.bipush 100, 2) := by decide +kernel
theorem dX6_life_4 : decode cX6_life 4 = .ok (.invokestatic 69, 3) := by decide +kernel
theorem dX6_life_7 : decode cX6_life 7 = .ok (.ifCond .eq 10, 3) := by decide +kernel
theorem dX6_life_10 : decode cX6_life 10 = .ok (.aload_n 0, 1) := by decide +kernel
theorem dX6_life_11 : decode cX6_life 11 = .ok (.ldc 79, 2) := by decide +kernel
theorem dX6_life_13 : decode cX6_life 13 = .ok (.invokevirtual 80, 3) := by decide +kernel
theorem dX6_life_16 : decode cX6_life 16 = .ok (.ireturn, 1) := by decide +kernel
theorem dX6_life_17 : decode cX6_life 17 = .ok (.aload_n 0, 1) := by decide +kernel
theorem dX6_life_18 : decode cX6_life 18 = .ok (.iload_n 2, 1) := by decide +kernel
theorem dX6_life_19 : decode cX6_life 19 = .ok (.invokevirtual 240, 3) := by decide +kernel
theorem dX6_life_22 : decode cX6_life 22 = .ok (.aload_n 0, 1) := by decide +kernel
theorem dX6_life_23 : decode cX6_life 23 = .ok (.iload_n 1, 1) := by decide +kernel
theorem dX6_life_24 : decode cX6_life 24 = .ok (.iload_n 2, 1) := by decide +kernel
theorem dX6_life_25 : decode cX6_life 25 = .ok (.invokevirtual 243, 3) := by decide +kernel
theorem dX6_life_28 : decode cX6_life 28 = .ok (.istore_n 3, 1) := by decide +kernel
theorem dX6_life_29 : decode cX6_life 29 = .ok (.iload_n 3, 1) := by decide +kernel
theorem dX6_life_30 : decode cX6_life 30 = .ok (.ifCond .ne 7, 3) := by decide +kernel
theorem dX6_life_33 : decode cX6_life 33 = .ok (.iload_n 2, 1) := by decide +kernel
theorem dX6_life_34 : decode cX6_life 34 = .ok (.goto 4, 3) := by decide +kernel
theorem dX6_life_37 : decode cX6_life 37 = .ok (.iload_n 3, 1) := by decide +kernel
theorem dX6_life_38 : decode cX6_life 38 = .ok (.ireturn, 1) := by decide +kernel
theorem dX6_lives_0 : decode cX6_lives 0 = .ok (.iload_n 2, 1) := by decide +kernel
theorem dX6_lives_1 : decode cX6_lives 1 = .ok (.iconst 1, 1) := by decide +kernel
theorem dX6_lives_2 : decode cX6_lives 2 = .ok (.bipush 50, 2) := by decide +kernel
theorem dX6_lives_4 : decode cX6_lives 4 = .ok (.invokestatic 69, 3) := by decide +kernel
theorem dX6_lives_7 : decode cX6_lives 7 = .ok (.ifCond .ne 13, 3) := by decide +kernel
theorem dX6_lives_10 : decode cX6_lives 10 = .ok (.iload_n 3, 1) := by decide +kernel
theorem dX6_lives_11 : decode cX6_lives 11 = .ok (.iconst 1, 1) := by decide +kernel
theorem dX6_lives_12 : decode cX6_lives 12 = .ok (.bipush 100, 2) := by decide +kernel
theorem dX6_lives_14 : decode cX6_lives 14 = .ok (.invokestatic 69, 3) := by decide +kernel
theorem dX6_lives_17 : decode cX6_lives 17 = .ok (.ifCond .eq 10, 3) := by decide +kernel
theorem dX6_lives_20 : decode cX6_lives 20 = .ok (.aload_n 0, 1) := by decide +kernel
theorem dX6_lives_21 : decode cX6_lives 21 = .ok (.ldc 79, 2) := by decide +kernel
theorem dX6_lives_23 : decode cX6_lives 23 = .ok (.invokevirtual 80, 3) := by decide +kernel
theorem dX6_lives_26 : decode cX6_lives 26 = .ok (.ireturn, 1) := by decide +kernel
theorem dX6_lives_27 : decode cX6_lives 27 = .ok (.aload_n 0, 1) := by decide +kernel
theorem dX6_lives_28 : decode cX6_lives 28 = .ok (.iload_n 3, 1) := by decide +kernel
theorem dX6_lives_29 : decode cX6_lives 29 = .ok (.invokevirtual 240, 3) := by decide +kernel
theorem dX6_lives_32 : decode cX6_lives 32 = .ok (.iconst 0, 1) := by decide +kernel
theorem dX6_lives_33 : decode cX6_lives 33 = .ok (.istore 4, 2) := by decide +kernel
theorem dX6_lives_35 : decode cX6_lives 35 = .ok (.iconst 0, 1) := by decide +kernel
theorem dX6_lives_36 : decode cX6_lives 36 = .ok (.istore 5, 2) := by decide +kernel
theorem dX6_lives_38 : decode cX6_lives 38 = .ok (.iload 5, 2) := by decide +kernel
theorem dX6_lives_40 : decode cX6_lives 40 = .ok (.iload_n 2, 1) := by decide +kernel
theorem dX6_lives_41 : decode cX6_lives 41 = .ok (.if_icmp .ge 24, 3) := by decide +kernel
theorem dX6_lives_44 : decode cX6_lives 44 = .ok (.aload_n 0, 1) := by decide +kernel
theorem dX6_lives_45 : decode cX6_lives 45 = .ok (.iload_n 1, 1) := by decide +kernel
theorem dX6_lives_46 : decode cX6_lives 46 = .ok (.iload 5, 2) := by decide +kernel
theorem dX6_lives_48 : decode cX6_lives 48 = .ok (.iadd, 1) := by decide +kernel
theorem dX6_lives_49 : decode cX6_lives 49 = .ok (.iload_n 3, 1) := by decide +kernel
theorem dX6_lives_50 : decode cX6_lives 50 = .ok (.invokevirtual 243, 3) := by decide +kernel
theorem dX6_lives_53 : decode cX6_lives 53 = .ok (.ifCond .ne 6, 3) := by decide +kernel
theorem dX6_lives_56 : decode cX6_lives 56 = .ok (.iinc 4 1, 3) := by decide +kernel
theorem dX6_lives_59 : decode cX6_lives 59 = .ok (.iinc 5 1, 3) := by decide +kernel
theorem dX6_lives_62 : decode cX6_lives 62 = .ok (.goto (-24), 3) := by decide +kernel
theorem dX6_lives_65 : decode cX6_lives 65 = .ok (.iload 4, 2) := by decide +kernel
theorem dX6_lives_67 : decode cX6_lives 67 = .ok (.ireturn, 1) := by decide +kernel
theorem dX6_rests_0 : decode cX6_rests 0 = .ok (.aload_n 0, 1) := by decide +kernel
theorem dX6_rests_1 : decode cX6_rests 1 = .ok (.iload_n 1, 1) := by decide +kernel
theorem dX6_rests_2 : decode cX6_rests 2 = .ok (.invokevirtual 246, 3) := by decide +kernel
theorem dX6_rests_5 : decode cX6_rests 5 = .ok (.istore_n 2, 1) := by decide +kernel
theorem dX6_rests_6 : decode cX6_rests 6 = .ok (.iload_n 2, 1) := by decide +kernel
theorem dX6_rests_7 : decode cX6_rests 7 = .ok (.ifCond .eq 9, 3) := by decide +kernel
theorem dX6_rests_10 : decode cX6_rests 10 = .ok (.aload_n 0, 1) := by decide +kernel
theorem dX6_rests_11 : decode cX6_rests 11 = .ok (.iload_n 2, 1) := by decide +kernel
theorem dX6_rests_12 : decode cX6_rests 12 = .ok (.invokevirtual 80, 3) := by decide +kernel
theorem dX6_rests_15 : decode cX6_rests 15 = .ok (.ireturn, 1) := by decide +kernel
theorem dX6_rests_16 : decode cX6_rests 16 = .ok (.aload_n 0, 1) := by decide +kernel
theorem dX6_rests_17 : decode cX6_rests 17 = .ok (.getfield 36, 3) := by decide +kernel
theorem dX6_rests_20 : decode cX6_rests 20 = .ok (.iload_n 1, 1) := by decide +kernel
theorem dX6_rests_21 : decode cX6_rests 21 = .ok (.aaload, 1) := by decide +kernel
theorem dX6_rests_22 : decode cX6_rests 22 = .ok (.getfield 249, 3) := by decide +kernel
theorem dX6_rests_25 : decode cX6_rests 25 = .ok (.invokestatic 253, 3) := by decide +kernel
theorem dX6_rests_28 : decode cX6_rests 28 = .ok (.ireturn, 1) := by decide +kernel
theorem dX6_both_0 : decode cX6_both 0 = .ok (.iload_n 2, 1) := by decide +kernel
theorem dX6_both_1 : decode cX6_both 1 = .ok (.iconst 0, 1) := by decide +kernel
theorem dX6_both_2 : decode cX6_both 2 = .ok (.iconst 1, 1) := by decide +kernel
theorem dX6_both_3 : decode cX6_both 3 = .ok (.invokestatic 69, 3) := by decide +kernel
theorem dX6_both_6 : decode cX6_both 6 = .ok (.ifCond .eq 8, 3) := by decide +kernel
theorem dX6_both_9 : decode cX6_both 9 = .ok (.ldc 79, 2) := by decide +kernel
theorem dX6_both_11 : decode cX6_both 11 = .ok (.goto 8, 3) := by decide +kernel
theorem dX6_both_14 : decode cX6_both 14 = .ok (.aload_n 0, 1) := by decide +kernel
theorem dX6_both_15 : decode cX6_both 15 = .ok (.iload_n 1, 1) := by decide +kernel
theorem dX6_both_16 : decode cX6_both 16 = .ok (.invokevirtual 246, 3) := by decide +kernel
theorem dX6_both_19 : decode cX6_both 19 = .ok (.istore_n 3, 1) := by decide +kernel
theorem dX6_both_20 : decode cX6_both 20 = .ok (.iload_n 3, 1) := by decide +kernel
theorem dX6_both_21 : decode cX6_both 21 = .ok (.ifCond .eq 9, 3) := by decide +kernel
theorem dX6_both_24 : decode cX6_both 24 = .ok (.aload_n 0, 1) := by decide +kernel
theorem dX6_both_25 : decode cX6_both 25 = .ok (.iload_n 3, 1) := by decide +kernel
theorem dX6_both_26 : decode cX6_both 26 = .ok (.invokevirtual 80, 3) := by decide +kernel
theorem dX6_both_29 : decode cX6_both 29 = .ok (.ireturn, 1) := by decide +kernel
theorem dX6_both_30 : decode cX6_both 30 = .ok (.aload_n 0, 1) := by decide +kernel
theorem dX6_both_31 : decode cX6_both 31 = .ok (.getfield 36, 3) := by decide +kernel
theorem dX6_both_34 : decode cX6_both 34 = .ok (.iload_n 1, 1) := by decide +kernel
theorem dX6_both_35 : decode cX6_both 35 = .ok (.aaload, 1) := by decide +kernel
theorem dX6_both_36 : decode cX6_both 36 = .ok (.getfield 249, 3) := by decide +kernel
theorem dX6_both_39 : decode cX6_both 39 = .ok (.astore 4, 2) := by decide +kernel
theorem dX6_both_41 : decode cX6_both 41 = .ok (.aload 4, 2) := by decide +kernel
theorem dX6_both_43 : decode cX6_both 43 = .ok (.bipush 15, 2) := by decide +kernel
theorem dX6_both_45 : decode cX6_both 45 = .ok (.invokestatic 257, 3) := by decide +kernel
theorem dX6_both_48 : decode cX6_both 48 = .ok (.istore 5, 2) := by decide +kernel
theorem dX6_both_50 : decode cX6_both 50 = .ok (.iload_n 2, 1) := by decide +kernel
theorem dX6_both_51 : decode cX6_both 51 = .ok (.ifCond .ne 6, 3) := by decide +kernel
theorem dX6_both_54 : decode cX6_both 54 = .ok (.iload 5, 2) := by decide +kernel
theorem dX6_both_56 : decode cX6_both 56 = .ok (.ireturn, 1) := by decide +kernel
theorem dX6_both_57 : decode cX6_both 57 = .ok (.aload 4, 2) := by decide +kernel
theorem dX6_both_59 : decode cX6_both 59 = .ok (.invokestatic 253, 3) := by decide +kernel
theorem dX6_both_62 : decode cX6_both 62 = .ok (.istore 6, 2) := by decide +kernel
theorem dX6_both_64 : decode cX6_both 64 = .ok (.iload 6, 2) := by decide +kernel
theorem dX6_both_66 : decode cX6_both 66 = .ok (.ifCond .ne 12, 3) := by decide +kernel
theorem dX6_both_69 : decode cX6_both 69 = .ok (.aload_n 0, 1) := by decide +kernel
theorem dX6_both_70 : decode cX6_both 70 = .ok (.ldc 227, 2) := by decide +kernel
theorem dX6_both_72 : decode cX6_both 72 = .ok (.invokevirtual 80, 3) := by decide +kernel
theorem dX6_both_75 : decode cX6_both 75 = .ok (.goto 13, 3) := by decide +kernel
theorem dX6_both_78 : decode cX6_both 78 = .ok (.iload 5, 2) := by decide +kernel
theorem dX6_both_80 : decode cX6_both 80 = .ok (.aload 4, 2) := by decide +kernel
theorem dX6_both_82 : decode cX6_both 82 = .ok (.iload 6, 2) := by decide +kernel
theorem dX6_both_84 : decode cX6_both 84 = .ok (.invokestatic 257, 3) := by decide +kernel
theorem dX6_both_87 : decode cX6_both 87 = .ok (.isub, 1) := by decide +kernel
theorem dX6_both_88 : decode cX6_both 88 = .ok (.ireturn, 1) := by decide +kernel
theorem dX6_swarm_0 : decode cX6_swarm 0 = .ok (.iload_n 1, 1) := by decide +kernel
theorem dX6_swarm_1 : decode cX6_swarm 1 = .ok (.invokestatic 261, 3) := by decide +kernel
theorem dX6_swarm_4 : decode cX6_swarm 4 = .ok (.ifCond .ne 34, 3) := by decide +kernel
theorem dX6_swarm_7 : decode cX6_swarm 7 = .ok (.iload_n 2, 1) := by decide +kernel
theorem dX6_swarm_8 : decode cX6_swarm 8 = .ok (.iconst 0, 1) := by decide +kernel
theorem dX6_swarm_9 : decode cX6_swarm 9 = .ok (.bipush 50, 2) := by decide +kernel
theorem dX6_swarm_11 : decode cX6_swarm 11 = .ok (.invokestatic 69, 3) := by decide +kernel
theorem dX6_swarm_14 : decode cX6_swarm 14 = .ok (.ifCond .ne 24, 3) := by decide +kernel
theorem dX6_swarm_17 : decode cX6_swarm 17 = .ok (.iload_n 3, 1) := by decide +kernel
theorem dX6_swarm_18 : decode cX6_swarm 18 = .ok (.iconst 0, 1) := by decide +kernel
theorem dX6_swarm_19 : decode cX6_swarm 19 = .ok (.bipush 20, 2) := by decide +kernel
theorem dX6_swarm_21 : decode cX6_swarm 21 = .ok (.invokestatic 69, 3) := by decide +kernel
theorem dX6_swarm_24 : decode cX6_swarm 24 = .ok (.ifCond .ne 14, 3) := by decide +kernel
theorem dX6_swarm_27 : decode cX6_swarm 27 = .ok (.iload 4, 2) := by decide +kernel
theorem dX6_swarm_29 : decode cX6_swarm 29 = .ok (.iconst 0, 1) := by decide +kernel
theorem dX6_swarm_30 : decode cX6_swarm 30 = .ok (.bipush 13, 2) := by decide +kernel
theorem dX6_swarm_32 : decode cX6_swarm 32 = .ok (.invokestatic 69, 3) := by decide +kernel
theorem dX6_swarm_35 : decode cX6_swarm 35 = .ok (.ifCond .eq 10, 3) := by decide +kernel
theorem dX6_swarm_38 : decode cX6_swarm 38 = .ok (.aload_n 0, 1) := by decide +kernel
theorem dX6_swarm_39 : decode cX6_swarm 39 = .ok (.ldc 79, 2) := by decide +kernel
theorem dX6_swarm_41 : decode cX6_swarm 41 = .ok (.invokevirtual 80, 3) := by decide +kernel
theorem dX6_swarm_44 : decode cX6_swarm 44 = .ok (.ireturn, 1) := by decide +kernel
theorem dX6_swarm_45 : decode cX6_swarm 45 = .ok (.aload_n 0, 1) := by decide +kernel
theorem dX6_swarm_46 : decode cX6_swarm 46 = .ok (.getfield 36, 3) := by decide +kernel
theorem dX6_swarm_49 : decode cX6_swarm 49 = .ok (.iload_n 1, 1) := by decide +kernel
theorem dX6_swarm_50 : decode cX6_swarm 50 = .ok (.aaload, 1) := by decide +kernel
theorem dX6_swarm_51 : decode cX6_swarm 51 = .ok (.invokestatic 264, 3) := by decide +kernel
theorem dX6_swarm_54 : decode cX6_swarm 54 = .ok (.istore 5, 2) := by decide +kernel
theorem dX6_swarm_56 : decode cX6_swarm 56 = .ok (.iload 5, 2) := by decide +kernel
theorem dX6_swarm_58 : decode cX6_swarm 58 = .ok (.ifCond .eq 10, 3) := by decide +kernel
theorem dX6_swarm_61 : decode cX6_swarm 61 = .ok (.aload_n 0, 1) := by decide +kernel
theorem dX6_swarm_62 : decode cX6_swarm 62 = .ok (.iload 5, 2) := by decide +kernel
theorem dX6_swarm_64 : decode cX6_swarm 64 = .ok (.invokevirtual 80, 3) := by decide +kernel
theorem dX6_swarm_67 : decode cX6_swarm 67 = .ok (.ireturn, 1) := by decide +kernel
theorem dX6_swarm_68 : decode cX6_swarm 68 = .ok (.aload_n 0, 1) := by decide +kernel
theorem dX6_swarm_69 : decode cX6_swarm 69 = .ok (.getfield 61, 3) := by decide +kernel
theorem dX6_swarm_72 : decode cX6_swarm 72 = .ok (.aload_n 0, 1) := by decide +kernel
theorem dX6_swarm_73 : decode cX6_swarm 73 = .ok (.getfield 36, 3) := by decide +kernel
theorem dX6_swarm_76 : decode cX6_swarm 76 = .ok (.iload_n 1, 1) := by decide +kernel
theorem dX6_swarm_77 : decode cX6_swarm 77 = .ok (.aaload, 1) := by decide +kernel
theorem dX6_swarm_78 : decode cX6_swarm 78 = .ok (.iload_n 2, 1) := by decide +kernel
theorem dX6_swarm_79 : decode cX6_swarm 79 = .ok (.iload_n 3, 1) := by decide +kernel
theorem dX6_swarm_80 : decode cX6_swarm 80 = .ok (.invokevirtual 268, 3) := by decide +kernel
theorem dX6_swarm_83 : decode cX6_swarm 83 = .ok (.aload_n 0, 1) := by decide +kernel
theorem dX6_swarm_84 : decode cX6_swarm 84 = .ok (.getfield 61, 3) := by decide +kernel
theorem dX6_swarm_87 : decode cX6_swarm 87 = .ok (.invokevirtual 272, 3) := by decide +kernel
theorem dX6_swarm_90 : decode cX6_swarm 90 = .ok (.ifCond .eq 19, 3) := by decide +kernel
theorem dX6_swarm_93 : decode cX6_swarm 93 = .ok (.iload 4, 2) := by decide +kernel
theorem dX6_swarm_95 : decode cX6_swarm 95 = .ok (.iconst 2, 1) := by decide +kernel
theorem dX6_swarm_96 : decode cX6_swarm 96 = .ok (.isub, 1) := by decide +kernel
theorem dX6_swarm_97 : decode cX6_swarm 97 = .ok (.aload_n 0, 1) := by decide +kernel
theorem dX6_swarm_98 : decode cX6_swarm 98 = .ok (.getfield 36, 3) := by decide +kernel
theorem dX6_swarm_101 : decode cX6_swarm 101 = .ok (.iload_n 1, 1) := by decide +kernel
theorem dX6_swarm_102 : decode cX6_swarm 102 = .ok (.aaload, 1) := by decide +kernel
theorem dX6_swarm_103 : decode cX6_swarm 103 = .ok (.getfield 275, 3) := by decide +kernel
theorem dX6_swarm_106 : decode cX6_swarm 106 = .ok (.if_icmp .lt 10, 3) := by decide +kernel
theorem dX6_swarm_109 : decode cX6_swarm 109 = .ok (.aload_n 0, 1) := by decide +kernel
theorem dX6_swarm_110 : decode cX6_swarm 110 = .ok (.ldc 227, 2) := by decide +kernel
theorem dX6_swarm_112 : decode cX6_swarm 112 = .ok (.invokevirtual 80, 3) := by decide +kernel
theorem dX6_swarm_115 : decode cX6_swarm 115 = .ok (.ireturn, 1) := by decide +kernel
theorem dX6_swarm_116 : decode cX6_swarm 116 = .ok (.iload 4, 2) := by decide +kernel
theorem dX6_swarm_118 : decode cX6_swarm 118 = .ok (.lookupswitch 42 #[(0, 26), (1, 34)], 26) := by decide +kernel
theorem dX6_swarm_144 : decode cX6_swarm 144 = .ok (.aload_n 0, 1) := by decide +kernel
theorem dX6_swarm_145 : decode cX6_swarm 145 = .ok (.getfield 61, 3) := by decide +kernel
theorem dX6_swarm_148 : decode cX6_swarm 148 = .ok (.getfield 278, 3) := by decide +kernel
theorem dX6_swarm_151 : decode cX6_swarm 151 = .ok (.ireturn, 1) := by decide +kernel
theorem dX6_swarm_152 : decode cX6_swarm 152 = .ok (.aload_n 0, 1) := by decide +kernel
theorem dX6_swarm_153 : decode cX6_swarm 153 = .ok (.getfield 61, 3) := by decide +kernel
theorem dX6_swarm_156 : decode cX6_swarm 156 = .ok (.getfield 279, 3) := by decide +kernel
theorem dX6_swarm_159 : decode cX6_swarm 159 = .ok (.ireturn, 1) := by decide +kernel
theorem dX6_swarm_160 : decode cX6_swarm 160 = .ok (.aload_n 0, 1) := by decide +kernel
theorem dX6_swarm_161 : decode cX6_swarm 161 = .ok (.getfield 61, 3) := by decide +kernel
theorem dX6_swarm_164 : decode cX6_swarm 164 = .ok (.getfield 280, 3) := by decide +kernel
theorem dX6_swarm_167 : decode cX6_swarm 167 = .ok (.iload 4, 2) := by decide +kernel
theorem dX6_swarm_169 : decode cX6_swarm 169 = .ok (.iconst 2, 1) := by decide +kernel
theorem dX6_swarm_170 : decode cX6_swarm 170 = .ok (.isub, 1) := by decide +kernel
theorem dX6_swarm_171 : decode cX6_swarm 171 = .ok (.iaload, 1) := by decide +kernel
theorem dX6_swarm_172 : decode cX6_swarm 172 = .ok (.ireturn, 1) := by decide +kernel
theorem dX6_sheet_0 : decode cX6_sheet 0 = .ok (.iload_n 1, 1) := by decide +kernel
theorem dX6_sheet_1 : decode cX6_sheet 1 = .ok (.invokestatic 261, 3) := by decide +kernel
theorem dX6_sheet_4 : decode cX6_sheet 4 = .ok (.ifCond .ne 25, 3) := by decide +kernel
theorem dX6_sheet_7 : decode cX6_sheet 7 = .ok (.iload_n 2, 1) := by decide +kernel
theorem dX6_sheet_8 : decode cX6_sheet 8 = .ok (.ifCond .eq 28, 3) := by decide +kernel
theorem dX6_sheet_11 : decode cX6_sheet 11 = .ok (.iload_n 2, 1) := by decide +kernel
theorem dX6_sheet_12 : decode cX6_sheet 12 = .ok (.bipush 8, 2) := by decide +kernel
theorem dX6_sheet_14 : decode cX6_sheet 14 = .ok (.if_icmp .eq 22, 3) := by decide +kernel
theorem dX6_sheet_17 : decode cX6_sheet 17 = .ok (.iload_n 2, 1) := by decide +kernel
theorem dX6_sheet_18 : decode cX6_sheet 18 = .ok (.bipush 16, 2) := by decide +kernel
theorem dX6_sheet_20 : decode cX6_sheet 20 = .ok (.if_icmp .eq 16, 3) := by decide +kernel
theorem dX6_sheet_23 : decode cX6_sheet 23 = .ok (.iload_n 2, 1) := by decide +kernel
theorem dX6_sheet_24 : decode cX6_sheet 24 = .ok (.bipush 64, 2) := by decide +kernel
theorem dX6_sheet_26 : decode cX6_sheet 26 = .ok (.if_icmp .eq 10, 3) := by decide +kernel
theorem dX6_sheet_29 : decode cX6_sheet 29 = .ok (.aload_n 0, 1) := by decide +kernel
theorem dX6_sheet_30 : decode cX6_sheet 30 = .ok (.ldc 79, 2) := by decide +kernel
theorem dX6_sheet_32 : decode cX6_sheet 32 = .ok (.invokevirtual 80, 3) := by decide +kernel
theorem dX6_sheet_35 : decode cX6_sheet 35 = .ok (.ireturn, 1) := by decide +kernel
theorem dX6_sheet_36 : decode cX6_sheet 36 = .ok (.iload_n 3, 1) := by decide +kernel
theorem dX6_sheet_37 : decode cX6_sheet 37 = .ok (.ifCond .ge 11, 3) := by decide +kernel
theorem dX6_sheet_40 : decode cX6_sheet 40 = .ok (.aload_n 0, 1) := by decide +kernel
theorem dX6_sheet_41 : decode cX6_sheet 41 = .ok (.ldc_w 281, 3) := by decide +kernel
theorem dX6_sheet_44 : decode cX6_sheet 44 = .ok (.invokevirtual 80, 3) := by decide +kernel
theorem dX6_sheet_47 : decode cX6_sheet 47 = .ok (.ireturn, 1) := by decide +kernel
theorem dX6_sheet_48 : decode cX6_sheet 48 = .ok (.iload_n 3, 1) := by decide +kernel
theorem dX6_sheet_49 : decode cX6_sheet 49 = .ok (.bipush 40, 2) := by decide +kernel
theorem dX6_sheet_51 : decode cX6_sheet 51 = .ok (.if_icmp .le 10, 3) := by decide +kernel
theorem dX6_sheet_54 : decode cX6_sheet 54 = .ok (.aload_n 0, 1) := by decide +kernel
theorem dX6_sheet_55 : decode cX6_sheet 55 = .ok (.ldc 79, 2) := by decide +kernel
theorem dX6_sheet_57 : decode cX6_sheet 57 = .ok (.invokevirtual 80, 3) := by decide +kernel
theorem dX6_sheet_60 : decode cX6_sheet 60 = .ok (.ireturn, 1) := by decide +kernel
theorem dX6_sheet_61 : decode cX6_sheet 61 = .ok (.aload_n 0, 1) := by decide +kernel
theorem dX6_sheet_62 : decode cX6_sheet 62 = .ok (.getfield 36, 3) := by decide +kernel
theorem dX6_sheet_65 : decode cX6_sheet 65 = .ok (.iload_n 1, 1) := by decide +kernel
theorem dX6_sheet_66 : decode cX6_sheet 66 = .ok (.aaload, 1) := by decide +kernel
theorem dX6_sheet_67 : decode cX6_sheet 67 = .ok (.iload_n 2, 1) := by decide +kernel
theorem dX6_sheet_68 : decode cX6_sheet 68 = .ok (.iload_n 3, 1) := by decide +kernel
theorem dX6_sheet_69 : decode cX6_sheet 69 = .ok (.invokevirtual 282, 3) := by decide +kernel
theorem dX6_sheet_72 : decode cX6_sheet 72 = .ok (.aload_n 0, 1) := by decide +kernel
theorem dX6_sheet_73 : decode cX6_sheet 73 = .ok (.getfield 36, 3) := by decide +kernel
theorem dX6_sheet_76 : decode cX6_sheet 76 = .ok (.iload_n 1, 1) := by decide +kernel
theorem dX6_sheet_77 : decode cX6_sheet 77 = .ok (.aaload, 1) := by decide +kernel
theorem dX6_sheet_78 : decode cX6_sheet 78 = .ok (.getfield 275, 3) := by decide +kernel
theorem dX6_sheet_81 : decode cX6_sheet 81 = .ok (.ireturn, 1) := by decide +kernel
theorem dX6_write_0 : decode cX6_write 0 = .ok (.aload_n 0, 1) := by decide +kernel
theorem dX6_write_1 : decode cX6_write 1 = .ok (.iload_n 1, 1) := by decide +kernel
theorem dX6_write_2 : decode cX6_write 2 = .ok (.invokevirtual 285, 3) := by decide +kernel
theorem dX6_write_5 : decode cX6_write 5 = .ok (.istore 5, 2) := by decide +kernel
theorem dX6_write_7 : decode cX6_write 7 = .ok (.iload 5, 2) := by decide +kernel
theorem dX6_write_9 : decode cX6_write 9 = .ok (.ifCond .ne 26, 3) := by decide +kernel
theorem dX6_write_12 : decode cX6_write 12 = .ok (.iload_n 2, 1) := by decide +kernel
theorem dX6_write_13 : decode cX6_write 13 = .ok (.iconst 0, 1) := by decide +kernel
theorem dX6_write_14 : decode cX6_write 14 = .ok (.aload_n 0, 1) := by decide +kernel
theorem dX6_write_15 : decode cX6_write 15 = .ok (.getfield 36, 3) := by decide +kernel
theorem dX6_write_18 : decode cX6_write 18 = .ok (.iload_n 1, 1) := by decide +kernel
theorem dX6_write_19 : decode cX6_write 19 = .ok (.aaload, 1) := by decide +kernel
theorem dX6_write_20 : decode cX6_write 20 = .ok (.getfield 275, 3) := by decide +kernel
theorem dX6_write_23 : decode cX6_write 23 = .ok (.iconst 1, 1) := by decide +kernel
theorem dX6_write_24 : decode cX6_write 24 = .ok (.isub, 1) := by decide +kernel
theorem dX6_write_25 : decode cX6_write 25 = .ok (.invokestatic 69, 3) := by decide +kernel
theorem dX6_write_28 : decode cX6_write 28 = .ok (.ifCond .eq 7, 3) := by decide +kernel
theorem dX6_write_31 : decode cX6_write 31 = .ok (.ldc 79, 2) := by decide +kernel
theorem dX6_write_33 : decode cX6_write 33 = .ok (.istore 5, 2) := by decide +kernel
theorem dX6_write_35 : decode cX6_write 35 = .ok (.iload 5, 2) := by decide +kernel
theorem dX6_write_37 : decode cX6_write 37 = .ok (.ifCond .eq 11, 3) := by decide +kernel
theorem dX6_write_40 : decode cX6_write 40 = .ok (.aload_n 0, 1) := by decide +kernel
theorem dX6_write_41 : decode cX6_write 41 = .ok (.iload 5, 2) := by decide +kernel
theorem dX6_write_43 : decode cX6_write 43 = .ok (.invokevirtual 80, 3) := by decide +kernel
theorem dX6_write_46 : decode cX6_write 46 = .ok (.i2l, 1) := by decide +kernel
theorem dX6_write_47 : decode cX6_write 47 = .ok (.lreturn, 1) := by decide +kernel
theorem dX6_write_48 : decode cX6_write 48 = .ok (.aload_n 0, 1) := by decide +kernel
theorem dX6_write_49 : decode cX6_write 49 = .ok (.getfield 36, 3) := by decide +kernel
theorem dX6_write_52 : decode cX6_write 52 = .ok (.iload_n 1, 1) := by decide +kernel
theorem dX6_write_53 : decode cX6_write 53 = .ok (.aaload, 1) := by decide +kernel
theorem dX6_write_54 : decode cX6_write 54 = .ok (.getfield 249, 3) := by decide +kernel
theorem dX6_write_57 : decode cX6_write 57 = .ok (.iload_n 2, 1) := by decide +kernel
theorem dX6_write_58 : decode cX6_write 58 = .ok (.laload, 1) := by decide +kernel
theorem dX6_write_59 : decode cX6_write 59 = .ok (.lstore 6, 2) := by decide +kernel
theorem dX6_write_61 : decode cX6_write 61 = .ok (.aload_n 0, 1) := by decide +kernel
theorem dX6_write_62 : decode cX6_write 62 = .ok (.getfield 36, 3) := by decide +kernel
theorem dX6_write_65 : decode cX6_write 65 = .ok (.iload_n 1, 1) := by decide +kernel
theorem dX6_write_66 : decode cX6_write 66 = .ok (.aaload, 1) := by decide +kernel
theorem dX6_write_67 : decode cX6_write 67 = .ok (.iload_n 2, 1) := by decide +kernel
theorem dX6_write_68 : decode cX6_write 68 = .ok (.lload_n 3, 1) := by decide +kernel
theorem dX6_write_69 : decode cX6_write 69 = .ok (.invokevirtual 288, 3) := by decide +kernel
theorem dX6_write_72 : decode cX6_write 72 = .ok (.lload 6, 2) := by decide +kernel
theorem dX6_write_74 : decode cX6_write 74 = .ok (.lreturn, 1) := by decide +kernel
theorem dX6_copy_0 : decode cX6_copy 0 = .ok (.iload_n 1, 1) := by decide +kernel
theorem dX6_copy_1 : decode cX6_copy 1 = .ok (.invokestatic 261, 3) := by decide +kernel
theorem dX6_copy_4 : decode cX6_copy 4 = .ok (.ifCond .ne 10, 3) := by decide +kernel
theorem dX6_copy_7 : decode cX6_copy 7 = .ok (.iload_n 3, 1) := by decide +kernel
theorem dX6_copy_8 : decode cX6_copy 8 = .ok (.invokestatic 261, 3) := by decide +kernel
theorem dX6_copy_11 : decode cX6_copy 11 = .ok (.ifCond .eq 10, 3) := by decide +kernel
theorem dX6_copy_14 : decode cX6_copy 14 = .ok (.aload_n 0, 1) := by decide +kernel
theorem dX6_copy_15 : decode cX6_copy 15 = .ok (.ldc 79, 2) := by decide +kernel
theorem dX6_copy_17 : decode cX6_copy 17 = .ok (.invokevirtual 80, 3) := by decide +kernel
theorem dX6_copy_20 : decode cX6_copy 20 = .ok (.ireturn, 1) := by decide +kernel
theorem dX6_copy_21 : decode cX6_copy 21 = .ok (.aload_n 0, 1) := by decide +kernel
theorem dX6_copy_22 : decode cX6_copy 22 = .ok (.getfield 36, 3) := by decide +kernel
theorem dX6_copy_25 : decode cX6_copy 25 = .ok (.iload_n 1, 1) := by decide +kernel
theorem dX6_copy_26 : decode cX6_copy 26 = .ok (.aaload, 1) := by decide +kernel
theorem dX6_copy_27 : decode cX6_copy 27 = .ok (.invokevirtual 292, 3) := by decide +kernel
theorem dX6_copy_30 : decode cX6_copy 30 = .ok (.ifCond .ne 15, 3) := by decide +kernel
theorem dX6_copy_33 : decode cX6_copy 33 = .ok (.aload_n 0, 1) := by decide +kernel
theorem dX6_copy_34 : decode cX6_copy 34 = .ok (.getfield 36, 3) := by decide +kernel
theorem dX6_copy_37 : decode cX6_copy 37 = .ok (.iload_n 3, 1) := by decide +kernel
theorem dX6_copy_38 : decode cX6_copy 38 = .ok (.aaload, 1) := by decide +kernel
theorem dX6_copy_39 : decode cX6_copy 39 = .ok (.invokevirtual 292, 3) := by decide +kernel
theorem dX6_copy_42 : decode cX6_copy 42 = .ok (.ifCond .eq 11, 3) := by decide +kernel
theorem dX6_copy_45 : decode cX6_copy 45 = .ok (.aload_n 0, 1) := by decide +kernel
theorem dX6_copy_46 : decode cX6_copy 46 = .ok (.ldc_w 295, 3) := by decide +kernel
theorem dX6_copy_49 : decode cX6_copy 49 = .ok (.invokevirtual 80, 3) := by decide +kernel
theorem dX6_copy_52 : decode cX6_copy 52 = .ok (.ireturn, 1) := by decide +kernel
theorem dX6_copy_53 : decode cX6_copy 53 = .ok (.aload_n 0, 1) := by decide +kernel
theorem dX6_copy_54 : decode cX6_copy 54 = .ok (.getfield 36, 3) := by decide +kernel
theorem dX6_copy_57 : decode cX6_copy 57 = .ok (.iload_n 1, 1) := by decide +kernel
theorem dX6_copy_58 : decode cX6_copy 58 = .ok (.aaload, 1) := by decide +kernel
theorem dX6_copy_59 : decode cX6_copy 59 = .ok (.getfield 296, 3) := by decide +kernel
theorem dX6_copy_62 : decode cX6_copy 62 = .ok (.aload_n 0, 1) := by decide +kernel
theorem dX6_copy_63 : decode cX6_copy 63 = .ok (.getfield 36, 3) := by decide +kernel
theorem dX6_copy_66 : decode cX6_copy 66 = .ok (.iload_n 3, 1) := by decide +kernel
theorem dX6_copy_67 : decode cX6_copy 67 = .ok (.aaload, 1) := by decide +kernel
theorem dX6_copy_68 : decode cX6_copy 68 = .ok (.getfield 296, 3) := by decide +kernel
theorem dX6_copy_71 : decode cX6_copy 71 = .ok (.if_icmp .eq 10, 3) := by decide +kernel
theorem dX6_copy_74 : decode cX6_copy 74 = .ok (.aload_n 0, 1) := by decide +kernel
theorem dX6_copy_75 : decode cX6_copy 75 = .ok (.ldc 165, 2) := by decide +kernel
theorem dX6_copy_77 : decode cX6_copy 77 = .ok (.invokevirtual 80, 3) := by decide +kernel
theorem dX6_copy_80 : decode cX6_copy 80 = .ok (.ireturn, 1) := by decide +kernel
theorem dX6_copy_81 : decode cX6_copy 81 = .ok (.aload_n 0, 1) := by decide +kernel
theorem dX6_copy_82 : decode cX6_copy 82 = .ok (.getfield 36, 3) := by decide +kernel
theorem dX6_copy_85 : decode cX6_copy 85 = .ok (.iload_n 1, 1) := by decide +kernel
theorem dX6_copy_86 : decode cX6_copy 86 = .ok (.aaload, 1) := by decide +kernel
theorem dX6_copy_87 : decode cX6_copy 87 = .ok (.iload_n 2, 1) := by decide +kernel
theorem dX6_copy_88 : decode cX6_copy 88 = .ok (.iload 5, 2) := by decide +kernel
theorem dX6_copy_90 : decode cX6_copy 90 = .ok (.invokevirtual 299, 3) := by decide +kernel
theorem dX6_copy_93 : decode cX6_copy 93 = .ok (.ifCond .eq 19, 3) := by decide +kernel
theorem dX6_copy_96 : decode cX6_copy 96 = .ok (.aload_n 0, 1) := by decide +kernel
theorem dX6_copy_97 : decode cX6_copy 97 = .ok (.getfield 36, 3) := by decide +kernel
theorem dX6_copy_100 : decode cX6_copy 100 = .ok (.iload_n 3, 1) := by decide +kernel
theorem dX6_copy_101 : decode cX6_copy 101 = .ok (.aaload, 1) := by decide +kernel
theorem dX6_copy_102 : decode cX6_copy 102 = .ok (.iload 4, 2) := by decide +kernel
theorem dX6_copy_104 : decode cX6_copy 104 = .ok (.iload 5, 2) := by decide +kernel
theorem dX6_copy_106 : decode cX6_copy 106 = .ok (.invokevirtual 299, 3) := by decide +kernel
theorem dX6_copy_109 : decode cX6_copy 109 = .ok (.ifCond .ne 10, 3) := by decide +kernel
theorem dX6_copy_112 : decode cX6_copy 112 = .ok (.aload_n 0, 1) := by decide +kernel
theorem dX6_copy_113 : decode cX6_copy 113 = .ok (.ldc 79, 2) := by decide +kernel
theorem dX6_copy_115 : decode cX6_copy 115 = .ok (.invokevirtual 80, 3) := by decide +kernel
theorem dX6_copy_118 : decode cX6_copy 118 = .ok (.ireturn, 1) := by decide +kernel
theorem dX6_copy_119 : decode cX6_copy 119 = .ok (.aload_n 0, 1) := by decide +kernel
theorem dX6_copy_120 : decode cX6_copy 120 = .ok (.getfield 36, 3) := by decide +kernel
theorem dX6_copy_123 : decode cX6_copy 123 = .ok (.iload_n 1, 1) := by decide +kernel
theorem dX6_copy_124 : decode cX6_copy 124 = .ok (.aaload, 1) := by decide +kernel
theorem dX6_copy_125 : decode cX6_copy 125 = .ok (.getfield 249, 3) := by decide +kernel
theorem dX6_copy_128 : decode cX6_copy 128 = .ok (.iload_n 2, 1) := by decide +kernel
theorem dX6_copy_129 : decode cX6_copy 129 = .ok (.aload_n 0, 1) := by decide +kernel
theorem dX6_copy_130 : decode cX6_copy 130 = .ok (.getfield 36, 3) := by decide +kernel
theorem dX6_copy_133 : decode cX6_copy 133 = .ok (.iload_n 3, 1) := by decide +kernel
theorem dX6_copy_134 : decode cX6_copy 134 = .ok (.aaload, 1) := by decide +kernel
theorem dX6_copy_135 : decode cX6_copy 135 = .ok (.getfield 249, 3) := by decide +kernel
theorem dX6_copy_138 : decode cX6_copy 138 = .ok (.iload 4, 2) := by decide +kernel
theorem dX6_copy_140 : decode cX6_copy 140 = .ok (.iload 5, 2) := by decide +kernel
theorem dX6_copy_142 : decode cX6_copy 142 = .ok (.invokestatic 187, 3) := by decide +kernel
theorem dX6_copy_145 : decode cX6_copy 145 = .ok (.iload 5, 2) := by decide +kernel
theorem dX6_copy_147 : decode cX6_copy 147 = .ok (.ireturn, 1) := by decide +kernel
theorem dX6_turns_0 : decode cX6_turns 0 = .ok (.aload_n 0, 1) := by decide +kernel
theorem dX6_turns_1 : decode cX6_turns 1 = .ok (.iload_n 1, 1) := by decide +kernel
theorem dX6_turns_2 : decode cX6_turns 2 = .ok (.invokevirtual 285, 3) := by decide +kernel
theorem dX6_turns_5 : decode cX6_turns 5 = .ok (.istore_n 2, 1) := by decide +kernel
theorem dX6_turns_6 : decode cX6_turns 6 = .ok (.iload_n 2, 1) := by decide +kernel
theorem dX6_turns_7 : decode cX6_turns 7 = .ok (.ifCond .eq 9, 3) := by decide +kernel
theorem dX6_turns_10 : decode cX6_turns 10 = .ok (.aload_n 0, 1) := by decide +kernel
theorem dX6_turns_11 : decode cX6_turns 11 = .ok (.iload_n 2, 1) := by decide +kernel
theorem dX6_turns_12 : decode cX6_turns 12 = .ok (.invokevirtual 80, 3) := by decide +kernel
theorem dX6_turns_15 : decode cX6_turns 15 = .ok (.ireturn, 1) := by decide +kernel
theorem dX6_turns_16 : decode cX6_turns 16 = .ok (.iconst 0, 1) := by decide +kernel
theorem dX6_turns_17 : decode cX6_turns 17 = .ok (.istore_n 3, 1) := by decide +kernel
theorem dX6_turns_18 : decode cX6_turns 18 = .ok (.iconst 0, 1) := by decide +kernel
theorem dX6_turns_19 : decode cX6_turns 19 = .ok (.istore 4, 2) := by decide +kernel
theorem dX6_turns_21 : decode cX6_turns 21 = .ok (.iload 4, 2) := by decide +kernel
theorem dX6_turns_23 : decode cX6_turns 23 = .ok (.aload_n 0, 1) := by decide +kernel
theorem dX6_turns_24 : decode cX6_turns 24 = .ok (.getfield 36, 3) := by decide +kernel
theorem dX6_turns_27 : decode cX6_turns 27 = .ok (.iload_n 1, 1) := by decide +kernel
theorem dX6_turns_28 : decode cX6_turns 28 = .ok (.aaload, 1) := by decide +kernel
theorem dX6_turns_29 : decode cX6_turns 29 = .ok (.getfield 275, 3) := by decide +kernel
theorem dX6_turns_32 : decode cX6_turns 32 = .ok (.if_icmp .ge 87, 3) := by decide +kernel
theorem dX6_turns_35 : decode cX6_turns 35 = .ok (.aload_n 0, 1) := by decide +kernel
theorem dX6_turns_36 : decode cX6_turns 36 = .ok (.getfield 10, 3) := by decide +kernel
theorem dX6_turns_39 : decode cX6_turns 39 = .ok (.getfield 102, 3) := by decide +kernel
theorem dX6_turns_42 : decode cX6_turns 42 = .ok (.sipush 999, 3) := by decide +kernel
theorem dX6_turns_45 : decode cX6_turns 45 = .ok (.if_icmp .ge 74, 3) := by decide +kernel
theorem dX6_turns_48 : decode cX6_turns 48 = .ok (.aload_n 0, 1) := by decide +kernel
theorem dX6_turns_49 : decode cX6_turns 49 = .ok (.getfield 36, 3) := by decide +kernel
theorem dX6_turns_52 : decode cX6_turns 52 = .ok (.iload_n 1, 1) := by decide +kernel
theorem dX6_turns_53 : decode cX6_turns 53 = .ok (.aaload, 1) := by decide +kernel
theorem dX6_turns_54 : decode cX6_turns 54 = .ok (.getfield 249, 3) := by decide +kernel
theorem dX6_turns_57 : decode cX6_turns 57 = .ok (.iload 4, 2) := by decide +kernel
theorem dX6_turns_59 : decode cX6_turns 59 = .ok (.laload, 1) := by decide +kernel
theorem dX6_turns_60 : decode cX6_turns 60 = .ok (.lstore 5, 2) := by decide +kernel
theorem dX6_turns_62 : decode cX6_turns 62 = .ok (.lload 5, 2) := by decide +kernel
theorem dX6_turns_64 : decode cX6_turns 64 = .ok (.ldc2_w 303, 3) := by decide +kernel
theorem dX6_turns_67 : decode cX6_turns 67 = .ok (.lcmp, 1) := by decide +kernel
theorem dX6_turns_68 : decode cX6_turns 68 = .ok (.ifCond .lt 45, 3) := by decide +kernel
theorem dX6_turns_71 : decode cX6_turns 71 = .ok (.lload 5, 2) := by decide +kernel
theorem dX6_turns_73 : decode cX6_turns 73 = .ok (.ldc2_w 305, 3) := by decide +kernel
theorem dX6_turns_76 : decode cX6_turns 76 = .ok (.lcmp, 1) := by decide +kernel
theorem dX6_turns_77 : decode cX6_turns 77 = .ok (.ifCond .gt 36, 3) := by decide +kernel
theorem dX6_turns_80 : decode cX6_turns 80 = .ok (.aload_n 0, 1) := by decide +kernel
theorem dX6_turns_81 : decode cX6_turns 81 = .ok (.getfield 10, 3) := by decide +kernel
theorem dX6_turns_84 : decode cX6_turns 84 = .ok (.lload 5, 2) := by decide +kernel
theorem dX6_turns_86 : decode cX6_turns 86 = .ok (.l2i, 1) := by decide +kernel
theorem dX6_turns_87 : decode cX6_turns 87 = .ok (.invokevirtual 91, 3) := by decide +kernel
theorem dX6_turns_90 : decode cX6_turns 90 = .ok (.ifCond .eq 23, 3) := by decide +kernel
theorem dX6_turns_93 : decode cX6_turns 93 = .ok (.aload_n 0, 1) := by decide +kernel
theorem dX6_turns_94 : decode cX6_turns 94 = .ok (.getfield 10, 3) := by decide +kernel
theorem dX6_turns_97 : decode cX6_turns 97 = .ok (.lload 5, 2) := by decide +kernel
theorem dX6_turns_99 : decode cX6_turns 99 = .ok (.l2i, 1) := by decide +kernel
theorem dX6_turns_100 : decode cX6_turns 100 = .ok (.invokevirtual 95, 3) := by decide +kernel
theorem dX6_turns_103 : decode cX6_turns 103 = .ok (.aload_n 0, 1) := by decide +kernel
theorem dX6_turns_104 : decode cX6_turns 104 = .ok (.getfield 10, 3) := by decide +kernel
theorem dX6_turns_107 : decode cX6_turns 107 = .ok (.invokevirtual 105, 3) := by decide +kernel
theorem dX6_turns_110 : decode cX6_turns 110 = .ok (.iinc 3 1, 3) := by decide +kernel
theorem dX6_turns_113 : decode cX6_turns 113 = .ok (.iinc 4 1, 3) := by decide +kernel
theorem dX6_turns_116 : decode cX6_turns 116 = .ok (.goto (-95), 3) := by decide +kernel
theorem dX6_turns_119 : decode cX6_turns 119 = .ok (.iload_n 3, 1) := by decide +kernel
theorem dX6_turns_120 : decode cX6_turns 120 = .ok (.ireturn, 1) := by decide +kernel
theorem dX6_read_0 : decode cX6_read 0 = .ok (.aload_n 0, 1) := by decide +kernel
theorem dX6_read_1 : decode cX6_read 1 = .ok (.iload_n 1, 1) := by decide +kernel
theorem dX6_read_2 : decode cX6_read 2 = .ok (.invokevirtual 285, 3) := by decide +kernel
theorem dX6_read_5 : decode cX6_read 5 = .ok (.istore_n 2, 1) := by decide +kernel
theorem dX6_read_6 : decode cX6_read 6 = .ok (.iload_n 2, 1) := by decide +kernel
theorem dX6_read_7 : decode cX6_read 7 = .ok (.ifCond .eq 9, 3) := by decide +kernel
theorem dX6_read_10 : decode cX6_read 10 = .ok (.aload_n 0, 1) := by decide +kernel
theorem dX6_read_11 : decode cX6_read 11 = .ok (.iload_n 2, 1) := by decide +kernel
theorem dX6_read_12 : decode cX6_read 12 = .ok (.invokevirtual 80, 3) := by decide +kernel
theorem dX6_read_15 : decode cX6_read 15 = .ok (.ireturn, 1) := by decide +kernel
theorem dX6_read_16 : decode cX6_read 16 = .ok (.iconst 0, 1) := by decide +kernel
theorem dX6_read_17 : decode cX6_read 17 = .ok (.istore_n 3, 1) := by decide +kernel
theorem dX6_read_18 : decode cX6_read 18 = .ok (.iload_n 3, 1) := by decide +kernel
theorem dX6_read_19 : decode cX6_read 19 = .ok (.aload_n 0, 1) := by decide +kernel
theorem dX6_read_20 : decode cX6_read 20 = .ok (.getfield 36, 3) := by decide +kernel
theorem dX6_read_23 : decode cX6_read 23 = .ok (.iload_n 1, 1) := by decide +kernel
theorem dX6_read_24 : decode cX6_read 24 = .ok (.aaload, 1) := by decide +kernel
theorem dX6_read_25 : decode cX6_read 25 = .ok (.getfield 275, 3) := by decide +kernel
theorem dX6_read_28 : decode cX6_read 28 = .ok (.if_icmp .ge 54, 3) := by decide +kernel
theorem dX6_read_31 : decode cX6_read 31 = .ok (.aload_n 0, 1) := by decide +kernel
theorem dX6_read_32 : decode cX6_read 32 = .ok (.getfield 36, 3) := by decide +kernel
theorem dX6_read_35 : decode cX6_read 35 = .ok (.iload_n 1, 1) := by decide +kernel
theorem dX6_read_36 : decode cX6_read 36 = .ok (.aaload, 1) := by decide +kernel
theorem dX6_read_37 : decode cX6_read 37 = .ok (.getfield 249, 3) := by decide +kernel
theorem dX6_read_40 : decode cX6_read 40 = .ok (.iload_n 3, 1) := by decide +kernel
theorem dX6_read_41 : decode cX6_read 41 = .ok (.laload, 1) := by decide +kernel
theorem dX6_read_42 : decode cX6_read 42 = .ok (.aload_n 0, 1) := by decide +kernel
theorem dX6_read_43 : decode cX6_read 43 = .ok (.getfield 10, 3) := by decide +kernel
theorem dX6_read_46 : decode cX6_read 46 = .ok (.aload_n 0, 1) := by decide +kernel
theorem dX6_read_47 : decode cX6_read 47 = .ok (.getfield 10, 3) := by decide +kernel
theorem dX6_read_50 : decode cX6_read 50 = .ok (.getfield 102, 3) := by decide +kernel
theorem dX6_read_53 : decode cX6_read 53 = .ok (.iconst 1, 1) := by decide +kernel
theorem dX6_read_54 : decode cX6_read 54 = .ok (.iadd, 1) := by decide +kernel
theorem dX6_read_55 : decode cX6_read 55 = .ok (.iload_n 3, 1) := by decide +kernel
theorem dX6_read_56 : decode cX6_read 56 = .ok (.iadd, 1) := by decide +kernel
theorem dX6_read_57 : decode cX6_read 57 = .ok (.aload_n 0, 1) := by decide +kernel
theorem dX6_read_58 : decode cX6_read 58 = .ok (.getfield 10, 3) := by decide +kernel
theorem dX6_read_61 : decode cX6_read 61 = .ok (.getfield 99, 3) := by decide +kernel
theorem dX6_read_64 : decode cX6_read 64 = .ok (.invokevirtual 176, 3) := by decide +kernel
theorem dX6_read_67 : decode cX6_read 67 = .ok (.i2l, 1) := by decide +kernel
theorem dX6_read_68 : decode cX6_read 68 = .ok (.lcmp, 1) := by decide +kernel
theorem dX6_read_69 : decode cX6_read 69 = .ok (.ifCond .eq 7, 3) := by decide +kernel
theorem dX6_read_72 : decode cX6_read 72 = .ok (.iconst 1, 1) := by decide +kernel
theorem dX6_read_73 : decode cX6_read 73 = .ok (.iload_n 3, 1) := by decide +kernel
theorem dX6_read_74 : decode cX6_read 74 = .ok (.iadd, 1) := by decide +kernel
theorem dX6_read_75 : decode cX6_read 75 = .ok (.ireturn, 1) := by decide +kernel
theorem dX6_read_76 : decode cX6_read 76 = .ok (.iinc 3 1, 3) := by decide +kernel
theorem dX6_read_79 : decode cX6_read 79 = .ok (.goto (-61), 3) := by decide +kernel
theorem dX6_read_82 : decode cX6_read 82 = .ok (.iconst 0, 1) := by decide +kernel
theorem dX6_read_83 : decode cX6_read 83 = .ok (.ireturn, 1) := by decide +kernel
theorem dX6_image_0 : decode cX6_image 0 = .ok (.aload_n 0, 1) := by decide +kernel
theorem dX6_image_1 : decode cX6_image 1 = .ok (.getfield 16, 3) := by decide +kernel
theorem dX6_image_4 : decode cX6_image 4 = .ok (.aload_n 0, 1) := by decide +kernel
theorem dX6_image_5 : decode cX6_image 5 = .ok (.getfield 10, 3) := by decide +kernel
theorem dX6_image_8 : decode cX6_image 8 = .ok (.invokevirtual 228, 3) := by decide +kernel
theorem dX6_image_11 : decode cX6_image 11 = .ok (.aload_n 0, 1) := by decide +kernel
theorem dX6_image_12 : decode cX6_image 12 = .ok (.iconst 1, 1) := by decide +kernel
theorem dX6_image_13 : decode cX6_image 13 = .ok (.putfield 22, 3) := by decide +kernel
theorem dX6_image_16 : decode cX6_image 16 = .ok (.iconst 1, 1) := by decide +kernel
theorem dX6_image_17 : decode cX6_image 17 = .ok (.ireturn, 1) := by decide +kernel
theorem dX6_undo_0 : decode cX6_undo 0 = .ok (.aload_n 0, 1) := by decide +kernel
theorem dX6_undo_1 : decode cX6_undo 1 = .ok (.getfield 22, 3) := by decide +kernel
theorem dX6_undo_4 : decode cX6_undo 4 = .ok (.ifCond .ne 10, 3) := by decide +kernel
theorem dX6_undo_7 : decode cX6_undo 7 = .ok (.aload_n 0, 1) := by decide +kernel
theorem dX6_undo_8 : decode cX6_undo 8 = .ok (.ldc 227, 2) := by decide +kernel
theorem dX6_undo_10 : decode cX6_undo 10 = .ok (.invokevirtual 80, 3) := by decide +kernel
theorem dX6_undo_13 : decode cX6_undo 13 = .ok (.ireturn, 1) := by decide +kernel
theorem dX6_undo_14 : decode cX6_undo 14 = .ok (.aload_n 0, 1) := by decide +kernel
theorem dX6_undo_15 : decode cX6_undo 15 = .ok (.getfield 10, 3) := by decide +kernel
theorem dX6_undo_18 : decode cX6_undo 18 = .ok (.aload_n 0, 1) := by decide +kernel
theorem dX6_undo_19 : decode cX6_undo 19 = .ok (.getfield 16, 3) := by decide +kernel
theorem dX6_undo_22 : decode cX6_undo 22 = .ok (.invokevirtual 228, 3) := by decide +kernel
theorem dX6_undo_25 : decode cX6_undo 25 = .ok (.aload_n 0, 1) := by decide +kernel
theorem dX6_undo_26 : decode cX6_undo 26 = .ok (.getfield 10, 3) := by decide +kernel
theorem dX6_undo_29 : decode cX6_undo 29 = .ok (.getfield 102, 3) := by decide +kernel
theorem dX6_undo_32 : decode cX6_undo 32 = .ok (.ireturn, 1) := by decide +kernel
theorem dX6_tear_0 : decode cX6_tear 0 = .ok (.aload_n 0, 1) := by decide +kernel
theorem dX6_tear_1 : decode cX6_tear 1 = .ok (.getfield 22, 3) := by decide +kernel
theorem dX6_tear_4 : decode cX6_tear 4 = .ok (.ifCond .eq 7, 3) := by decide +kernel
theorem dX6_tear_7 : decode cX6_tear 7 = .ok (.iconst 1, 1) := by decide +kernel
theorem dX6_tear_8 : decode cX6_tear 8 = .ok (.goto 4, 3) := by decide +kernel
theorem dX6_tear_11 : decode cX6_tear 11 = .ok (.iconst 0, 1) := by decide +kernel
theorem dX6_tear_12 : decode cX6_tear 12 = .ok (.istore_n 1, 1) := by decide +kernel
theorem dX6_tear_13 : decode cX6_tear 13 = .ok (.aload_n 0, 1) := by decide +kernel
theorem dX6_tear_14 : decode cX6_tear 14 = .ok (.iconst 0, 1) := by decide +kernel
theorem dX6_tear_15 : decode cX6_tear 15 = .ok (.putfield 22, 3) := by decide +kernel
theorem dX6_tear_18 : decode cX6_tear 18 = .ok (.iload_n 1, 1) := by decide +kernel
theorem dX6_tear_19 : decode cX6_tear 19 = .ok (.ireturn, 1) := by decide +kernel
theorem dX6_count_0 : decode cX6_count 0 = .ok (.iload_n 1, 1) := by decide +kernel
theorem dX6_count_1 : decode cX6_count 1 = .ok (.tableswitch 92 0 5 #[39, 47, 55, 63, 79, 84], 39) := by decide +kernel
theorem dX6_count_40 : decode cX6_count 40 = .ok (.aload_n 0, 1) := by decide +kernel
theorem dX6_count_41 : decode cX6_count 41 = .ok (.getfield 10, 3) := by decide +kernel
theorem dX6_count_44 : decode cX6_count 44 = .ok (.getfield 125, 3) := by decide +kernel
theorem dX6_count_47 : decode cX6_count 47 = .ok (.ireturn, 1) := by decide +kernel
theorem dX6_count_48 : decode cX6_count 48 = .ok (.aload_n 0, 1) := by decide +kernel
theorem dX6_count_49 : decode cX6_count 49 = .ok (.getfield 10, 3) := by decide +kernel
theorem dX6_count_52 : decode cX6_count 52 = .ok (.invokevirtual 307, 3) := by decide +kernel
theorem dX6_count_55 : decode cX6_count 55 = .ok (.ireturn, 1) := by decide +kernel
theorem dX6_count_56 : decode cX6_count 56 = .ok (.aload_n 0, 1) := by decide +kernel
theorem dX6_count_57 : decode cX6_count 57 = .ok (.getfield 10, 3) := by decide +kernel
theorem dX6_count_60 : decode cX6_count 60 = .ok (.invokevirtual 311, 3) := by decide +kernel
theorem dX6_count_63 : decode cX6_count 63 = .ok (.ireturn, 1) := by decide +kernel
theorem dX6_count_64 : decode cX6_count 64 = .ok (.aload_n 0, 1) := by decide +kernel
theorem dX6_count_65 : decode cX6_count 65 = .ok (.getfield 10, 3) := by decide +kernel
theorem dX6_count_68 : decode cX6_count 68 = .ok (.invokevirtual 196, 3) := by decide +kernel
theorem dX6_count_71 : decode cX6_count 71 = .ok (.ifCond .eq 7, 3) := by decide +kernel
theorem dX6_count_74 : decode cX6_count 74 = .ok (.iconst 1, 1) := by decide +kernel
theorem dX6_count_75 : decode cX6_count 75 = .ok (.goto 4, 3) := by decide +kernel
theorem dX6_count_78 : decode cX6_count 78 = .ok (.iconst 0, 1) := by decide +kernel
theorem dX6_count_79 : decode cX6_count 79 = .ok (.ireturn, 1) := by decide +kernel
theorem dX6_count_80 : decode cX6_count 80 = .ok (.aload_n 0, 1) := by decide +kernel
theorem dX6_count_81 : decode cX6_count 81 = .ok (.getfield 30, 3) := by decide +kernel
theorem dX6_count_84 : decode cX6_count 84 = .ok (.ireturn, 1) := by decide +kernel
theorem dX6_count_85 : decode cX6_count 85 = .ok (.aload_n 0, 1) := by decide +kernel
theorem dX6_count_86 : decode cX6_count 86 = .ok (.getfield 10, 3) := by decide +kernel
theorem dX6_count_89 : decode cX6_count 89 = .ok (.invokevirtual 314, 3) := by decide +kernel
theorem dX6_count_92 : decode cX6_count 92 = .ok (.ireturn, 1) := by decide +kernel
theorem dX6_count_93 : decode cX6_count 93 = .ok (.aload_n 0, 1) := by decide +kernel
theorem dX6_count_94 : decode cX6_count 94 = .ok (.ldc 79, 2) := by decide +kernel
theorem dX6_count_96 : decode cX6_count 96 = .ok (.invokevirtual 80, 3) := by decide +kernel
theorem dX6_count_99 : decode cX6_count 99 = .ok (.ireturn, 1) := by decide +kernel
theorem dX6_status_0 : decode cX6_status 0 = .ok (.iload_n 1, 1) := by decide +kernel
theorem dX6_status_1 : decode cX6_status 1 = .ok (.iconst (-1), 1) := by decide +kernel
theorem dX6_status_2 : decode cX6_status 2 = .ok (.bipush 6, 2) := by decide +kernel
theorem dX6_status_4 : decode cX6_status 4 = .ok (.invokestatic 69, 3) := by decide +kernel
theorem dX6_status_7 : decode cX6_status 7 = .ok (.ifCond .eq 10, 3) := by decide +kernel
theorem dX6_status_10 : decode cX6_status 10 = .ok (.aload_n 0, 1) := by decide +kernel
theorem dX6_status_11 : decode cX6_status 11 = .ok (.ldc 79, 2) := by decide +kernel
theorem dX6_status_13 : decode cX6_status 13 = .ok (.invokevirtual 80, 3) := by decide +kernel
theorem dX6_status_16 : decode cX6_status 16 = .ok (.ireturn, 1) := by decide +kernel
theorem dX6_status_17 : decode cX6_status 17 = .ok (.iload_n 1, 1) := by decide +kernel
theorem dX6_status_18 : decode cX6_status 18 = .ok (.ifCond .lt 10, 3) := by decide +kernel
theorem dX6_status_21 : decode cX6_status 21 = .ok (.aload_n 0, 1) := by decide +kernel
theorem dX6_status_22 : decode cX6_status 22 = .ok (.getfield 40, 3) := by decide +kernel
theorem dX6_status_25 : decode cX6_status 25 = .ok (.iload_n 1, 1) := by decide +kernel
theorem dX6_status_26 : decode cX6_status 26 = .ok (.iaload, 1) := by decide +kernel
theorem dX6_status_27 : decode cX6_status 27 = .ok (.ireturn, 1) := by decide +kernel
theorem dX6_status_28 : decode cX6_status 28 = .ok (.iconst 0, 1) := by decide +kernel
theorem dX6_status_29 : decode cX6_status 29 = .ok (.istore_n 2, 1) := by decide +kernel
theorem dX6_status_30 : decode cX6_status 30 = .ok (.iconst 0, 1) := by decide +kernel
theorem dX6_status_31 : decode cX6_status 31 = .ok (.istore_n 3, 1) := by decide +kernel
theorem dX6_status_32 : decode cX6_status 32 = .ok (.iload_n 3, 1) := by decide +kernel
theorem dX6_status_33 : decode cX6_status 33 = .ok (.bipush 7, 2) := by decide +kernel
theorem dX6_status_35 : decode cX6_status 35 = .ok (.if_icmp .ge 18, 3) := by decide +kernel
theorem dX6_status_38 : decode cX6_status 38 = .ok (.iload_n 2, 1) := by decide +kernel
theorem dX6_status_39 : decode cX6_status 39 = .ok (.aload_n 0, 1) := by decide +kernel
theorem dX6_status_40 : decode cX6_status 40 = .ok (.getfield 40, 3) := by decide +kernel
theorem dX6_status_43 : decode cX6_status 43 = .ok (.iload_n 3, 1) := by decide +kernel
theorem dX6_status_44 : decode cX6_status 44 = .ok (.iaload, 1) := by decide +kernel
theorem dX6_status_45 : decode cX6_status 45 = .ok (.iadd, 1) := by decide +kernel
theorem dX6_status_46 : decode cX6_status 46 = .ok (.istore_n 2, 1) := by decide +kernel
theorem dX6_status_47 : decode cX6_status 47 = .ok (.iinc 3 1, 3) := by decide +kernel
theorem dX6_status_50 : decode cX6_status 50 = .ok (.goto (-18), 3) := by decide +kernel
theorem dX6_status_53 : decode cX6_status 53 = .ok (.iload_n 2, 1) := by decide +kernel
theorem dX6_status_54 : decode cX6_status 54 = .ok (.ireturn, 1) := by decide +kernel
theorem dX6_finding_0 : decode cX6_finding 0 = .ok (.ldc 79, 2) := by decide +kernel
theorem dX6_finding_2 : decode cX6_finding 2 = .ok (.iload_n 1, 1) := by decide +kernel
theorem dX6_finding_3 : decode cX6_finding 3 = .ok (.isub, 1) := by decide +kernel
theorem dX6_finding_4 : decode cX6_finding 4 = .ok (.istore_n 2, 1) := by decide +kernel
theorem dX6_finding_5 : decode cX6_finding 5 = .ok (.iload_n 2, 1) := by decide +kernel
theorem dX6_finding_6 : decode cX6_finding 6 = .ok (.ifCond .lt 19, 3) := by decide +kernel
theorem dX6_finding_9 : decode cX6_finding 9 = .ok (.iload_n 2, 1) := by decide +kernel
theorem dX6_finding_10 : decode cX6_finding 10 = .ok (.bipush 7, 2) := by decide +kernel
theorem dX6_finding_12 : decode cX6_finding 12 = .ok (.if_icmp .ge 13, 3) := by decide +kernel
theorem dX6_finding_15 : decode cX6_finding 15 = .ok (.aload_n 0, 1) := by decide +kernel
theorem dX6_finding_16 : decode cX6_finding 16 = .ok (.getfield 40, 3) := by decide +kernel
theorem dX6_finding_19 : decode cX6_finding 19 = .ok (.iload_n 2, 1) := by decide +kernel
theorem dX6_finding_20 : decode cX6_finding 20 = .ok (.dup2, 1) := by decide +kernel
theorem dX6_finding_21 : decode cX6_finding 21 = .ok (.iaload, 1) := by decide +kernel
theorem dX6_finding_22 : decode cX6_finding 22 = .ok (.iconst 1, 1) := by decide +kernel
theorem dX6_finding_23 : decode cX6_finding 23 = .ok (.iadd, 1) := by decide +kernel
theorem dX6_finding_24 : decode cX6_finding 24 = .ok (.iastore, 1) := by decide +kernel
theorem dX6_finding_25 : decode cX6_finding 25 = .ok (.iload_n 1, 1) := by decide +kernel
theorem dX6_finding_26 : decode cX6_finding 26 = .ok (.ireturn, 1) := by decide +kernel
theorem dX6_isOutside_0 : decode cX6_isOutside 0 = .ok (.iload_n 0, 1) := by decide +kernel
theorem dX6_isOutside_1 : decode cX6_isOutside 1 = .ok (.iload_n 1, 1) := by decide +kernel
theorem dX6_isOutside_2 : decode cX6_isOutside 2 = .ok (.if_icmp .lt 8, 3) := by decide +kernel
theorem dX6_isOutside_5 : decode cX6_isOutside 5 = .ok (.iload_n 0, 1) := by decide +kernel
theorem dX6_isOutside_6 : decode cX6_isOutside 6 = .ok (.iload_n 2, 1) := by decide +kernel
theorem dX6_isOutside_7 : decode cX6_isOutside 7 = .ok (.if_icmp .le 7, 3) := by decide +kernel
theorem dX6_isOutside_10 : decode cX6_isOutside 10 = .ok (.iconst 1, 1) := by decide +kernel
theorem dX6_isOutside_11 : decode cX6_isOutside 11 = .ok (.goto 4, 3) := by decide +kernel
theorem dX6_isOutside_14 : decode cX6_isOutside 14 = .ok (.iconst 0, 1) := by decide +kernel
theorem dX6_isOutside_15 : decode cX6_isOutside 15 = .ok (.ireturn, 1) := by decide +kernel
theorem dX6_isNoMove_0 : decode cX6_isNoMove 0 = .ok (.iload_n 0, 1) := by decide +kernel
theorem dX6_isNoMove_1 : decode cX6_isNoMove 1 = .ok (.bipush (-24), 2) := by decide +kernel
theorem dX6_isNoMove_3 : decode cX6_isNoMove 3 = .ok (.bipush 24, 2) := by decide +kernel
theorem dX6_isNoMove_5 : decode cX6_isNoMove 5 = .ok (.invokestatic 69, 3) := by decide +kernel
theorem dX6_isNoMove_8 : decode cX6_isNoMove 8 = .ok (.ireturn, 1) := by decide +kernel
theorem dX6_isNoHeight_0 : decode cX6_isNoHeight 0 = .ok (.iload_n 0, 1) := by decide +kernel
theorem dX6_isNoHeight_1 : decode cX6_isNoHeight 1 = .ok (.bipush (-12), 2) := by decide +kernel
theorem dX6_isNoHeight_3 : decode cX6_isNoHeight 3 = .ok (.bipush 12, 2) := by decide +kernel
theorem dX6_isNoHeight_5 : decode cX6_isNoHeight 5 = .ok (.invokestatic 69, 3) := by decide +kernel
theorem dX6_isNoHeight_8 : decode cX6_isNoHeight 8 = .ok (.ireturn, 1) := by decide +kernel
theorem dX6_isNoSureness_0 : decode cX6_isNoSureness 0 = .ok (.iload_n 0, 1) := by decide +kernel
theorem dX6_isNoSureness_1 : decode cX6_isNoSureness 1 = .ok (.bipush 50, 2) := by decide +kernel
theorem dX6_isNoSureness_3 : decode cX6_isNoSureness 3 = .ok (.bipush 100, 2) := by decide +kernel
theorem dX6_isNoSureness_5 : decode cX6_isNoSureness 5 = .ok (.invokestatic 69, 3) := by decide +kernel
theorem dX6_isNoSureness_8 : decode cX6_isNoSureness 8 = .ok (.ireturn, 1) := by decide +kernel
theorem dX6_isNoSheet_0 : decode cX6_isNoSheet 0 = .ok (.iload_n 0, 1) := by decide +kernel
theorem dX6_isNoSheet_1 : decode cX6_isNoSheet 1 = .ok (.iconst 0, 1) := by decide +kernel
theorem dX6_isNoSheet_2 : decode cX6_isNoSheet 2 = .ok (.iconst 3, 1) := by decide +kernel
theorem dX6_isNoSheet_3 : decode cX6_isNoSheet 3 = .ok (.invokestatic 69, 3) := by decide +kernel
theorem dX6_isNoSheet_6 : decode cX6_isNoSheet 6 = .ok (.ireturn, 1) := by decide +kernel
theorem dX6_isNoWarning_0 : decode cX6_isNoWarning 0 = .ok (.iload_n 1, 1) := by decide +kernel
theorem dX6_isNoWarning_1 : decode cX6_isNoWarning 1 = .ok (.iconst 0, 1) := by decide +kernel
theorem dX6_isNoWarning_2 : decode cX6_isNoWarning 2 = .ok (.aload_n 0, 1) := by decide +kernel
theorem dX6_isNoWarning_3 : decode cX6_isNoWarning 3 = .ok (.getfield 10, 3) := by decide +kernel
theorem dX6_isNoWarning_6 : decode cX6_isNoWarning 6 = .ok (.getfield 125, 3) := by decide +kernel
theorem dX6_isNoWarning_9 : decode cX6_isNoWarning 9 = .ok (.iconst 1, 1) := by decide +kernel
theorem dX6_isNoWarning_10 : decode cX6_isNoWarning 10 = .ok (.isub, 1) := by decide +kernel
theorem dX6_isNoWarning_11 : decode cX6_isNoWarning 11 = .ok (.invokestatic 69, 3) := by decide +kernel
theorem dX6_isNoWarning_14 : decode cX6_isNoWarning 14 = .ok (.ireturn, 1) := by decide +kernel
theorem dX6_findingOfSheet_0 : decode cX6_findingOfSheet 0 = .ok (.iload_n 1, 1) := by decide +kernel
theorem dX6_findingOfSheet_1 : decode cX6_findingOfSheet 1 = .ok (.invokestatic 261, 3) := by decide +kernel
theorem dX6_findingOfSheet_4 : decode cX6_findingOfSheet 4 = .ok (.ifCond .eq 6, 3) := by decide +kernel
theorem dX6_findingOfSheet_7 : decode cX6_findingOfSheet 7 = .ok (.ldc 79, 2) := by decide +kernel
theorem dX6_findingOfSheet_9 : decode cX6_findingOfSheet 9 = .ok (.ireturn, 1) := by decide +kernel
theorem dX6_findingOfSheet_10 : decode cX6_findingOfSheet 10 = .ok (.aload_n 0, 1) := by decide +kernel
theorem dX6_findingOfSheet_11 : decode cX6_findingOfSheet 11 = .ok (.getfield 36, 3) := by decide +kernel
theorem dX6_findingOfSheet_14 : decode cX6_findingOfSheet 14 = .ok (.iload_n 1, 1) := by decide +kernel
theorem dX6_findingOfSheet_15 : decode cX6_findingOfSheet 15 = .ok (.aaload, 1) := by decide +kernel
theorem dX6_findingOfSheet_16 : decode cX6_findingOfSheet 16 = .ok (.invokevirtual 292, 3) := by decide +kernel
theorem dX6_findingOfSheet_19 : decode cX6_findingOfSheet 19 = .ok (.ifCond .eq 9, 3) := by decide +kernel
theorem dX6_findingOfSheet_22 : decode cX6_findingOfSheet 22 = .ok (.ldc_w 295, 3) := by decide +kernel
theorem dX6_findingOfSheet_25 : decode cX6_findingOfSheet 25 = .ok (.goto 4, 3) := by decide +kernel
theorem dX6_findingOfSheet_28 : decode cX6_findingOfSheet 28 = .ok (.iconst 0, 1) := by decide +kernel
theorem dX6_findingOfSheet_29 : decode cX6_findingOfSheet 29 = .ok (.ireturn, 1) := by decide +kernel
theorem dX6_findingOfPair_0 : decode cX6_findingOfPair 0 = .ok (.aload_n 0, 1) := by decide +kernel
theorem dX6_findingOfPair_1 : decode cX6_findingOfPair 1 = .ok (.iload_n 1, 1) := by decide +kernel
theorem dX6_findingOfPair_2 : decode cX6_findingOfPair 2 = .ok (.invokevirtual 285, 3) := by decide +kernel
theorem dX6_findingOfPair_5 : decode cX6_findingOfPair 5 = .ok (.istore_n 2, 1) := by decide +kernel
theorem dX6_findingOfPair_6 : decode cX6_findingOfPair 6 = .ok (.iload_n 2, 1) := by decide +kernel
theorem dX6_findingOfPair_7 : decode cX6_findingOfPair 7 = .ok (.ifCond .eq 5, 3) := by decide +kernel
theorem dX6_findingOfPair_10 : decode cX6_findingOfPair 10 = .ok (.iload_n 2, 1) := by decide +kernel
theorem dX6_findingOfPair_11 : decode cX6_findingOfPair 11 = .ok (.ireturn, 1) := by decide +kernel
theorem dX6_findingOfPair_12 : decode cX6_findingOfPair 12 = .ok (.aload_n 0, 1) := by decide +kernel
theorem dX6_findingOfPair_13 : decode cX6_findingOfPair 13 = .ok (.getfield 36, 3) := by decide +kernel
theorem dX6_findingOfPair_16 : decode cX6_findingOfPair 16 = .ok (.iload_n 1, 1) := by decide +kernel
theorem dX6_findingOfPair_17 : decode cX6_findingOfPair 17 = .ok (.aaload, 1) := by decide +kernel
theorem dX6_findingOfPair_18 : decode cX6_findingOfPair 18 = .ok (.getfield 275, 3) := by decide +kernel
theorem dX6_findingOfPair_21 : decode cX6_findingOfPair 21 = .ok (.bipush 8, 2) := by decide +kernel
theorem dX6_findingOfPair_23 : decode cX6_findingOfPair 23 = .ok (.if_icmp .eq 7, 3) := by decide +kernel
theorem dX6_findingOfPair_26 : decode cX6_findingOfPair 26 = .ok (.ldc_w 281, 3) := by decide +kernel
theorem dX6_findingOfPair_29 : decode cX6_findingOfPair 29 = .ok (.ireturn, 1) := by decide +kernel
theorem dX6_findingOfPair_30 : decode cX6_findingOfPair 30 = .ok (.aload_n 0, 1) := by decide +kernel
theorem dX6_findingOfPair_31 : decode cX6_findingOfPair 31 = .ok (.getfield 36, 3) := by decide +kernel
theorem dX6_findingOfPair_34 : decode cX6_findingOfPair 34 = .ok (.iload_n 1, 1) := by decide +kernel
theorem dX6_findingOfPair_35 : decode cX6_findingOfPair 35 = .ok (.aaload, 1) := by decide +kernel
theorem dX6_findingOfPair_36 : decode cX6_findingOfPair 36 = .ok (.ldc 124, 2) := by decide +kernel
theorem dX6_findingOfPair_38 : decode cX6_findingOfPair 38 = .ok (.invokevirtual 317, 3) := by decide +kernel
theorem dX6_findingOfPair_41 : decode cX6_findingOfPair 41 = .ok (.ifCond .eq 7, 3) := by decide +kernel
theorem dX6_findingOfPair_44 : decode cX6_findingOfPair 44 = .ok (.iconst 0, 1) := by decide +kernel
theorem dX6_findingOfPair_45 : decode cX6_findingOfPair 45 = .ok (.goto 5, 3) := by decide +kernel
theorem dX6_findingOfPair_48 : decode cX6_findingOfPair 48 = .ok (.ldc 165, 2) := by decide +kernel
theorem dX6_findingOfPair_50 : decode cX6_findingOfPair 50 = .ok (.ireturn, 1) := by decide +kernel
theorem dX6_findingOfRow_0 : decode cX6_findingOfRow 0 = .ok (.aload_n 0, 1) := by decide +kernel
theorem dX6_findingOfRow_1 : decode cX6_findingOfRow 1 = .ok (.invokevirtual 292, 3) := by decide +kernel
theorem dX6_findingOfRow_4 : decode cX6_findingOfRow 4 = .ok (.ifCond .eq 7, 3) := by decide +kernel
theorem dX6_findingOfRow_7 : decode cX6_findingOfRow 7 = .ok (.ldc_w 295, 3) := by decide +kernel
theorem dX6_findingOfRow_10 : decode cX6_findingOfRow 10 = .ok (.ireturn, 1) := by decide +kernel
theorem dX6_findingOfRow_11 : decode cX6_findingOfRow 11 = .ok (.aload_n 0, 1) := by decide +kernel
theorem dX6_findingOfRow_12 : decode cX6_findingOfRow 12 = .ok (.getfield 275, 3) := by decide +kernel
theorem dX6_findingOfRow_15 : decode cX6_findingOfRow 15 = .ok (.iconst 2, 1) := by decide +kernel
theorem dX6_findingOfRow_16 : decode cX6_findingOfRow 16 = .ok (.bipush 12, 2) := by decide +kernel
theorem dX6_findingOfRow_18 : decode cX6_findingOfRow 18 = .ok (.invokestatic 69, 3) := by decide +kernel
theorem dX6_findingOfRow_21 : decode cX6_findingOfRow 21 = .ok (.ifCond .eq 7, 3) := by decide +kernel
theorem dX6_findingOfRow_24 : decode cX6_findingOfRow 24 = .ok (.ldc_w 281, 3) := by decide +kernel
theorem dX6_findingOfRow_27 : decode cX6_findingOfRow 27 = .ok (.ireturn, 1) := by decide +kernel
theorem dX6_findingOfRow_28 : decode cX6_findingOfRow 28 = .ok (.aload_n 0, 1) := by decide +kernel
theorem dX6_findingOfRow_29 : decode cX6_findingOfRow 29 = .ok (.bipush 100, 2) := by decide +kernel
theorem dX6_findingOfRow_31 : decode cX6_findingOfRow 31 = .ok (.invokevirtual 317, 3) := by decide +kernel
theorem dX6_findingOfRow_34 : decode cX6_findingOfRow 34 = .ok (.ifCond .eq 7, 3) := by decide +kernel
theorem dX6_findingOfRow_37 : decode cX6_findingOfRow 37 = .ok (.iconst 0, 1) := by decide +kernel
theorem dX6_findingOfRow_38 : decode cX6_findingOfRow 38 = .ok (.goto 5, 3) := by decide +kernel
theorem dX6_findingOfRow_41 : decode cX6_findingOfRow 41 = .ok (.ldc 165, 2) := by decide +kernel
theorem dX6_findingOfRow_43 : decode cX6_findingOfRow 43 = .ok (.ireturn, 1) := by decide +kernel
theorem dX6_firstCalm_0 : decode cX6_firstCalm 0 = .ok (.iconst 1, 1) := by decide +kernel
theorem dX6_firstCalm_1 : decode cX6_firstCalm 1 = .ok (.istore_n 3, 1) := by decide +kernel
theorem dX6_firstCalm_2 : decode cX6_firstCalm 2 = .ok (.iconst 1, 1) := by decide +kernel
theorem dX6_firstCalm_3 : decode cX6_firstCalm 3 = .ok (.istore 4, 2) := by decide +kernel
theorem dX6_firstCalm_5 : decode cX6_firstCalm 5 = .ok (.iload 4, 2) := by decide +kernel
theorem dX6_firstCalm_7 : decode cX6_firstCalm 7 = .ok (.bipush 40, 2) := by decide +kernel
theorem dX6_firstCalm_9 : decode cX6_firstCalm 9 = .ok (.iload_n 2, 1) := by decide +kernel
theorem dX6_firstCalm_10 : decode cX6_firstCalm 10 = .ok (.iadd, 1) := by decide +kernel
theorem dX6_firstCalm_11 : decode cX6_firstCalm 11 = .ok (.if_icmp .gt 55, 3) := by decide +kernel
theorem dX6_firstCalm_14 : decode cX6_firstCalm 14 = .ok (.iload_n 3, 1) := by decide +kernel
theorem dX6_firstCalm_15 : decode cX6_firstCalm 15 = .ok (.bipush 40, 2) := by decide +kernel
theorem dX6_firstCalm_17 : decode cX6_firstCalm 17 = .ok (.if_icmp .gt 49, 3) := by decide +kernel
theorem dX6_firstCalm_20 : decode cX6_firstCalm 20 = .ok (.aload_n 0, 1) := by decide +kernel
theorem dX6_firstCalm_21 : decode cX6_firstCalm 21 = .ok (.getfield 10, 3) := by decide +kernel
theorem dX6_firstCalm_24 : decode cX6_firstCalm 24 = .ok (.aload_n 0, 1) := by decide +kernel
theorem dX6_firstCalm_25 : decode cX6_firstCalm 25 = .ok (.getfield 10, 3) := by decide +kernel
theorem dX6_firstCalm_28 : decode cX6_firstCalm 28 = .ok (.getfield 102, 3) := by decide +kernel
theorem dX6_firstCalm_31 : decode cX6_firstCalm 31 = .ok (.iload 4, 2) := by decide +kernel
theorem dX6_firstCalm_33 : decode cX6_firstCalm 33 = .ok (.iadd, 1) := by decide +kernel
theorem dX6_firstCalm_34 : decode cX6_firstCalm 34 = .ok (.iconst 0, 1) := by decide +kernel
theorem dX6_firstCalm_35 : decode cX6_firstCalm 35 = .ok (.invokevirtual 176, 3) := by decide +kernel
theorem dX6_firstCalm_38 : decode cX6_firstCalm 38 = .ok (.iload_n 1, 1) := by decide +kernel
theorem dX6_firstCalm_39 : decode cX6_firstCalm 39 = .ok (.if_icmp .le 11, 3) := by decide +kernel
theorem dX6_firstCalm_42 : decode cX6_firstCalm 42 = .ok (.iload 4, 2) := by decide +kernel
theorem dX6_firstCalm_44 : decode cX6_firstCalm 44 = .ok (.iconst 1, 1) := by decide +kernel
theorem dX6_firstCalm_45 : decode cX6_firstCalm 45 = .ok (.iadd, 1) := by decide +kernel
theorem dX6_firstCalm_46 : decode cX6_firstCalm 46 = .ok (.istore_n 3, 1) := by decide +kernel
theorem dX6_firstCalm_47 : decode cX6_firstCalm 47 = .ok (.goto 13, 3) := by decide +kernel
theorem dX6_firstCalm_50 : decode cX6_firstCalm 50 = .ok (.iload 4, 2) := by decide +kernel
theorem dX6_firstCalm_52 : decode cX6_firstCalm 52 = .ok (.iload_n 3, 1) := by decide +kernel
theorem dX6_firstCalm_53 : decode cX6_firstCalm 53 = .ok (.isub, 1) := by decide +kernel
theorem dX6_firstCalm_54 : decode cX6_firstCalm 54 = .ok (.iload_n 2, 1) := by decide +kernel
theorem dX6_firstCalm_55 : decode cX6_firstCalm 55 = .ok (.if_icmp .ne 5, 3) := by decide +kernel
theorem dX6_firstCalm_58 : decode cX6_firstCalm 58 = .ok (.iload_n 3, 1) := by decide +kernel
theorem dX6_firstCalm_59 : decode cX6_firstCalm 59 = .ok (.ireturn, 1) := by decide +kernel
theorem dX6_firstCalm_60 : decode cX6_firstCalm 60 = .ok (.iinc 4 1, 3) := by decide +kernel
theorem dX6_firstCalm_63 : decode cX6_firstCalm 63 = .ok (.goto (-58), 3) := by decide +kernel
theorem dX6_firstCalm_66 : decode cX6_firstCalm 66 = .ok (.iconst 0, 1) := by decide +kernel
theorem dX6_firstCalm_67 : decode cX6_firstCalm 67 = .ok (.ireturn, 1) := by decide +kernel
theorem dX6_foresee_0 : decode cX6_foresee 0 = .ok (.aload_n 0, 1) := by decide +kernel
theorem dX6_foresee_1 : decode cX6_foresee 1 = .ok (.getfield 19, 3) := by decide +kernel
theorem dX6_foresee_4 : decode cX6_foresee 4 = .ok (.aload_n 0, 1) := by decide +kernel
theorem dX6_foresee_5 : decode cX6_foresee 5 = .ok (.getfield 10, 3) := by decide +kernel
theorem dX6_foresee_8 : decode cX6_foresee 8 = .ok (.invokevirtual 228, 3) := by decide +kernel
theorem dX6_foresee_11 : decode cX6_foresee 11 = .ok (.iconst 0, 1) := by decide +kernel
theorem dX6_foresee_12 : decode cX6_foresee 12 = .ok (.istore_n 2, 1) := by decide +kernel
theorem dX6_foresee_13 : decode cX6_foresee 13 = .ok (.iload_n 2, 1) := by decide +kernel
theorem dX6_foresee_14 : decode cX6_foresee 14 = .ok (.iload_n 1, 1) := by decide +kernel
theorem dX6_foresee_15 : decode cX6_foresee 15 = .ok (.if_icmp .ge 61, 3) := by decide +kernel
theorem dX6_foresee_18 : decode cX6_foresee 18 = .ok (.aload_n 0, 1) := by decide +kernel
theorem dX6_foresee_19 : decode cX6_foresee 19 = .ok (.getfield 19, 3) := by decide +kernel
theorem dX6_foresee_22 : decode cX6_foresee 22 = .ok (.aload_n 0, 1) := by decide +kernel
theorem dX6_foresee_23 : decode cX6_foresee 23 = .ok (.getfield 19, 3) := by decide +kernel
theorem dX6_foresee_26 : decode cX6_foresee 26 = .ok (.aload_n 0, 1) := by decide +kernel
theorem dX6_foresee_27 : decode cX6_foresee 27 = .ok (.getfield 47, 3) := by decide +kernel
theorem dX6_foresee_30 : decode cX6_foresee 30 = .ok (.invokevirtual 108, 3) := by decide +kernel
theorem dX6_foresee_33 : decode cX6_foresee 33 = .ok (.invokevirtual 95, 3) := by decide +kernel
theorem dX6_foresee_36 : decode cX6_foresee 36 = .ok (.aload_n 0, 1) := by decide +kernel
theorem dX6_foresee_37 : decode cX6_foresee 37 = .ok (.getfield 19, 3) := by decide +kernel
theorem dX6_foresee_40 : decode cX6_foresee 40 = .ok (.invokevirtual 105, 3) := by decide +kernel
theorem dX6_foresee_43 : decode cX6_foresee 43 = .ok (.aload_n 0, 1) := by decide +kernel
theorem dX6_foresee_44 : decode cX6_foresee 44 = .ok (.getfield 65, 3) := by decide +kernel
theorem dX6_foresee_47 : decode cX6_foresee 47 = .ok (.iload_n 2, 1) := by decide +kernel
theorem dX6_foresee_48 : decode cX6_foresee 48 = .ok (.aload_n 0, 1) := by decide +kernel
theorem dX6_foresee_49 : decode cX6_foresee 49 = .ok (.getfield 19, 3) := by decide +kernel
theorem dX6_foresee_52 : decode cX6_foresee 52 = .ok (.aload_n 0, 1) := by decide +kernel
theorem dX6_foresee_53 : decode cX6_foresee 53 = .ok (.getfield 19, 3) := by decide +kernel
theorem dX6_foresee_56 : decode cX6_foresee 56 = .ok (.getfield 102, 3) := by decide +kernel
theorem dX6_foresee_59 : decode cX6_foresee 59 = .ok (.aload_n 0, 1) := by decide +kernel
theorem dX6_foresee_60 : decode cX6_foresee 60 = .ok (.getfield 19, 3) := by decide +kernel
theorem dX6_foresee_63 : decode cX6_foresee 63 = .ok (.getfield 99, 3) := by decide +kernel
theorem dX6_foresee_66 : decode cX6_foresee 66 = .ok (.invokevirtual 176, 3) := by decide +kernel
theorem dX6_foresee_69 : decode cX6_foresee 69 = .ok (.iastore, 1) := by decide +kernel
theorem dX6_foresee_70 : decode cX6_foresee 70 = .ok (.iinc 2 1, 3) := by decide +kernel
theorem dX6_foresee_73 : decode cX6_foresee 73 = .ok (.goto (-60), 3) := by decide +kernel
theorem dX6_foresee_76 : decode cX6_foresee 76 = .ok (.return_, 1) := by decide +kernel
theorem dX6_dayOfStrike_0 : decode cX6_dayOfStrike 0 = .ok (.iload_n 1, 1) := by decide +kernel
theorem dX6_dayOfStrike_1 : decode cX6_dayOfStrike 1 = .ok (.istore_n 3, 1) := by decide +kernel
theorem dX6_dayOfStrike_2 : decode cX6_dayOfStrike 2 = .ok (.iconst 0, 1) := by decide +kernel
theorem dX6_dayOfStrike_3 : decode cX6_dayOfStrike 3 = .ok (.istore 4, 2) := by decide +kernel
theorem dX6_dayOfStrike_5 : decode cX6_dayOfStrike 5 = .ok (.iload 4, 2) := by decide +kernel
theorem dX6_dayOfStrike_7 : decode cX6_dayOfStrike 7 = .ok (.iload_n 2, 1) := by decide +kernel
theorem dX6_dayOfStrike_8 : decode cX6_dayOfStrike 8 = .ok (.if_icmp .ge 45, 3) := by decide +kernel
theorem dX6_dayOfStrike_11 : decode cX6_dayOfStrike 11 = .ok (.iload_n 3, 1) := by decide +kernel
theorem dX6_dayOfStrike_12 : decode cX6_dayOfStrike 12 = .ok (.ldc_w 320, 3) := by decide +kernel
theorem dX6_dayOfStrike_15 : decode cX6_dayOfStrike 15 = .ok (.imul, 1) := by decide +kernel
theorem dX6_dayOfStrike_16 : decode cX6_dayOfStrike 16 = .ok (.sipush 12345, 3) := by decide +kernel
theorem dX6_dayOfStrike_19 : decode cX6_dayOfStrike 19 = .ok (.iadd, 1) := by decide +kernel
theorem dX6_dayOfStrike_20 : decode cX6_dayOfStrike 20 = .ok (.istore_n 3, 1) := by decide +kernel
theorem dX6_dayOfStrike_21 : decode cX6_dayOfStrike 21 = .ok (.iload_n 3, 1) := by decide +kernel
theorem dX6_dayOfStrike_22 : decode cX6_dayOfStrike 22 = .ok (.bipush 16, 2) := by decide +kernel
theorem dX6_dayOfStrike_24 : decode cX6_dayOfStrike 24 = .ok (.iushr, 1) := by decide +kernel
theorem dX6_dayOfStrike_25 : decode cX6_dayOfStrike 25 = .ok (.sipush 10000, 3) := by decide +kernel
theorem dX6_dayOfStrike_28 : decode cX6_dayOfStrike 28 = .ok (.irem, 1) := by decide +kernel
theorem dX6_dayOfStrike_29 : decode cX6_dayOfStrike 29 = .ok (.aload_n 0, 1) := by decide +kernel
theorem dX6_dayOfStrike_30 : decode cX6_dayOfStrike 30 = .ok (.getfield 65, 3) := by decide +kernel
theorem dX6_dayOfStrike_33 : decode cX6_dayOfStrike 33 = .ok (.iload 4, 2) := by decide +kernel
theorem dX6_dayOfStrike_35 : decode cX6_dayOfStrike 35 = .ok (.iaload, 1) := by decide +kernel
theorem dX6_dayOfStrike_36 : decode cX6_dayOfStrike 36 = .ok (.bipush 100, 2) := by decide +kernel
theorem dX6_dayOfStrike_38 : decode cX6_dayOfStrike 38 = .ok (.idiv, 1) := by decide +kernel
theorem dX6_dayOfStrike_39 : decode cX6_dayOfStrike 39 = .ok (.if_icmp .ge 8, 3) := by decide +kernel
theorem dX6_dayOfStrike_42 : decode cX6_dayOfStrike 42 = .ok (.iload 4, 2) := by decide +kernel
theorem dX6_dayOfStrike_44 : decode cX6_dayOfStrike 44 = .ok (.iconst 1, 1) := by decide +kernel
theorem dX6_dayOfStrike_45 : decode cX6_dayOfStrike 45 = .ok (.iadd, 1) := by decide +kernel
theorem dX6_dayOfStrike_46 : decode cX6_dayOfStrike 46 = .ok (.ireturn, 1) := by decide +kernel
theorem dX6_dayOfStrike_47 : decode cX6_dayOfStrike 47 = .ok (.iinc 4 1, 3) := by decide +kernel
theorem dX6_dayOfStrike_50 : decode cX6_dayOfStrike 50 = .ok (.goto (-45), 3) := by decide +kernel
theorem dX6_dayOfStrike_53 : decode cX6_dayOfStrike 53 = .ok (.iconst 0, 1) := by decide +kernel
theorem dX6_dayOfStrike_54 : decode cX6_dayOfStrike 54 = .ok (.ireturn, 1) := by decide +kernel
theorem dX6_restsOf_0 : decode cX6_restsOf 0 = .ok (.iconst 0, 1) := by decide +kernel
theorem dX6_restsOf_1 : decode cX6_restsOf 1 = .ok (.istore_n 1, 1) := by decide +kernel
theorem dX6_restsOf_2 : decode cX6_restsOf 2 = .ok (.iconst 0, 1) := by decide +kernel
theorem dX6_restsOf_3 : decode cX6_restsOf 3 = .ok (.istore_n 2, 1) := by decide +kernel
theorem dX6_restsOf_4 : decode cX6_restsOf 4 = .ok (.iload_n 2, 1) := by decide +kernel
theorem dX6_restsOf_5 : decode cX6_restsOf 5 = .ok (.iconst 4, 1) := by decide +kernel
theorem dX6_restsOf_6 : decode cX6_restsOf 6 = .ok (.if_icmp .ge 65, 3) := by decide +kernel
theorem dX6_restsOf_9 : decode cX6_restsOf 9 = .ok (.aload_n 0, 1) := by decide +kernel
theorem dX6_restsOf_10 : decode cX6_restsOf 10 = .ok (.iload_n 2, 1) := by decide +kernel
theorem dX6_restsOf_11 : decode cX6_restsOf 11 = .ok (.iconst 1, 1) := by decide +kernel
theorem dX6_restsOf_12 : decode cX6_restsOf 12 = .ok (.ixor, 1) := by decide +kernel
theorem dX6_restsOf_13 : decode cX6_restsOf 13 = .ok (.laload, 1) := by decide +kernel
theorem dX6_restsOf_14 : decode cX6_restsOf 14 = .ok (.aload_n 0, 1) := by decide +kernel
theorem dX6_restsOf_15 : decode cX6_restsOf 15 = .ok (.iload_n 2, 1) := by decide +kernel
theorem dX6_restsOf_16 : decode cX6_restsOf 16 = .ok (.laload, 1) := by decide +kernel
theorem dX6_restsOf_17 : decode cX6_restsOf 17 = .ok (.lcmp, 1) := by decide +kernel
theorem dX6_restsOf_18 : decode cX6_restsOf 18 = .ok (.ifCond .gt 7, 3) := by decide +kernel
theorem dX6_restsOf_21 : decode cX6_restsOf 21 = .ok (.iconst 1, 1) := by decide +kernel
theorem dX6_restsOf_22 : decode cX6_restsOf 22 = .ok (.goto 4, 3) := by decide +kernel
theorem dX6_restsOf_25 : decode cX6_restsOf 25 = .ok (.iconst 0, 1) := by decide +kernel
theorem dX6_restsOf_26 : decode cX6_restsOf 26 = .ok (.istore_n 3, 1) := by decide +kernel
theorem dX6_restsOf_27 : decode cX6_restsOf 27 = .ok (.aload_n 0, 1) := by decide +kernel
theorem dX6_restsOf_28 : decode cX6_restsOf 28 = .ok (.iconst 4, 1) := by decide +kernel
theorem dX6_restsOf_29 : decode cX6_restsOf 29 = .ok (.iload_n 2, 1) := by decide +kernel
theorem dX6_restsOf_30 : decode cX6_restsOf 30 = .ok (.iconst 2, 1) := by decide +kernel
theorem dX6_restsOf_31 : decode cX6_restsOf 31 = .ok (.ixor, 1) := by decide +kernel
theorem dX6_restsOf_32 : decode cX6_restsOf 32 = .ok (.iadd, 1) := by decide +kernel
theorem dX6_restsOf_33 : decode cX6_restsOf 33 = .ok (.laload, 1) := by decide +kernel
theorem dX6_restsOf_34 : decode cX6_restsOf 34 = .ok (.aload_n 0, 1) := by decide +kernel
theorem dX6_restsOf_35 : decode cX6_restsOf 35 = .ok (.iconst 4, 1) := by decide +kernel
theorem dX6_restsOf_36 : decode cX6_restsOf 36 = .ok (.iload_n 2, 1) := by decide +kernel
theorem dX6_restsOf_37 : decode cX6_restsOf 37 = .ok (.iadd, 1) := by decide +kernel
theorem dX6_restsOf_38 : decode cX6_restsOf 38 = .ok (.laload, 1) := by decide +kernel
theorem dX6_restsOf_39 : decode cX6_restsOf 39 = .ok (.lcmp, 1) := by decide +kernel
theorem dX6_restsOf_40 : decode cX6_restsOf 40 = .ok (.ifCond .gt 7, 3) := by decide +kernel
theorem dX6_restsOf_43 : decode cX6_restsOf 43 = .ok (.iconst 1, 1) := by decide +kernel
theorem dX6_restsOf_44 : decode cX6_restsOf 44 = .ok (.goto 4, 3) := by decide +kernel
theorem dX6_restsOf_47 : decode cX6_restsOf 47 = .ok (.iconst 0, 1) := by decide +kernel
theorem dX6_restsOf_48 : decode cX6_restsOf 48 = .ok (.istore 4, 2) := by decide +kernel
theorem dX6_restsOf_50 : decode cX6_restsOf 50 = .ok (.iload_n 3, 1) := by decide +kernel
theorem dX6_restsOf_51 : decode cX6_restsOf 51 = .ok (.ifCond .eq 14, 3) := by decide +kernel
theorem dX6_restsOf_54 : decode cX6_restsOf 54 = .ok (.iload 4, 2) := by decide +kernel
theorem dX6_restsOf_56 : decode cX6_restsOf 56 = .ok (.ifCond .eq 9, 3) := by decide +kernel
theorem dX6_restsOf_59 : decode cX6_restsOf 59 = .ok (.iload_n 1, 1) := by decide +kernel
theorem dX6_restsOf_60 : decode cX6_restsOf 60 = .ok (.iconst 1, 1) := by decide +kernel
theorem dX6_restsOf_61 : decode cX6_restsOf 61 = .ok (.iload_n 2, 1) := by decide +kernel
theorem dX6_restsOf_62 : decode cX6_restsOf 62 = .ok (.ishl, 1) := by decide +kernel
theorem dX6_restsOf_63 : decode cX6_restsOf 63 = .ok (.ior, 1) := by decide +kernel
theorem dX6_restsOf_64 : decode cX6_restsOf 64 = .ok (.istore_n 1, 1) := by decide +kernel
theorem dX6_restsOf_65 : decode cX6_restsOf 65 = .ok (.iinc 2 1, 3) := by decide +kernel
theorem dX6_restsOf_68 : decode cX6_restsOf 68 = .ok (.goto (-64), 3) := by decide +kernel
theorem dX6_restsOf_71 : decode cX6_restsOf 71 = .ok (.iload_n 1, 1) := by decide +kernel
theorem dX6_restsOf_72 : decode cX6_restsOf 72 = .ok (.ireturn, 1) := by decide +kernel
theorem dX6_mostTogether_0 : decode cX6_mostTogether 0 = .ok (.ldc2_w 321, 3) := by decide +kernel
theorem dX6_mostTogether_3 : decode cX6_mostTogether 3 = .ok (.lstore_n 2, 1) := by decide +kernel
theorem dX6_mostTogether_4 : decode cX6_mostTogether 4 = .ok (.iconst 0, 1) := by decide +kernel
theorem dX6_mostTogether_5 : decode cX6_mostTogether 5 = .ok (.istore 4, 2) := by decide +kernel
theorem dX6_mostTogether_7 : decode cX6_mostTogether 7 = .ok (.iload 4, 2) := by decide +kernel
theorem dX6_mostTogether_9 : decode cX6_mostTogether 9 = .ok (.iconst 4, 1) := by decide +kernel
theorem dX6_mostTogether_10 : decode cX6_mostTogether 10 = .ok (.if_icmp .ge 35, 3) := by decide +kernel
theorem dX6_mostTogether_13 : decode cX6_mostTogether 13 = .ok (.iload_n 1, 1) := by decide +kernel
theorem dX6_mostTogether_14 : decode cX6_mostTogether 14 = .ok (.iload 4, 2) := by decide +kernel
theorem dX6_mostTogether_16 : decode cX6_mostTogether 16 = .ok (.ishr, 1) := by decide +kernel
theorem dX6_mostTogether_17 : decode cX6_mostTogether 17 = .ok (.iconst 1, 1) := by decide +kernel
theorem dX6_mostTogether_18 : decode cX6_mostTogether 18 = .ok (.iand, 1) := by decide +kernel
theorem dX6_mostTogether_19 : decode cX6_mostTogether 19 = .ok (.iconst 1, 1) := by decide +kernel
theorem dX6_mostTogether_20 : decode cX6_mostTogether 20 = .ok (.if_icmp .ne 19, 3) := by decide +kernel
theorem dX6_mostTogether_23 : decode cX6_mostTogether 23 = .ok (.lload_n 2, 1) := by decide +kernel
theorem dX6_mostTogether_24 : decode cX6_mostTogether 24 = .ok (.aload_n 0, 1) := by decide +kernel
theorem dX6_mostTogether_25 : decode cX6_mostTogether 25 = .ok (.iload 4, 2) := by decide +kernel
theorem dX6_mostTogether_27 : decode cX6_mostTogether 27 = .ok (.laload, 1) := by decide +kernel
theorem dX6_mostTogether_28 : decode cX6_mostTogether 28 = .ok (.aload_n 0, 1) := by decide +kernel
theorem dX6_mostTogether_29 : decode cX6_mostTogether 29 = .ok (.iconst 4, 1) := by decide +kernel
theorem dX6_mostTogether_30 : decode cX6_mostTogether 30 = .ok (.iload 4, 2) := by decide +kernel
theorem dX6_mostTogether_32 : decode cX6_mostTogether 32 = .ok (.iadd, 1) := by decide +kernel
theorem dX6_mostTogether_33 : decode cX6_mostTogether 33 = .ok (.laload, 1) := by decide +kernel
theorem dX6_mostTogether_34 : decode cX6_mostTogether 34 = .ok (.ladd, 1) := by decide +kernel
theorem dX6_mostTogether_35 : decode cX6_mostTogether 35 = .ok (.invokestatic 323, 3) := by decide +kernel
theorem dX6_mostTogether_38 : decode cX6_mostTogether 38 = .ok (.lstore_n 2, 1) := by decide +kernel
theorem dX6_mostTogether_39 : decode cX6_mostTogether 39 = .ok (.iinc 4 1, 3) := by decide +kernel
theorem dX6_mostTogether_42 : decode cX6_mostTogether 42 = .ok (.goto (-35), 3) := by decide +kernel
theorem dX6_mostTogether_45 : decode cX6_mostTogether 45 = .ok (.lload_n 2, 1) := by decide +kernel
theorem dX6_mostTogether_46 : decode cX6_mostTogether 46 = .ok (.l2i, 1) := by decide +kernel
theorem dX6_mostTogether_47 : decode cX6_mostTogether 47 = .ok (.ireturn, 1) := by decide +kernel
