theorem dX7_init_0 : decode cX7_init 0 = .ok (.aload_n 0, 1) := by decide +kernel
theorem dX7_init_1 : decode cX7_init 1 = .ok (.invokespecial 1, 3) := by decide +kernel
theorem dX7_init_4 : decode cX7_init 4 = .ok (.aload_n 0, 1) := by decide +kernel
theorem dX7_init_5 : decode cX7_init 5 = .ok (.sipush 214, 3) := by decide +kernel
theorem dX7_init_8 : decode cX7_init 8 = .ok (.newarray .long, 2) := by decide +kernel
theorem dX7_init_10 : decode cX7_init 10 = .ok (.putfield 7, 3) := by decide +kernel
theorem dX7_init_13 : decode cX7_init 13 = .ok (.aload_n 0, 1) := by decide +kernel
theorem dX7_init_14 : decode cX7_init 14 = .ok (.sipush 214, 3) := by decide +kernel
theorem dX7_init_17 : decode cX7_init 17 = .ok (.newarray .long, 2) := by decide +kernel
theorem dX7_init_19 : decode cX7_init 19 = .ok (.putfield 13, 3) := by decide +kernel
theorem dX7_init_22 : decode cX7_init 22 = .ok (.aload_n 0, 1) := by decide +kernel
theorem dX7_init_23 : decode cX7_init 23 = .ok (.bipush 7, 2) := by decide +kernel
theorem dX7_init_25 : decode cX7_init 25 = .ok (.newarray .int, 2) := by decide +kernel
theorem dX7_init_27 : decode cX7_init 27 = .ok (.putfield 16, 3) := by decide +kernel
theorem dX7_init_30 : decode cX7_init 30 = .ok (.aload_n 0, 1) := by decide +kernel
theorem dX7_init_31 : decode cX7_init 31 = .ok (.bipush 60, 2) := by decide +kernel
theorem dX7_init_33 : decode cX7_init 33 = .ok (.newarray .int, 2) := by decide +kernel
theorem dX7_init_35 : decode cX7_init 35 = .ok (.putfield 20, 3) := by decide +kernel
theorem dX7_init_38 : decode cX7_init 38 = .ok (.aload_n 0, 1) := by decide +kernel
theorem dX7_init_39 : decode cX7_init 39 = .ok (.sipush 130, 3) := by decide +kernel
theorem dX7_init_42 : decode cX7_init 42 = .ok (.newarray .int, 2) := by decide +kernel
theorem dX7_init_44 : decode cX7_init 44 = .ok (.putfield 23, 3) := by decide +kernel
theorem dX7_init_47 : decode cX7_init 47 = .ok (.aload_n 0, 1) := by decide +kernel
theorem dX7_init_48 : decode cX7_init 48 = .ok (.sipush 128, 3) := by decide +kernel
theorem dX7_init_51 : decode cX7_init 51 = .ok (.newarray .int, 2) := by decide +kernel
theorem dX7_init_53 : decode cX7_init 53 = .ok (.putfield 26, 3) := by decide +kernel
theorem dX7_init_56 : decode cX7_init 56 = .ok (.aload_n 0, 1) := by decide +kernel
theorem dX7_init_57 : decode cX7_init 57 = .ok (.bipush 70, 2) := by decide +kernel
theorem dX7_init_59 : decode cX7_init 59 = .ok (.newarray .int, 2) := by decide +kernel
theorem dX7_init_61 : decode cX7_init 61 = .ok (.putfield 29, 3) := by decide +kernel
theorem dX7_init_64 : decode cX7_init 64 = .ok (.aload_n 0, 1) := by decide +kernel
theorem dX7_init_65 : decode cX7_init 65 = .ok (.sipush 13725, 3) := by decide +kernel
theorem dX7_init_68 : decode cX7_init 68 = .ok (.newarray .long, 2) := by decide +kernel
theorem dX7_init_70 : decode cX7_init 70 = .ok (.putfield 32, 3) := by decide +kernel
theorem dX7_init_73 : decode cX7_init 73 = .ok (.aload_n 0, 1) := by decide +kernel
theorem dX7_init_74 : decode cX7_init 74 = .ok (.sipush 13725, 3) := by decide +kernel
theorem dX7_init_77 : decode cX7_init 77 = .ok (.newarray .int, 2) := by decide +kernel
theorem dX7_init_79 : decode cX7_init 79 = .ok (.putfield 35, 3) := by decide +kernel
theorem dX7_init_82 : decode cX7_init 82 = .ok (.aload_n 0, 1) := by decide +kernel
theorem dX7_init_83 : decode cX7_init 83 = .ok (.sipush 13725, 3) := by decide +kernel
theorem dX7_init_86 : decode cX7_init 86 = .ok (.newarray .int, 2) := by decide +kernel
theorem dX7_init_88 : decode cX7_init 88 = .ok (.putfield 38, 3) := by decide +kernel
theorem dX7_init_91 : decode cX7_init 91 = .ok (.aload_n 0, 1) := by decide +kernel
theorem dX7_init_92 : decode cX7_init 92 = .ok (.bipush 25, 2) := by decide +kernel
theorem dX7_init_94 : decode cX7_init 94 = .ok (.newarray .long, 2) := by decide +kernel
theorem dX7_init_96 : decode cX7_init 96 = .ok (.putfield 41, 3) := by decide +kernel
theorem dX7_init_99 : decode cX7_init 99 = .ok (.aload_n 0, 1) := by decide +kernel
theorem dX7_init_100 : decode cX7_init 100 = .ok (.iconst 4, 1) := by decide +kernel
theorem dX7_init_101 : decode cX7_init 101 = .ok (.newarray .int, 2) := by decide +kernel
theorem dX7_init_103 : decode cX7_init 103 = .ok (.putfield 44, 3) := by decide +kernel
theorem dX7_init_106 : decode cX7_init 106 = .ok (.aload_n 0, 1) := by decide +kernel
theorem dX7_init_107 : decode cX7_init 107 = .ok (.iconst 4, 1) := by decide +kernel
theorem dX7_init_108 : decode cX7_init 108 = .ok (.newarray .int, 2) := by decide +kernel
theorem dX7_init_110 : decode cX7_init 110 = .ok (.putfield 47, 3) := by decide +kernel
theorem dX7_init_113 : decode cX7_init 113 = .ok (.aload_n 0, 1) := by decide +kernel
theorem dX7_init_114 : decode cX7_init 114 = .ok (.sipush 160, 3) := by decide +kernel
theorem dX7_init_117 : decode cX7_init 117 = .ok (.newarray .long, 2) := by decide +kernel
theorem dX7_init_119 : decode cX7_init 119 = .ok (.putfield 50, 3) := by decide +kernel
theorem dX7_init_122 : decode cX7_init 122 = .ok (.aload_n 0, 1) := by decide +kernel
theorem dX7_init_123 : decode cX7_init 123 = .ok (.bipush 40, 2) := by decide +kernel
theorem dX7_init_125 : decode cX7_init 125 = .ok (.newarray .long, 2) := by decide +kernel
theorem dX7_init_127 : decode cX7_init 127 = .ok (.putfield 53, 3) := by decide +kernel
theorem dX7_init_130 : decode cX7_init 130 = .ok (.aload_n 0, 1) := by decide +kernel
theorem dX7_init_131 : decode cX7_init 131 = .ok (.sipush 492, 3) := by decide +kernel
theorem dX7_init_134 : decode cX7_init 134 = .ok (.newarray .int, 2) := by decide +kernel
theorem dX7_init_136 : decode cX7_init 136 = .ok (.putfield 56, 3) := by decide +kernel
theorem dX7_init_139 : decode cX7_init 139 = .ok (.aload_n 0, 1) := by decide +kernel
theorem dX7_init_140 : decode cX7_init 140 = .ok (.sipush 492, 3) := by decide +kernel
theorem dX7_init_143 : decode cX7_init 143 = .ok (.newarray .int, 2) := by decide +kernel
theorem dX7_init_145 : decode cX7_init 145 = .ok (.putfield 59, 3) := by decide +kernel
theorem dX7_init_148 : decode cX7_init 148 = .ok (.aload_n 0, 1) := by decide +kernel
theorem dX7_init_149 : decode cX7_init 149 = .ok (.getfield 7, 3) := by decide +kernel
theorem dX7_init_152 : decode cX7_init 152 = .ok (.iconst 2, 1) := by decide +kernel
theorem dX7_init_153 : decode cX7_init 153 = .ok (.lconst 1, 1) := by decide +kernel
theorem dX7_init_154 : decode cX7_init 154 = .ok (.lastore, 1) := by decide +kernel
theorem dX7_init_155 : decode cX7_init 155 = .ok (.aload_n 0, 1) := by decide +kernel
theorem dX7_init_156 : decode cX7_init 156 = .ok (.getfield 7, 3) := by decide +kernel
theorem dX7_init_159 : decode cX7_init 159 = .ok (.iconst 3, 1) := by decide +kernel
theorem dX7_init_160 : decode cX7_init 160 = .ok (.ldc2_w 62, 3) := by decide +kernel
theorem dX7_init_163 : decode cX7_init 163 = .ok (.lastore, 1) := by decide +kernel
theorem dX7_init_164 : decode cX7_init 164 = .ok (.aload_n 0, 1) := by decide +kernel
theorem dX7_init_165 : decode cX7_init 165 = .ok (.getfield 7, 3) := by decide +kernel
theorem dX7_init_168 : decode cX7_init 168 = .ok (.iconst 4, 1) := by decide +kernel
theorem dX7_init_169 : decode cX7_init 169 = .ok (.ldc2_w 64, 3) := by decide +kernel
theorem dX7_init_172 : decode cX7_init 172 = .ok (.lastore, 1) := by decide +kernel
theorem dX7_init_173 : decode cX7_init 173 = .ok (.aload_n 0, 1) := by decide +kernel
theorem dX7_init_174 : decode cX7_init 174 = .ok (.getfield 7, 3) := by decide +kernel
theorem dX7_init_177 : decode cX7_init 177 = .ok (.iconst 5, 1) := by decide +kernel
theorem dX7_init_178 : decode cX7_init 178 = .ok (.ldc2_w 66, 3) := by decide +kernel
theorem dX7_init_181 : decode cX7_init 181 = .ok (.lastore, 1) := by decide +kernel
theorem dX7_init_182 : decode cX7_init 182 = .ok (.aload_n 0, 1) := by decide +kernel
theorem dX7_init_183 : decode cX7_init 183 = .ok (.getfield 7, 3) := by decide +kernel
theorem dX7_init_186 : decode cX7_init 186 = .ok (.bipush 7, 2) := by decide +kernel
theorem dX7_init_188 : decode cX7_init 188 = .ok (.ldc2_w 68, 3) := by decide +kernel
theorem dX7_init_191 : decode cX7_init 191 = .ok (.lastore, 1) := by decide +kernel
theorem dX7_init_192 : decode cX7_init 192 = .ok (.return_, 1) := by decide +kernel
theorem dX7_finding_0 : decode cX7_finding 0 = .ok (.aload_n 0, 1) := by decide +kernel
theorem dX7_finding_1 : decode cX7_finding 1 = .ok (.getfield 16, 3) := by decide +kernel
theorem dX7_finding_4 : decode cX7_finding 4 = .ok (.iload_n 1, 1) := by decide +kernel
theorem dX7_finding_5 : decode cX7_finding 5 = .ok (.dup2, 1) := by decide +kernel
theorem dX7_finding_6 : decode cX7_finding 6 = .ok (.iaload, 1) := by decide +kernel
theorem dX7_finding_7 : decode cX7_finding 7 = .ok (.iconst 1, 1) := by decide +kernel
theorem dX7_finding_8 : decode cX7_finding 8 = .ok (.iadd, 1) := by decide +kernel
theorem dX7_finding_9 : decode cX7_finding 9 = .ok (.iastore, 1) := by decide +kernel
theorem dX7_finding_10 : decode cX7_finding 10 = .ok (.ldc 70, 2) := by decide +kernel
theorem dX7_finding_12 : decode cX7_finding 12 = .ok (.iload_n 1, 1) := by decide +kernel
theorem dX7_finding_13 : decode cX7_finding 13 = .ok (.isub, 1) := by decide +kernel
theorem dX7_finding_14 : decode cX7_finding 14 = .ok (.ireturn, 1) := by decide +kernel
theorem dX7_in_0 : decode cX7_in 0 = .ok (.lload_n 0, 1) := by decide +kernel
theorem dX7_in_1 : decode cX7_in 1 = .ok (.lload_n 2, 1) := by decide +kernel
theorem dX7_in_2 : decode cX7_in 2 = .ok (.lcmp, 1) := by decide +kernel
theorem dX7_in_3 : decode cX7_in 3 = .ok (.ifCond .lt 14, 3) := by decide +kernel
theorem dX7_in_6 : decode cX7_in 6 = .ok (.lload_n 0, 1) := by decide +kernel
theorem dX7_in_7 : decode cX7_in 7 = .ok (.lload 4, 2) := by decide +kernel
theorem dX7_in_9 : decode cX7_in 9 = .ok (.lcmp, 1) := by decide +kernel
theorem dX7_in_10 : decode cX7_in 10 = .ok (.ifCond .gt 7, 3) := by decide +kernel
theorem dX7_in_13 : decode cX7_in 13 = .ok (.iconst 1, 1) := by decide +kernel
theorem dX7_in_14 : decode cX7_in 14 = .ok (.goto 4, 3) := by decide +kernel
theorem dX7_in_17 : decode cX7_in 17 = .ok (.iconst 0, 1) := by decide +kernel
theorem dX7_in_18 : decode cX7_in 18 = .ok (.ireturn, 1) := by decide +kernel
theorem dX7_size_0 : decode cX7_size 0 = .ok (.iload_n 0, 1) := by decide +kernel
theorem dX7_size_1 : decode cX7_size 1 = .ok (.ifCond .ge 8, 3) := by decide +kernel
theorem dX7_size_4 : decode cX7_size 4 = .ok (.iload_n 0, 1) := by decide +kernel
theorem dX7_size_5 : decode cX7_size 5 = .ok (.ineg, 1) := by decide +kernel
theorem dX7_size_6 : decode cX7_size 6 = .ok (.goto 4, 3) := by decide +kernel
theorem dX7_size_9 : decode cX7_size 9 = .ok (.iload_n 0, 1) := by decide +kernel
theorem dX7_size_10 : decode cX7_size 10 = .ok (.ireturn, 1) := by decide +kernel
theorem dX7_its_0 : decode cX7_its 0 = .ok (.aload_n 0, 1) := by decide +kernel
theorem dX7_its_1 : decode cX7_its 1 = .ok (.getfield 7, 3) := by decide +kernel
theorem dX7_its_4 : decode cX7_its 4 = .ok (.iload_n 1, 1) := by decide +kernel
theorem dX7_its_5 : decode cX7_its 5 = .ok (.laload, 1) := by decide +kernel
theorem dX7_its_6 : decode cX7_its 6 = .ok (.l2i, 1) := by decide +kernel
theorem dX7_its_7 : decode cX7_its 7 = .ok (.ireturn, 1) := by decide +kernel
theorem dX7_today_0 : decode cX7_today 0 = .ok (.aload_n 0, 1) := by decide +kernel
theorem dX7_today_1 : decode cX7_today 1 = .ok (.iconst 0, 1) := by decide +kernel
theorem dX7_today_2 : decode cX7_today 2 = .ok (.invokevirtual 71, 3) := by decide +kernel
theorem dX7_today_5 : decode cX7_today 5 = .ok (.ireturn, 1) := by decide +kernel
theorem dX7_height_0 : decode cX7_height 0 = .ok (.aload_n 0, 1) := by decide +kernel
theorem dX7_height_1 : decode cX7_height 1 = .ok (.iconst 1, 1) := by decide +kernel
theorem dX7_height_2 : decode cX7_height 2 = .ok (.invokevirtual 71, 3) := by decide +kernel
theorem dX7_height_5 : decode cX7_height 5 = .ok (.ireturn, 1) := by decide +kernel
theorem dX7_fuel_0 : decode cX7_fuel 0 = .ok (.aload_n 0, 1) := by decide +kernel
theorem dX7_fuel_1 : decode cX7_fuel 1 = .ok (.bipush 7, 2) := by decide +kernel
theorem dX7_fuel_3 : decode cX7_fuel 3 = .ok (.invokevirtual 71, 3) := by decide +kernel
theorem dX7_fuel_6 : decode cX7_fuel 6 = .ok (.ireturn, 1) := by decide +kernel
theorem dX7_mostOf_0 : decode cX7_mostOf 0 = .ok (.iload_n 0, 1) := by decide +kernel
theorem dX7_mostOf_1 : decode cX7_mostOf 1 = .ok (.tableswitch 47 0 3 #[31, 35, 39, 43], 31) := by decide +kernel
theorem dX7_mostOf_32 : decode cX7_mostOf 32 = .ok (.ldc2_w 68, 3) := by decide +kernel
theorem dX7_mostOf_35 : decode cX7_mostOf 35 = .ok (.lreturn, 1) := by decide +kernel
theorem dX7_mostOf_36 : decode cX7_mostOf 36 = .ok (.ldc2_w 75, 3) := by decide +kernel
theorem dX7_mostOf_39 : decode cX7_mostOf 39 = .ok (.lreturn, 1) := by decide +kernel
theorem dX7_mostOf_40 : decode cX7_mostOf 40 = .ok (.ldc2_w 77, 3) := by decide +kernel
theorem dX7_mostOf_43 : decode cX7_mostOf 43 = .ok (.lreturn, 1) := by decide +kernel
theorem dX7_mostOf_44 : decode cX7_mostOf 44 = .ok (.ldc2_w 79, 3) := by decide +kernel
theorem dX7_mostOf_47 : decode cX7_mostOf 47 = .ok (.lreturn, 1) := by decide +kernel
theorem dX7_mostOf_48 : decode cX7_mostOf 48 = .ok (.ldc2_w 81, 3) := by decide +kernel
theorem dX7_mostOf_51 : decode cX7_mostOf 51 = .ok (.lreturn, 1) := by decide +kernel
theorem dX7_plan_0 : decode cX7_plan 0 = .ok (.iload_n 1, 1) := by decide +kernel
theorem dX7_plan_1 : decode cX7_plan 1 = .ok (.i2l, 1) := by decide +kernel
theorem dX7_plan_2 : decode cX7_plan 2 = .ok (.lconst 0, 1) := by decide +kernel
theorem dX7_plan_3 : decode cX7_plan 3 = .ok (.ldc2_w 83, 3) := by decide +kernel
theorem dX7_plan_6 : decode cX7_plan 6 = .ok (.invokestatic 85, 3) := by decide +kernel
theorem dX7_plan_9 : decode cX7_plan 9 = .ok (.ifCond .eq 24, 3) := by decide +kernel
theorem dX7_plan_12 : decode cX7_plan 12 = .ok (.iload_n 2, 1) := by decide +kernel
theorem dX7_plan_13 : decode cX7_plan 13 = .ok (.i2l, 1) := by decide +kernel
theorem dX7_plan_14 : decode cX7_plan 14 = .ok (.iload_n 1, 1) := by decide +kernel
theorem dX7_plan_15 : decode cX7_plan 15 = .ok (.ifCond .ne 7, 3) := by decide +kernel
theorem dX7_plan_18 : decode cX7_plan 18 = .ok (.lconst 1, 1) := by decide +kernel
theorem dX7_plan_19 : decode cX7_plan 19 = .ok (.goto 4, 3) := by decide +kernel
theorem dX7_plan_22 : decode cX7_plan 22 = .ok (.lconst 0, 1) := by decide +kernel
theorem dX7_plan_23 : decode cX7_plan 23 = .ok (.iload_n 1, 1) := by decide +kernel
theorem dX7_plan_24 : decode cX7_plan 24 = .ok (.invokestatic 89, 3) := by decide +kernel
theorem dX7_plan_27 : decode cX7_plan 27 = .ok (.invokestatic 85, 3) := by decide +kernel
theorem dX7_plan_30 : decode cX7_plan 30 = .ok (.ifCond .ne 9, 3) := by decide +kernel
theorem dX7_plan_33 : decode cX7_plan 33 = .ok (.aload_n 0, 1) := by decide +kernel
theorem dX7_plan_34 : decode cX7_plan 34 = .ok (.iconst 0, 1) := by decide +kernel
theorem dX7_plan_35 : decode cX7_plan 35 = .ok (.invokevirtual 93, 3) := by decide +kernel
theorem dX7_plan_38 : decode cX7_plan 38 = .ok (.ireturn, 1) := by decide +kernel
theorem dX7_plan_39 : decode cX7_plan 39 = .ok (.aload_n 0, 1) := by decide +kernel
theorem dX7_plan_40 : decode cX7_plan 40 = .ok (.iconst 2, 1) := by decide +kernel
theorem dX7_plan_41 : decode cX7_plan 41 = .ok (.iload_n 1, 1) := by decide +kernel
theorem dX7_plan_42 : decode cX7_plan 42 = .ok (.iadd, 1) := by decide +kernel
theorem dX7_plan_43 : decode cX7_plan 43 = .ok (.invokevirtual 71, 3) := by decide +kernel
theorem dX7_plan_46 : decode cX7_plan 46 = .ok (.istore_n 3, 1) := by decide +kernel
theorem dX7_plan_47 : decode cX7_plan 47 = .ok (.aload_n 0, 1) := by decide +kernel
theorem dX7_plan_48 : decode cX7_plan 48 = .ok (.getfield 7, 3) := by decide +kernel
theorem dX7_plan_51 : decode cX7_plan 51 = .ok (.iconst 2, 1) := by decide +kernel
theorem dX7_plan_52 : decode cX7_plan 52 = .ok (.iload_n 1, 1) := by decide +kernel
theorem dX7_plan_53 : decode cX7_plan 53 = .ok (.iadd, 1) := by decide +kernel
theorem dX7_plan_54 : decode cX7_plan 54 = .ok (.iload_n 2, 1) := by decide +kernel
theorem dX7_plan_55 : decode cX7_plan 55 = .ok (.i2l, 1) := by decide +kernel
theorem dX7_plan_56 : decode cX7_plan 56 = .ok (.lastore, 1) := by decide +kernel
theorem dX7_plan_57 : decode cX7_plan 57 = .ok (.iload_n 3, 1) := by decide +kernel
theorem dX7_plan_58 : decode cX7_plan 58 = .ok (.ireturn, 1) := by decide +kernel
theorem dX7_can_0 : decode cX7_can 0 = .ok (.iload_n 3, 1) := by decide +kernel
theorem dX7_can_1 : decode cX7_can 1 = .ok (.ifCond .eq 40, 3) := by decide +kernel
theorem dX7_can_4 : decode cX7_can 4 = .ok (.iload_n 1, 1) := by decide +kernel
theorem dX7_can_5 : decode cX7_can 5 = .ok (.iload_n 3, 1) := by decide +kernel
theorem dX7_can_6 : decode cX7_can 6 = .ok (.iadd, 1) := by decide +kernel
theorem dX7_can_7 : decode cX7_can 7 = .ok (.i2l, 1) := by decide +kernel
theorem dX7_can_8 : decode cX7_can 8 = .ok (.ldc2_w 96, 3) := by decide +kernel
theorem dX7_can_11 : decode cX7_can 11 = .ok (.ldc2_w 98, 3) := by decide +kernel
theorem dX7_can_14 : decode cX7_can 14 = .ok (.invokestatic 85, 3) := by decide +kernel
theorem dX7_can_17 : decode cX7_can 17 = .ok (.ifCond .eq 28, 3) := by decide +kernel
theorem dX7_can_20 : decode cX7_can 20 = .ok (.iload_n 2, 1) := by decide +kernel
theorem dX7_can_21 : decode cX7_can 21 = .ok (.aload_n 0, 1) := by decide +kernel
theorem dX7_can_22 : decode cX7_can 22 = .ok (.iconst 2, 1) := by decide +kernel
theorem dX7_can_23 : decode cX7_can 23 = .ok (.invokevirtual 71, 3) := by decide +kernel
theorem dX7_can_26 : decode cX7_can 26 = .ok (.iload_n 3, 1) := by decide +kernel
theorem dX7_can_27 : decode cX7_can 27 = .ok (.invokestatic 100, 3) := by decide +kernel
theorem dX7_can_30 : decode cX7_can 30 = .ok (.imul, 1) := by decide +kernel
theorem dX7_can_31 : decode cX7_can 31 = .ok (.isub, 1) := by decide +kernel
theorem dX7_can_32 : decode cX7_can 32 = .ok (.aload_n 0, 1) := by decide +kernel
theorem dX7_can_33 : decode cX7_can 33 = .ok (.bipush 6, 2) := by decide +kernel
theorem dX7_can_35 : decode cX7_can 35 = .ok (.invokevirtual 71, 3) := by decide +kernel
theorem dX7_can_38 : decode cX7_can 38 = .ok (.if_icmp .lt 7, 3) := by decide +kernel
theorem dX7_can_41 : decode cX7_can 41 = .ok (.iconst 1, 1) := by decide +kernel
theorem dX7_can_42 : decode cX7_can 42 = .ok (.goto 4, 3) := by decide +kernel
theorem dX7_can_45 : decode cX7_can 45 = .ok (.iconst 0, 1) := by decide +kernel
theorem dX7_can_46 : decode cX7_can 46 = .ok (.ireturn, 1) := by decide +kernel
theorem dX7_isMove_0 : decode cX7_isMove 0 = .ok (.lload_n 0, 1) := by decide +kernel
theorem dX7_isMove_1 : decode cX7_isMove 1 = .ok (.ldc2_w 103, 3) := by decide +kernel
theorem dX7_isMove_4 : decode cX7_isMove 4 = .ok (.ldc2_w 105, 3) := by decide +kernel
theorem dX7_isMove_7 : decode cX7_isMove 7 = .ok (.invokestatic 85, 3) := by decide +kernel
theorem dX7_isMove_10 : decode cX7_isMove 10 = .ok (.ireturn, 1) := by decide +kernel
theorem dX7_goes_0 : decode cX7_goes 0 = .ok (.aload_n 0, 1) := by decide +kernel
theorem dX7_goes_1 : decode cX7_goes 1 = .ok (.getfield 7, 3) := by decide +kernel
theorem dX7_goes_4 : decode cX7_goes 4 = .ok (.iconst 1, 1) := by decide +kernel
theorem dX7_goes_5 : decode cX7_goes 5 = .ok (.dup2, 1) := by decide +kernel
theorem dX7_goes_6 : decode cX7_goes 6 = .ok (.laload, 1) := by decide +kernel
theorem dX7_goes_7 : decode cX7_goes 7 = .ok (.iload_n 1, 1) := by decide +kernel
theorem dX7_goes_8 : decode cX7_goes 8 = .ok (.i2l, 1) := by decide +kernel
theorem dX7_goes_9 : decode cX7_goes 9 = .ok (.ladd, 1) := by decide +kernel
theorem dX7_goes_10 : decode cX7_goes 10 = .ok (.lastore, 1) := by decide +kernel
theorem dX7_goes_11 : decode cX7_goes 11 = .ok (.aload_n 0, 1) := by decide +kernel
theorem dX7_goes_12 : decode cX7_goes 12 = .ok (.getfield 7, 3) := by decide +kernel
theorem dX7_goes_15 : decode cX7_goes 15 = .ok (.bipush 7, 2) := by decide +kernel
theorem dX7_goes_17 : decode cX7_goes 17 = .ok (.dup2, 1) := by decide +kernel
theorem dX7_goes_18 : decode cX7_goes 18 = .ok (.laload, 1) := by decide +kernel
theorem dX7_goes_19 : decode cX7_goes 19 = .ok (.aload_n 0, 1) := by decide +kernel
theorem dX7_goes_20 : decode cX7_goes 20 = .ok (.getfield 7, 3) := by decide +kernel
theorem dX7_goes_23 : decode cX7_goes 23 = .ok (.iconst 2, 1) := by decide +kernel
theorem dX7_goes_24 : decode cX7_goes 24 = .ok (.laload, 1) := by decide +kernel
theorem dX7_goes_25 : decode cX7_goes 25 = .ok (.iload_n 1, 1) := by decide +kernel
theorem dX7_goes_26 : decode cX7_goes 26 = .ok (.invokestatic 100, 3) := by decide +kernel
theorem dX7_goes_29 : decode cX7_goes 29 = .ok (.i2l, 1) := by decide +kernel
theorem dX7_goes_30 : decode cX7_goes 30 = .ok (.lmul, 1) := by decide +kernel
theorem dX7_goes_31 : decode cX7_goes 31 = .ok (.lsub, 1) := by decide +kernel
theorem dX7_goes_32 : decode cX7_goes 32 = .ok (.lastore, 1) := by decide +kernel
theorem dX7_goes_33 : decode cX7_goes 33 = .ok (.return_, 1) := by decide +kernel
theorem dX7_move_0 : decode cX7_move 0 = .ok (.iload_n 1, 1) := by decide +kernel
theorem dX7_move_1 : decode cX7_move 1 = .ok (.i2l, 1) := by decide +kernel
theorem dX7_move_2 : decode cX7_move 2 = .ok (.invokestatic 107, 3) := by decide +kernel
theorem dX7_move_5 : decode cX7_move 5 = .ok (.ifCond .ne 9, 3) := by decide +kernel
theorem dX7_move_8 : decode cX7_move 8 = .ok (.aload_n 0, 1) := by decide +kernel
theorem dX7_move_9 : decode cX7_move 9 = .ok (.iconst 0, 1) := by decide +kernel
theorem dX7_move_10 : decode cX7_move 10 = .ok (.invokevirtual 93, 3) := by decide +kernel
theorem dX7_move_13 : decode cX7_move 13 = .ok (.ireturn, 1) := by decide +kernel
theorem dX7_move_14 : decode cX7_move 14 = .ok (.aload_n 0, 1) := by decide +kernel
theorem dX7_move_15 : decode cX7_move 15 = .ok (.aload_n 0, 1) := by decide +kernel
theorem dX7_move_16 : decode cX7_move 16 = .ok (.invokevirtual 111, 3) := by decide +kernel
theorem dX7_move_19 : decode cX7_move 19 = .ok (.aload_n 0, 1) := by decide +kernel
theorem dX7_move_20 : decode cX7_move 20 = .ok (.invokevirtual 115, 3) := by decide +kernel
theorem dX7_move_23 : decode cX7_move 23 = .ok (.iload_n 1, 1) := by decide +kernel
theorem dX7_move_24 : decode cX7_move 24 = .ok (.invokevirtual 118, 3) := by decide +kernel
theorem dX7_move_27 : decode cX7_move 27 = .ok (.ifCond .ne 9, 3) := by decide +kernel
theorem dX7_move_30 : decode cX7_move 30 = .ok (.aload_n 0, 1) := by decide +kernel
theorem dX7_move_31 : decode cX7_move 31 = .ok (.iconst 4, 1) := by decide +kernel
theorem dX7_move_32 : decode cX7_move 32 = .ok (.invokevirtual 93, 3) := by decide +kernel
theorem dX7_move_35 : decode cX7_move 35 = .ok (.ireturn, 1) := by decide +kernel
theorem dX7_move_36 : decode cX7_move 36 = .ok (.aload_n 0, 1) := by decide +kernel
theorem dX7_move_37 : decode cX7_move 37 = .ok (.iload_n 1, 1) := by decide +kernel
theorem dX7_move_38 : decode cX7_move 38 = .ok (.invokevirtual 122, 3) := by decide +kernel
theorem dX7_move_41 : decode cX7_move 41 = .ok (.aload_n 0, 1) := by decide +kernel
theorem dX7_move_42 : decode cX7_move 42 = .ok (.invokevirtual 111, 3) := by decide +kernel
theorem dX7_move_45 : decode cX7_move 45 = .ok (.ireturn, 1) := by decide +kernel
theorem dX7_may_0 : decode cX7_may 0 = .ok (.iload_n 1, 1) := by decide +kernel
theorem dX7_may_1 : decode cX7_may 1 = .ok (.i2l, 1) := by decide +kernel
theorem dX7_may_2 : decode cX7_may 2 = .ok (.invokestatic 107, 3) := by decide +kernel
theorem dX7_may_5 : decode cX7_may 5 = .ok (.ifCond .ne 11, 3) := by decide +kernel
theorem dX7_may_8 : decode cX7_may 8 = .ok (.aload_n 0, 1) := by decide +kernel
theorem dX7_may_9 : decode cX7_may 9 = .ok (.iconst 0, 1) := by decide +kernel
theorem dX7_may_10 : decode cX7_may 10 = .ok (.invokevirtual 93, 3) := by decide +kernel
theorem dX7_may_13 : decode cX7_may 13 = .ok (.goto 24, 3) := by decide +kernel
theorem dX7_may_16 : decode cX7_may 16 = .ok (.aload_n 0, 1) := by decide +kernel
theorem dX7_may_17 : decode cX7_may 17 = .ok (.aload_n 0, 1) := by decide +kernel
theorem dX7_may_18 : decode cX7_may 18 = .ok (.invokevirtual 111, 3) := by decide +kernel
theorem dX7_may_21 : decode cX7_may 21 = .ok (.aload_n 0, 1) := by decide +kernel
theorem dX7_may_22 : decode cX7_may 22 = .ok (.invokevirtual 115, 3) := by decide +kernel
theorem dX7_may_25 : decode cX7_may 25 = .ok (.iload_n 1, 1) := by decide +kernel
theorem dX7_may_26 : decode cX7_may 26 = .ok (.invokevirtual 118, 3) := by decide +kernel
theorem dX7_may_29 : decode cX7_may 29 = .ok (.ifCond .eq 7, 3) := by decide +kernel
theorem dX7_may_32 : decode cX7_may 32 = .ok (.iconst 1, 1) := by decide +kernel
theorem dX7_may_33 : decode cX7_may 33 = .ok (.goto 4, 3) := by decide +kernel
theorem dX7_may_36 : decode cX7_may 36 = .ok (.iconst 0, 1) := by decide +kernel
theorem dX7_may_37 : decode cX7_may 37 = .ok (.ireturn, 1) := by decide +kernel
theorem dX7_useAt_0 : decode cX7_useAt 0 = .ok (.aload_n 0, 1) := by decide +kernel
theorem dX7_useAt_1 : decode cX7_useAt 1 = .ok (.getfield 7, 3) := by decide +kernel
theorem dX7_useAt_4 : decode cX7_useAt 4 = .ok (.iconst 3, 1) := by decide +kernel
theorem dX7_useAt_5 : decode cX7_useAt 5 = .ok (.laload, 1) := by decide +kernel
theorem dX7_useAt_6 : decode cX7_useAt 6 = .ok (.aload_n 0, 1) := by decide +kernel
theorem dX7_useAt_7 : decode cX7_useAt 7 = .ok (.getfield 7, 3) := by decide +kernel
theorem dX7_useAt_10 : decode cX7_useAt 10 = .ok (.iconst 4, 1) := by decide +kernel
theorem dX7_useAt_11 : decode cX7_useAt 11 = .ok (.laload, 1) := by decide +kernel
theorem dX7_useAt_12 : decode cX7_useAt 12 = .ok (.iload_n 1, 1) := by decide +kernel
theorem dX7_useAt_13 : decode cX7_useAt 13 = .ok (.invokestatic 100, 3) := by decide +kernel
theorem dX7_useAt_16 : decode cX7_useAt 16 = .ok (.i2l, 1) := by decide +kernel
theorem dX7_useAt_17 : decode cX7_useAt 17 = .ok (.lmul, 1) := by decide +kernel
theorem dX7_useAt_18 : decode cX7_useAt 18 = .ok (.lsub, 1) := by decide +kernel
theorem dX7_useAt_19 : decode cX7_useAt 19 = .ok (.lstore_n 2, 1) := by decide +kernel
theorem dX7_useAt_20 : decode cX7_useAt 20 = .ok (.lload_n 2, 1) := by decide +kernel
theorem dX7_useAt_21 : decode cX7_useAt 21 = .ok (.lconst 0, 1) := by decide +kernel
theorem dX7_useAt_22 : decode cX7_useAt 22 = .ok (.lcmp, 1) := by decide +kernel
theorem dX7_useAt_23 : decode cX7_useAt 23 = .ok (.ifCond .ge 7, 3) := by decide +kernel
theorem dX7_useAt_26 : decode cX7_useAt 26 = .ok (.lconst 0, 1) := by decide +kernel
theorem dX7_useAt_27 : decode cX7_useAt 27 = .ok (.goto 4, 3) := by decide +kernel
theorem dX7_useAt_30 : decode cX7_useAt 30 = .ok (.lload_n 2, 1) := by decide +kernel
theorem dX7_useAt_31 : decode cX7_useAt 31 = .ok (.lreturn, 1) := by decide +kernel
theorem dX7_ends_0 : decode cX7_ends 0 = .ok (.aload_n 0, 1) := by decide +kernel
theorem dX7_ends_1 : decode cX7_ends 1 = .ok (.getfield 7, 3) := by decide +kernel
theorem dX7_ends_4 : decode cX7_ends 4 = .ok (.iconst 0, 1) := by decide +kernel
theorem dX7_ends_5 : decode cX7_ends 5 = .ok (.dup2, 1) := by decide +kernel
theorem dX7_ends_6 : decode cX7_ends 6 = .ok (.laload, 1) := by decide +kernel
theorem dX7_ends_7 : decode cX7_ends 7 = .ok (.lconst 1, 1) := by decide +kernel
theorem dX7_ends_8 : decode cX7_ends 8 = .ok (.ladd, 1) := by decide +kernel
theorem dX7_ends_9 : decode cX7_ends 9 = .ok (.lastore, 1) := by decide +kernel
theorem dX7_ends_10 : decode cX7_ends 10 = .ok (.aload_n 0, 1) := by decide +kernel
theorem dX7_ends_11 : decode cX7_ends 11 = .ok (.getfield 7, 3) := by decide +kernel
theorem dX7_ends_14 : decode cX7_ends 14 = .ok (.bipush 8, 2) := by decide +kernel
theorem dX7_ends_16 : decode cX7_ends 16 = .ok (.dup2, 1) := by decide +kernel
theorem dX7_ends_17 : decode cX7_ends 17 = .ok (.laload, 1) := by decide +kernel
theorem dX7_ends_18 : decode cX7_ends 18 = .ok (.aload_n 0, 1) := by decide +kernel
theorem dX7_ends_19 : decode cX7_ends 19 = .ok (.aload_n 0, 1) := by decide +kernel
theorem dX7_ends_20 : decode cX7_ends 20 = .ok (.invokevirtual 111, 3) := by decide +kernel
theorem dX7_ends_23 : decode cX7_ends 23 = .ok (.invokevirtual 126, 3) := by decide +kernel
theorem dX7_ends_26 : decode cX7_ends 26 = .ok (.ladd, 1) := by decide +kernel
theorem dX7_ends_27 : decode cX7_ends 27 = .ok (.lastore, 1) := by decide +kernel
theorem dX7_ends_28 : decode cX7_ends 28 = .ok (.aload_n 0, 1) := by decide +kernel
theorem dX7_ends_29 : decode cX7_ends 29 = .ok (.getfield 7, 3) := by decide +kernel
theorem dX7_ends_32 : decode cX7_ends 32 = .ok (.bipush 9, 2) := by decide +kernel
theorem dX7_ends_34 : decode cX7_ends 34 = .ok (.dup2, 1) := by decide +kernel
theorem dX7_ends_35 : decode cX7_ends 35 = .ok (.laload, 1) := by decide +kernel
theorem dX7_ends_36 : decode cX7_ends 36 = .ok (.aload_n 0, 1) := by decide +kernel
theorem dX7_ends_37 : decode cX7_ends 37 = .ok (.aload_n 0, 1) := by decide +kernel
theorem dX7_ends_38 : decode cX7_ends 38 = .ok (.invokevirtual 129, 3) := by decide +kernel
theorem dX7_ends_41 : decode cX7_ends 41 = .ok (.aload_n 0, 1) := by decide +kernel
theorem dX7_ends_42 : decode cX7_ends 42 = .ok (.invokevirtual 111, 3) := by decide +kernel
theorem dX7_ends_45 : decode cX7_ends 45 = .ok (.invokevirtual 132, 3) := by decide +kernel
theorem dX7_ends_48 : decode cX7_ends 48 = .ok (.i2l, 1) := by decide +kernel
theorem dX7_ends_49 : decode cX7_ends 49 = .ok (.ladd, 1) := by decide +kernel
theorem dX7_ends_50 : decode cX7_ends 50 = .ok (.lastore, 1) := by decide +kernel
theorem dX7_ends_51 : decode cX7_ends 51 = .ok (.return_, 1) := by decide +kernel
theorem dX7_go_0 : decode cX7_go 0 = .ok (.iload_n 1, 1) := by decide +kernel
theorem dX7_go_1 : decode cX7_go 1 = .ok (.i2l, 1) := by decide +kernel
theorem dX7_go_2 : decode cX7_go 2 = .ok (.lconst 1, 1) := by decide +kernel
theorem dX7_go_3 : decode cX7_go 3 = .ok (.ldc2_w 62, 3) := by decide +kernel
theorem dX7_go_6 : decode cX7_go 6 = .ok (.invokestatic 85, 3) := by decide +kernel
theorem dX7_go_9 : decode cX7_go 9 = .ok (.ifCond .ne 9, 3) := by decide +kernel
theorem dX7_go_12 : decode cX7_go 12 = .ok (.aload_n 0, 1) := by decide +kernel
theorem dX7_go_13 : decode cX7_go 13 = .ok (.iconst 0, 1) := by decide +kernel
theorem dX7_go_14 : decode cX7_go 14 = .ok (.invokevirtual 93, 3) := by decide +kernel
theorem dX7_go_17 : decode cX7_go 17 = .ok (.ireturn, 1) := by decide +kernel
theorem dX7_go_18 : decode cX7_go 18 = .ok (.aload_n 0, 1) := by decide +kernel
theorem dX7_go_19 : decode cX7_go 19 = .ok (.getfield 7, 3) := by decide +kernel
theorem dX7_go_22 : decode cX7_go 22 = .ok (.iconst 0, 1) := by decide +kernel
theorem dX7_go_23 : decode cX7_go 23 = .ok (.laload, 1) := by decide +kernel
theorem dX7_go_24 : decode cX7_go 24 = .ok (.iload_n 1, 1) := by decide +kernel
theorem dX7_go_25 : decode cX7_go 25 = .ok (.i2l, 1) := by decide +kernel
theorem dX7_go_26 : decode cX7_go 26 = .ok (.ladd, 1) := by decide +kernel
theorem dX7_go_27 : decode cX7_go 27 = .ok (.ldc2_w 77, 3) := by decide +kernel
theorem dX7_go_30 : decode cX7_go 30 = .ok (.lcmp, 1) := by decide +kernel
theorem dX7_go_31 : decode cX7_go 31 = .ok (.ifCond .le 9, 3) := by decide +kernel
theorem dX7_go_34 : decode cX7_go 34 = .ok (.aload_n 0, 1) := by decide +kernel
theorem dX7_go_35 : decode cX7_go 35 = .ok (.iconst 4, 1) := by decide +kernel
theorem dX7_go_36 : decode cX7_go 36 = .ok (.invokevirtual 93, 3) := by decide +kernel
theorem dX7_go_39 : decode cX7_go 39 = .ok (.ireturn, 1) := by decide +kernel
theorem dX7_go_40 : decode cX7_go 40 = .ok (.iconst 0, 1) := by decide +kernel
theorem dX7_go_41 : decode cX7_go 41 = .ok (.istore_n 3, 1) := by decide +kernel
theorem dX7_go_42 : decode cX7_go 42 = .ok (.iload_n 3, 1) := by decide +kernel
theorem dX7_go_43 : decode cX7_go 43 = .ok (.iload_n 1, 1) := by decide +kernel
theorem dX7_go_44 : decode cX7_go 44 = .ok (.if_icmp .ge 37, 3) := by decide +kernel
theorem dX7_go_47 : decode cX7_go 47 = .ok (.iload_n 2, 1) := by decide +kernel
theorem dX7_go_48 : decode cX7_go 48 = .ok (.ifCond .eq 23, 3) := by decide +kernel
theorem dX7_go_51 : decode cX7_go 51 = .ok (.aload_n 0, 1) := by decide +kernel
theorem dX7_go_52 : decode cX7_go 52 = .ok (.aload_n 0, 1) := by decide +kernel
theorem dX7_go_53 : decode cX7_go 53 = .ok (.aload_n 0, 1) := by decide +kernel
theorem dX7_go_54 : decode cX7_go 54 = .ok (.invokevirtual 129, 3) := by decide +kernel
theorem dX7_go_57 : decode cX7_go 57 = .ok (.aload_n 0, 1) := by decide +kernel
theorem dX7_go_58 : decode cX7_go 58 = .ok (.invokevirtual 111, 3) := by decide +kernel
theorem dX7_go_61 : decode cX7_go 61 = .ok (.aload_n 0, 1) := by decide +kernel
theorem dX7_go_62 : decode cX7_go 62 = .ok (.invokevirtual 115, 3) := by decide +kernel
theorem dX7_go_65 : decode cX7_go 65 = .ok (.invokevirtual 136, 3) := by decide +kernel
theorem dX7_go_68 : decode cX7_go 68 = .ok (.invokevirtual 122, 3) := by decide +kernel
theorem dX7_go_71 : decode cX7_go 71 = .ok (.aload_n 0, 1) := by decide +kernel
theorem dX7_go_72 : decode cX7_go 72 = .ok (.invokevirtual 140, 3) := by decide +kernel
theorem dX7_go_75 : decode cX7_go 75 = .ok (.iinc 3 1, 3) := by decide +kernel
theorem dX7_go_78 : decode cX7_go 78 = .ok (.goto (-36), 3) := by decide +kernel
theorem dX7_go_81 : decode cX7_go 81 = .ok (.aload_n 0, 1) := by decide +kernel
theorem dX7_go_82 : decode cX7_go 82 = .ok (.invokevirtual 129, 3) := by decide +kernel
theorem dX7_go_85 : decode cX7_go 85 = .ok (.ireturn, 1) := by decide +kernel
theorem dX7_days_0 : decode cX7_days 0 = .ok (.aload_n 0, 1) := by decide +kernel
theorem dX7_days_1 : decode cX7_days 1 = .ok (.iload_n 1, 1) := by decide +kernel
theorem dX7_days_2 : decode cX7_days 2 = .ok (.iconst 0, 1) := by decide +kernel
theorem dX7_days_3 : decode cX7_days 3 = .ok (.invokevirtual 143, 3) := by decide +kernel
theorem dX7_days_6 : decode cX7_days 6 = .ok (.ireturn, 1) := by decide +kernel
theorem dX7_runs_0 : decode cX7_runs 0 = .ok (.aload_n 0, 1) := by decide +kernel
theorem dX7_runs_1 : decode cX7_runs 1 = .ok (.iload_n 1, 1) := by decide +kernel
theorem dX7_runs_2 : decode cX7_runs 2 = .ok (.iconst 1, 1) := by decide +kernel
theorem dX7_runs_3 : decode cX7_runs 3 = .ok (.invokevirtual 143, 3) := by decide +kernel
theorem dX7_runs_6 : decode cX7_runs 6 = .ok (.ireturn, 1) := by decide +kernel
theorem dX7_thing_0 : decode cX7_thing 0 = .ok (.iload_n 1, 1) := by decide +kernel
theorem dX7_thing_1 : decode cX7_thing 1 = .ok (.tableswitch 73 0 4 #[35, 42, 49, 57, 65], 35) := by decide +kernel
theorem dX7_thing_36 : decode cX7_thing 36 = .ok (.aload_n 0, 1) := by decide +kernel
theorem dX7_thing_37 : decode cX7_thing 37 = .ok (.getfield 7, 3) := by decide +kernel
theorem dX7_thing_40 : decode cX7_thing 40 = .ok (.iconst 0, 1) := by decide +kernel
theorem dX7_thing_41 : decode cX7_thing 41 = .ok (.laload, 1) := by decide +kernel
theorem dX7_thing_42 : decode cX7_thing 42 = .ok (.lreturn, 1) := by decide +kernel
theorem dX7_thing_43 : decode cX7_thing 43 = .ok (.aload_n 0, 1) := by decide +kernel
theorem dX7_thing_44 : decode cX7_thing 44 = .ok (.getfield 7, 3) := by decide +kernel
theorem dX7_thing_47 : decode cX7_thing 47 = .ok (.iconst 1, 1) := by decide +kernel
theorem dX7_thing_48 : decode cX7_thing 48 = .ok (.laload, 1) := by decide +kernel
theorem dX7_thing_49 : decode cX7_thing 49 = .ok (.lreturn, 1) := by decide +kernel
theorem dX7_thing_50 : decode cX7_thing 50 = .ok (.aload_n 0, 1) := by decide +kernel
theorem dX7_thing_51 : decode cX7_thing 51 = .ok (.getfield 7, 3) := by decide +kernel
theorem dX7_thing_54 : decode cX7_thing 54 = .ok (.bipush 7, 2) := by decide +kernel
theorem dX7_thing_56 : decode cX7_thing 56 = .ok (.laload, 1) := by decide +kernel
theorem dX7_thing_57 : decode cX7_thing 57 = .ok (.lreturn, 1) := by decide +kernel
theorem dX7_thing_58 : decode cX7_thing 58 = .ok (.aload_n 0, 1) := by decide +kernel
theorem dX7_thing_59 : decode cX7_thing 59 = .ok (.getfield 7, 3) := by decide +kernel
theorem dX7_thing_62 : decode cX7_thing 62 = .ok (.bipush 8, 2) := by decide +kernel
theorem dX7_thing_64 : decode cX7_thing 64 = .ok (.laload, 1) := by decide +kernel
theorem dX7_thing_65 : decode cX7_thing 65 = .ok (.lreturn, 1) := by decide +kernel
theorem dX7_thing_66 : decode cX7_thing 66 = .ok (.aload_n 0, 1) := by decide +kernel
theorem dX7_thing_67 : decode cX7_thing 67 = .ok (.getfield 7, 3) := by decide +kernel
theorem dX7_thing_70 : decode cX7_thing 70 = .ok (.bipush 9, 2) := by decide +kernel
theorem dX7_thing_72 : decode cX7_thing 72 = .ok (.laload, 1) := by decide +kernel
theorem dX7_thing_73 : decode cX7_thing 73 = .ok (.lreturn, 1) := by decide +kernel
theorem dX7_thing_74 : decode cX7_thing 74 = .ok (.aload_n 0, 1) := by decide +kernel
theorem dX7_thing_75 : decode cX7_thing 75 = .ok (.iconst 0, 1) := by decide +kernel
theorem dX7_thing_76 : decode cX7_thing 76 = .ok (.invokevirtual 93, 3) := by decide +kernel
theorem dX7_thing_79 : decode cX7_thing 79 = .ok (.i2l, 1) := by decide +kernel
theorem dX7_thing_80 : decode cX7_thing 80 = .ok (.lreturn, 1) := by decide +kernel
theorem dX7_isWarning_0 : decode cX7_isWarning 0 = .ok (.iload_n 1, 1) := by decide +kernel
theorem dX7_isWarning_1 : decode cX7_isWarning 1 = .ok (.i2l, 1) := by decide +kernel
theorem dX7_isWarning_2 : decode cX7_isWarning 2 = .ok (.lconst 0, 1) := by decide +kernel
theorem dX7_isWarning_3 : decode cX7_isWarning 3 = .ok (.aload_n 0, 1) := by decide +kernel
theorem dX7_isWarning_4 : decode cX7_isWarning 4 = .ok (.getfield 7, 3) := by decide +kernel
theorem dX7_isWarning_7 : decode cX7_isWarning 7 = .ok (.bipush 10, 2) := by decide +kernel
theorem dX7_isWarning_9 : decode cX7_isWarning 9 = .ok (.laload, 1) := by decide +kernel
theorem dX7_isWarning_10 : decode cX7_isWarning 10 = .ok (.lconst 1, 1) := by decide +kernel
theorem dX7_isWarning_11 : decode cX7_isWarning 11 = .ok (.lsub, 1) := by decide +kernel
theorem dX7_isWarning_12 : decode cX7_isWarning 12 = .ok (.invokestatic 85, 3) := by decide +kernel
theorem dX7_isWarning_15 : decode cX7_isWarning 15 = .ok (.ireturn, 1) := by decide +kernel
theorem dX7_of1_0 : decode cX7_of1 0 = .ok (.aload_n 0, 1) := by decide +kernel
theorem dX7_of1_1 : decode cX7_of1 1 = .ok (.bipush 12, 2) := by decide +kernel
theorem dX7_of1_3 : decode cX7_of1 3 = .ok (.bipush 6, 2) := by decide +kernel
theorem dX7_of1_5 : decode cX7_of1 5 = .ok (.iload_n 1, 1) := by decide +kernel
theorem dX7_of1_6 : decode cX7_of1 6 = .ok (.imul, 1) := by decide +kernel
theorem dX7_of1_7 : decode cX7_of1 7 = .ok (.iadd, 1) := by decide +kernel
theorem dX7_of1_8 : decode cX7_of1 8 = .ok (.iload_n 2, 1) := by decide +kernel
theorem dX7_of1_9 : decode cX7_of1 9 = .ok (.iadd, 1) := by decide +kernel
theorem dX7_of1_10 : decode cX7_of1 10 = .ok (.invokevirtual 71, 3) := by decide +kernel
theorem dX7_of1_13 : decode cX7_of1 13 = .ok (.ireturn, 1) := by decide +kernel
theorem dX7_isOpen_0 : decode cX7_isOpen 0 = .ok (.aload_n 0, 1) := by decide +kernel
theorem dX7_isOpen_1 : decode cX7_isOpen 1 = .ok (.iload_n 1, 1) := by decide +kernel
theorem dX7_isOpen_2 : decode cX7_isOpen 2 = .ok (.iconst 1, 1) := by decide +kernel
theorem dX7_isOpen_3 : decode cX7_isOpen 3 = .ok (.invokevirtual 147, 3) := by decide +kernel
theorem dX7_isOpen_6 : decode cX7_isOpen 6 = .ok (.iload_n 2, 1) := by decide +kernel
theorem dX7_isOpen_7 : decode cX7_isOpen 7 = .ok (.if_icmp .le 7, 3) := by decide +kernel
theorem dX7_isOpen_10 : decode cX7_isOpen 10 = .ok (.iconst 1, 1) := by decide +kernel
theorem dX7_isOpen_11 : decode cX7_isOpen 11 = .ok (.goto 4, 3) := by decide +kernel
theorem dX7_isOpen_14 : decode cX7_isOpen 14 = .ok (.iconst 0, 1) := by decide +kernel
theorem dX7_isOpen_15 : decode cX7_isOpen 15 = .ok (.ireturn, 1) := by decide +kernel
theorem dX7_warn_0 : decode cX7_warn 0 = .ok (.iload_n 1, 1) := by decide +kernel
theorem dX7_warn_1 : decode cX7_warn 1 = .ok (.i2l, 1) := by decide +kernel
theorem dX7_warn_2 : decode cX7_warn 2 = .ok (.lconst 0, 1) := by decide +kernel
theorem dX7_warn_3 : decode cX7_warn 3 = .ok (.ldc2_w 83, 3) := by decide +kernel
theorem dX7_warn_6 : decode cX7_warn 6 = .ok (.invokestatic 85, 3) := by decide +kernel
theorem dX7_warn_9 : decode cX7_warn 9 = .ok (.ifCond .eq 63, 3) := by decide +kernel
theorem dX7_warn_12 : decode cX7_warn 12 = .ok (.iload_n 2, 1) := by decide +kernel
theorem dX7_warn_13 : decode cX7_warn 13 = .ok (.sipush 10000, 3) := by decide +kernel
theorem dX7_warn_16 : decode cX7_warn 16 = .ok (.idiv, 1) := by decide +kernel
theorem dX7_warn_17 : decode cX7_warn 17 = .ok (.i2l, 1) := by decide +kernel
theorem dX7_warn_18 : decode cX7_warn 18 = .ok (.aload_n 0, 1) := by decide +kernel
theorem dX7_warn_19 : decode cX7_warn 19 = .ok (.getfield 7, 3) := by decide +kernel
theorem dX7_warn_22 : decode cX7_warn 22 = .ok (.iconst 0, 1) := by decide +kernel
theorem dX7_warn_23 : decode cX7_warn 23 = .ok (.laload, 1) := by decide +kernel
theorem dX7_warn_24 : decode cX7_warn 24 = .ok (.lconst 1, 1) := by decide +kernel
theorem dX7_warn_25 : decode cX7_warn 25 = .ok (.ladd, 1) := by decide +kernel
theorem dX7_warn_26 : decode cX7_warn 26 = .ok (.ldc2_w 77, 3) := by decide +kernel
theorem dX7_warn_29 : decode cX7_warn 29 = .ok (.invokestatic 85, 3) := by decide +kernel
theorem dX7_warn_32 : decode cX7_warn 32 = .ok (.ifCond .eq 40, 3) := by decide +kernel
theorem dX7_warn_35 : decode cX7_warn 35 = .ok (.iload_n 2, 1) := by decide +kernel
theorem dX7_warn_36 : decode cX7_warn 36 = .ok (.bipush 100, 2) := by decide +kernel
theorem dX7_warn_38 : decode cX7_warn 38 = .ok (.idiv, 1) := by decide +kernel
theorem dX7_warn_39 : decode cX7_warn 39 = .ok (.bipush 100, 2) := by decide +kernel
theorem dX7_warn_41 : decode cX7_warn 41 = .ok (.irem, 1) := by decide +kernel
theorem dX7_warn_42 : decode cX7_warn 42 = .ok (.bipush 24, 2) := by decide +kernel
theorem dX7_warn_44 : decode cX7_warn 44 = .ok (.if_icmp .gt 28, 3) := by decide +kernel
theorem dX7_warn_47 : decode cX7_warn 47 = .ok (.iload_n 2, 1) := by decide +kernel
theorem dX7_warn_48 : decode cX7_warn 48 = .ok (.bipush 100, 2) := by decide +kernel
theorem dX7_warn_50 : decode cX7_warn 50 = .ok (.irem, 1) := by decide +kernel
theorem dX7_warn_51 : decode cX7_warn 51 = .ok (.bipush 9, 2) := by decide +kernel
theorem dX7_warn_53 : decode cX7_warn 53 = .ok (.if_icmp .gt 19, 3) := by decide +kernel
theorem dX7_warn_56 : decode cX7_warn 56 = .ok (.iload_n 3, 1) := by decide +kernel
theorem dX7_warn_57 : decode cX7_warn 57 = .ok (.i2l, 1) := by decide +kernel
theorem dX7_warn_58 : decode cX7_warn 58 = .ok (.lconst 0, 1) := by decide +kernel
theorem dX7_warn_59 : decode cX7_warn 59 = .ok (.ldc2_w 66, 3) := by decide +kernel
theorem dX7_warn_62 : decode cX7_warn 62 = .ok (.invokestatic 85, 3) := by decide +kernel
theorem dX7_warn_65 : decode cX7_warn 65 = .ok (.ifCond .eq 7, 3) := by decide +kernel
theorem dX7_warn_68 : decode cX7_warn 68 = .ok (.iconst 1, 1) := by decide +kernel
theorem dX7_warn_69 : decode cX7_warn 69 = .ok (.goto 4, 3) := by decide +kernel
theorem dX7_warn_72 : decode cX7_warn 72 = .ok (.iconst 0, 1) := by decide +kernel
theorem dX7_warn_73 : decode cX7_warn 73 = .ok (.istore 4, 2) := by decide +kernel
theorem dX7_warn_75 : decode cX7_warn 75 = .ok (.iload_n 2, 1) := by decide +kernel
theorem dX7_warn_76 : decode cX7_warn 76 = .ok (.ifCond .lt 8, 3) := by decide +kernel
theorem dX7_warn_79 : decode cX7_warn 79 = .ok (.iload 4, 2) := by decide +kernel
theorem dX7_warn_81 : decode cX7_warn 81 = .ok (.ifCond .ne 9, 3) := by decide +kernel
theorem dX7_warn_84 : decode cX7_warn 84 = .ok (.aload_n 0, 1) := by decide +kernel
theorem dX7_warn_85 : decode cX7_warn 85 = .ok (.iconst 0, 1) := by decide +kernel
theorem dX7_warn_86 : decode cX7_warn 86 = .ok (.invokevirtual 93, 3) := by decide +kernel
theorem dX7_warn_89 : decode cX7_warn 89 = .ok (.ireturn, 1) := by decide +kernel
theorem dX7_warn_90 : decode cX7_warn 90 = .ok (.aload_n 0, 1) := by decide +kernel
theorem dX7_warn_91 : decode cX7_warn 91 = .ok (.getfield 7, 3) := by decide +kernel
theorem dX7_warn_94 : decode cX7_warn 94 = .ok (.bipush 10, 2) := by decide +kernel
theorem dX7_warn_96 : decode cX7_warn 96 = .ok (.laload, 1) := by decide +kernel
theorem dX7_warn_97 : decode cX7_warn 97 = .ok (.ldc2_w 98, 3) := by decide +kernel
theorem dX7_warn_100 : decode cX7_warn 100 = .ok (.lcmp, 1) := by decide +kernel
theorem dX7_warn_101 : decode cX7_warn 101 = .ok (.ifCond .ne 9, 3) := by decide +kernel
theorem dX7_warn_104 : decode cX7_warn 104 = .ok (.aload_n 0, 1) := by decide +kernel
theorem dX7_warn_105 : decode cX7_warn 105 = .ok (.iconst 1, 1) := by decide +kernel
theorem dX7_warn_106 : decode cX7_warn 106 = .ok (.invokevirtual 93, 3) := by decide +kernel
theorem dX7_warn_109 : decode cX7_warn 109 = .ok (.ireturn, 1) := by decide +kernel
theorem dX7_warn_110 : decode cX7_warn 110 = .ok (.bipush 12, 2) := by decide +kernel
theorem dX7_warn_112 : decode cX7_warn 112 = .ok (.bipush 6, 2) := by decide +kernel
theorem dX7_warn_114 : decode cX7_warn 114 = .ok (.aload_n 0, 1) := by decide +kernel
theorem dX7_warn_115 : decode cX7_warn 115 = .ok (.bipush 10, 2) := by decide +kernel
theorem dX7_warn_117 : decode cX7_warn 117 = .ok (.invokevirtual 71, 3) := by decide +kernel
theorem dX7_warn_120 : decode cX7_warn 120 = .ok (.imul, 1) := by decide +kernel
theorem dX7_warn_121 : decode cX7_warn 121 = .ok (.iadd, 1) := by decide +kernel
theorem dX7_warn_122 : decode cX7_warn 122 = .ok (.istore 5, 2) := by decide +kernel
theorem dX7_warn_124 : decode cX7_warn 124 = .ok (.aload_n 0, 1) := by decide +kernel
theorem dX7_warn_125 : decode cX7_warn 125 = .ok (.getfield 7, 3) := by decide +kernel
theorem dX7_warn_128 : decode cX7_warn 128 = .ok (.iload 5, 2) := by decide +kernel
theorem dX7_warn_130 : decode cX7_warn 130 = .ok (.iconst 0, 1) := by decide +kernel
theorem dX7_warn_131 : decode cX7_warn 131 = .ok (.iadd, 1) := by decide +kernel
theorem dX7_warn_132 : decode cX7_warn 132 = .ok (.iload_n 1, 1) := by decide +kernel
theorem dX7_warn_133 : decode cX7_warn 133 = .ok (.i2l, 1) := by decide +kernel
theorem dX7_warn_134 : decode cX7_warn 134 = .ok (.lastore, 1) := by decide +kernel
theorem dX7_warn_135 : decode cX7_warn 135 = .ok (.aload_n 0, 1) := by decide +kernel
theorem dX7_warn_136 : decode cX7_warn 136 = .ok (.getfield 7, 3) := by decide +kernel
theorem dX7_warn_139 : decode cX7_warn 139 = .ok (.iload 5, 2) := by decide +kernel
theorem dX7_warn_141 : decode cX7_warn 141 = .ok (.iconst 1, 1) := by decide +kernel
theorem dX7_warn_142 : decode cX7_warn 142 = .ok (.iadd, 1) := by decide +kernel
theorem dX7_warn_143 : decode cX7_warn 143 = .ok (.iload_n 2, 1) := by decide +kernel
theorem dX7_warn_144 : decode cX7_warn 144 = .ok (.sipush 10000, 3) := by decide +kernel
theorem dX7_warn_147 : decode cX7_warn 147 = .ok (.idiv, 1) := by decide +kernel
theorem dX7_warn_148 : decode cX7_warn 148 = .ok (.i2l, 1) := by decide +kernel
theorem dX7_warn_149 : decode cX7_warn 149 = .ok (.lastore, 1) := by decide +kernel
theorem dX7_warn_150 : decode cX7_warn 150 = .ok (.aload_n 0, 1) := by decide +kernel
theorem dX7_warn_151 : decode cX7_warn 151 = .ok (.getfield 7, 3) := by decide +kernel
theorem dX7_warn_154 : decode cX7_warn 154 = .ok (.iload 5, 2) := by decide +kernel
theorem dX7_warn_156 : decode cX7_warn 156 = .ok (.iconst 2, 1) := by decide +kernel
theorem dX7_warn_157 : decode cX7_warn 157 = .ok (.iadd, 1) := by decide +kernel
theorem dX7_warn_158 : decode cX7_warn 158 = .ok (.iload_n 2, 1) := by decide +kernel
theorem dX7_warn_159 : decode cX7_warn 159 = .ok (.bipush 100, 2) := by decide +kernel
theorem dX7_warn_161 : decode cX7_warn 161 = .ok (.idiv, 1) := by decide +kernel
theorem dX7_warn_162 : decode cX7_warn 162 = .ok (.bipush 100, 2) := by decide +kernel
theorem dX7_warn_164 : decode cX7_warn 164 = .ok (.irem, 1) := by decide +kernel
theorem dX7_warn_165 : decode cX7_warn 165 = .ok (.bipush 12, 2) := by decide +kernel
theorem dX7_warn_167 : decode cX7_warn 167 = .ok (.isub, 1) := by decide +kernel
theorem dX7_warn_168 : decode cX7_warn 168 = .ok (.i2l, 1) := by decide +kernel
theorem dX7_warn_169 : decode cX7_warn 169 = .ok (.lastore, 1) := by decide +kernel
theorem dX7_warn_170 : decode cX7_warn 170 = .ok (.aload_n 0, 1) := by decide +kernel
theorem dX7_warn_171 : decode cX7_warn 171 = .ok (.getfield 7, 3) := by decide +kernel
theorem dX7_warn_174 : decode cX7_warn 174 = .ok (.iload 5, 2) := by decide +kernel
theorem dX7_warn_176 : decode cX7_warn 176 = .ok (.iconst 3, 1) := by decide +kernel
theorem dX7_warn_177 : decode cX7_warn 177 = .ok (.iadd, 1) := by decide +kernel
theorem dX7_warn_178 : decode cX7_warn 178 = .ok (.iload_n 2, 1) := by decide +kernel
theorem dX7_warn_179 : decode cX7_warn 179 = .ok (.bipush 100, 2) := by decide +kernel
theorem dX7_warn_181 : decode cX7_warn 181 = .ok (.irem, 1) := by decide +kernel
theorem dX7_warn_182 : decode cX7_warn 182 = .ok (.i2l, 1) := by decide +kernel
theorem dX7_warn_183 : decode cX7_warn 183 = .ok (.lastore, 1) := by decide +kernel
theorem dX7_warn_184 : decode cX7_warn 184 = .ok (.aload_n 0, 1) := by decide +kernel
theorem dX7_warn_185 : decode cX7_warn 185 = .ok (.getfield 7, 3) := by decide +kernel
theorem dX7_warn_188 : decode cX7_warn 188 = .ok (.iload 5, 2) := by decide +kernel
theorem dX7_warn_190 : decode cX7_warn 190 = .ok (.iconst 4, 1) := by decide +kernel
theorem dX7_warn_191 : decode cX7_warn 191 = .ok (.iadd, 1) := by decide +kernel
theorem dX7_warn_192 : decode cX7_warn 192 = .ok (.iload_n 3, 1) := by decide +kernel
theorem dX7_warn_193 : decode cX7_warn 193 = .ok (.i2l, 1) := by decide +kernel
theorem dX7_warn_194 : decode cX7_warn 194 = .ok (.lastore, 1) := by decide +kernel
theorem dX7_warn_195 : decode cX7_warn 195 = .ok (.aload_n 0, 1) := by decide +kernel
theorem dX7_warn_196 : decode cX7_warn 196 = .ok (.getfield 7, 3) := by decide +kernel
theorem dX7_warn_199 : decode cX7_warn 199 = .ok (.iload 5, 2) := by decide +kernel
theorem dX7_warn_201 : decode cX7_warn 201 = .ok (.iconst 5, 1) := by decide +kernel
theorem dX7_warn_202 : decode cX7_warn 202 = .ok (.iadd, 1) := by decide +kernel
theorem dX7_warn_203 : decode cX7_warn 203 = .ok (.lconst 0, 1) := by decide +kernel
theorem dX7_warn_204 : decode cX7_warn 204 = .ok (.lastore, 1) := by decide +kernel
theorem dX7_warn_205 : decode cX7_warn 205 = .ok (.aload_n 0, 1) := by decide +kernel
theorem dX7_warn_206 : decode cX7_warn 206 = .ok (.getfield 7, 3) := by decide +kernel
theorem dX7_warn_209 : decode cX7_warn 209 = .ok (.bipush 10, 2) := by decide +kernel
theorem dX7_warn_211 : decode cX7_warn 211 = .ok (.dup2, 1) := by decide +kernel
theorem dX7_warn_212 : decode cX7_warn 212 = .ok (.laload, 1) := by decide +kernel
theorem dX7_warn_213 : decode cX7_warn 213 = .ok (.lconst 1, 1) := by decide +kernel
theorem dX7_warn_214 : decode cX7_warn 214 = .ok (.ladd, 1) := by decide +kernel
theorem dX7_warn_215 : decode cX7_warn 215 = .ok (.lastore, 1) := by decide +kernel
theorem dX7_warn_216 : decode cX7_warn 216 = .ok (.aload_n 0, 1) := by decide +kernel
theorem dX7_warn_217 : decode cX7_warn 217 = .ok (.bipush 10, 2) := by decide +kernel
theorem dX7_warn_219 : decode cX7_warn 219 = .ok (.invokevirtual 71, 3) := by decide +kernel
theorem dX7_warn_222 : decode cX7_warn 222 = .ok (.iconst 1, 1) := by decide +kernel
theorem dX7_warn_223 : decode cX7_warn 223 = .ok (.isub, 1) := by decide +kernel
theorem dX7_warn_224 : decode cX7_warn 224 = .ok (.ireturn, 1) := by decide +kernel
theorem dX7_of_0 : decode cX7_of 0 = .ok (.aload_n 0, 1) := by decide +kernel
theorem dX7_of_1 : decode cX7_of 1 = .ok (.iload_n 1, 1) := by decide +kernel
theorem dX7_of_2 : decode cX7_of 2 = .ok (.invokevirtual 150, 3) := by decide +kernel
theorem dX7_of_5 : decode cX7_of 5 = .ok (.ifCond .eq 15, 3) := by decide +kernel
theorem dX7_of_8 : decode cX7_of 8 = .ok (.iload_n 2, 1) := by decide +kernel
theorem dX7_of_9 : decode cX7_of 9 = .ok (.i2l, 1) := by decide +kernel
theorem dX7_of_10 : decode cX7_of 10 = .ok (.lconst 0, 1) := by decide +kernel
theorem dX7_of_11 : decode cX7_of 11 = .ok (.ldc2_w 154, 3) := by decide +kernel
theorem dX7_of_14 : decode cX7_of 14 = .ok (.invokestatic 85, 3) := by decide +kernel
theorem dX7_of_17 : decode cX7_of 17 = .ok (.ifCond .ne 9, 3) := by decide +kernel
theorem dX7_of_20 : decode cX7_of 20 = .ok (.aload_n 0, 1) := by decide +kernel
theorem dX7_of_21 : decode cX7_of 21 = .ok (.iconst 0, 1) := by decide +kernel
theorem dX7_of_22 : decode cX7_of 22 = .ok (.invokevirtual 93, 3) := by decide +kernel
theorem dX7_of_25 : decode cX7_of 25 = .ok (.ireturn, 1) := by decide +kernel
theorem dX7_of_26 : decode cX7_of 26 = .ok (.iload_n 2, 1) := by decide +kernel
theorem dX7_of_27 : decode cX7_of 27 = .ok (.bipush 6, 2) := by decide +kernel
theorem dX7_of_29 : decode cX7_of 29 = .ok (.if_icmp .ge 12, 3) := by decide +kernel
theorem dX7_of_32 : decode cX7_of 32 = .ok (.aload_n 0, 1) := by decide +kernel
theorem dX7_of_33 : decode cX7_of 33 = .ok (.iload_n 1, 1) := by decide +kernel
theorem dX7_of_34 : decode cX7_of 34 = .ok (.iload_n 2, 1) := by decide +kernel
theorem dX7_of_35 : decode cX7_of 35 = .ok (.invokevirtual 147, 3) := by decide +kernel
theorem dX7_of_38 : decode cX7_of 38 = .ok (.goto 20, 3) := by decide +kernel
theorem dX7_of_41 : decode cX7_of 41 = .ok (.aload_n 0, 1) := by decide +kernel
theorem dX7_of_42 : decode cX7_of 42 = .ok (.iload_n 1, 1) := by decide +kernel
theorem dX7_of_43 : decode cX7_of 43 = .ok (.aload_n 0, 1) := by decide +kernel
theorem dX7_of_44 : decode cX7_of 44 = .ok (.invokevirtual 129, 3) := by decide +kernel
theorem dX7_of_47 : decode cX7_of 47 = .ok (.invokevirtual 156, 3) := by decide +kernel
theorem dX7_of_50 : decode cX7_of 50 = .ok (.ifCond .eq 7, 3) := by decide +kernel
theorem dX7_of_53 : decode cX7_of 53 = .ok (.iconst 1, 1) := by decide +kernel
theorem dX7_of_54 : decode cX7_of 54 = .ok (.goto 4, 3) := by decide +kernel
theorem dX7_of_57 : decode cX7_of 57 = .ok (.iconst 0, 1) := by decide +kernel
theorem dX7_of_58 : decode cX7_of 58 = .ok (.ireturn, 1) := by decide +kernel
theorem dX7_as_0 : decode cX7_as 0 = .ok (.aload_n 0, 1) := by decide +kernel
theorem dX7_as_1 : decode cX7_as 1 = .ok (.iload_n 1, 1) := by decide +kernel
theorem dX7_as_2 : decode cX7_as 2 = .ok (.invokevirtual 150, 3) := by decide +kernel
theorem dX7_as_5 : decode cX7_as 5 = .ok (.ifCond .eq 15, 3) := by decide +kernel
theorem dX7_as_8 : decode cX7_as 8 = .ok (.iload_n 2, 1) := by decide +kernel
theorem dX7_as_9 : decode cX7_as 9 = .ok (.i2l, 1) := by decide +kernel
theorem dX7_as_10 : decode cX7_as 10 = .ok (.lconst 0, 1) := by decide +kernel
theorem dX7_as_11 : decode cX7_as 11 = .ok (.ldc2_w 83, 3) := by decide +kernel
theorem dX7_as_14 : decode cX7_as 14 = .ok (.invokestatic 85, 3) := by decide +kernel
theorem dX7_as_17 : decode cX7_as 17 = .ok (.ifCond .ne 9, 3) := by decide +kernel
theorem dX7_as_20 : decode cX7_as 20 = .ok (.aload_n 0, 1) := by decide +kernel
theorem dX7_as_21 : decode cX7_as 21 = .ok (.iconst 0, 1) := by decide +kernel
theorem dX7_as_22 : decode cX7_as 22 = .ok (.invokevirtual 93, 3) := by decide +kernel
theorem dX7_as_25 : decode cX7_as 25 = .ok (.ireturn, 1) := by decide +kernel
theorem dX7_as_26 : decode cX7_as 26 = .ok (.aload_n 0, 1) := by decide +kernel
theorem dX7_as_27 : decode cX7_as 27 = .ok (.iload_n 1, 1) := by decide +kernel
theorem dX7_as_28 : decode cX7_as 28 = .ok (.iconst 0, 1) := by decide +kernel
theorem dX7_as_29 : decode cX7_as 29 = .ok (.invokevirtual 147, 3) := by decide +kernel
theorem dX7_as_32 : decode cX7_as 32 = .ok (.istore_n 3, 1) := by decide +kernel
theorem dX7_as_33 : decode cX7_as 33 = .ok (.iload_n 2, 1) := by decide +kernel
theorem dX7_as_34 : decode cX7_as 34 = .ok (.ifCond .eq 28, 3) := by decide +kernel
theorem dX7_as_37 : decode cX7_as 37 = .ok (.iload_n 3, 1) := by decide +kernel
theorem dX7_as_38 : decode cX7_as 38 = .ok (.iload_n 2, 1) := by decide +kernel
theorem dX7_as_39 : decode cX7_as 39 = .ok (.if_icmp .eq 23, 3) := by decide +kernel
theorem dX7_as_42 : decode cX7_as 42 = .ok (.iload_n 2, 1) := by decide +kernel
theorem dX7_as_43 : decode cX7_as 43 = .ok (.iconst 1, 1) := by decide +kernel
theorem dX7_as_44 : decode cX7_as 44 = .ok (.if_icmp .ne 8, 3) := by decide +kernel
theorem dX7_as_47 : decode cX7_as 47 = .ok (.iload_n 3, 1) := by decide +kernel
theorem dX7_as_48 : decode cX7_as 48 = .ok (.iconst 5, 1) := by decide +kernel
theorem dX7_as_49 : decode cX7_as 49 = .ok (.if_icmp .eq 13, 3) := by decide +kernel
theorem dX7_as_52 : decode cX7_as 52 = .ok (.iload_n 2, 1) := by decide +kernel
theorem dX7_as_53 : decode cX7_as 53 = .ok (.iconst 2, 1) := by decide +kernel
theorem dX7_as_54 : decode cX7_as 54 = .ok (.if_icmp .ne 12, 3) := by decide +kernel
theorem dX7_as_57 : decode cX7_as 57 = .ok (.iload_n 3, 1) := by decide +kernel
theorem dX7_as_58 : decode cX7_as 58 = .ok (.iconst 4, 1) := by decide +kernel
theorem dX7_as_59 : decode cX7_as 59 = .ok (.if_icmp .ne 7, 3) := by decide +kernel
theorem dX7_as_62 : decode cX7_as 62 = .ok (.iconst 1, 1) := by decide +kernel
theorem dX7_as_63 : decode cX7_as 63 = .ok (.goto 4, 3) := by decide +kernel
theorem dX7_as_66 : decode cX7_as 66 = .ok (.iconst 0, 1) := by decide +kernel
theorem dX7_as_67 : decode cX7_as 67 = .ok (.istore 4, 2) := by decide +kernel
theorem dX7_as_69 : decode cX7_as 69 = .ok (.iload 4, 2) := by decide +kernel
theorem dX7_as_71 : decode cX7_as 71 = .ok (.ifCond .eq 12, 3) := by decide +kernel
theorem dX7_as_74 : decode cX7_as 74 = .ok (.aload_n 0, 1) := by decide +kernel
theorem dX7_as_75 : decode cX7_as 75 = .ok (.iload_n 1, 1) := by decide +kernel
theorem dX7_as_76 : decode cX7_as 76 = .ok (.iconst 4, 1) := by decide +kernel
theorem dX7_as_77 : decode cX7_as 77 = .ok (.invokevirtual 147, 3) := by decide +kernel
theorem dX7_as_80 : decode cX7_as 80 = .ok (.goto 8, 3) := by decide +kernel
theorem dX7_as_83 : decode cX7_as 83 = .ok (.aload_n 0, 1) := by decide +kernel
theorem dX7_as_84 : decode cX7_as 84 = .ok (.iconst 2, 1) := by decide +kernel
theorem dX7_as_85 : decode cX7_as 85 = .ok (.invokevirtual 93, 3) := by decide +kernel
theorem dX7_as_88 : decode cX7_as 88 = .ok (.ireturn, 1) := by decide +kernel
theorem dX7_plain_0 : decode cX7_plain 0 = .ok (.iload_n 2, 1) := by decide +kernel
theorem dX7_plain_1 : decode cX7_plain 1 = .ok (.iload_n 1, 1) := by decide +kernel
theorem dX7_plain_2 : decode cX7_plain 2 = .ok (.if_icmp .le 7, 3) := by decide +kernel
theorem dX7_plain_5 : decode cX7_plain 5 = .ok (.iconst 0, 1) := by decide +kernel
theorem dX7_plain_6 : decode cX7_plain 6 = .ok (.goto 18, 3) := by decide +kernel
theorem dX7_plain_9 : decode cX7_plain 9 = .ok (.iload_n 0, 1) := by decide +kernel
theorem dX7_plain_10 : decode cX7_plain 10 = .ok (.i2l, 1) := by decide +kernel
theorem dX7_plain_11 : decode cX7_plain 11 = .ok (.iload_n 1, 1) := by decide +kernel
theorem dX7_plain_12 : decode cX7_plain 12 = .ok (.iconst 1, 1) := by decide +kernel
theorem dX7_plain_13 : decode cX7_plain 13 = .ok (.iadd, 1) := by decide +kernel
theorem dX7_plain_14 : decode cX7_plain 14 = .ok (.iload_n 2, 1) := by decide +kernel
theorem dX7_plain_15 : decode cX7_plain 15 = .ok (.isub, 1) := by decide +kernel
theorem dX7_plain_16 : decode cX7_plain 16 = .ok (.i2l, 1) := by decide +kernel
theorem dX7_plain_17 : decode cX7_plain 17 = .ok (.lmul, 1) := by decide +kernel
theorem dX7_plain_18 : decode cX7_plain 18 = .ok (.iload_n 1, 1) := by decide +kernel
theorem dX7_plain_19 : decode cX7_plain 19 = .ok (.iconst 1, 1) := by decide +kernel
theorem dX7_plain_20 : decode cX7_plain 20 = .ok (.iadd, 1) := by decide +kernel
theorem dX7_plain_21 : decode cX7_plain 21 = .ok (.i2l, 1) := by decide +kernel
theorem dX7_plain_22 : decode cX7_plain 22 = .ok (.ldiv, 1) := by decide +kernel
theorem dX7_plain_23 : decode cX7_plain 23 = .ok (.l2i, 1) := by decide +kernel
theorem dX7_plain_24 : decode cX7_plain 24 = .ok (.ireturn, 1) := by decide +kernel
theorem dX7_close_0 : decode cX7_close 0 = .ok (.iload_n 0, 1) := by decide +kernel
theorem dX7_close_1 : decode cX7_close 1 = .ok (.iload_n 0, 1) := by decide +kernel
theorem dX7_close_2 : decode cX7_close 2 = .ok (.iconst 2, 1) := by decide +kernel
theorem dX7_close_3 : decode cX7_close 3 = .ok (.idiv, 1) := by decide +kernel
theorem dX7_close_4 : decode cX7_close 4 = .ok (.iadd, 1) := by decide +kernel
theorem dX7_close_5 : decode cX7_close 5 = .ok (.istore_n 1, 1) := by decide +kernel
theorem dX7_close_6 : decode cX7_close 6 = .ok (.iload_n 1, 1) := by decide +kernel
theorem dX7_close_7 : decode cX7_close 7 = .ok (.ldc 160, 2) := by decide +kernel
theorem dX7_close_9 : decode cX7_close 9 = .ok (.if_icmp .le 8, 3) := by decide +kernel
theorem dX7_close_12 : decode cX7_close 12 = .ok (.ldc 160, 2) := by decide +kernel
theorem dX7_close_14 : decode cX7_close 14 = .ok (.goto 4, 3) := by decide +kernel
theorem dX7_close_17 : decode cX7_close 17 = .ok (.iload_n 1, 1) := by decide +kernel
theorem dX7_close_18 : decode cX7_close 18 = .ok (.ireturn, 1) := by decide +kernel
theorem dX7_struckBy_0 : decode cX7_struckBy 0 = .ok (.aload_n 0, 1) := by decide +kernel
theorem dX7_struckBy_1 : decode cX7_struckBy 1 = .ok (.iload_n 1, 1) := by decide +kernel
theorem dX7_struckBy_2 : decode cX7_struckBy 2 = .ok (.iconst 4, 1) := by decide +kernel
theorem dX7_struckBy_3 : decode cX7_struckBy 3 = .ok (.invokevirtual 147, 3) := by decide +kernel
theorem dX7_struckBy_6 : decode cX7_struckBy 6 = .ok (.istore_n 3, 1) := by decide +kernel
theorem dX7_struckBy_7 : decode cX7_struckBy 7 = .ok (.aload_n 0, 1) := by decide +kernel
theorem dX7_struckBy_8 : decode cX7_struckBy 8 = .ok (.iload_n 1, 1) := by decide +kernel
theorem dX7_struckBy_9 : decode cX7_struckBy 9 = .ok (.iconst 3, 1) := by decide +kernel
theorem dX7_struckBy_10 : decode cX7_struckBy 10 = .ok (.invokevirtual 147, 3) := by decide +kernel
theorem dX7_struckBy_13 : decode cX7_struckBy 13 = .ok (.istore 4, 2) := by decide +kernel
theorem dX7_struckBy_15 : decode cX7_struckBy 15 = .ok (.iload_n 2, 1) := by decide +kernel
theorem dX7_struckBy_16 : decode cX7_struckBy 16 = .ok (.aload_n 0, 1) := by decide +kernel
theorem dX7_struckBy_17 : decode cX7_struckBy 17 = .ok (.iload_n 1, 1) := by decide +kernel
theorem dX7_struckBy_18 : decode cX7_struckBy 18 = .ok (.iconst 2, 1) := by decide +kernel
theorem dX7_struckBy_19 : decode cX7_struckBy 19 = .ok (.invokevirtual 147, 3) := by decide +kernel
theorem dX7_struckBy_22 : decode cX7_struckBy 22 = .ok (.isub, 1) := by decide +kernel
theorem dX7_struckBy_23 : decode cX7_struckBy 23 = .ok (.invokestatic 100, 3) := by decide +kernel
theorem dX7_struckBy_26 : decode cX7_struckBy 26 = .ok (.istore 5, 2) := by decide +kernel
theorem dX7_struckBy_28 : decode cX7_struckBy 28 = .ok (.aload_n 0, 1) := by decide +kernel
theorem dX7_struckBy_29 : decode cX7_struckBy 29 = .ok (.iload_n 1, 1) := by decide +kernel
theorem dX7_struckBy_30 : decode cX7_struckBy 30 = .ok (.iconst 0, 1) := by decide +kernel
theorem dX7_struckBy_31 : decode cX7_struckBy 31 = .ok (.invokevirtual 147, 3) := by decide +kernel
theorem dX7_struckBy_34 : decode cX7_struckBy 34 = .ok (.tableswitch 113 1 5 #[34, 60, 102, 80, 46], 34) := by decide +kernel
theorem dX7_struckBy_68 : decode cX7_struckBy 68 = .ok (.iload_n 3, 1) := by decide +kernel
theorem dX7_struckBy_69 : decode cX7_struckBy 69 = .ok (.iload 4, 2) := by decide +kernel
theorem dX7_struckBy_71 : decode cX7_struckBy 71 = .ok (.iload 5, 2) := by decide +kernel
theorem dX7_struckBy_73 : decode cX7_struckBy 73 = .ok (.invokestatic 161, 3) := by decide +kernel
theorem dX7_struckBy_76 : decode cX7_struckBy 76 = .ok (.invokestatic 164, 3) := by decide +kernel
theorem dX7_struckBy_79 : decode cX7_struckBy 79 = .ok (.ireturn, 1) := by decide +kernel
theorem dX7_struckBy_80 : decode cX7_struckBy 80 = .ok (.iload_n 3, 1) := by decide +kernel
theorem dX7_struckBy_81 : decode cX7_struckBy 81 = .ok (.iload 4, 2) := by decide +kernel
theorem dX7_struckBy_83 : decode cX7_struckBy 83 = .ok (.iload 5, 2) := by decide +kernel
theorem dX7_struckBy_85 : decode cX7_struckBy 85 = .ok (.invokestatic 161, 3) := by decide +kernel
theorem dX7_struckBy_88 : decode cX7_struckBy 88 = .ok (.invokestatic 164, 3) := by decide +kernel
theorem dX7_struckBy_91 : decode cX7_struckBy 91 = .ok (.iconst 4, 1) := by decide +kernel
theorem dX7_struckBy_92 : decode cX7_struckBy 92 = .ok (.idiv, 1) := by decide +kernel
theorem dX7_struckBy_93 : decode cX7_struckBy 93 = .ok (.ireturn, 1) := by decide +kernel
theorem dX7_struckBy_94 : decode cX7_struckBy 94 = .ok (.iload_n 3, 1) := by decide +kernel
theorem dX7_struckBy_95 : decode cX7_struckBy 95 = .ok (.iload 4, 2) := by decide +kernel
theorem dX7_struckBy_97 : decode cX7_struckBy 97 = .ok (.iload 5, 2) := by decide +kernel
theorem dX7_struckBy_99 : decode cX7_struckBy 99 = .ok (.ifCond .ne 7, 3) := by decide +kernel
theorem dX7_struckBy_102 : decode cX7_struckBy 102 = .ok (.iconst 0, 1) := by decide +kernel
theorem dX7_struckBy_103 : decode cX7_struckBy 103 = .ok (.goto 7, 3) := by decide +kernel
theorem dX7_struckBy_106 : decode cX7_struckBy 106 = .ok (.iload 5, 2) := by decide +kernel
theorem dX7_struckBy_108 : decode cX7_struckBy 108 = .ok (.iconst 1, 1) := by decide +kernel
theorem dX7_struckBy_109 : decode cX7_struckBy 109 = .ok (.iadd, 1) := by decide +kernel
theorem dX7_struckBy_110 : decode cX7_struckBy 110 = .ok (.invokestatic 161, 3) := by decide +kernel
theorem dX7_struckBy_113 : decode cX7_struckBy 113 = .ok (.ireturn, 1) := by decide +kernel
theorem dX7_struckBy_114 : decode cX7_struckBy 114 = .ok (.iload_n 3, 1) := by decide +kernel
theorem dX7_struckBy_115 : decode cX7_struckBy 115 = .ok (.iload 4, 2) := by decide +kernel
theorem dX7_struckBy_117 : decode cX7_struckBy 117 = .ok (.iload 5, 2) := by decide +kernel
theorem dX7_struckBy_119 : decode cX7_struckBy 119 = .ok (.ifCond .ne 7, 3) := by decide +kernel
theorem dX7_struckBy_122 : decode cX7_struckBy 122 = .ok (.iconst 0, 1) := by decide +kernel
theorem dX7_struckBy_123 : decode cX7_struckBy 123 = .ok (.goto 7, 3) := by decide +kernel
theorem dX7_struckBy_126 : decode cX7_struckBy 126 = .ok (.iload 5, 2) := by decide +kernel
theorem dX7_struckBy_128 : decode cX7_struckBy 128 = .ok (.iconst 1, 1) := by decide +kernel
theorem dX7_struckBy_129 : decode cX7_struckBy 129 = .ok (.iadd, 1) := by decide +kernel
theorem dX7_struckBy_130 : decode cX7_struckBy 130 = .ok (.invokestatic 161, 3) := by decide +kernel
theorem dX7_struckBy_133 : decode cX7_struckBy 133 = .ok (.iconst 2, 1) := by decide +kernel
theorem dX7_struckBy_134 : decode cX7_struckBy 134 = .ok (.idiv, 1) := by decide +kernel
theorem dX7_struckBy_135 : decode cX7_struckBy 135 = .ok (.ireturn, 1) := by decide +kernel
theorem dX7_struckBy_136 : decode cX7_struckBy 136 = .ok (.iload_n 3, 1) := by decide +kernel
theorem dX7_struckBy_137 : decode cX7_struckBy 137 = .ok (.iload 4, 2) := by decide +kernel
theorem dX7_struckBy_139 : decode cX7_struckBy 139 = .ok (.iload 5, 2) := by decide +kernel
theorem dX7_struckBy_141 : decode cX7_struckBy 141 = .ok (.iconst 2, 1) := by decide +kernel
theorem dX7_struckBy_142 : decode cX7_struckBy 142 = .ok (.idiv, 1) := by decide +kernel
theorem dX7_struckBy_143 : decode cX7_struckBy 143 = .ok (.invokestatic 161, 3) := by decide +kernel
theorem dX7_struckBy_146 : decode cX7_struckBy 146 = .ok (.ireturn, 1) := by decide +kernel
theorem dX7_struckBy_147 : decode cX7_struckBy 147 = .ok (.iload_n 3, 1) := by decide +kernel
theorem dX7_struckBy_148 : decode cX7_struckBy 148 = .ok (.iload 4, 2) := by decide +kernel
theorem dX7_struckBy_150 : decode cX7_struckBy 150 = .ok (.iload 5, 2) := by decide +kernel
theorem dX7_struckBy_152 : decode cX7_struckBy 152 = .ok (.invokestatic 161, 3) := by decide +kernel
theorem dX7_struckBy_155 : decode cX7_struckBy 155 = .ok (.ireturn, 1) := by decide +kernel
theorem dX7_isHeight_0 : decode cX7_isHeight 0 = .ok (.iload_n 0, 1) := by decide +kernel
theorem dX7_isHeight_1 : decode cX7_isHeight 1 = .ok (.i2l, 1) := by decide +kernel
theorem dX7_isHeight_2 : decode cX7_isHeight 2 = .ok (.ldc2_w 96, 3) := by decide +kernel
theorem dX7_isHeight_5 : decode cX7_isHeight 5 = .ok (.ldc2_w 98, 3) := by decide +kernel
theorem dX7_isHeight_8 : decode cX7_isHeight 8 = .ok (.invokestatic 85, 3) := by decide +kernel
theorem dX7_isHeight_11 : decode cX7_isHeight 11 = .ok (.ireturn, 1) := by decide +kernel
theorem dX7_struck_0 : decode cX7_struck 0 = .ok (.aload_n 0, 1) := by decide +kernel
theorem dX7_struck_1 : decode cX7_struck 1 = .ok (.iload_n 1, 1) := by decide +kernel
theorem dX7_struck_2 : decode cX7_struck 2 = .ok (.invokevirtual 150, 3) := by decide +kernel
theorem dX7_struck_5 : decode cX7_struck 5 = .ok (.ifCond .eq 19, 3) := by decide +kernel
theorem dX7_struck_8 : decode cX7_struck 8 = .ok (.iload_n 2, 1) := by decide +kernel
theorem dX7_struck_9 : decode cX7_struck 9 = .ok (.invokestatic 167, 3) := by decide +kernel
theorem dX7_struck_12 : decode cX7_struck 12 = .ok (.ifCond .eq 12, 3) := by decide +kernel
theorem dX7_struck_15 : decode cX7_struck 15 = .ok (.aload_n 0, 1) := by decide +kernel
theorem dX7_struck_16 : decode cX7_struck 16 = .ok (.iload_n 1, 1) := by decide +kernel
theorem dX7_struck_17 : decode cX7_struck 17 = .ok (.iload_n 2, 1) := by decide +kernel
theorem dX7_struck_18 : decode cX7_struck 18 = .ok (.invokevirtual 170, 3) := by decide +kernel
theorem dX7_struck_21 : decode cX7_struck 21 = .ok (.goto 8, 3) := by decide +kernel
theorem dX7_struck_24 : decode cX7_struck 24 = .ok (.aload_n 0, 1) := by decide +kernel
theorem dX7_struck_25 : decode cX7_struck 25 = .ok (.iconst 0, 1) := by decide +kernel
theorem dX7_struck_26 : decode cX7_struck 26 = .ok (.invokevirtual 93, 3) := by decide +kernel
theorem dX7_struck_29 : decode cX7_struck 29 = .ok (.ireturn, 1) := by decide +kernel
theorem dX7_behind_0 : decode cX7_behind 0 = .ok (.aload_n 0, 1) := by decide +kernel
theorem dX7_behind_1 : decode cX7_behind 1 = .ok (.iload_n 1, 1) := by decide +kernel
theorem dX7_behind_2 : decode cX7_behind 2 = .ok (.iconst 4, 1) := by decide +kernel
theorem dX7_behind_3 : decode cX7_behind 3 = .ok (.invokevirtual 147, 3) := by decide +kernel
theorem dX7_behind_6 : decode cX7_behind 6 = .ok (.i2l, 1) := by decide +kernel
theorem dX7_behind_7 : decode cX7_behind 7 = .ok (.lstore 4, 2) := by decide +kernel
theorem dX7_behind_9 : decode cX7_behind 9 = .ok (.iload_n 3, 1) := by decide +kernel
theorem dX7_behind_10 : decode cX7_behind 10 = .ok (.ifCond .eq 11, 3) := by decide +kernel
theorem dX7_behind_13 : decode cX7_behind 13 = .ok (.lload 4, 2) := by decide +kernel
theorem dX7_behind_15 : decode cX7_behind 15 = .ok (.iload_n 2, 1) := by decide +kernel
theorem dX7_behind_16 : decode cX7_behind 16 = .ok (.i2l, 1) := by decide +kernel
theorem dX7_behind_17 : decode cX7_behind 17 = .ok (.lmul, 1) := by decide +kernel
theorem dX7_behind_18 : decode cX7_behind 18 = .ok (.goto 12, 3) := by decide +kernel
theorem dX7_behind_21 : decode cX7_behind 21 = .ok (.lload 4, 2) := by decide +kernel
theorem dX7_behind_23 : decode cX7_behind 23 = .ok (.ldc2_w 62, 3) := by decide +kernel
theorem dX7_behind_26 : decode cX7_behind 26 = .ok (.iload_n 2, 1) := by decide +kernel
theorem dX7_behind_27 : decode cX7_behind 27 = .ok (.i2l, 1) := by decide +kernel
theorem dX7_behind_28 : decode cX7_behind 28 = .ok (.lsub, 1) := by decide +kernel
theorem dX7_behind_29 : decode cX7_behind 29 = .ok (.lmul, 1) := by decide +kernel
theorem dX7_behind_30 : decode cX7_behind 30 = .ok (.lstore 6, 2) := by decide +kernel
theorem dX7_behind_32 : decode cX7_behind 32 = .ok (.ldc2_w 66, 3) := by decide +kernel
theorem dX7_behind_35 : decode cX7_behind 35 = .ok (.lload 4, 2) := by decide +kernel
theorem dX7_behind_37 : decode cX7_behind 37 = .ok (.lsub, 1) := by decide +kernel
theorem dX7_behind_38 : decode cX7_behind 38 = .ok (.iload_n 3, 1) := by decide +kernel
theorem dX7_behind_39 : decode cX7_behind 39 = .ok (.ifCond .eq 12, 3) := by decide +kernel
theorem dX7_behind_42 : decode cX7_behind 42 = .ok (.ldc2_w 62, 3) := by decide +kernel
theorem dX7_behind_45 : decode cX7_behind 45 = .ok (.iload_n 2, 1) := by decide +kernel
theorem dX7_behind_46 : decode cX7_behind 46 = .ok (.i2l, 1) := by decide +kernel
theorem dX7_behind_47 : decode cX7_behind 47 = .ok (.lsub, 1) := by decide +kernel
theorem dX7_behind_48 : decode cX7_behind 48 = .ok (.goto 5, 3) := by decide +kernel
theorem dX7_behind_51 : decode cX7_behind 51 = .ok (.iload_n 2, 1) := by decide +kernel
theorem dX7_behind_52 : decode cX7_behind 52 = .ok (.i2l, 1) := by decide +kernel
theorem dX7_behind_53 : decode cX7_behind 53 = .ok (.lmul, 1) := by decide +kernel
theorem dX7_behind_54 : decode cX7_behind 54 = .ok (.lstore 8, 2) := by decide +kernel
theorem dX7_behind_56 : decode cX7_behind 56 = .ok (.lload 6, 2) := by decide +kernel
theorem dX7_behind_58 : decode cX7_behind 58 = .ok (.lload 8, 2) := by decide +kernel
theorem dX7_behind_60 : decode cX7_behind 60 = .ok (.ladd, 1) := by decide +kernel
theorem dX7_behind_61 : decode cX7_behind 61 = .ok (.lconst 0, 1) := by decide +kernel
theorem dX7_behind_62 : decode cX7_behind 62 = .ok (.lcmp, 1) := by decide +kernel
theorem dX7_behind_63 : decode cX7_behind 63 = .ok (.ifCond .ne 7, 3) := by decide +kernel
theorem dX7_behind_66 : decode cX7_behind 66 = .ok (.iconst (-1), 1) := by decide +kernel
theorem dX7_behind_67 : decode cX7_behind 67 = .ok (.goto 16, 3) := by decide +kernel
theorem dX7_behind_70 : decode cX7_behind 70 = .ok (.lload 6, 2) := by decide +kernel
theorem dX7_behind_72 : decode cX7_behind 72 = .ok (.ldc2_w 66, 3) := by decide +kernel
theorem dX7_behind_75 : decode cX7_behind 75 = .ok (.lmul, 1) := by decide +kernel
theorem dX7_behind_76 : decode cX7_behind 76 = .ok (.lload 6, 2) := by decide +kernel
theorem dX7_behind_78 : decode cX7_behind 78 = .ok (.lload 8, 2) := by decide +kernel
theorem dX7_behind_80 : decode cX7_behind 80 = .ok (.ladd, 1) := by decide +kernel
theorem dX7_behind_81 : decode cX7_behind 81 = .ok (.ldiv, 1) := by decide +kernel
theorem dX7_behind_82 : decode cX7_behind 82 = .ok (.l2i, 1) := by decide +kernel
theorem dX7_behind_83 : decode cX7_behind 83 = .ok (.ireturn, 1) := by decide +kernel
theorem dX7_looks_0 : decode cX7_looks 0 = .ok (.aload_n 0, 1) := by decide +kernel
theorem dX7_looks_1 : decode cX7_looks 1 = .ok (.iload_n 1, 1) := by decide +kernel
theorem dX7_looks_2 : decode cX7_looks 2 = .ok (.invokevirtual 150, 3) := by decide +kernel
theorem dX7_looks_5 : decode cX7_looks 5 = .ok (.ifCond .eq 17, 3) := by decide +kernel
theorem dX7_looks_8 : decode cX7_looks 8 = .ok (.iload_n 2, 1) := by decide +kernel
theorem dX7_looks_9 : decode cX7_looks 9 = .ok (.i2l, 1) := by decide +kernel
theorem dX7_looks_10 : decode cX7_looks 10 = .ok (.ldc2_w 173, 3) := by decide +kernel
theorem dX7_looks_13 : decode cX7_looks 13 = .ok (.ldc2_w 62, 3) := by decide +kernel
theorem dX7_looks_16 : decode cX7_looks 16 = .ok (.invokestatic 85, 3) := by decide +kernel
theorem dX7_looks_19 : decode cX7_looks 19 = .ok (.ifCond .ne 9, 3) := by decide +kernel
theorem dX7_looks_22 : decode cX7_looks 22 = .ok (.aload_n 0, 1) := by decide +kernel
theorem dX7_looks_23 : decode cX7_looks 23 = .ok (.iconst 0, 1) := by decide +kernel
theorem dX7_looks_24 : decode cX7_looks 24 = .ok (.invokevirtual 93, 3) := by decide +kernel
theorem dX7_looks_27 : decode cX7_looks 27 = .ok (.ireturn, 1) := by decide +kernel
theorem dX7_looks_28 : decode cX7_looks 28 = .ok (.aload_n 0, 1) := by decide +kernel
theorem dX7_looks_29 : decode cX7_looks 29 = .ok (.iload_n 1, 1) := by decide +kernel
theorem dX7_looks_30 : decode cX7_looks 30 = .ok (.iload_n 2, 1) := by decide +kernel
theorem dX7_looks_31 : decode cX7_looks 31 = .ok (.iload_n 3, 1) := by decide +kernel
theorem dX7_looks_32 : decode cX7_looks 32 = .ok (.invokevirtual 175, 3) := by decide +kernel
theorem dX7_looks_35 : decode cX7_looks 35 = .ok (.istore 5, 2) := by decide +kernel
theorem dX7_looks_37 : decode cX7_looks 37 = .ok (.aload_n 0, 1) := by decide +kernel
theorem dX7_looks_38 : decode cX7_looks 38 = .ok (.iload_n 1, 1) := by decide +kernel
theorem dX7_looks_39 : decode cX7_looks 39 = .ok (.aload_n 0, 1) := by decide +kernel
theorem dX7_looks_40 : decode cX7_looks 40 = .ok (.invokevirtual 129, 3) := by decide +kernel
theorem dX7_looks_43 : decode cX7_looks 43 = .ok (.invokevirtual 156, 3) := by decide +kernel
theorem dX7_looks_46 : decode cX7_looks 46 = .ok (.ifCond .eq 8, 3) := by decide +kernel
theorem dX7_looks_49 : decode cX7_looks 49 = .ok (.iload 5, 2) := by decide +kernel
theorem dX7_looks_51 : decode cX7_looks 51 = .ok (.ifCond .ge 9, 3) := by decide +kernel
theorem dX7_looks_54 : decode cX7_looks 54 = .ok (.aload_n 0, 1) := by decide +kernel
theorem dX7_looks_55 : decode cX7_looks 55 = .ok (.iconst 4, 1) := by decide +kernel
theorem dX7_looks_56 : decode cX7_looks 56 = .ok (.invokevirtual 93, 3) := by decide +kernel
theorem dX7_looks_59 : decode cX7_looks 59 = .ok (.ireturn, 1) := by decide +kernel
theorem dX7_looks_60 : decode cX7_looks 60 = .ok (.iload 4, 2) := by decide +kernel
theorem dX7_looks_62 : decode cX7_looks 62 = .ok (.ifCond .eq 38, 3) := by decide +kernel
theorem dX7_looks_65 : decode cX7_looks 65 = .ok (.aload_n 0, 1) := by decide +kernel
theorem dX7_looks_66 : decode cX7_looks 66 = .ok (.getfield 7, 3) := by decide +kernel
theorem dX7_looks_69 : decode cX7_looks 69 = .ok (.bipush 12, 2) := by decide +kernel
theorem dX7_looks_71 : decode cX7_looks 71 = .ok (.bipush 6, 2) := by decide +kernel
theorem dX7_looks_73 : decode cX7_looks 73 = .ok (.iload_n 1, 1) := by decide +kernel
theorem dX7_looks_74 : decode cX7_looks 74 = .ok (.imul, 1) := by decide +kernel
theorem dX7_looks_75 : decode cX7_looks 75 = .ok (.iadd, 1) := by decide +kernel
theorem dX7_looks_76 : decode cX7_looks 76 = .ok (.iconst 4, 1) := by decide +kernel
theorem dX7_looks_77 : decode cX7_looks 77 = .ok (.iadd, 1) := by decide +kernel
theorem dX7_looks_78 : decode cX7_looks 78 = .ok (.iload 5, 2) := by decide +kernel
theorem dX7_looks_80 : decode cX7_looks 80 = .ok (.i2l, 1) := by decide +kernel
theorem dX7_looks_81 : decode cX7_looks 81 = .ok (.lastore, 1) := by decide +kernel
theorem dX7_looks_82 : decode cX7_looks 82 = .ok (.aload_n 0, 1) := by decide +kernel
theorem dX7_looks_83 : decode cX7_looks 83 = .ok (.getfield 7, 3) := by decide +kernel
theorem dX7_looks_86 : decode cX7_looks 86 = .ok (.bipush 12, 2) := by decide +kernel
theorem dX7_looks_88 : decode cX7_looks 88 = .ok (.bipush 6, 2) := by decide +kernel
theorem dX7_looks_90 : decode cX7_looks 90 = .ok (.iload_n 1, 1) := by decide +kernel
theorem dX7_looks_91 : decode cX7_looks 91 = .ok (.imul, 1) := by decide +kernel
theorem dX7_looks_92 : decode cX7_looks 92 = .ok (.iadd, 1) := by decide +kernel
theorem dX7_looks_93 : decode cX7_looks 93 = .ok (.iconst 5, 1) := by decide +kernel
theorem dX7_looks_94 : decode cX7_looks 94 = .ok (.iadd, 1) := by decide +kernel
theorem dX7_looks_95 : decode cX7_looks 95 = .ok (.dup2, 1) := by decide +kernel
theorem dX7_looks_96 : decode cX7_looks 96 = .ok (.laload, 1) := by decide +kernel
theorem dX7_looks_97 : decode cX7_looks 97 = .ok (.lconst 1, 1) := by decide +kernel
theorem dX7_looks_98 : decode cX7_looks 98 = .ok (.ladd, 1) := by decide +kernel
theorem dX7_looks_99 : decode cX7_looks 99 = .ok (.lastore, 1) := by decide +kernel
theorem dX7_looks_100 : decode cX7_looks 100 = .ok (.iload 5, 2) := by decide +kernel
theorem dX7_looks_102 : decode cX7_looks 102 = .ok (.ireturn, 1) := by decide +kernel
theorem dX7_look_0 : decode cX7_look 0 = .ok (.aload_n 0, 1) := by decide +kernel
theorem dX7_look_1 : decode cX7_look 1 = .ok (.iload_n 1, 1) := by decide +kernel
theorem dX7_look_2 : decode cX7_look 2 = .ok (.iload_n 2, 1) := by decide +kernel
theorem dX7_look_3 : decode cX7_look 3 = .ok (.iload_n 3, 1) := by decide +kernel
theorem dX7_look_4 : decode cX7_look 4 = .ok (.iconst 1, 1) := by decide +kernel
theorem dX7_look_5 : decode cX7_look 5 = .ok (.invokevirtual 179, 3) := by decide +kernel
theorem dX7_look_8 : decode cX7_look 8 = .ok (.ireturn, 1) := by decide +kernel
theorem dX7_think_0 : decode cX7_think 0 = .ok (.aload_n 0, 1) := by decide +kernel
theorem dX7_think_1 : decode cX7_think 1 = .ok (.iload_n 1, 1) := by decide +kernel
theorem dX7_think_2 : decode cX7_think 2 = .ok (.iload_n 2, 1) := by decide +kernel
theorem dX7_think_3 : decode cX7_think 3 = .ok (.iload_n 3, 1) := by decide +kernel
theorem dX7_think_4 : decode cX7_think 4 = .ok (.iconst 0, 1) := by decide +kernel
theorem dX7_think_5 : decode cX7_think 5 = .ok (.invokevirtual 179, 3) := by decide +kernel
theorem dX7_think_8 : decode cX7_think 8 = .ok (.ireturn, 1) := by decide +kernel
theorem dX7_dangerAt_0 : decode cX7_dangerAt 0 = .ok (.iconst 0, 1) := by decide +kernel
theorem dX7_dangerAt_1 : decode cX7_dangerAt 1 = .ok (.istore_n 3, 1) := by decide +kernel
theorem dX7_dangerAt_2 : decode cX7_dangerAt 2 = .ok (.iconst 0, 1) := by decide +kernel
theorem dX7_dangerAt_3 : decode cX7_dangerAt 3 = .ok (.istore 4, 2) := by decide +kernel
theorem dX7_dangerAt_5 : decode cX7_dangerAt 5 = .ok (.iload 4, 2) := by decide +kernel
theorem dX7_dangerAt_7 : decode cX7_dangerAt 7 = .ok (.aload_n 0, 1) := by decide +kernel
theorem dX7_dangerAt_8 : decode cX7_dangerAt 8 = .ok (.bipush 10, 2) := by decide +kernel
theorem dX7_dangerAt_10 : decode cX7_dangerAt 10 = .ok (.invokevirtual 71, 3) := by decide +kernel
theorem dX7_dangerAt_13 : decode cX7_dangerAt 13 = .ok (.if_icmp .ge 34, 3) := by decide +kernel
theorem dX7_dangerAt_16 : decode cX7_dangerAt 16 = .ok (.iload_n 3, 1) := by decide +kernel
theorem dX7_dangerAt_17 : decode cX7_dangerAt 17 = .ok (.aload_n 0, 1) := by decide +kernel
theorem dX7_dangerAt_18 : decode cX7_dangerAt 18 = .ok (.iload 4, 2) := by decide +kernel
theorem dX7_dangerAt_20 : decode cX7_dangerAt 20 = .ok (.iconst 1, 1) := by decide +kernel
theorem dX7_dangerAt_21 : decode cX7_dangerAt 21 = .ok (.invokevirtual 147, 3) := by decide +kernel
theorem dX7_dangerAt_24 : decode cX7_dangerAt 24 = .ok (.iload_n 1, 1) := by decide +kernel
theorem dX7_dangerAt_25 : decode cX7_dangerAt 25 = .ok (.if_icmp .ne 13, 3) := by decide +kernel
theorem dX7_dangerAt_28 : decode cX7_dangerAt 28 = .ok (.aload_n 0, 1) := by decide +kernel
theorem dX7_dangerAt_29 : decode cX7_dangerAt 29 = .ok (.iload 4, 2) := by decide +kernel
theorem dX7_dangerAt_31 : decode cX7_dangerAt 31 = .ok (.iload_n 2, 1) := by decide +kernel
theorem dX7_dangerAt_32 : decode cX7_dangerAt 32 = .ok (.invokevirtual 170, 3) := by decide +kernel
theorem dX7_dangerAt_35 : decode cX7_dangerAt 35 = .ok (.goto 4, 3) := by decide +kernel
theorem dX7_dangerAt_38 : decode cX7_dangerAt 38 = .ok (.iconst 0, 1) := by decide +kernel
theorem dX7_dangerAt_39 : decode cX7_dangerAt 39 = .ok (.iadd, 1) := by decide +kernel
theorem dX7_dangerAt_40 : decode cX7_dangerAt 40 = .ok (.istore_n 3, 1) := by decide +kernel
theorem dX7_dangerAt_41 : decode cX7_dangerAt 41 = .ok (.iinc 4 1, 3) := by decide +kernel
theorem dX7_dangerAt_44 : decode cX7_dangerAt 44 = .ok (.goto (-39), 3) := by decide +kernel
theorem dX7_dangerAt_47 : decode cX7_dangerAt 47 = .ok (.iload_n 3, 1) := by decide +kernel
theorem dX7_dangerAt_48 : decode cX7_dangerAt 48 = .ok (.ldc 160, 2) := by decide +kernel
theorem dX7_dangerAt_50 : decode cX7_dangerAt 50 = .ok (.if_icmp .le 8, 3) := by decide +kernel
theorem dX7_dangerAt_53 : decode cX7_dangerAt 53 = .ok (.ldc 160, 2) := by decide +kernel
theorem dX7_dangerAt_55 : decode cX7_dangerAt 55 = .ok (.goto 4, 3) := by decide +kernel
theorem dX7_dangerAt_58 : decode cX7_dangerAt 58 = .ok (.iload_n 3, 1) := by decide +kernel
theorem dX7_dangerAt_59 : decode cX7_dangerAt 59 = .ok (.ireturn, 1) := by decide +kernel
theorem dX7_isDay_0 : decode cX7_isDay 0 = .ok (.iload_n 0, 1) := by decide +kernel
theorem dX7_isDay_1 : decode cX7_isDay 1 = .ok (.i2l, 1) := by decide +kernel
theorem dX7_isDay_2 : decode cX7_isDay 2 = .ok (.lconst 0, 1) := by decide +kernel
theorem dX7_isDay_3 : decode cX7_isDay 3 = .ok (.ldc2_w 77, 3) := by decide +kernel
theorem dX7_isDay_6 : decode cX7_isDay 6 = .ok (.invokestatic 85, 3) := by decide +kernel
theorem dX7_isDay_9 : decode cX7_isDay 9 = .ok (.ireturn, 1) := by decide +kernel
theorem dX7_danger_0 : decode cX7_danger 0 = .ok (.iload_n 1, 1) := by decide +kernel
theorem dX7_danger_1 : decode cX7_danger 1 = .ok (.invokestatic 183, 3) := by decide +kernel
theorem dX7_danger_4 : decode cX7_danger 4 = .ok (.ifCond .eq 19, 3) := by decide +kernel
theorem dX7_danger_7 : decode cX7_danger 7 = .ok (.iload_n 2, 1) := by decide +kernel
theorem dX7_danger_8 : decode cX7_danger 8 = .ok (.invokestatic 167, 3) := by decide +kernel
theorem dX7_danger_11 : decode cX7_danger 11 = .ok (.ifCond .eq 12, 3) := by decide +kernel
theorem dX7_danger_14 : decode cX7_danger 14 = .ok (.aload_n 0, 1) := by decide +kernel
theorem dX7_danger_15 : decode cX7_danger 15 = .ok (.iload_n 1, 1) := by decide +kernel
theorem dX7_danger_16 : decode cX7_danger 16 = .ok (.iload_n 2, 1) := by decide +kernel
theorem dX7_danger_17 : decode cX7_danger 17 = .ok (.invokevirtual 132, 3) := by decide +kernel
theorem dX7_danger_20 : decode cX7_danger 20 = .ok (.goto 8, 3) := by decide +kernel
theorem dX7_danger_23 : decode cX7_danger 23 = .ok (.aload_n 0, 1) := by decide +kernel
theorem dX7_danger_24 : decode cX7_danger 24 = .ok (.iconst 0, 1) := by decide +kernel
theorem dX7_danger_25 : decode cX7_danger 25 = .ok (.invokevirtual 93, 3) := by decide +kernel
theorem dX7_danger_28 : decode cX7_danger 28 = .ok (.ireturn, 1) := by decide +kernel
theorem dX7_safest_0 : decode cX7_safest 0 = .ok (.iload_n 1, 1) := by decide +kernel
theorem dX7_safest_1 : decode cX7_safest 1 = .ok (.invokestatic 183, 3) := by decide +kernel
theorem dX7_safest_4 : decode cX7_safest 4 = .ok (.ifCond .ne 9, 3) := by decide +kernel
theorem dX7_safest_7 : decode cX7_safest 7 = .ok (.aload_n 0, 1) := by decide +kernel
theorem dX7_safest_8 : decode cX7_safest 8 = .ok (.iconst 0, 1) := by decide +kernel
theorem dX7_safest_9 : decode cX7_safest 9 = .ok (.invokevirtual 93, 3) := by decide +kernel
theorem dX7_safest_12 : decode cX7_safest 12 = .ok (.ireturn, 1) := by decide +kernel
theorem dX7_safest_13 : decode cX7_safest 13 = .ok (.bipush (-12), 2) := by decide +kernel
theorem dX7_safest_15 : decode cX7_safest 15 = .ok (.istore_n 2, 1) := by decide +kernel
theorem dX7_safest_16 : decode cX7_safest 16 = .ok (.bipush (-11), 2) := by decide +kernel
theorem dX7_safest_18 : decode cX7_safest 18 = .ok (.istore_n 3, 1) := by decide +kernel
theorem dX7_safest_19 : decode cX7_safest 19 = .ok (.iload_n 3, 1) := by decide +kernel
theorem dX7_safest_20 : decode cX7_safest 20 = .ok (.bipush 12, 2) := by decide +kernel
theorem dX7_safest_22 : decode cX7_safest 22 = .ok (.if_icmp .gt 61, 3) := by decide +kernel
theorem dX7_safest_25 : decode cX7_safest 25 = .ok (.aload_n 0, 1) := by decide +kernel
theorem dX7_safest_26 : decode cX7_safest 26 = .ok (.iload_n 1, 1) := by decide +kernel
theorem dX7_safest_27 : decode cX7_safest 27 = .ok (.iload_n 3, 1) := by decide +kernel
theorem dX7_safest_28 : decode cX7_safest 28 = .ok (.invokevirtual 132, 3) := by decide +kernel
theorem dX7_safest_31 : decode cX7_safest 31 = .ok (.aload_n 0, 1) := by decide +kernel
theorem dX7_safest_32 : decode cX7_safest 32 = .ok (.iload_n 1, 1) := by decide +kernel
theorem dX7_safest_33 : decode cX7_safest 33 = .ok (.iload_n 2, 1) := by decide +kernel
theorem dX7_safest_34 : decode cX7_safest 34 = .ok (.invokevirtual 132, 3) := by decide +kernel
theorem dX7_safest_37 : decode cX7_safest 37 = .ok (.isub, 1) := by decide +kernel
theorem dX7_safest_38 : decode cX7_safest 38 = .ok (.istore 4, 2) := by decide +kernel
theorem dX7_safest_40 : decode cX7_safest 40 = .ok (.iload 4, 2) := by decide +kernel
theorem dX7_safest_42 : decode cX7_safest 42 = .ok (.ifCond .lt 29, 3) := by decide +kernel
theorem dX7_safest_45 : decode cX7_safest 45 = .ok (.iload 4, 2) := by decide +kernel
theorem dX7_safest_47 : decode cX7_safest 47 = .ok (.ifCond .ne 28, 3) := by decide +kernel
theorem dX7_safest_50 : decode cX7_safest 50 = .ok (.iload_n 3, 1) := by decide +kernel
theorem dX7_safest_51 : decode cX7_safest 51 = .ok (.aload_n 0, 1) := by decide +kernel
theorem dX7_safest_52 : decode cX7_safest 52 = .ok (.invokevirtual 111, 3) := by decide +kernel
theorem dX7_safest_55 : decode cX7_safest 55 = .ok (.isub, 1) := by decide +kernel
theorem dX7_safest_56 : decode cX7_safest 56 = .ok (.invokestatic 100, 3) := by decide +kernel
theorem dX7_safest_59 : decode cX7_safest 59 = .ok (.iload_n 2, 1) := by decide +kernel
theorem dX7_safest_60 : decode cX7_safest 60 = .ok (.aload_n 0, 1) := by decide +kernel
theorem dX7_safest_61 : decode cX7_safest 61 = .ok (.invokevirtual 111, 3) := by decide +kernel
theorem dX7_safest_64 : decode cX7_safest 64 = .ok (.isub, 1) := by decide +kernel
theorem dX7_safest_65 : decode cX7_safest 65 = .ok (.invokestatic 100, 3) := by decide +kernel
theorem dX7_safest_68 : decode cX7_safest 68 = .ok (.if_icmp .ge 7, 3) := by decide +kernel
theorem dX7_safest_71 : decode cX7_safest 71 = .ok (.iload_n 3, 1) := by decide +kernel
theorem dX7_safest_72 : decode cX7_safest 72 = .ok (.goto 4, 3) := by decide +kernel
theorem dX7_safest_75 : decode cX7_safest 75 = .ok (.iload_n 2, 1) := by decide +kernel
theorem dX7_safest_76 : decode cX7_safest 76 = .ok (.istore_n 2, 1) := by decide +kernel
theorem dX7_safest_77 : decode cX7_safest 77 = .ok (.iinc 3 1, 3) := by decide +kernel
theorem dX7_safest_80 : decode cX7_safest 80 = .ok (.goto (-61), 3) := by decide +kernel
theorem dX7_safest_83 : decode cX7_safest 83 = .ok (.iload_n 2, 1) := by decide +kernel
theorem dX7_safest_84 : decode cX7_safest 84 = .ok (.ireturn, 1) := by decide +kernel
theorem dX7_open_0 : decode cX7_open 0 = .ok (.iconst 0, 1) := by decide +kernel
theorem dX7_open_1 : decode cX7_open 1 = .ok (.istore_n 1, 1) := by decide +kernel
theorem dX7_open_2 : decode cX7_open 2 = .ok (.iconst 0, 1) := by decide +kernel
theorem dX7_open_3 : decode cX7_open 3 = .ok (.istore_n 2, 1) := by decide +kernel
theorem dX7_open_4 : decode cX7_open 4 = .ok (.iload_n 2, 1) := by decide +kernel
theorem dX7_open_5 : decode cX7_open 5 = .ok (.aload_n 0, 1) := by decide +kernel
theorem dX7_open_6 : decode cX7_open 6 = .ok (.bipush 10, 2) := by decide +kernel
theorem dX7_open_8 : decode cX7_open 8 = .ok (.invokevirtual 71, 3) := by decide +kernel
theorem dX7_open_11 : decode cX7_open 11 = .ok (.if_icmp .ge 31, 3) := by decide +kernel
theorem dX7_open_14 : decode cX7_open 14 = .ok (.iload_n 1, 1) := by decide +kernel
theorem dX7_open_15 : decode cX7_open 15 = .ok (.aload_n 0, 1) := by decide +kernel
theorem dX7_open_16 : decode cX7_open 16 = .ok (.iload_n 2, 1) := by decide +kernel
theorem dX7_open_17 : decode cX7_open 17 = .ok (.aload_n 0, 1) := by decide +kernel
theorem dX7_open_18 : decode cX7_open 18 = .ok (.invokevirtual 129, 3) := by decide +kernel
theorem dX7_open_21 : decode cX7_open 21 = .ok (.invokevirtual 156, 3) := by decide +kernel
theorem dX7_open_24 : decode cX7_open 24 = .ok (.ifCond .eq 9, 3) := by decide +kernel
theorem dX7_open_27 : decode cX7_open 27 = .ok (.iconst 1, 1) := by decide +kernel
theorem dX7_open_28 : decode cX7_open 28 = .ok (.iload_n 2, 1) := by decide +kernel
theorem dX7_open_29 : decode cX7_open 29 = .ok (.ishl, 1) := by decide +kernel
theorem dX7_open_30 : decode cX7_open 30 = .ok (.goto 4, 3) := by decide +kernel
theorem dX7_open_33 : decode cX7_open 33 = .ok (.iconst 0, 1) := by decide +kernel
theorem dX7_open_34 : decode cX7_open 34 = .ok (.ior, 1) := by decide +kernel
theorem dX7_open_35 : decode cX7_open 35 = .ok (.istore_n 1, 1) := by decide +kernel
theorem dX7_open_36 : decode cX7_open 36 = .ok (.iinc 2 1, 3) := by decide +kernel
theorem dX7_open_39 : decode cX7_open 39 = .ok (.goto (-35), 3) := by decide +kernel
theorem dX7_open_42 : decode cX7_open 42 = .ok (.iload_n 1, 1) := by decide +kernel
theorem dX7_open_43 : decode cX7_open 43 = .ok (.ireturn, 1) := by decide +kernel
theorem dX7_feed_0 : decode cX7_feed 0 = .ok (.iload_n 2, 1) := by decide +kernel
theorem dX7_feed_1 : decode cX7_feed 1 = .ok (.i2l, 1) := by decide +kernel
theorem dX7_feed_2 : decode cX7_feed 2 = .ok (.lconst 1, 1) := by decide +kernel
theorem dX7_feed_3 : decode cX7_feed 3 = .ok (.ldc2_w 186, 3) := by decide +kernel
theorem dX7_feed_6 : decode cX7_feed 6 = .ok (.invokestatic 85, 3) := by decide +kernel
theorem dX7_feed_9 : decode cX7_feed 9 = .ok (.ifCond .ne 9, 3) := by decide +kernel
theorem dX7_feed_12 : decode cX7_feed 12 = .ok (.aload_n 0, 1) := by decide +kernel
theorem dX7_feed_13 : decode cX7_feed 13 = .ok (.iconst 0, 1) := by decide +kernel
theorem dX7_feed_14 : decode cX7_feed 14 = .ok (.invokevirtual 93, 3) := by decide +kernel
theorem dX7_feed_17 : decode cX7_feed 17 = .ok (.ireturn, 1) := by decide +kernel
theorem dX7_feed_18 : decode cX7_feed 18 = .ok (.aload_n 0, 1) := by decide +kernel
theorem dX7_feed_19 : decode cX7_feed 19 = .ok (.getfield 188, 3) := by decide +kernel
theorem dX7_feed_22 : decode cX7_feed 22 = .ok (.iload_n 2, 1) := by decide +kernel
theorem dX7_feed_23 : decode cX7_feed 23 = .ok (.iadd, 1) := by decide +kernel
theorem dX7_feed_24 : decode cX7_feed 24 = .ok (.bipush 60, 2) := by decide +kernel
theorem dX7_feed_26 : decode cX7_feed 26 = .ok (.if_icmp .le 9, 3) := by decide +kernel
theorem dX7_feed_29 : decode cX7_feed 29 = .ok (.aload_n 0, 1) := by decide +kernel
theorem dX7_feed_30 : decode cX7_feed 30 = .ok (.iconst 1, 1) := by decide +kernel
theorem dX7_feed_31 : decode cX7_feed 31 = .ok (.invokevirtual 93, 3) := by decide +kernel
theorem dX7_feed_34 : decode cX7_feed 34 = .ok (.ireturn, 1) := by decide +kernel
theorem dX7_feed_35 : decode cX7_feed 35 = .ok (.iload_n 2, 1) := by decide +kernel
theorem dX7_feed_36 : decode cX7_feed 36 = .ok (.iconst 1, 1) := by decide +kernel
theorem dX7_feed_37 : decode cX7_feed 37 = .ok (.isub, 1) := by decide +kernel
theorem dX7_feed_38 : decode cX7_feed 38 = .ok (.istore_n 3, 1) := by decide +kernel
theorem dX7_feed_39 : decode cX7_feed 39 = .ok (.iload_n 3, 1) := by decide +kernel
theorem dX7_feed_40 : decode cX7_feed 40 = .ok (.ifCond .lt 38, 3) := by decide +kernel
theorem dX7_feed_43 : decode cX7_feed 43 = .ok (.aload_n 0, 1) := by decide +kernel
theorem dX7_feed_44 : decode cX7_feed 44 = .ok (.getfield 20, 3) := by decide +kernel
theorem dX7_feed_47 : decode cX7_feed 47 = .ok (.aload_n 0, 1) := by decide +kernel
theorem dX7_feed_48 : decode cX7_feed 48 = .ok (.getfield 188, 3) := by decide +kernel
theorem dX7_feed_51 : decode cX7_feed 51 = .ok (.iload_n 1, 1) := by decide +kernel
theorem dX7_feed_52 : decode cX7_feed 52 = .ok (.bipush 8, 2) := by decide +kernel
theorem dX7_feed_54 : decode cX7_feed 54 = .ok (.iload_n 3, 1) := by decide +kernel
theorem dX7_feed_55 : decode cX7_feed 55 = .ok (.imul, 1) := by decide +kernel
theorem dX7_feed_56 : decode cX7_feed 56 = .ok (.ishr, 1) := by decide +kernel
theorem dX7_feed_57 : decode cX7_feed 57 = .ok (.sipush 255, 3) := by decide +kernel
theorem dX7_feed_60 : decode cX7_feed 60 = .ok (.iand, 1) := by decide +kernel
theorem dX7_feed_61 : decode cX7_feed 61 = .ok (.iastore, 1) := by decide +kernel
theorem dX7_feed_62 : decode cX7_feed 62 = .ok (.aload_n 0, 1) := by decide +kernel
theorem dX7_feed_63 : decode cX7_feed 63 = .ok (.dup, 1) := by decide +kernel
theorem dX7_feed_64 : decode cX7_feed 64 = .ok (.getfield 188, 3) := by decide +kernel
theorem dX7_feed_67 : decode cX7_feed 67 = .ok (.iconst 1, 1) := by decide +kernel
theorem dX7_feed_68 : decode cX7_feed 68 = .ok (.iadd, 1) := by decide +kernel
theorem dX7_feed_69 : decode cX7_feed 69 = .ok (.putfield 188, 3) := by decide +kernel
theorem dX7_feed_72 : decode cX7_feed 72 = .ok (.iinc 3 (-1), 3) := by decide +kernel
theorem dX7_feed_75 : decode cX7_feed 75 = .ok (.goto (-36), 3) := by decide +kernel
theorem dX7_feed_78 : decode cX7_feed 78 = .ok (.aload_n 0, 1) := by decide +kernel
theorem dX7_feed_79 : decode cX7_feed 79 = .ok (.getfield 188, 3) := by decide +kernel
theorem dX7_feed_82 : decode cX7_feed 82 = .ok (.ireturn, 1) := by decide +kernel
theorem dX7_wipe_0 : decode cX7_wipe 0 = .ok (.aload_n 0, 1) := by decide +kernel
theorem dX7_wipe_1 : decode cX7_wipe 1 = .ok (.getfield 188, 3) := by decide +kernel
theorem dX7_wipe_4 : decode cX7_wipe 4 = .ok (.istore_n 1, 1) := by decide +kernel
theorem dX7_wipe_5 : decode cX7_wipe 5 = .ok (.aload_n 0, 1) := by decide +kernel
theorem dX7_wipe_6 : decode cX7_wipe 6 = .ok (.iconst 0, 1) := by decide +kernel
theorem dX7_wipe_7 : decode cX7_wipe 7 = .ok (.putfield 188, 3) := by decide +kernel
theorem dX7_wipe_10 : decode cX7_wipe 10 = .ok (.iload_n 1, 1) := by decide +kernel
theorem dX7_wipe_11 : decode cX7_wipe 11 = .ok (.ireturn, 1) := by decide +kernel
theorem dX7_here_0 : decode cX7_here 0 = .ok (.aload_n 0, 1) := by decide +kernel
theorem dX7_here_1 : decode cX7_here 1 = .ok (.getfield 192, 3) := by decide +kernel
theorem dX7_here_4 : decode cX7_here 4 = .ok (.aload_n 0, 1) := by decide +kernel
theorem dX7_here_5 : decode cX7_here 5 = .ok (.getfield 188, 3) := by decide +kernel
theorem dX7_here_8 : decode cX7_here 8 = .ok (.if_icmp .ge 15, 3) := by decide +kernel
theorem dX7_here_11 : decode cX7_here 11 = .ok (.aload_n 0, 1) := by decide +kernel
theorem dX7_here_12 : decode cX7_here 12 = .ok (.getfield 20, 3) := by decide +kernel
theorem dX7_here_15 : decode cX7_here 15 = .ok (.aload_n 0, 1) := by decide +kernel
theorem dX7_here_16 : decode cX7_here 16 = .ok (.getfield 192, 3) := by decide +kernel
theorem dX7_here_19 : decode cX7_here 19 = .ok (.iaload, 1) := by decide +kernel
theorem dX7_here_20 : decode cX7_here 20 = .ok (.goto 4, 3) := by decide +kernel
theorem dX7_here_23 : decode cX7_here 23 = .ok (.iconst (-1), 1) := by decide +kernel
theorem dX7_here_24 : decode cX7_here 24 = .ok (.ireturn, 1) := by decide +kernel
theorem dX7_takes_0 : decode cX7_takes 0 = .ok (.aload_n 0, 1) := by decide +kernel
theorem dX7_takes_1 : decode cX7_takes 1 = .ok (.invokevirtual 195, 3) := by decide +kernel
theorem dX7_takes_4 : decode cX7_takes 4 = .ok (.iload_n 1, 1) := by decide +kernel
theorem dX7_takes_5 : decode cX7_takes 5 = .ok (.if_icmp .eq 5, 3) := by decide +kernel
theorem dX7_takes_8 : decode cX7_takes 8 = .ok (.iconst 0, 1) := by decide +kernel
theorem dX7_takes_9 : decode cX7_takes 9 = .ok (.ireturn, 1) := by decide +kernel
theorem dX7_takes_10 : decode cX7_takes 10 = .ok (.aload_n 0, 1) := by decide +kernel
theorem dX7_takes_11 : decode cX7_takes 11 = .ok (.dup, 1) := by decide +kernel
theorem dX7_takes_12 : decode cX7_takes 12 = .ok (.getfield 192, 3) := by decide +kernel
theorem dX7_takes_15 : decode cX7_takes 15 = .ok (.iconst 1, 1) := by decide +kernel
theorem dX7_takes_16 : decode cX7_takes 16 = .ok (.iadd, 1) := by decide +kernel
theorem dX7_takes_17 : decode cX7_takes 17 = .ok (.putfield 192, 3) := by decide +kernel
theorem dX7_takes_20 : decode cX7_takes 20 = .ok (.iconst 1, 1) := by decide +kernel
theorem dX7_takes_21 : decode cX7_takes 21 = .ok (.ireturn, 1) := by decide +kernel
theorem dX7_lays_0 : decode cX7_lays 0 = .ok (.aload_n 0, 1) := by decide +kernel
theorem dX7_lays_1 : decode cX7_lays 1 = .ok (.getfield 23, 3) := by decide +kernel
theorem dX7_lays_4 : decode cX7_lays 4 = .ok (.iconst 2, 1) := by decide +kernel
theorem dX7_lays_5 : decode cX7_lays 5 = .ok (.aload_n 0, 1) := by decide +kernel
theorem dX7_lays_6 : decode cX7_lays 6 = .ok (.getfield 198, 3) := by decide +kernel
theorem dX7_lays_9 : decode cX7_lays 9 = .ok (.imul, 1) := by decide +kernel
theorem dX7_lays_10 : decode cX7_lays 10 = .ok (.iload_n 1, 1) := by decide +kernel
theorem dX7_lays_11 : decode cX7_lays 11 = .ok (.iastore, 1) := by decide +kernel
theorem dX7_lays_12 : decode cX7_lays 12 = .ok (.aload_n 0, 1) := by decide +kernel
theorem dX7_lays_13 : decode cX7_lays 13 = .ok (.getfield 23, 3) := by decide +kernel
theorem dX7_lays_16 : decode cX7_lays 16 = .ok (.iconst 2, 1) := by decide +kernel
theorem dX7_lays_17 : decode cX7_lays 17 = .ok (.aload_n 0, 1) := by decide +kernel
theorem dX7_lays_18 : decode cX7_lays 18 = .ok (.getfield 198, 3) := by decide +kernel
theorem dX7_lays_21 : decode cX7_lays 21 = .ok (.imul, 1) := by decide +kernel
theorem dX7_lays_22 : decode cX7_lays 22 = .ok (.iconst 1, 1) := by decide +kernel
theorem dX7_lays_23 : decode cX7_lays 23 = .ok (.iadd, 1) := by decide +kernel
theorem dX7_lays_24 : decode cX7_lays 24 = .ok (.iload_n 2, 1) := by decide +kernel
theorem dX7_lays_25 : decode cX7_lays 25 = .ok (.iastore, 1) := by decide +kernel
theorem dX7_lays_26 : decode cX7_lays 26 = .ok (.aload_n 0, 1) := by decide +kernel
theorem dX7_lays_27 : decode cX7_lays 27 = .ok (.dup, 1) := by decide +kernel
theorem dX7_lays_28 : decode cX7_lays 28 = .ok (.getfield 198, 3) := by decide +kernel
theorem dX7_lays_31 : decode cX7_lays 31 = .ok (.iconst 1, 1) := by decide +kernel
theorem dX7_lays_32 : decode cX7_lays 32 = .ok (.iadd, 1) := by decide +kernel
theorem dX7_lays_33 : decode cX7_lays 33 = .ok (.putfield 198, 3) := by decide +kernel
theorem dX7_lays_36 : decode cX7_lays 36 = .ok (.return_, 1) := by decide +kernel
theorem dX7_whole_0 : decode cX7_whole 0 = .ok (.iconst 0, 1) := by decide +kernel
theorem dX7_whole_1 : decode cX7_whole 1 = .ok (.istore_n 1, 1) := by decide +kernel
theorem dX7_whole_2 : decode cX7_whole 2 = .ok (.iconst 1, 1) := by decide +kernel
theorem dX7_whole_3 : decode cX7_whole 3 = .ok (.istore_n 2, 1) := by decide +kernel
theorem dX7_whole_4 : decode cX7_whole 4 = .ok (.iload_n 2, 1) := by decide +kernel
theorem dX7_whole_5 : decode cX7_whole 5 = .ok (.ifCond .eq 61, 3) := by decide +kernel
theorem dX7_whole_8 : decode cX7_whole 8 = .ok (.aload_n 0, 1) := by decide +kernel
theorem dX7_whole_9 : decode cX7_whole 9 = .ok (.invokevirtual 201, 3) := by decide +kernel
theorem dX7_whole_12 : decode cX7_whole 12 = .ok (.ifCond .ne 5, 3) := by decide +kernel
theorem dX7_whole_15 : decode cX7_whole 15 = .ok (.iconst 0, 1) := by decide +kernel
theorem dX7_whole_16 : decode cX7_whole 16 = .ok (.ireturn, 1) := by decide +kernel
theorem dX7_whole_17 : decode cX7_whole 17 = .ok (.aload_n 0, 1) := by decide +kernel
theorem dX7_whole_18 : decode cX7_whole 18 = .ok (.invokevirtual 205, 3) := by decide +kernel
theorem dX7_whole_21 : decode cX7_whole 21 = .ok (.istore_n 2, 1) := by decide +kernel
theorem dX7_whole_22 : decode cX7_whole 22 = .ok (.iload_n 2, 1) := by decide +kernel
theorem dX7_whole_23 : decode cX7_whole 23 = .ok (.ifCond .eq (-19), 3) := by decide +kernel
theorem dX7_whole_26 : decode cX7_whole 26 = .ok (.aload_n 0, 1) := by decide +kernel
theorem dX7_whole_27 : decode cX7_whole 27 = .ok (.invokevirtual 208, 3) := by decide +kernel
theorem dX7_whole_30 : decode cX7_whole 30 = .ok (.ifCond .eq 28, 3) := by decide +kernel
theorem dX7_whole_33 : decode cX7_whole 33 = .ok (.aload_n 0, 1) := by decide +kernel
theorem dX7_whole_34 : decode cX7_whole 34 = .ok (.bipush 63, 2) := by decide +kernel
theorem dX7_whole_36 : decode cX7_whole 36 = .ok (.invokevirtual 211, 3) := by decide +kernel
theorem dX7_whole_39 : decode cX7_whole 39 = .ok (.ifCond .eq 19, 3) := by decide +kernel
theorem dX7_whole_42 : decode cX7_whole 42 = .ok (.aload_n 0, 1) := by decide +kernel
theorem dX7_whole_43 : decode cX7_whole 43 = .ok (.invokevirtual 201, 3) := by decide +kernel
theorem dX7_whole_46 : decode cX7_whole 46 = .ok (.ifCond .eq 12, 3) := by decide +kernel
theorem dX7_whole_49 : decode cX7_whole 49 = .ok (.aload_n 0, 1) := by decide +kernel
theorem dX7_whole_50 : decode cX7_whole 50 = .ok (.bipush 58, 2) := by decide +kernel
theorem dX7_whole_52 : decode cX7_whole 52 = .ok (.invokevirtual 211, 3) := by decide +kernel
theorem dX7_whole_55 : decode cX7_whole 55 = .ok (.ifCond .ne 5, 3) := by decide +kernel
theorem dX7_whole_58 : decode cX7_whole 58 = .ok (.iconst 0, 1) := by decide +kernel
theorem dX7_whole_59 : decode cX7_whole 59 = .ok (.ireturn, 1) := by decide +kernel
theorem dX7_whole_60 : decode cX7_whole 60 = .ok (.iinc 1 1, 3) := by decide +kernel
theorem dX7_whole_63 : decode cX7_whole 63 = .ok (.goto (-59), 3) := by decide +kernel
theorem dX7_whole_66 : decode cX7_whole 66 = .ok (.iconst 0, 1) := by decide +kernel
theorem dX7_whole_67 : decode cX7_whole 67 = .ok (.istore_n 3, 1) := by decide +kernel
theorem dX7_whole_68 : decode cX7_whole 68 = .ok (.iload_n 3, 1) := by decide +kernel
theorem dX7_whole_69 : decode cX7_whole 69 = .ok (.iload_n 1, 1) := by decide +kernel
theorem dX7_whole_70 : decode cX7_whole 70 = .ok (.if_icmp .ge 15, 3) := by decide +kernel
theorem dX7_whole_73 : decode cX7_whole 73 = .ok (.aload_n 0, 1) := by decide +kernel
theorem dX7_whole_74 : decode cX7_whole 74 = .ok (.iconst 4, 1) := by decide +kernel
theorem dX7_whole_75 : decode cX7_whole 75 = .ok (.iconst 0, 1) := by decide +kernel
theorem dX7_whole_76 : decode cX7_whole 76 = .ok (.invokevirtual 213, 3) := by decide +kernel
theorem dX7_whole_79 : decode cX7_whole 79 = .ok (.iinc 3 1, 3) := by decide +kernel
theorem dX7_whole_82 : decode cX7_whole 82 = .ok (.goto (-14), 3) := by decide +kernel
theorem dX7_whole_85 : decode cX7_whole 85 = .ok (.iconst 1, 1) := by decide +kernel
theorem dX7_whole_86 : decode cX7_whole 86 = .ok (.ireturn, 1) := by decide +kernel
theorem dX7_isCompare_0 : decode cX7_isCompare 0 = .ok (.aload_n 0, 1) := by decide +kernel
theorem dX7_isCompare_1 : decode cX7_isCompare 1 = .ok (.invokevirtual 195, 3) := by decide +kernel
theorem dX7_isCompare_4 : decode cX7_isCompare 4 = .ok (.bipush 60, 2) := by decide +kernel
theorem dX7_isCompare_6 : decode cX7_isCompare 6 = .ok (.if_icmp .eq 21, 3) := by decide +kernel
theorem dX7_isCompare_9 : decode cX7_isCompare 9 = .ok (.aload_n 0, 1) := by decide +kernel
theorem dX7_isCompare_10 : decode cX7_isCompare 10 = .ok (.invokevirtual 195, 3) := by decide +kernel
theorem dX7_isCompare_13 : decode cX7_isCompare 13 = .ok (.bipush 61, 2) := by decide +kernel
theorem dX7_isCompare_15 : decode cX7_isCompare 15 = .ok (.if_icmp .eq 12, 3) := by decide +kernel
theorem dX7_isCompare_18 : decode cX7_isCompare 18 = .ok (.aload_n 0, 1) := by decide +kernel
theorem dX7_isCompare_19 : decode cX7_isCompare 19 = .ok (.invokevirtual 195, 3) := by decide +kernel
theorem dX7_isCompare_22 : decode cX7_isCompare 22 = .ok (.bipush 62, 2) := by decide +kernel
theorem dX7_isCompare_24 : decode cX7_isCompare 24 = .ok (.if_icmp .ne 7, 3) := by decide +kernel
theorem dX7_isCompare_27 : decode cX7_isCompare 27 = .ok (.iconst 1, 1) := by decide +kernel
theorem dX7_isCompare_28 : decode cX7_isCompare 28 = .ok (.goto 4, 3) := by decide +kernel
theorem dX7_isCompare_31 : decode cX7_isCompare 31 = .ok (.iconst 0, 1) := by decide +kernel
theorem dX7_isCompare_32 : decode cX7_isCompare 32 = .ok (.ireturn, 1) := by decide +kernel
theorem dX7_condition_0 : decode cX7_condition 0 = .ok (.aload_n 0, 1) := by decide +kernel
theorem dX7_condition_1 : decode cX7_condition 1 = .ok (.invokevirtual 217, 3) := by decide +kernel
theorem dX7_condition_4 : decode cX7_condition 4 = .ok (.ifCond .ne 5, 3) := by decide +kernel
theorem dX7_condition_7 : decode cX7_condition 7 = .ok (.iconst 0, 1) := by decide +kernel
theorem dX7_condition_8 : decode cX7_condition 8 = .ok (.ireturn, 1) := by decide +kernel
theorem dX7_condition_9 : decode cX7_condition 9 = .ok (.aload_n 0, 1) := by decide +kernel
theorem dX7_condition_10 : decode cX7_condition 10 = .ok (.bipush 38, 2) := by decide +kernel
theorem dX7_condition_12 : decode cX7_condition 12 = .ok (.invokevirtual 211, 3) := by decide +kernel
theorem dX7_condition_15 : decode cX7_condition 15 = .ok (.ifCond .eq 29, 3) := by decide +kernel
theorem dX7_condition_18 : decode cX7_condition 18 = .ok (.aload_n 0, 1) := by decide +kernel
theorem dX7_condition_19 : decode cX7_condition 19 = .ok (.invokevirtual 201, 3) := by decide +kernel
theorem dX7_condition_22 : decode cX7_condition 22 = .ok (.ifCond .eq 10, 3) := by decide +kernel
theorem dX7_condition_25 : decode cX7_condition 25 = .ok (.aload_n 0, 1) := by decide +kernel
theorem dX7_condition_26 : decode cX7_condition 26 = .ok (.invokevirtual 217, 3) := by decide +kernel
theorem dX7_condition_29 : decode cX7_condition 29 = .ok (.ifCond .ne 5, 3) := by decide +kernel
theorem dX7_condition_32 : decode cX7_condition 32 = .ok (.iconst 0, 1) := by decide +kernel
theorem dX7_condition_33 : decode cX7_condition 33 = .ok (.ireturn, 1) := by decide +kernel
theorem dX7_condition_34 : decode cX7_condition 34 = .ok (.aload_n 0, 1) := by decide +kernel
theorem dX7_condition_35 : decode cX7_condition 35 = .ok (.iconst 3, 1) := by decide +kernel
theorem dX7_condition_36 : decode cX7_condition 36 = .ok (.bipush 38, 2) := by decide +kernel
theorem dX7_condition_38 : decode cX7_condition 38 = .ok (.invokevirtual 213, 3) := by decide +kernel
theorem dX7_condition_41 : decode cX7_condition 41 = .ok (.goto (-32), 3) := by decide +kernel
theorem dX7_condition_44 : decode cX7_condition 44 = .ok (.iconst 1, 1) := by decide +kernel
theorem dX7_condition_45 : decode cX7_condition 45 = .ok (.ireturn, 1) := by decide +kernel
theorem dX7_compared_0 : decode cX7_compared 0 = .ok (.aload_n 0, 1) := by decide +kernel
theorem dX7_compared_1 : decode cX7_compared 1 = .ok (.invokevirtual 195, 3) := by decide +kernel
theorem dX7_compared_4 : decode cX7_compared 4 = .ok (.istore_n 1, 1) := by decide +kernel
theorem dX7_compared_5 : decode cX7_compared 5 = .ok (.aload_n 0, 1) := by decide +kernel
theorem dX7_compared_6 : decode cX7_compared 6 = .ok (.invokevirtual 205, 3) := by decide +kernel
theorem dX7_compared_9 : decode cX7_compared 9 = .ok (.ifCond .ne 5, 3) := by decide +kernel
theorem dX7_compared_12 : decode cX7_compared 12 = .ok (.iconst 0, 1) := by decide +kernel
theorem dX7_compared_13 : decode cX7_compared 13 = .ok (.ireturn, 1) := by decide +kernel
theorem dX7_compared_14 : decode cX7_compared 14 = .ok (.aload_n 0, 1) := by decide +kernel
theorem dX7_compared_15 : decode cX7_compared 15 = .ok (.dup, 1) := by decide +kernel
theorem dX7_compared_16 : decode cX7_compared 16 = .ok (.getfield 192, 3) := by decide +kernel
theorem dX7_compared_19 : decode cX7_compared 19 = .ok (.iconst 1, 1) := by decide +kernel
theorem dX7_compared_20 : decode cX7_compared 20 = .ok (.iadd, 1) := by decide +kernel
theorem dX7_compared_21 : decode cX7_compared 21 = .ok (.putfield 192, 3) := by decide +kernel
theorem dX7_compared_24 : decode cX7_compared 24 = .ok (.aload_n 0, 1) := by decide +kernel
theorem dX7_compared_25 : decode cX7_compared 25 = .ok (.invokevirtual 201, 3) := by decide +kernel
theorem dX7_compared_28 : decode cX7_compared 28 = .ok (.ifCond .ne 5, 3) := by decide +kernel
theorem dX7_compared_31 : decode cX7_compared 31 = .ok (.iconst 0, 1) := by decide +kernel
theorem dX7_compared_32 : decode cX7_compared 32 = .ok (.ireturn, 1) := by decide +kernel
theorem dX7_compared_33 : decode cX7_compared 33 = .ok (.aload_n 0, 1) := by decide +kernel
theorem dX7_compared_34 : decode cX7_compared 34 = .ok (.iconst 3, 1) := by decide +kernel
theorem dX7_compared_35 : decode cX7_compared 35 = .ok (.iload_n 1, 1) := by decide +kernel
theorem dX7_compared_36 : decode cX7_compared 36 = .ok (.invokevirtual 213, 3) := by decide +kernel
theorem dX7_compared_39 : decode cX7_compared 39 = .ok (.iconst 1, 1) := by decide +kernel
theorem dX7_compared_40 : decode cX7_compared 40 = .ok (.ireturn, 1) := by decide +kernel
theorem dX7_sum_0 : decode cX7_sum 0 = .ok (.aload_n 0, 1) := by decide +kernel
theorem dX7_sum_1 : decode cX7_sum 1 = .ok (.invokevirtual 220, 3) := by decide +kernel
theorem dX7_sum_4 : decode cX7_sum 4 = .ok (.ifCond .ne 5, 3) := by decide +kernel
theorem dX7_sum_7 : decode cX7_sum 7 = .ok (.iconst 0, 1) := by decide +kernel
theorem dX7_sum_8 : decode cX7_sum 8 = .ok (.ireturn, 1) := by decide +kernel
theorem dX7_sum_9 : decode cX7_sum 9 = .ok (.aload_n 0, 1) := by decide +kernel
theorem dX7_sum_10 : decode cX7_sum 10 = .ok (.invokevirtual 195, 3) := by decide +kernel
theorem dX7_sum_13 : decode cX7_sum 13 = .ok (.bipush 43, 2) := by decide +kernel
theorem dX7_sum_15 : decode cX7_sum 15 = .ok (.if_icmp .eq 12, 3) := by decide +kernel
theorem dX7_sum_18 : decode cX7_sum 18 = .ok (.aload_n 0, 1) := by decide +kernel
theorem dX7_sum_19 : decode cX7_sum 19 = .ok (.invokevirtual 195, 3) := by decide +kernel
theorem dX7_sum_22 : decode cX7_sum 22 = .ok (.bipush 45, 2) := by decide +kernel
theorem dX7_sum_24 : decode cX7_sum 24 = .ok (.if_icmp .ne 36, 3) := by decide +kernel
theorem dX7_sum_27 : decode cX7_sum 27 = .ok (.aload_n 0, 1) := by decide +kernel
theorem dX7_sum_28 : decode cX7_sum 28 = .ok (.invokevirtual 195, 3) := by decide +kernel
theorem dX7_sum_31 : decode cX7_sum 31 = .ok (.istore_n 1, 1) := by decide +kernel
theorem dX7_sum_32 : decode cX7_sum 32 = .ok (.aload_n 0, 1) := by decide +kernel
theorem dX7_sum_33 : decode cX7_sum 33 = .ok (.dup, 1) := by decide +kernel
theorem dX7_sum_34 : decode cX7_sum 34 = .ok (.getfield 192, 3) := by decide +kernel
theorem dX7_sum_37 : decode cX7_sum 37 = .ok (.iconst 1, 1) := by decide +kernel
theorem dX7_sum_38 : decode cX7_sum 38 = .ok (.iadd, 1) := by decide +kernel
theorem dX7_sum_39 : decode cX7_sum 39 = .ok (.putfield 192, 3) := by decide +kernel
theorem dX7_sum_42 : decode cX7_sum 42 = .ok (.aload_n 0, 1) := by decide +kernel
theorem dX7_sum_43 : decode cX7_sum 43 = .ok (.invokevirtual 220, 3) := by decide +kernel
theorem dX7_sum_46 : decode cX7_sum 46 = .ok (.ifCond .ne 5, 3) := by decide +kernel
theorem dX7_sum_49 : decode cX7_sum 49 = .ok (.iconst 0, 1) := by decide +kernel
theorem dX7_sum_50 : decode cX7_sum 50 = .ok (.ireturn, 1) := by decide +kernel
theorem dX7_sum_51 : decode cX7_sum 51 = .ok (.aload_n 0, 1) := by decide +kernel
theorem dX7_sum_52 : decode cX7_sum 52 = .ok (.iconst 3, 1) := by decide +kernel
theorem dX7_sum_53 : decode cX7_sum 53 = .ok (.iload_n 1, 1) := by decide +kernel
theorem dX7_sum_54 : decode cX7_sum 54 = .ok (.invokevirtual 213, 3) := by decide +kernel
theorem dX7_sum_57 : decode cX7_sum 57 = .ok (.goto (-48), 3) := by decide +kernel
theorem dX7_sum_60 : decode cX7_sum 60 = .ok (.iconst 1, 1) := by decide +kernel
theorem dX7_sum_61 : decode cX7_sum 61 = .ok (.ireturn, 1) := by decide +kernel
theorem dX7_isName_0 : decode cX7_isName 0 = .ok (.iload_n 0, 1) := by decide +kernel
theorem dX7_isName_1 : decode cX7_isName 1 = .ok (.bipush 99, 2) := by decide +kernel
theorem dX7_isName_3 : decode cX7_isName 3 = .ok (.if_icmp .eq 33, 3) := by decide +kernel
theorem dX7_isName_6 : decode cX7_isName 6 = .ok (.iload_n 0, 1) := by decide +kernel
theorem dX7_isName_7 : decode cX7_isName 7 = .ok (.bipush 100, 2) := by decide +kernel
theorem dX7_isName_9 : decode cX7_isName 9 = .ok (.if_icmp .eq 27, 3) := by decide +kernel
theorem dX7_isName_12 : decode cX7_isName 12 = .ok (.iload_n 0, 1) := by decide +kernel
theorem dX7_isName_13 : decode cX7_isName 13 = .ok (.bipush 102, 2) := by decide +kernel
theorem dX7_isName_15 : decode cX7_isName 15 = .ok (.if_icmp .eq 21, 3) := by decide +kernel
theorem dX7_isName_18 : decode cX7_isName 18 = .ok (.iload_n 0, 1) := by decide +kernel
theorem dX7_isName_19 : decode cX7_isName 19 = .ok (.bipush 104, 2) := by decide +kernel
theorem dX7_isName_21 : decode cX7_isName 21 = .ok (.if_icmp .eq 15, 3) := by decide +kernel
theorem dX7_isName_24 : decode cX7_isName 24 = .ok (.iload_n 0, 1) := by decide +kernel
theorem dX7_isName_25 : decode cX7_isName 25 = .ok (.bipush 110, 2) := by decide +kernel
theorem dX7_isName_27 : decode cX7_isName 27 = .ok (.if_icmp .eq 9, 3) := by decide +kernel
theorem dX7_isName_30 : decode cX7_isName 30 = .ok (.iload_n 0, 1) := by decide +kernel
theorem dX7_isName_31 : decode cX7_isName 31 = .ok (.bipush 116, 2) := by decide +kernel
theorem dX7_isName_33 : decode cX7_isName 33 = .ok (.if_icmp .ne 7, 3) := by decide +kernel
theorem dX7_isName_36 : decode cX7_isName 36 = .ok (.iconst 1, 1) := by decide +kernel
theorem dX7_isName_37 : decode cX7_isName 37 = .ok (.goto 4, 3) := by decide +kernel
theorem dX7_isName_40 : decode cX7_isName 40 = .ok (.iconst 0, 1) := by decide +kernel
theorem dX7_isName_41 : decode cX7_isName 41 = .ok (.ireturn, 1) := by decide +kernel
theorem dX7_opens_0 : decode cX7_opens 0 = .ok (.aload_n 0, 1) := by decide +kernel
theorem dX7_opens_1 : decode cX7_opens 1 = .ok (.getfield 223, 3) := by decide +kernel
theorem dX7_opens_4 : decode cX7_opens 4 = .ok (.iconst 5, 1) := by decide +kernel
theorem dX7_opens_5 : decode cX7_opens 5 = .ok (.if_icmp .ne 5, 3) := by decide +kernel
theorem dX7_opens_8 : decode cX7_opens 8 = .ok (.iconst 0, 1) := by decide +kernel
theorem dX7_opens_9 : decode cX7_opens 9 = .ok (.ireturn, 1) := by decide +kernel
theorem dX7_opens_10 : decode cX7_opens 10 = .ok (.aload_n 0, 1) := by decide +kernel
theorem dX7_opens_11 : decode cX7_opens 11 = .ok (.dup, 1) := by decide +kernel
theorem dX7_opens_12 : decode cX7_opens 12 = .ok (.getfield 223, 3) := by decide +kernel
theorem dX7_opens_15 : decode cX7_opens 15 = .ok (.iconst 1, 1) := by decide +kernel
theorem dX7_opens_16 : decode cX7_opens 16 = .ok (.iadd, 1) := by decide +kernel
theorem dX7_opens_17 : decode cX7_opens 17 = .ok (.putfield 223, 3) := by decide +kernel
theorem dX7_opens_20 : decode cX7_opens 20 = .ok (.aload_n 0, 1) := by decide +kernel
theorem dX7_opens_21 : decode cX7_opens 21 = .ok (.dup, 1) := by decide +kernel
theorem dX7_opens_22 : decode cX7_opens 22 = .ok (.getfield 192, 3) := by decide +kernel
theorem dX7_opens_25 : decode cX7_opens 25 = .ok (.iconst 1, 1) := by decide +kernel
theorem dX7_opens_26 : decode cX7_opens 26 = .ok (.iadd, 1) := by decide +kernel
theorem dX7_opens_27 : decode cX7_opens 27 = .ok (.putfield 192, 3) := by decide +kernel
theorem dX7_opens_30 : decode cX7_opens 30 = .ok (.iconst 1, 1) := by decide +kernel
theorem dX7_opens_31 : decode cX7_opens 31 = .ok (.ireturn, 1) := by decide +kernel
theorem dX7_part_0 : decode cX7_part 0 = .ok (.aload_n 0, 1) := by decide +kernel
theorem dX7_part_1 : decode cX7_part 1 = .ok (.invokevirtual 195, 3) := by decide +kernel
theorem dX7_part_4 : decode cX7_part 4 = .ok (.istore_n 1, 1) := by decide +kernel
theorem dX7_part_5 : decode cX7_part 5 = .ok (.iload_n 1, 1) := by decide +kernel
theorem dX7_part_6 : decode cX7_part 6 = .ok (.invokestatic 226, 3) := by decide +kernel
theorem dX7_part_9 : decode cX7_part 9 = .ok (.ifCond .eq 21, 3) := by decide +kernel
theorem dX7_part_12 : decode cX7_part 12 = .ok (.aload_n 0, 1) := by decide +kernel
theorem dX7_part_13 : decode cX7_part 13 = .ok (.dup, 1) := by decide +kernel
theorem dX7_part_14 : decode cX7_part 14 = .ok (.getfield 192, 3) := by decide +kernel
theorem dX7_part_17 : decode cX7_part 17 = .ok (.iconst 1, 1) := by decide +kernel
theorem dX7_part_18 : decode cX7_part 18 = .ok (.iadd, 1) := by decide +kernel
theorem dX7_part_19 : decode cX7_part 19 = .ok (.putfield 192, 3) := by decide +kernel
theorem dX7_part_22 : decode cX7_part 22 = .ok (.aload_n 0, 1) := by decide +kernel
theorem dX7_part_23 : decode cX7_part 23 = .ok (.iconst 1, 1) := by decide +kernel
theorem dX7_part_24 : decode cX7_part 24 = .ok (.iload_n 1, 1) := by decide +kernel
theorem dX7_part_25 : decode cX7_part 25 = .ok (.invokevirtual 213, 3) := by decide +kernel
theorem dX7_part_28 : decode cX7_part 28 = .ok (.iconst 1, 1) := by decide +kernel
theorem dX7_part_29 : decode cX7_part 29 = .ok (.ireturn, 1) := by decide +kernel
theorem dX7_part_30 : decode cX7_part 30 = .ok (.iload_n 1, 1) := by decide +kernel
theorem dX7_part_31 : decode cX7_part 31 = .ok (.i2l, 1) := by decide +kernel
theorem dX7_part_32 : decode cX7_part 32 = .ok (.ldc2_w 229, 3) := by decide +kernel
theorem dX7_part_35 : decode cX7_part 35 = .ok (.ldc2_w 231, 3) := by decide +kernel
theorem dX7_part_38 : decode cX7_part 38 = .ok (.invokestatic 85, 3) := by decide +kernel
theorem dX7_part_41 : decode cX7_part 41 = .ok (.ifCond .eq 67, 3) := by decide +kernel
theorem dX7_part_44 : decode cX7_part 44 = .ok (.iconst 0, 1) := by decide +kernel
theorem dX7_part_45 : decode cX7_part 45 = .ok (.istore_n 2, 1) := by decide +kernel
theorem dX7_part_46 : decode cX7_part 46 = .ok (.iconst 0, 1) := by decide +kernel
theorem dX7_part_47 : decode cX7_part 47 = .ok (.istore_n 3, 1) := by decide +kernel
theorem dX7_part_48 : decode cX7_part 48 = .ok (.iload_n 3, 1) := by decide +kernel
theorem dX7_part_49 : decode cX7_part 49 = .ok (.bipush 7, 2) := by decide +kernel
theorem dX7_part_51 : decode cX7_part 51 = .ok (.if_icmp .ge 49, 3) := by decide +kernel
theorem dX7_part_54 : decode cX7_part 54 = .ok (.aload_n 0, 1) := by decide +kernel
theorem dX7_part_55 : decode cX7_part 55 = .ok (.invokevirtual 195, 3) := by decide +kernel
theorem dX7_part_58 : decode cX7_part 58 = .ok (.i2l, 1) := by decide +kernel
theorem dX7_part_59 : decode cX7_part 59 = .ok (.ldc2_w 229, 3) := by decide +kernel
theorem dX7_part_62 : decode cX7_part 62 = .ok (.ldc2_w 231, 3) := by decide +kernel
theorem dX7_part_65 : decode cX7_part 65 = .ok (.invokestatic 85, 3) := by decide +kernel
theorem dX7_part_68 : decode cX7_part 68 = .ok (.ifCond .eq 32, 3) := by decide +kernel
theorem dX7_part_71 : decode cX7_part 71 = .ok (.bipush 10, 2) := by decide +kernel
theorem dX7_part_73 : decode cX7_part 73 = .ok (.iload_n 2, 1) := by decide +kernel
theorem dX7_part_74 : decode cX7_part 74 = .ok (.imul, 1) := by decide +kernel
theorem dX7_part_75 : decode cX7_part 75 = .ok (.aload_n 0, 1) := by decide +kernel
theorem dX7_part_76 : decode cX7_part 76 = .ok (.invokevirtual 195, 3) := by decide +kernel
theorem dX7_part_79 : decode cX7_part 79 = .ok (.iadd, 1) := by decide +kernel
theorem dX7_part_80 : decode cX7_part 80 = .ok (.bipush 48, 2) := by decide +kernel
theorem dX7_part_82 : decode cX7_part 82 = .ok (.isub, 1) := by decide +kernel
theorem dX7_part_83 : decode cX7_part 83 = .ok (.istore_n 2, 1) := by decide +kernel
theorem dX7_part_84 : decode cX7_part 84 = .ok (.aload_n 0, 1) := by decide +kernel
theorem dX7_part_85 : decode cX7_part 85 = .ok (.dup, 1) := by decide +kernel
theorem dX7_part_86 : decode cX7_part 86 = .ok (.getfield 192, 3) := by decide +kernel
theorem dX7_part_89 : decode cX7_part 89 = .ok (.iconst 1, 1) := by decide +kernel
theorem dX7_part_90 : decode cX7_part 90 = .ok (.iadd, 1) := by decide +kernel
theorem dX7_part_91 : decode cX7_part 91 = .ok (.putfield 192, 3) := by decide +kernel
theorem dX7_part_94 : decode cX7_part 94 = .ok (.iinc 3 1, 3) := by decide +kernel
theorem dX7_part_97 : decode cX7_part 97 = .ok (.goto (-49), 3) := by decide +kernel
theorem dX7_part_100 : decode cX7_part 100 = .ok (.aload_n 0, 1) := by decide +kernel
theorem dX7_part_101 : decode cX7_part 101 = .ok (.iconst 0, 1) := by decide +kernel
theorem dX7_part_102 : decode cX7_part 102 = .ok (.iload_n 2, 1) := by decide +kernel
theorem dX7_part_103 : decode cX7_part 103 = .ok (.invokevirtual 213, 3) := by decide +kernel
theorem dX7_part_106 : decode cX7_part 106 = .ok (.iconst 1, 1) := by decide +kernel
theorem dX7_part_107 : decode cX7_part 107 = .ok (.ireturn, 1) := by decide +kernel
theorem dX7_part_108 : decode cX7_part 108 = .ok (.iload_n 1, 1) := by decide +kernel
theorem dX7_part_109 : decode cX7_part 109 = .ok (.bipush 45, 2) := by decide +kernel
theorem dX7_part_111 : decode cX7_part 111 = .ok (.if_icmp .ne 37, 3) := by decide +kernel
theorem dX7_part_114 : decode cX7_part 114 = .ok (.aload_n 0, 1) := by decide +kernel
theorem dX7_part_115 : decode cX7_part 115 = .ok (.invokevirtual 233, 3) := by decide +kernel
theorem dX7_part_118 : decode cX7_part 118 = .ok (.ifCond .eq 10, 3) := by decide +kernel
theorem dX7_part_121 : decode cX7_part 121 = .ok (.aload_n 0, 1) := by decide +kernel
theorem dX7_part_122 : decode cX7_part 122 = .ok (.invokevirtual 220, 3) := by decide +kernel
theorem dX7_part_125 : decode cX7_part 125 = .ok (.ifCond .ne 5, 3) := by decide +kernel
theorem dX7_part_128 : decode cX7_part 128 = .ok (.iconst 0, 1) := by decide +kernel
theorem dX7_part_129 : decode cX7_part 129 = .ok (.ireturn, 1) := by decide +kernel
theorem dX7_part_130 : decode cX7_part 130 = .ok (.aload_n 0, 1) := by decide +kernel
theorem dX7_part_131 : decode cX7_part 131 = .ok (.dup, 1) := by decide +kernel
theorem dX7_part_132 : decode cX7_part 132 = .ok (.getfield 223, 3) := by decide +kernel
theorem dX7_part_135 : decode cX7_part 135 = .ok (.iconst 1, 1) := by decide +kernel
theorem dX7_part_136 : decode cX7_part 136 = .ok (.isub, 1) := by decide +kernel
theorem dX7_part_137 : decode cX7_part 137 = .ok (.putfield 223, 3) := by decide +kernel
theorem dX7_part_140 : decode cX7_part 140 = .ok (.aload_n 0, 1) := by decide +kernel
theorem dX7_part_141 : decode cX7_part 141 = .ok (.iconst 2, 1) := by decide +kernel
theorem dX7_part_142 : decode cX7_part 142 = .ok (.iconst 0, 1) := by decide +kernel
theorem dX7_part_143 : decode cX7_part 143 = .ok (.invokevirtual 213, 3) := by decide +kernel
theorem dX7_part_146 : decode cX7_part 146 = .ok (.iconst 1, 1) := by decide +kernel
theorem dX7_part_147 : decode cX7_part 147 = .ok (.ireturn, 1) := by decide +kernel
theorem dX7_part_148 : decode cX7_part 148 = .ok (.iload_n 1, 1) := by decide +kernel
theorem dX7_part_149 : decode cX7_part 149 = .ok (.bipush 40, 2) := by decide +kernel
theorem dX7_part_151 : decode cX7_part 151 = .ok (.if_icmp .ne 26, 3) := by decide +kernel
theorem dX7_part_154 : decode cX7_part 154 = .ok (.aload_n 0, 1) := by decide +kernel
theorem dX7_part_155 : decode cX7_part 155 = .ok (.invokevirtual 233, 3) := by decide +kernel
theorem dX7_part_158 : decode cX7_part 158 = .ok (.ifCond .eq 19, 3) := by decide +kernel
theorem dX7_part_161 : decode cX7_part 161 = .ok (.aload_n 0, 1) := by decide +kernel
theorem dX7_part_162 : decode cX7_part 162 = .ok (.invokevirtual 201, 3) := by decide +kernel
theorem dX7_part_165 : decode cX7_part 165 = .ok (.ifCond .eq 12, 3) := by decide +kernel
theorem dX7_part_168 : decode cX7_part 168 = .ok (.aload_n 0, 1) := by decide +kernel
theorem dX7_part_169 : decode cX7_part 169 = .ok (.bipush 41, 2) := by decide +kernel
theorem dX7_part_171 : decode cX7_part 171 = .ok (.invokevirtual 211, 3) := by decide +kernel
theorem dX7_part_174 : decode cX7_part 174 = .ok (.ifCond .ne 5, 3) := by decide +kernel
theorem dX7_part_177 : decode cX7_part 177 = .ok (.iconst 0, 1) := by decide +kernel
theorem dX7_part_178 : decode cX7_part 178 = .ok (.ireturn, 1) := by decide +kernel
theorem dX7_part_179 : decode cX7_part 179 = .ok (.aload_n 0, 1) := by decide +kernel
theorem dX7_part_180 : decode cX7_part 180 = .ok (.dup, 1) := by decide +kernel
theorem dX7_part_181 : decode cX7_part 181 = .ok (.getfield 223, 3) := by decide +kernel
theorem dX7_part_184 : decode cX7_part 184 = .ok (.iconst 1, 1) := by decide +kernel
theorem dX7_part_185 : decode cX7_part 185 = .ok (.isub, 1) := by decide +kernel
theorem dX7_part_186 : decode cX7_part 186 = .ok (.putfield 223, 3) := by decide +kernel
theorem dX7_part_189 : decode cX7_part 189 = .ok (.iconst 1, 1) := by decide +kernel
theorem dX7_part_190 : decode cX7_part 190 = .ok (.ireturn, 1) := by decide +kernel
theorem dX7_rule_0 : decode cX7_rule 0 = .ok (.aload_n 0, 1) := by decide +kernel
theorem dX7_rule_1 : decode cX7_rule 1 = .ok (.iconst 0, 1) := by decide +kernel
theorem dX7_rule_2 : decode cX7_rule 2 = .ok (.putfield 192, 3) := by decide +kernel
theorem dX7_rule_5 : decode cX7_rule 5 = .ok (.aload_n 0, 1) := by decide +kernel
theorem dX7_rule_6 : decode cX7_rule 6 = .ok (.iconst 0, 1) := by decide +kernel
theorem dX7_rule_7 : decode cX7_rule 7 = .ok (.putfield 223, 3) := by decide +kernel
theorem dX7_rule_10 : decode cX7_rule 10 = .ok (.aload_n 0, 1) := by decide +kernel
theorem dX7_rule_11 : decode cX7_rule 11 = .ok (.iconst 0, 1) := by decide +kernel
theorem dX7_rule_12 : decode cX7_rule 12 = .ok (.putfield 198, 3) := by decide +kernel
theorem dX7_rule_15 : decode cX7_rule 15 = .ok (.aload_n 0, 1) := by decide +kernel
theorem dX7_rule_16 : decode cX7_rule 16 = .ok (.invokevirtual 236, 3) := by decide +kernel
theorem dX7_rule_19 : decode cX7_rule 19 = .ok (.ifCond .eq 18, 3) := by decide +kernel
theorem dX7_rule_22 : decode cX7_rule 22 = .ok (.aload_n 0, 1) := by decide +kernel
theorem dX7_rule_23 : decode cX7_rule 23 = .ok (.getfield 192, 3) := by decide +kernel
theorem dX7_rule_26 : decode cX7_rule 26 = .ok (.aload_n 0, 1) := by decide +kernel
theorem dX7_rule_27 : decode cX7_rule 27 = .ok (.getfield 188, 3) := by decide +kernel
theorem dX7_rule_30 : decode cX7_rule 30 = .ok (.if_icmp .ne 7, 3) := by decide +kernel
theorem dX7_rule_33 : decode cX7_rule 33 = .ok (.iconst 1, 1) := by decide +kernel
theorem dX7_rule_34 : decode cX7_rule 34 = .ok (.goto 4, 3) := by decide +kernel
theorem dX7_rule_37 : decode cX7_rule 37 = .ok (.iconst 0, 1) := by decide +kernel
theorem dX7_rule_38 : decode cX7_rule 38 = .ok (.istore_n 1, 1) := by decide +kernel
theorem dX7_rule_39 : decode cX7_rule 39 = .ok (.iload_n 1, 1) := by decide +kernel
theorem dX7_rule_40 : decode cX7_rule 40 = .ok (.ifCond .ne 10, 3) := by decide +kernel
theorem dX7_rule_43 : decode cX7_rule 43 = .ok (.iconst (-1), 1) := by decide +kernel
theorem dX7_rule_44 : decode cX7_rule 44 = .ok (.aload_n 0, 1) := by decide +kernel
theorem dX7_rule_45 : decode cX7_rule 45 = .ok (.getfield 192, 3) := by decide +kernel
theorem dX7_rule_48 : decode cX7_rule 48 = .ok (.isub, 1) := by decide +kernel
theorem dX7_rule_49 : decode cX7_rule 49 = .ok (.ireturn, 1) := by decide +kernel
theorem dX7_rule_50 : decode cX7_rule 50 = .ok (.aload_n 0, 1) := by decide +kernel
theorem dX7_rule_51 : decode cX7_rule 51 = .ok (.iconst 0, 1) := by decide +kernel
theorem dX7_rule_52 : decode cX7_rule 52 = .ok (.putfield 188, 3) := by decide +kernel
theorem dX7_rule_55 : decode cX7_rule 55 = .ok (.aload_n 0, 1) := by decide +kernel
theorem dX7_rule_56 : decode cX7_rule 56 = .ok (.getfield 7, 3) := by decide +kernel
theorem dX7_rule_59 : decode cX7_rule 59 = .ok (.bipush 11, 2) := by decide +kernel
theorem dX7_rule_61 : decode cX7_rule 61 = .ok (.aload_n 0, 1) := by decide +kernel
theorem dX7_rule_62 : decode cX7_rule 62 = .ok (.getfield 198, 3) := by decide +kernel
theorem dX7_rule_65 : decode cX7_rule 65 = .ok (.i2l, 1) := by decide +kernel
theorem dX7_rule_66 : decode cX7_rule 66 = .ok (.lastore, 1) := by decide +kernel
theorem dX7_rule_67 : decode cX7_rule 67 = .ok (.iconst 0, 1) := by decide +kernel
theorem dX7_rule_68 : decode cX7_rule 68 = .ok (.istore_n 2, 1) := by decide +kernel
theorem dX7_rule_69 : decode cX7_rule 69 = .ok (.iload_n 2, 1) := by decide +kernel
theorem dX7_rule_70 : decode cX7_rule 70 = .ok (.iconst 2, 1) := by decide +kernel
theorem dX7_rule_71 : decode cX7_rule 71 = .ok (.aload_n 0, 1) := by decide +kernel
theorem dX7_rule_72 : decode cX7_rule 72 = .ok (.getfield 198, 3) := by decide +kernel
theorem dX7_rule_75 : decode cX7_rule 75 = .ok (.imul, 1) := by decide +kernel
theorem dX7_rule_76 : decode cX7_rule 76 = .ok (.if_icmp .ge 25, 3) := by decide +kernel
theorem dX7_rule_79 : decode cX7_rule 79 = .ok (.aload_n 0, 1) := by decide +kernel
theorem dX7_rule_80 : decode cX7_rule 80 = .ok (.getfield 7, 3) := by decide +kernel
theorem dX7_rule_83 : decode cX7_rule 83 = .ok (.bipush 84, 2) := by decide +kernel
theorem dX7_rule_85 : decode cX7_rule 85 = .ok (.iload_n 2, 1) := by decide +kernel
theorem dX7_rule_86 : decode cX7_rule 86 = .ok (.iadd, 1) := by decide +kernel
theorem dX7_rule_87 : decode cX7_rule 87 = .ok (.aload_n 0, 1) := by decide +kernel
theorem dX7_rule_88 : decode cX7_rule 88 = .ok (.getfield 23, 3) := by decide +kernel
theorem dX7_rule_91 : decode cX7_rule 91 = .ok (.iload_n 2, 1) := by decide +kernel
theorem dX7_rule_92 : decode cX7_rule 92 = .ok (.iaload, 1) := by decide +kernel
theorem dX7_rule_93 : decode cX7_rule 93 = .ok (.i2l, 1) := by decide +kernel
theorem dX7_rule_94 : decode cX7_rule 94 = .ok (.lastore, 1) := by decide +kernel
theorem dX7_rule_95 : decode cX7_rule 95 = .ok (.iinc 2 1, 3) := by decide +kernel
theorem dX7_rule_98 : decode cX7_rule 98 = .ok (.goto (-29), 3) := by decide +kernel
theorem dX7_rule_101 : decode cX7_rule 101 = .ok (.iconst 0, 1) := by decide +kernel
theorem dX7_rule_102 : decode cX7_rule 102 = .ok (.ireturn, 1) := by decide +kernel
theorem dX7_drift_0 : decode cX7_drift 0 = .ok (.aload_n 0, 1) := by decide +kernel
theorem dX7_drift_1 : decode cX7_drift 1 = .ok (.getfield 7, 3) := by decide +kernel
theorem dX7_drift_4 : decode cX7_drift 4 = .ok (.bipush 11, 2) := by decide +kernel
theorem dX7_drift_6 : decode cX7_drift 6 = .ok (.laload, 1) := by decide +kernel
theorem dX7_drift_7 : decode cX7_drift 7 = .ok (.lconst 0, 1) := by decide +kernel
theorem dX7_drift_8 : decode cX7_drift 8 = .ok (.lcmp, 1) := by decide +kernel
theorem dX7_drift_9 : decode cX7_drift 9 = .ok (.ifCond .le 7, 3) := by decide +kernel
theorem dX7_drift_12 : decode cX7_drift 12 = .ok (.iconst 1, 1) := by decide +kernel
theorem dX7_drift_13 : decode cX7_drift 13 = .ok (.goto 4, 3) := by decide +kernel
theorem dX7_drift_16 : decode cX7_drift 16 = .ok (.iconst 0, 1) := by decide +kernel
theorem dX7_drift_17 : decode cX7_drift 17 = .ok (.istore_n 1, 1) := by decide +kernel
theorem dX7_drift_18 : decode cX7_drift 18 = .ok (.aload_n 0, 1) := by decide +kernel
theorem dX7_drift_19 : decode cX7_drift 19 = .ok (.getfield 7, 3) := by decide +kernel
theorem dX7_drift_22 : decode cX7_drift 22 = .ok (.bipush 11, 2) := by decide +kernel
theorem dX7_drift_24 : decode cX7_drift 24 = .ok (.lconst 0, 1) := by decide +kernel
theorem dX7_drift_25 : decode cX7_drift 25 = .ok (.lastore, 1) := by decide +kernel
theorem dX7_drift_26 : decode cX7_drift 26 = .ok (.iload_n 1, 1) := by decide +kernel
theorem dX7_drift_27 : decode cX7_drift 27 = .ok (.ireturn, 1) := by decide +kernel
theorem dX7_joined_0 : decode cX7_joined 0 = .ok (.iload_n 0, 1) := by decide +kernel
theorem dX7_joined_1 : decode cX7_joined 1 = .ok (.lookupswitch 92 #[(43, 51), (45, 55), (60, 59), (61, 81), (62, 70)], 51) := by decide +kernel
theorem dX7_joined_52 : decode cX7_joined 52 = .ok (.iload_n 1, 1) := by decide +kernel
theorem dX7_joined_53 : decode cX7_joined 53 = .ok (.iload_n 2, 1) := by decide +kernel
theorem dX7_joined_54 : decode cX7_joined 54 = .ok (.iadd, 1) := by decide +kernel
theorem dX7_joined_55 : decode cX7_joined 55 = .ok (.ireturn, 1) := by decide +kernel
theorem dX7_joined_56 : decode cX7_joined 56 = .ok (.iload_n 1, 1) := by decide +kernel
theorem dX7_joined_57 : decode cX7_joined 57 = .ok (.iload_n 2, 1) := by decide +kernel
theorem dX7_joined_58 : decode cX7_joined 58 = .ok (.isub, 1) := by decide +kernel
theorem dX7_joined_59 : decode cX7_joined 59 = .ok (.ireturn, 1) := by decide +kernel
theorem dX7_joined_60 : decode cX7_joined 60 = .ok (.iload_n 1, 1) := by decide +kernel
theorem dX7_joined_61 : decode cX7_joined 61 = .ok (.iload_n 2, 1) := by decide +kernel
theorem dX7_joined_62 : decode cX7_joined 62 = .ok (.if_icmp .ge 7, 3) := by decide +kernel
theorem dX7_joined_65 : decode cX7_joined 65 = .ok (.iconst 1, 1) := by decide +kernel
theorem dX7_joined_66 : decode cX7_joined 66 = .ok (.goto 4, 3) := by decide +kernel
theorem dX7_joined_69 : decode cX7_joined 69 = .ok (.iconst 0, 1) := by decide +kernel
theorem dX7_joined_70 : decode cX7_joined 70 = .ok (.ireturn, 1) := by decide +kernel
theorem dX7_joined_71 : decode cX7_joined 71 = .ok (.iload_n 1, 1) := by decide +kernel
theorem dX7_joined_72 : decode cX7_joined 72 = .ok (.iload_n 2, 1) := by decide +kernel
theorem dX7_joined_73 : decode cX7_joined 73 = .ok (.if_icmp .le 7, 3) := by decide +kernel
theorem dX7_joined_76 : decode cX7_joined 76 = .ok (.iconst 1, 1) := by decide +kernel
theorem dX7_joined_77 : decode cX7_joined 77 = .ok (.goto 4, 3) := by decide +kernel
theorem dX7_joined_80 : decode cX7_joined 80 = .ok (.iconst 0, 1) := by decide +kernel
theorem dX7_joined_81 : decode cX7_joined 81 = .ok (.ireturn, 1) := by decide +kernel
theorem dX7_joined_82 : decode cX7_joined 82 = .ok (.iload_n 1, 1) := by decide +kernel
theorem dX7_joined_83 : decode cX7_joined 83 = .ok (.iload_n 2, 1) := by decide +kernel
theorem dX7_joined_84 : decode cX7_joined 84 = .ok (.if_icmp .ne 7, 3) := by decide +kernel
theorem dX7_joined_87 : decode cX7_joined 87 = .ok (.iconst 1, 1) := by decide +kernel
theorem dX7_joined_88 : decode cX7_joined 88 = .ok (.goto 4, 3) := by decide +kernel
theorem dX7_joined_91 : decode cX7_joined 91 = .ok (.iconst 0, 1) := by decide +kernel
theorem dX7_joined_92 : decode cX7_joined 92 = .ok (.ireturn, 1) := by decide +kernel
theorem dX7_joined_93 : decode cX7_joined 93 = .ok (.iload_n 1, 1) := by decide +kernel
theorem dX7_joined_94 : decode cX7_joined 94 = .ok (.iload_n 2, 1) := by decide +kernel
theorem dX7_joined_95 : decode cX7_joined 95 = .ok (.iand, 1) := by decide +kernel
theorem dX7_joined_96 : decode cX7_joined 96 = .ok (.ireturn, 1) := by decide +kernel
theorem dX7_nextDay_0 : decode cX7_nextDay 0 = .ok (.iconst (-1), 1) := by decide +kernel
theorem dX7_nextDay_1 : decode cX7_nextDay 1 = .ok (.istore_n 2, 1) := by decide +kernel
theorem dX7_nextDay_2 : decode cX7_nextDay 2 = .ok (.iconst 0, 1) := by decide +kernel
theorem dX7_nextDay_3 : decode cX7_nextDay 3 = .ok (.istore_n 3, 1) := by decide +kernel
theorem dX7_nextDay_4 : decode cX7_nextDay 4 = .ok (.iload_n 3, 1) := by decide +kernel
theorem dX7_nextDay_5 : decode cX7_nextDay 5 = .ok (.aload_n 0, 1) := by decide +kernel
theorem dX7_nextDay_6 : decode cX7_nextDay 6 = .ok (.bipush 10, 2) := by decide +kernel
theorem dX7_nextDay_8 : decode cX7_nextDay 8 = .ok (.invokevirtual 71, 3) := by decide +kernel
theorem dX7_nextDay_11 : decode cX7_nextDay 11 = .ok (.if_icmp .ge 40, 3) := by decide +kernel
theorem dX7_nextDay_14 : decode cX7_nextDay 14 = .ok (.aload_n 0, 1) := by decide +kernel
theorem dX7_nextDay_15 : decode cX7_nextDay 15 = .ok (.iload_n 3, 1) := by decide +kernel
theorem dX7_nextDay_16 : decode cX7_nextDay 16 = .ok (.iconst 1, 1) := by decide +kernel
theorem dX7_nextDay_17 : decode cX7_nextDay 17 = .ok (.invokevirtual 147, 3) := by decide +kernel
theorem dX7_nextDay_20 : decode cX7_nextDay 20 = .ok (.istore 4, 2) := by decide +kernel
theorem dX7_nextDay_22 : decode cX7_nextDay 22 = .ok (.iload 4, 2) := by decide +kernel
theorem dX7_nextDay_24 : decode cX7_nextDay 24 = .ok (.iload_n 1, 1) := by decide +kernel
theorem dX7_nextDay_25 : decode cX7_nextDay 25 = .ok (.if_icmp .le 18, 3) := by decide +kernel
theorem dX7_nextDay_28 : decode cX7_nextDay 28 = .ok (.iload_n 2, 1) := by decide +kernel
theorem dX7_nextDay_29 : decode cX7_nextDay 29 = .ok (.ifCond .lt 9, 3) := by decide +kernel
theorem dX7_nextDay_32 : decode cX7_nextDay 32 = .ok (.iload 4, 2) := by decide +kernel
theorem dX7_nextDay_34 : decode cX7_nextDay 34 = .ok (.iload_n 2, 1) := by decide +kernel
theorem dX7_nextDay_35 : decode cX7_nextDay 35 = .ok (.if_icmp .ge 8, 3) := by decide +kernel
theorem dX7_nextDay_38 : decode cX7_nextDay 38 = .ok (.iload 4, 2) := by decide +kernel
theorem dX7_nextDay_40 : decode cX7_nextDay 40 = .ok (.goto 4, 3) := by decide +kernel
theorem dX7_nextDay_43 : decode cX7_nextDay 43 = .ok (.iload_n 2, 1) := by decide +kernel
theorem dX7_nextDay_44 : decode cX7_nextDay 44 = .ok (.istore_n 2, 1) := by decide +kernel
theorem dX7_nextDay_45 : decode cX7_nextDay 45 = .ok (.iinc 3 1, 3) := by decide +kernel
theorem dX7_nextDay_48 : decode cX7_nextDay 48 = .ok (.goto (-44), 3) := by decide +kernel
theorem dX7_nextDay_51 : decode cX7_nextDay 51 = .ok (.iload_n 2, 1) := by decide +kernel
theorem dX7_nextDay_52 : decode cX7_nextDay 52 = .ok (.ireturn, 1) := by decide +kernel
theorem dX7_openMany_0 : decode cX7_openMany 0 = .ok (.iconst 0, 1) := by decide +kernel
theorem dX7_openMany_1 : decode cX7_openMany 1 = .ok (.istore_n 2, 1) := by decide +kernel
theorem dX7_openMany_2 : decode cX7_openMany 2 = .ok (.iconst 0, 1) := by decide +kernel
theorem dX7_openMany_3 : decode cX7_openMany 3 = .ok (.istore_n 3, 1) := by decide +kernel
theorem dX7_openMany_4 : decode cX7_openMany 4 = .ok (.iload_n 3, 1) := by decide +kernel
theorem dX7_openMany_5 : decode cX7_openMany 5 = .ok (.aload_n 0, 1) := by decide +kernel
theorem dX7_openMany_6 : decode cX7_openMany 6 = .ok (.bipush 10, 2) := by decide +kernel
theorem dX7_openMany_8 : decode cX7_openMany 8 = .ok (.invokevirtual 71, 3) := by decide +kernel
theorem dX7_openMany_11 : decode cX7_openMany 11 = .ok (.if_icmp .ge 26, 3) := by decide +kernel
theorem dX7_openMany_14 : decode cX7_openMany 14 = .ok (.iload_n 2, 1) := by decide +kernel
theorem dX7_openMany_15 : decode cX7_openMany 15 = .ok (.aload_n 0, 1) := by decide +kernel
theorem dX7_openMany_16 : decode cX7_openMany 16 = .ok (.iload_n 3, 1) := by decide +kernel
theorem dX7_openMany_17 : decode cX7_openMany 17 = .ok (.iload_n 1, 1) := by decide +kernel
theorem dX7_openMany_18 : decode cX7_openMany 18 = .ok (.invokevirtual 156, 3) := by decide +kernel
theorem dX7_openMany_21 : decode cX7_openMany 21 = .ok (.ifCond .eq 7, 3) := by decide +kernel
theorem dX7_openMany_24 : decode cX7_openMany 24 = .ok (.iconst 1, 1) := by decide +kernel
theorem dX7_openMany_25 : decode cX7_openMany 25 = .ok (.goto 4, 3) := by decide +kernel
theorem dX7_openMany_28 : decode cX7_openMany 28 = .ok (.iconst 0, 1) := by decide +kernel
theorem dX7_openMany_29 : decode cX7_openMany 29 = .ok (.iadd, 1) := by decide +kernel
theorem dX7_openMany_30 : decode cX7_openMany 30 = .ok (.istore_n 2, 1) := by decide +kernel
theorem dX7_openMany_31 : decode cX7_openMany 31 = .ok (.iinc 3 1, 3) := by decide +kernel
theorem dX7_openMany_34 : decode cX7_openMany 34 = .ok (.goto (-30), 3) := by decide +kernel
theorem dX7_openMany_37 : decode cX7_openMany 37 = .ok (.iload_n 2, 1) := by decide +kernel
theorem dX7_openMany_38 : decode cX7_openMany 38 = .ok (.ireturn, 1) := by decide +kernel
theorem dX7_told_0 : decode cX7_told 0 = .ok (.aload_n 0, 1) := by decide +kernel
theorem dX7_told_1 : decode cX7_told 1 = .ok (.getfield 7, 3) := by decide +kernel
theorem dX7_told_4 : decode cX7_told 4 = .ok (.bipush 11, 2) := by decide +kernel
theorem dX7_told_6 : decode cX7_told 6 = .ok (.laload, 1) := by decide +kernel
theorem dX7_told_7 : decode cX7_told 7 = .ok (.lconst 0, 1) := by decide +kernel
theorem dX7_told_8 : decode cX7_told 8 = .ok (.lcmp, 1) := by decide +kernel
theorem dX7_told_9 : decode cX7_told 9 = .ok (.ifCond .ne 5, 3) := by decide +kernel
theorem dX7_told_12 : decode cX7_told 12 = .ok (.iconst 0, 1) := by decide +kernel
theorem dX7_told_13 : decode cX7_told 13 = .ok (.ireturn, 1) := by decide +kernel
theorem dX7_told_14 : decode cX7_told 14 = .ok (.aload_n 0, 1) := by decide +kernel
theorem dX7_told_15 : decode cX7_told 15 = .ok (.iload_n 1, 1) := by decide +kernel
theorem dX7_told_16 : decode cX7_told 16 = .ok (.invokevirtual 239, 3) := by decide +kernel
theorem dX7_told_19 : decode cX7_told 19 = .ok (.istore 4, 2) := by decide +kernel
theorem dX7_told_21 : decode cX7_told 21 = .ok (.aload_n 0, 1) := by decide +kernel
theorem dX7_told_22 : decode cX7_told 22 = .ok (.getfield 26, 3) := by decide +kernel
theorem dX7_told_25 : decode cX7_told 25 = .ok (.bipush 99, 2) := by decide +kernel
theorem dX7_told_27 : decode cX7_told 27 = .ok (.aload_n 0, 1) := by decide +kernel
theorem dX7_told_28 : decode cX7_told 28 = .ok (.iload_n 1, 1) := by decide +kernel
theorem dX7_told_29 : decode cX7_told 29 = .ok (.iconst 1, 1) := by decide +kernel
theorem dX7_told_30 : decode cX7_told 30 = .ok (.iadd, 1) := by decide +kernel
theorem dX7_told_31 : decode cX7_told 31 = .ok (.iload_n 2, 1) := by decide +kernel
theorem dX7_told_32 : decode cX7_told 32 = .ok (.invokevirtual 132, 3) := by decide +kernel
theorem dX7_told_35 : decode cX7_told 35 = .ok (.iastore, 1) := by decide +kernel
theorem dX7_told_36 : decode cX7_told 36 = .ok (.aload_n 0, 1) := by decide +kernel
theorem dX7_told_37 : decode cX7_told 37 = .ok (.getfield 26, 3) := by decide +kernel
theorem dX7_told_40 : decode cX7_told 40 = .ok (.bipush 100, 2) := by decide +kernel
theorem dX7_told_42 : decode cX7_told 42 = .ok (.iload 4, 2) := by decide +kernel
theorem dX7_told_44 : decode cX7_told 44 = .ok (.ifCond .ge 9, 3) := by decide +kernel
theorem dX7_told_47 : decode cX7_told 47 = .ok (.sipush 999, 3) := by decide +kernel
theorem dX7_told_50 : decode cX7_told 50 = .ok (.goto 7, 3) := by decide +kernel
theorem dX7_told_53 : decode cX7_told 53 = .ok (.iload 4, 2) := by decide +kernel
theorem dX7_told_55 : decode cX7_told 55 = .ok (.iload_n 1, 1) := by decide +kernel
theorem dX7_told_56 : decode cX7_told 56 = .ok (.isub, 1) := by decide +kernel
theorem dX7_told_57 : decode cX7_told 57 = .ok (.iastore, 1) := by decide +kernel
theorem dX7_told_58 : decode cX7_told 58 = .ok (.aload_n 0, 1) := by decide +kernel
theorem dX7_told_59 : decode cX7_told 59 = .ok (.getfield 26, 3) := by decide +kernel
theorem dX7_told_62 : decode cX7_told 62 = .ok (.bipush 102, 2) := by decide +kernel
theorem dX7_told_64 : decode cX7_told 64 = .ok (.iload_n 3, 1) := by decide +kernel
theorem dX7_told_65 : decode cX7_told 65 = .ok (.iastore, 1) := by decide +kernel
theorem dX7_told_66 : decode cX7_told 66 = .ok (.aload_n 0, 1) := by decide +kernel
theorem dX7_told_67 : decode cX7_told 67 = .ok (.getfield 26, 3) := by decide +kernel
theorem dX7_told_70 : decode cX7_told 70 = .ok (.bipush 104, 2) := by decide +kernel
theorem dX7_told_72 : decode cX7_told 72 = .ok (.iload_n 2, 1) := by decide +kernel
theorem dX7_told_73 : decode cX7_told 73 = .ok (.iastore, 1) := by decide +kernel
theorem dX7_told_74 : decode cX7_told 74 = .ok (.aload_n 0, 1) := by decide +kernel
theorem dX7_told_75 : decode cX7_told 75 = .ok (.getfield 26, 3) := by decide +kernel
theorem dX7_told_78 : decode cX7_told 78 = .ok (.bipush 110, 2) := by decide +kernel
theorem dX7_told_80 : decode cX7_told 80 = .ok (.aload_n 0, 1) := by decide +kernel
theorem dX7_told_81 : decode cX7_told 81 = .ok (.iload_n 1, 1) := by decide +kernel
theorem dX7_told_82 : decode cX7_told 82 = .ok (.invokevirtual 242, 3) := by decide +kernel
theorem dX7_told_85 : decode cX7_told 85 = .ok (.iastore, 1) := by decide +kernel
theorem dX7_told_86 : decode cX7_told 86 = .ok (.aload_n 0, 1) := by decide +kernel
theorem dX7_told_87 : decode cX7_told 87 = .ok (.getfield 26, 3) := by decide +kernel
theorem dX7_told_90 : decode cX7_told 90 = .ok (.bipush 116, 2) := by decide +kernel
theorem dX7_told_92 : decode cX7_told 92 = .ok (.iload_n 1, 1) := by decide +kernel
theorem dX7_told_93 : decode cX7_told 93 = .ok (.iastore, 1) := by decide +kernel
theorem dX7_told_94 : decode cX7_told 94 = .ok (.iconst 0, 1) := by decide +kernel
theorem dX7_told_95 : decode cX7_told 95 = .ok (.istore 5, 2) := by decide +kernel
theorem dX7_told_97 : decode cX7_told 97 = .ok (.iconst 0, 1) := by decide +kernel
theorem dX7_told_98 : decode cX7_told 98 = .ok (.istore 6, 2) := by decide +kernel
theorem dX7_told_100 : decode cX7_told 100 = .ok (.iload 6, 2) := by decide +kernel
theorem dX7_told_102 : decode cX7_told 102 = .ok (.aload_n 0, 1) := by decide +kernel
theorem dX7_told_103 : decode cX7_told 103 = .ok (.bipush 11, 2) := by decide +kernel
theorem dX7_told_105 : decode cX7_told 105 = .ok (.invokevirtual 71, 3) := by decide +kernel
theorem dX7_told_108 : decode cX7_told 108 = .ok (.if_icmp .ge 191, 3) := by decide +kernel
theorem dX7_told_111 : decode cX7_told 111 = .ok (.aload_n 0, 1) := by decide +kernel
theorem dX7_told_112 : decode cX7_told 112 = .ok (.bipush 84, 2) := by decide +kernel
theorem dX7_told_114 : decode cX7_told 114 = .ok (.iconst 2, 1) := by decide +kernel
theorem dX7_told_115 : decode cX7_told 115 = .ok (.iload 6, 2) := by decide +kernel
theorem dX7_told_117 : decode cX7_told 117 = .ok (.imul, 1) := by decide +kernel
theorem dX7_told_118 : decode cX7_told 118 = .ok (.iadd, 1) := by decide +kernel
theorem dX7_told_119 : decode cX7_told 119 = .ok (.invokevirtual 71, 3) := by decide +kernel
theorem dX7_told_122 : decode cX7_told 122 = .ok (.istore 7, 2) := by decide +kernel
theorem dX7_told_124 : decode cX7_told 124 = .ok (.aload_n 0, 1) := by decide +kernel
theorem dX7_told_125 : decode cX7_told 125 = .ok (.bipush 84, 2) := by decide +kernel
theorem dX7_told_127 : decode cX7_told 127 = .ok (.iconst 2, 1) := by decide +kernel
theorem dX7_told_128 : decode cX7_told 128 = .ok (.iload 6, 2) := by decide +kernel
theorem dX7_told_130 : decode cX7_told 130 = .ok (.imul, 1) := by decide +kernel
theorem dX7_told_131 : decode cX7_told 131 = .ok (.iadd, 1) := by decide +kernel
theorem dX7_told_132 : decode cX7_told 132 = .ok (.iconst 1, 1) := by decide +kernel
theorem dX7_told_133 : decode cX7_told 133 = .ok (.iadd, 1) := by decide +kernel
theorem dX7_told_134 : decode cX7_told 134 = .ok (.invokevirtual 71, 3) := by decide +kernel
theorem dX7_told_137 : decode cX7_told 137 = .ok (.istore 8, 2) := by decide +kernel
theorem dX7_told_139 : decode cX7_told 139 = .ok (.iload 7, 2) := by decide +kernel
theorem dX7_told_141 : decode cX7_told 141 = .ok (.ifCond .eq 9, 3) := by decide +kernel
theorem dX7_told_144 : decode cX7_told 144 = .ok (.iload 7, 2) := by decide +kernel
theorem dX7_told_146 : decode cX7_told 146 = .ok (.iconst 1, 1) := by decide +kernel
theorem dX7_told_147 : decode cX7_told 147 = .ok (.if_icmp .ne 33, 3) := by decide +kernel
theorem dX7_told_150 : decode cX7_told 150 = .ok (.aload_n 0, 1) := by decide +kernel
theorem dX7_told_151 : decode cX7_told 151 = .ok (.getfield 29, 3) := by decide +kernel
theorem dX7_told_154 : decode cX7_told 154 = .ok (.iload 5, 2) := by decide +kernel
theorem dX7_told_156 : decode cX7_told 156 = .ok (.iload 7, 2) := by decide +kernel
theorem dX7_told_158 : decode cX7_told 158 = .ok (.ifCond .ne 8, 3) := by decide +kernel
theorem dX7_told_161 : decode cX7_told 161 = .ok (.iload 8, 2) := by decide +kernel
theorem dX7_told_163 : decode cX7_told 163 = .ok (.goto 10, 3) := by decide +kernel
theorem dX7_told_166 : decode cX7_told 166 = .ok (.aload_n 0, 1) := by decide +kernel
theorem dX7_told_167 : decode cX7_told 167 = .ok (.getfield 26, 3) := by decide +kernel
theorem dX7_told_170 : decode cX7_told 170 = .ok (.iload 8, 2) := by decide +kernel
theorem dX7_told_172 : decode cX7_told 172 = .ok (.iaload, 1) := by decide +kernel
theorem dX7_told_173 : decode cX7_told 173 = .ok (.iastore, 1) := by decide +kernel
theorem dX7_told_174 : decode cX7_told 174 = .ok (.iinc 5 1, 3) := by decide +kernel
theorem dX7_told_177 : decode cX7_told 177 = .ok (.goto 116, 3) := by decide +kernel
theorem dX7_told_180 : decode cX7_told 180 = .ok (.iload 7, 2) := by decide +kernel
theorem dX7_told_182 : decode cX7_told 182 = .ok (.iconst 2, 1) := by decide +kernel
theorem dX7_told_183 : decode cX7_told 183 = .ok (.if_icmp .ne 25, 3) := by decide +kernel
theorem dX7_told_186 : decode cX7_told 186 = .ok (.aload_n 0, 1) := by decide +kernel
theorem dX7_told_187 : decode cX7_told 187 = .ok (.getfield 29, 3) := by decide +kernel
theorem dX7_told_190 : decode cX7_told 190 = .ok (.iload 5, 2) := by decide +kernel
theorem dX7_told_192 : decode cX7_told 192 = .ok (.iconst 1, 1) := by decide +kernel
theorem dX7_told_193 : decode cX7_told 193 = .ok (.isub, 1) := by decide +kernel
theorem dX7_told_194 : decode cX7_told 194 = .ok (.aload_n 0, 1) := by decide +kernel
theorem dX7_told_195 : decode cX7_told 195 = .ok (.getfield 29, 3) := by decide +kernel
theorem dX7_told_198 : decode cX7_told 198 = .ok (.iload 5, 2) := by decide +kernel
theorem dX7_told_200 : decode cX7_told 200 = .ok (.iconst 1, 1) := by decide +kernel
theorem dX7_told_201 : decode cX7_told 201 = .ok (.isub, 1) := by decide +kernel
theorem dX7_told_202 : decode cX7_told 202 = .ok (.iaload, 1) := by decide +kernel
theorem dX7_told_203 : decode cX7_told 203 = .ok (.ineg, 1) := by decide +kernel
theorem dX7_told_204 : decode cX7_told 204 = .ok (.iastore, 1) := by decide +kernel
theorem dX7_told_205 : decode cX7_told 205 = .ok (.goto 88, 3) := by decide +kernel
theorem dX7_told_208 : decode cX7_told 208 = .ok (.iload 7, 2) := by decide +kernel
theorem dX7_told_210 : decode cX7_told 210 = .ok (.iconst 3, 1) := by decide +kernel
theorem dX7_told_211 : decode cX7_told 211 = .ok (.if_icmp .ne 39, 3) := by decide +kernel
theorem dX7_told_214 : decode cX7_told 214 = .ok (.iinc 5 (-1), 3) := by decide +kernel
theorem dX7_told_217 : decode cX7_told 217 = .ok (.aload_n 0, 1) := by decide +kernel
theorem dX7_told_218 : decode cX7_told 218 = .ok (.getfield 29, 3) := by decide +kernel
theorem dX7_told_221 : decode cX7_told 221 = .ok (.iload 5, 2) := by decide +kernel
theorem dX7_told_223 : decode cX7_told 223 = .ok (.iconst 1, 1) := by decide +kernel
theorem dX7_told_224 : decode cX7_told 224 = .ok (.isub, 1) := by decide +kernel
theorem dX7_told_225 : decode cX7_told 225 = .ok (.iload 8, 2) := by decide +kernel
theorem dX7_told_227 : decode cX7_told 227 = .ok (.aload_n 0, 1) := by decide +kernel
theorem dX7_told_228 : decode cX7_told 228 = .ok (.getfield 29, 3) := by decide +kernel
theorem dX7_told_231 : decode cX7_told 231 = .ok (.iload 5, 2) := by decide +kernel
theorem dX7_told_233 : decode cX7_told 233 = .ok (.iconst 1, 1) := by decide +kernel
theorem dX7_told_234 : decode cX7_told 234 = .ok (.isub, 1) := by decide +kernel
theorem dX7_told_235 : decode cX7_told 235 = .ok (.iaload, 1) := by decide +kernel
theorem dX7_told_236 : decode cX7_told 236 = .ok (.aload_n 0, 1) := by decide +kernel
theorem dX7_told_237 : decode cX7_told 237 = .ok (.getfield 29, 3) := by decide +kernel
theorem dX7_told_240 : decode cX7_told 240 = .ok (.iload 5, 2) := by decide +kernel
theorem dX7_told_242 : decode cX7_told 242 = .ok (.iaload, 1) := by decide +kernel
theorem dX7_told_243 : decode cX7_told 243 = .ok (.invokestatic 245, 3) := by decide +kernel
theorem dX7_told_246 : decode cX7_told 246 = .ok (.iastore, 1) := by decide +kernel
theorem dX7_told_247 : decode cX7_told 247 = .ok (.goto 46, 3) := by decide +kernel
theorem dX7_told_250 : decode cX7_told 250 = .ok (.iinc 5 (-2), 3) := by decide +kernel
theorem dX7_told_253 : decode cX7_told 253 = .ok (.aload_n 0, 1) := by decide +kernel
theorem dX7_told_254 : decode cX7_told 254 = .ok (.getfield 29, 3) := by decide +kernel
theorem dX7_told_257 : decode cX7_told 257 = .ok (.iload 5, 2) := by decide +kernel
theorem dX7_told_259 : decode cX7_told 259 = .ok (.iconst 1, 1) := by decide +kernel
theorem dX7_told_260 : decode cX7_told 260 = .ok (.isub, 1) := by decide +kernel
theorem dX7_told_261 : decode cX7_told 261 = .ok (.aload_n 0, 1) := by decide +kernel
theorem dX7_told_262 : decode cX7_told 262 = .ok (.getfield 29, 3) := by decide +kernel
theorem dX7_told_265 : decode cX7_told 265 = .ok (.iload 5, 2) := by decide +kernel
theorem dX7_told_267 : decode cX7_told 267 = .ok (.iconst 1, 1) := by decide +kernel
theorem dX7_told_268 : decode cX7_told 268 = .ok (.isub, 1) := by decide +kernel
theorem dX7_told_269 : decode cX7_told 269 = .ok (.iaload, 1) := by decide +kernel
theorem dX7_told_270 : decode cX7_told 270 = .ok (.ifCond .eq 13, 3) := by decide +kernel
theorem dX7_told_273 : decode cX7_told 273 = .ok (.aload_n 0, 1) := by decide +kernel
theorem dX7_told_274 : decode cX7_told 274 = .ok (.getfield 29, 3) := by decide +kernel
theorem dX7_told_277 : decode cX7_told 277 = .ok (.iload 5, 2) := by decide +kernel
theorem dX7_told_279 : decode cX7_told 279 = .ok (.iaload, 1) := by decide +kernel
theorem dX7_told_280 : decode cX7_told 280 = .ok (.goto 12, 3) := by decide +kernel
theorem dX7_told_283 : decode cX7_told 283 = .ok (.aload_n 0, 1) := by decide +kernel
theorem dX7_told_284 : decode cX7_told 284 = .ok (.getfield 29, 3) := by decide +kernel
theorem dX7_told_287 : decode cX7_told 287 = .ok (.iload 5, 2) := by decide +kernel
theorem dX7_told_289 : decode cX7_told 289 = .ok (.iconst 1, 1) := by decide +kernel
theorem dX7_told_290 : decode cX7_told 290 = .ok (.iadd, 1) := by decide +kernel
theorem dX7_told_291 : decode cX7_told 291 = .ok (.iaload, 1) := by decide +kernel
theorem dX7_told_292 : decode cX7_told 292 = .ok (.iastore, 1) := by decide +kernel
theorem dX7_told_293 : decode cX7_told 293 = .ok (.iinc 6 1, 3) := by decide +kernel
theorem dX7_told_296 : decode cX7_told 296 = .ok (.goto (-196), 3) := by decide +kernel
theorem dX7_told_299 : decode cX7_told 299 = .ok (.aload_n 0, 1) := by decide +kernel
theorem dX7_told_300 : decode cX7_told 300 = .ok (.getfield 29, 3) := by decide +kernel
theorem dX7_told_303 : decode cX7_told 303 = .ok (.iconst 0, 1) := by decide +kernel
theorem dX7_told_304 : decode cX7_told 304 = .ok (.iaload, 1) := by decide +kernel
theorem dX7_told_305 : decode cX7_told 305 = .ok (.ireturn, 1) := by decide +kernel
theorem dX7_movesBy_0 : decode cX7_movesBy 0 = .ok (.aload_n 0, 1) := by decide +kernel
theorem dX7_movesBy_1 : decode cX7_movesBy 1 = .ok (.iload_n 1, 1) := by decide +kernel
theorem dX7_movesBy_2 : decode cX7_movesBy 2 = .ok (.iload_n 2, 1) := by decide +kernel
theorem dX7_movesBy_3 : decode cX7_movesBy 3 = .ok (.iload_n 3, 1) := by decide +kernel
theorem dX7_movesBy_4 : decode cX7_movesBy 4 = .ok (.invokevirtual 248, 3) := by decide +kernel
theorem dX7_movesBy_7 : decode cX7_movesBy 7 = .ok (.istore 4, 2) := by decide +kernel
theorem dX7_movesBy_9 : decode cX7_movesBy 9 = .ok (.iload 4, 2) := by decide +kernel
theorem dX7_movesBy_11 : decode cX7_movesBy 11 = .ok (.bipush (-24), 2) := by decide +kernel
theorem dX7_movesBy_13 : decode cX7_movesBy 13 = .ok (.if_icmp .ge 8, 3) := by decide +kernel
theorem dX7_movesBy_16 : decode cX7_movesBy 16 = .ok (.bipush (-24), 2) := by decide +kernel
theorem dX7_movesBy_18 : decode cX7_movesBy 18 = .ok (.goto 17, 3) := by decide +kernel
theorem dX7_movesBy_21 : decode cX7_movesBy 21 = .ok (.iload 4, 2) := by decide +kernel
theorem dX7_movesBy_23 : decode cX7_movesBy 23 = .ok (.bipush 24, 2) := by decide +kernel
theorem dX7_movesBy_25 : decode cX7_movesBy 25 = .ok (.if_icmp .le 8, 3) := by decide +kernel
theorem dX7_movesBy_28 : decode cX7_movesBy 28 = .ok (.bipush 24, 2) := by decide +kernel
theorem dX7_movesBy_30 : decode cX7_movesBy 30 = .ok (.goto 5, 3) := by decide +kernel
theorem dX7_movesBy_33 : decode cX7_movesBy 33 = .ok (.iload 4, 2) := by decide +kernel
theorem dX7_movesBy_35 : decode cX7_movesBy 35 = .ok (.istore 5, 2) := by decide +kernel
theorem dX7_movesBy_37 : decode cX7_movesBy 37 = .ok (.aload_n 0, 1) := by decide +kernel
theorem dX7_movesBy_38 : decode cX7_movesBy 38 = .ok (.iload_n 2, 1) := by decide +kernel
theorem dX7_movesBy_39 : decode cX7_movesBy 39 = .ok (.iload_n 3, 1) := by decide +kernel
theorem dX7_movesBy_40 : decode cX7_movesBy 40 = .ok (.iload 5, 2) := by decide +kernel
theorem dX7_movesBy_42 : decode cX7_movesBy 42 = .ok (.invokevirtual 118, 3) := by decide +kernel
theorem dX7_movesBy_45 : decode cX7_movesBy 45 = .ok (.ifCond .ne 21, 3) := by decide +kernel
theorem dX7_movesBy_48 : decode cX7_movesBy 48 = .ok (.iload 5, 2) := by decide +kernel
theorem dX7_movesBy_50 : decode cX7_movesBy 50 = .ok (.iload 5, 2) := by decide +kernel
theorem dX7_movesBy_52 : decode cX7_movesBy 52 = .ok (.ifCond .le 7, 3) := by decide +kernel
theorem dX7_movesBy_55 : decode cX7_movesBy 55 = .ok (.iconst (-1), 1) := by decide +kernel
theorem dX7_movesBy_56 : decode cX7_movesBy 56 = .ok (.goto 4, 3) := by decide +kernel
theorem dX7_movesBy_59 : decode cX7_movesBy 59 = .ok (.iconst 1, 1) := by decide +kernel
theorem dX7_movesBy_60 : decode cX7_movesBy 60 = .ok (.iadd, 1) := by decide +kernel
theorem dX7_movesBy_61 : decode cX7_movesBy 61 = .ok (.istore 5, 2) := by decide +kernel
theorem dX7_movesBy_63 : decode cX7_movesBy 63 = .ok (.goto (-26), 3) := by decide +kernel
theorem dX7_movesBy_66 : decode cX7_movesBy 66 = .ok (.iload 5, 2) := by decide +kernel
theorem dX7_movesBy_68 : decode cX7_movesBy 68 = .ok (.ireturn, 1) := by decide +kernel
theorem dX7_says_0 : decode cX7_says 0 = .ok (.iload_n 1, 1) := by decide +kernel
theorem dX7_says_1 : decode cX7_says 1 = .ok (.i2l, 1) := by decide +kernel
theorem dX7_says_2 : decode cX7_says 2 = .ok (.lconst 0, 1) := by decide +kernel
theorem dX7_says_3 : decode cX7_says 3 = .ok (.lconst 1, 1) := by decide +kernel
theorem dX7_says_4 : decode cX7_says 4 = .ok (.invokestatic 85, 3) := by decide +kernel
theorem dX7_says_7 : decode cX7_says 7 = .ok (.ifCond .ne 9, 3) := by decide +kernel
theorem dX7_says_10 : decode cX7_says 10 = .ok (.aload_n 0, 1) := by decide +kernel
theorem dX7_says_11 : decode cX7_says 11 = .ok (.iconst 0, 1) := by decide +kernel
theorem dX7_says_12 : decode cX7_says 12 = .ok (.invokevirtual 93, 3) := by decide +kernel
theorem dX7_says_15 : decode cX7_says 15 = .ok (.ireturn, 1) := by decide +kernel
theorem dX7_says_16 : decode cX7_says 16 = .ok (.iload_n 1, 1) := by decide +kernel
theorem dX7_says_17 : decode cX7_says 17 = .ok (.ifCond .ne 22, 3) := by decide +kernel
theorem dX7_says_20 : decode cX7_says 20 = .ok (.aload_n 0, 1) := by decide +kernel
theorem dX7_says_21 : decode cX7_says 21 = .ok (.aload_n 0, 1) := by decide +kernel
theorem dX7_says_22 : decode cX7_says 22 = .ok (.invokevirtual 129, 3) := by decide +kernel
theorem dX7_says_25 : decode cX7_says 25 = .ok (.aload_n 0, 1) := by decide +kernel
theorem dX7_says_26 : decode cX7_says 26 = .ok (.invokevirtual 111, 3) := by decide +kernel
theorem dX7_says_29 : decode cX7_says 29 = .ok (.aload_n 0, 1) := by decide +kernel
theorem dX7_says_30 : decode cX7_says 30 = .ok (.invokevirtual 115, 3) := by decide +kernel
theorem dX7_says_33 : decode cX7_says 33 = .ok (.invokevirtual 248, 3) := by decide +kernel
theorem dX7_says_36 : decode cX7_says 36 = .ok (.goto 19, 3) := by decide +kernel
theorem dX7_says_39 : decode cX7_says 39 = .ok (.aload_n 0, 1) := by decide +kernel
theorem dX7_says_40 : decode cX7_says 40 = .ok (.aload_n 0, 1) := by decide +kernel
theorem dX7_says_41 : decode cX7_says 41 = .ok (.invokevirtual 129, 3) := by decide +kernel
theorem dX7_says_44 : decode cX7_says 44 = .ok (.aload_n 0, 1) := by decide +kernel
theorem dX7_says_45 : decode cX7_says 45 = .ok (.invokevirtual 111, 3) := by decide +kernel
theorem dX7_says_48 : decode cX7_says 48 = .ok (.aload_n 0, 1) := by decide +kernel
theorem dX7_says_49 : decode cX7_says 49 = .ok (.invokevirtual 115, 3) := by decide +kernel
theorem dX7_says_52 : decode cX7_says 52 = .ok (.invokevirtual 136, 3) := by decide +kernel
theorem dX7_says_55 : decode cX7_says 55 = .ok (.ireturn, 1) := by decide +kernel
theorem dX7_place_0 : decode cX7_place 0 = .ok (.sipush 1525, 3) := by decide +kernel
theorem dX7_place_3 : decode cX7_place 3 = .ok (.iload_n 0, 1) := by decide +kernel
theorem dX7_place_4 : decode cX7_place 4 = .ok (.imul, 1) := by decide +kernel
theorem dX7_place_5 : decode cX7_place 5 = .ok (.bipush 61, 2) := by decide +kernel
theorem dX7_place_7 : decode cX7_place 7 = .ok (.iload_n 1, 1) := by decide +kernel
theorem dX7_place_8 : decode cX7_place 8 = .ok (.bipush 12, 2) := by decide +kernel
theorem dX7_place_10 : decode cX7_place 10 = .ok (.iadd, 1) := by decide +kernel
theorem dX7_place_11 : decode cX7_place 11 = .ok (.imul, 1) := by decide +kernel
theorem dX7_place_12 : decode cX7_place 12 = .ok (.iadd, 1) := by decide +kernel
theorem dX7_place_13 : decode cX7_place 13 = .ok (.iload_n 2, 1) := by decide +kernel
theorem dX7_place_14 : decode cX7_place 14 = .ok (.iadd, 1) := by decide +kernel
theorem dX7_place_15 : decode cX7_place 15 = .ok (.ireturn, 1) := by decide +kernel
theorem dX7_dayWorth_0 : decode cX7_dayWorth 0 = .ok (.aload_n 0, 1) := by decide +kernel
theorem dX7_dayWorth_1 : decode cX7_dayWorth 1 = .ok (.iload_n 2, 1) := by decide +kernel
theorem dX7_dayWorth_2 : decode cX7_dayWorth 2 = .ok (.invokevirtual 126, 3) := by decide +kernel
theorem dX7_dayWorth_5 : decode cX7_dayWorth 5 = .ok (.aload_n 0, 1) := by decide +kernel
theorem dX7_dayWorth_6 : decode cX7_dayWorth 6 = .ok (.getfield 7, 3) := by decide +kernel
theorem dX7_dayWorth_9 : decode cX7_dayWorth 9 = .ok (.iconst 5, 1) := by decide +kernel
theorem dX7_dayWorth_10 : decode cX7_dayWorth 10 = .ok (.laload, 1) := by decide +kernel
theorem dX7_dayWorth_11 : decode cX7_dayWorth 11 = .ok (.aload_n 0, 1) := by decide +kernel
theorem dX7_dayWorth_12 : decode cX7_dayWorth 12 = .ok (.iload_n 1, 1) := by decide +kernel
theorem dX7_dayWorth_13 : decode cX7_dayWorth 13 = .ok (.iload_n 2, 1) := by decide +kernel
theorem dX7_dayWorth_14 : decode cX7_dayWorth 14 = .ok (.invokevirtual 132, 3) := by decide +kernel
theorem dX7_dayWorth_17 : decode cX7_dayWorth 17 = .ok (.i2l, 1) := by decide +kernel
theorem dX7_dayWorth_18 : decode cX7_dayWorth 18 = .ok (.lmul, 1) := by decide +kernel
theorem dX7_dayWorth_19 : decode cX7_dayWorth 19 = .ok (.ldc2_w 66, 3) := by decide +kernel
theorem dX7_dayWorth_22 : decode cX7_dayWorth 22 = .ok (.ldiv, 1) := by decide +kernel
theorem dX7_dayWorth_23 : decode cX7_dayWorth 23 = .ok (.lsub, 1) := by decide +kernel
theorem dX7_dayWorth_24 : decode cX7_dayWorth 24 = .ok (.lreturn, 1) := by decide +kernel
theorem dX7_moveAt_0 : decode cX7_moveAt 0 = .ok (.iload_n 0, 1) := by decide +kernel
theorem dX7_moveAt_1 : decode cX7_moveAt 1 = .ok (.iconst 2, 1) := by decide +kernel
theorem dX7_moveAt_2 : decode cX7_moveAt 2 = .ok (.irem, 1) := by decide +kernel
theorem dX7_moveAt_3 : decode cX7_moveAt 3 = .ok (.iconst 1, 1) := by decide +kernel
theorem dX7_moveAt_4 : decode cX7_moveAt 4 = .ok (.if_icmp .ne 12, 3) := by decide +kernel
theorem dX7_moveAt_7 : decode cX7_moveAt 7 = .ok (.iload_n 0, 1) := by decide +kernel
theorem dX7_moveAt_8 : decode cX7_moveAt 8 = .ok (.iconst 1, 1) := by decide +kernel
theorem dX7_moveAt_9 : decode cX7_moveAt 9 = .ok (.iadd, 1) := by decide +kernel
theorem dX7_moveAt_10 : decode cX7_moveAt 10 = .ok (.ineg, 1) := by decide +kernel
theorem dX7_moveAt_11 : decode cX7_moveAt 11 = .ok (.iconst 2, 1) := by decide +kernel
theorem dX7_moveAt_12 : decode cX7_moveAt 12 = .ok (.idiv, 1) := by decide +kernel
theorem dX7_moveAt_13 : decode cX7_moveAt 13 = .ok (.goto 6, 3) := by decide +kernel
theorem dX7_moveAt_16 : decode cX7_moveAt 16 = .ok (.iload_n 0, 1) := by decide +kernel
theorem dX7_moveAt_17 : decode cX7_moveAt 17 = .ok (.iconst 2, 1) := by decide +kernel
theorem dX7_moveAt_18 : decode cX7_moveAt 18 = .ok (.idiv, 1) := by decide +kernel
theorem dX7_moveAt_19 : decode cX7_moveAt 19 = .ok (.ireturn, 1) := by decide +kernel
theorem dX7_findBest_0 : decode cX7_findBest 0 = .ok (.iconst 1, 1) := by decide +kernel
theorem dX7_findBest_1 : decode cX7_findBest 1 = .ok (.istore_n 2, 1) := by decide +kernel
theorem dX7_findBest_2 : decode cX7_findBest 2 = .ok (.iload_n 2, 1) := by decide +kernel
theorem dX7_findBest_3 : decode cX7_findBest 3 = .ok (.iload_n 1, 1) := by decide +kernel
theorem dX7_findBest_4 : decode cX7_findBest 4 = .ok (.if_icmp .gt 87, 3) := by decide +kernel
theorem dX7_findBest_7 : decode cX7_findBest 7 = .ok (.bipush (-12), 2) := by decide +kernel
theorem dX7_findBest_9 : decode cX7_findBest 9 = .ok (.istore_n 3, 1) := by decide +kernel
theorem dX7_findBest_10 : decode cX7_findBest 10 = .ok (.iload_n 3, 1) := by decide +kernel
theorem dX7_findBest_11 : decode cX7_findBest 11 = .ok (.bipush 12, 2) := by decide +kernel
theorem dX7_findBest_13 : decode cX7_findBest 13 = .ok (.if_icmp .gt 33, 3) := by decide +kernel
theorem dX7_findBest_16 : decode cX7_findBest 16 = .ok (.aload_n 0, 1) := by decide +kernel
theorem dX7_findBest_17 : decode cX7_findBest 17 = .ok (.getfield 41, 3) := by decide +kernel
theorem dX7_findBest_20 : decode cX7_findBest 20 = .ok (.iload_n 3, 1) := by decide +kernel
theorem dX7_findBest_21 : decode cX7_findBest 21 = .ok (.bipush 12, 2) := by decide +kernel
theorem dX7_findBest_23 : decode cX7_findBest 23 = .ok (.iadd, 1) := by decide +kernel
theorem dX7_findBest_24 : decode cX7_findBest 24 = .ok (.aload_n 0, 1) := by decide +kernel
theorem dX7_findBest_25 : decode cX7_findBest 25 = .ok (.aload_n 0, 1) := by decide +kernel
theorem dX7_findBest_26 : decode cX7_findBest 26 = .ok (.invokevirtual 129, 3) := by decide +kernel
theorem dX7_findBest_29 : decode cX7_findBest 29 = .ok (.iload_n 1, 1) := by decide +kernel
theorem dX7_findBest_30 : decode cX7_findBest 30 = .ok (.iadd, 1) := by decide +kernel
theorem dX7_findBest_31 : decode cX7_findBest 31 = .ok (.iload_n 2, 1) := by decide +kernel
theorem dX7_findBest_32 : decode cX7_findBest 32 = .ok (.isub, 1) := by decide +kernel
theorem dX7_findBest_33 : decode cX7_findBest 33 = .ok (.iconst 1, 1) := by decide +kernel
theorem dX7_findBest_34 : decode cX7_findBest 34 = .ok (.iadd, 1) := by decide +kernel
theorem dX7_findBest_35 : decode cX7_findBest 35 = .ok (.iload_n 3, 1) := by decide +kernel
theorem dX7_findBest_36 : decode cX7_findBest 36 = .ok (.invokevirtual 251, 3) := by decide +kernel
theorem dX7_findBest_39 : decode cX7_findBest 39 = .ok (.lastore, 1) := by decide +kernel
theorem dX7_findBest_40 : decode cX7_findBest 40 = .ok (.iinc 3 1, 3) := by decide +kernel
theorem dX7_findBest_43 : decode cX7_findBest 43 = .ok (.goto (-33), 3) := by decide +kernel
theorem dX7_findBest_46 : decode cX7_findBest 46 = .ok (.bipush (-12), 2) := by decide +kernel
theorem dX7_findBest_48 : decode cX7_findBest 48 = .ok (.istore_n 3, 1) := by decide +kernel
theorem dX7_findBest_49 : decode cX7_findBest 49 = .ok (.iload_n 3, 1) := by decide +kernel
theorem dX7_findBest_50 : decode cX7_findBest 50 = .ok (.bipush 12, 2) := by decide +kernel
theorem dX7_findBest_52 : decode cX7_findBest 52 = .ok (.if_icmp .gt 33, 3) := by decide +kernel
theorem dX7_findBest_55 : decode cX7_findBest 55 = .ok (.iconst 0, 1) := by decide +kernel
theorem dX7_findBest_56 : decode cX7_findBest 56 = .ok (.istore 4, 2) := by decide +kernel
theorem dX7_findBest_58 : decode cX7_findBest 58 = .ok (.iload 4, 2) := by decide +kernel
theorem dX7_findBest_60 : decode cX7_findBest 60 = .ok (.bipush 60, 2) := by decide +kernel
theorem dX7_findBest_62 : decode cX7_findBest 62 = .ok (.if_icmp .gt 17, 3) := by decide +kernel
theorem dX7_findBest_65 : decode cX7_findBest 65 = .ok (.aload_n 0, 1) := by decide +kernel
theorem dX7_findBest_66 : decode cX7_findBest 66 = .ok (.iload_n 2, 1) := by decide +kernel
theorem dX7_findBest_67 : decode cX7_findBest 67 = .ok (.iload_n 3, 1) := by decide +kernel
theorem dX7_findBest_68 : decode cX7_findBest 68 = .ok (.iload 4, 2) := by decide +kernel
theorem dX7_findBest_70 : decode cX7_findBest 70 = .ok (.invokevirtual 255, 3) := by decide +kernel
theorem dX7_findBest_73 : decode cX7_findBest 73 = .ok (.iinc 4 1, 3) := by decide +kernel
theorem dX7_findBest_76 : decode cX7_findBest 76 = .ok (.goto (-18), 3) := by decide +kernel
theorem dX7_findBest_79 : decode cX7_findBest 79 = .ok (.iinc 3 1, 3) := by decide +kernel
theorem dX7_findBest_82 : decode cX7_findBest 82 = .ok (.goto (-33), 3) := by decide +kernel
theorem dX7_findBest_85 : decode cX7_findBest 85 = .ok (.iinc 2 1, 3) := by decide +kernel
theorem dX7_findBest_88 : decode cX7_findBest 88 = .ok (.goto (-86), 3) := by decide +kernel
theorem dX7_findBest_91 : decode cX7_findBest 91 = .ok (.return_, 1) := by decide +kernel
theorem dX7_findOne_0 : decode cX7_findOne 0 = .ok (.iload_n 1, 1) := by decide +kernel
theorem dX7_findOne_1 : decode cX7_findOne 1 = .ok (.iload_n 2, 1) := by decide +kernel
theorem dX7_findOne_2 : decode cX7_findOne 2 = .ok (.iload_n 3, 1) := by decide +kernel
theorem dX7_findOne_3 : decode cX7_findOne 3 = .ok (.invokestatic 259, 3) := by decide +kernel
theorem dX7_findOne_6 : decode cX7_findOne 6 = .ok (.istore 4, 2) := by decide +kernel
theorem dX7_findOne_8 : decode cX7_findOne 8 = .ok (.iconst 0, 1) := by decide +kernel
theorem dX7_findOne_9 : decode cX7_findOne 9 = .ok (.istore 5, 2) := by decide +kernel
theorem dX7_findOne_11 : decode cX7_findOne 11 = .ok (.iconst 0, 1) := by decide +kernel
theorem dX7_findOne_12 : decode cX7_findOne 12 = .ok (.istore 6, 2) := by decide +kernel
theorem dX7_findOne_14 : decode cX7_findOne 14 = .ok (.iload 6, 2) := by decide +kernel
theorem dX7_findOne_16 : decode cX7_findOne 16 = .ok (.bipush 49, 2) := by decide +kernel
theorem dX7_findOne_18 : decode cX7_findOne 18 = .ok (.if_icmp .ge 184, 3) := by decide +kernel
theorem dX7_findOne_21 : decode cX7_findOne 21 = .ok (.iload 6, 2) := by decide +kernel
theorem dX7_findOne_23 : decode cX7_findOne 23 = .ok (.invokestatic 262, 3) := by decide +kernel
theorem dX7_findOne_26 : decode cX7_findOne 26 = .ok (.istore 7, 2) := by decide +kernel
theorem dX7_findOne_28 : decode cX7_findOne 28 = .ok (.aload_n 0, 1) := by decide +kernel
theorem dX7_findOne_29 : decode cX7_findOne 29 = .ok (.iload_n 2, 1) := by decide +kernel
theorem dX7_findOne_30 : decode cX7_findOne 30 = .ok (.iload_n 3, 1) := by decide +kernel
theorem dX7_findOne_31 : decode cX7_findOne 31 = .ok (.iload 7, 2) := by decide +kernel
theorem dX7_findOne_33 : decode cX7_findOne 33 = .ok (.invokevirtual 118, 3) := by decide +kernel
theorem dX7_findOne_36 : decode cX7_findOne 36 = .ok (.ifCond .ne 6, 3) := by decide +kernel
theorem dX7_findOne_39 : decode cX7_findOne 39 = .ok (.goto 157, 3) := by decide +kernel
theorem dX7_findOne_42 : decode cX7_findOne 42 = .ok (.aload_n 0, 1) := by decide +kernel
theorem dX7_findOne_43 : decode cX7_findOne 43 = .ok (.iconst 2, 1) := by decide +kernel
theorem dX7_findOne_44 : decode cX7_findOne 44 = .ok (.invokevirtual 71, 3) := by decide +kernel
theorem dX7_findOne_47 : decode cX7_findOne 47 = .ok (.iload 7, 2) := by decide +kernel
theorem dX7_findOne_49 : decode cX7_findOne 49 = .ok (.invokestatic 100, 3) := by decide +kernel
theorem dX7_findOne_52 : decode cX7_findOne 52 = .ok (.imul, 1) := by decide +kernel
theorem dX7_findOne_53 : decode cX7_findOne 53 = .ok (.istore 8, 2) := by decide +kernel
theorem dX7_findOne_55 : decode cX7_findOne 55 = .ok (.iload_n 1, 1) := by decide +kernel
theorem dX7_findOne_56 : decode cX7_findOne 56 = .ok (.iconst 1, 1) := by decide +kernel
theorem dX7_findOne_57 : decode cX7_findOne 57 = .ok (.isub, 1) := by decide +kernel
theorem dX7_findOne_58 : decode cX7_findOne 58 = .ok (.iload_n 2, 1) := by decide +kernel
theorem dX7_findOne_59 : decode cX7_findOne 59 = .ok (.iload 7, 2) := by decide +kernel
theorem dX7_findOne_61 : decode cX7_findOne 61 = .ok (.iadd, 1) := by decide +kernel
theorem dX7_findOne_62 : decode cX7_findOne 62 = .ok (.iload_n 3, 1) := by decide +kernel
theorem dX7_findOne_63 : decode cX7_findOne 63 = .ok (.iload 8, 2) := by decide +kernel
theorem dX7_findOne_65 : decode cX7_findOne 65 = .ok (.isub, 1) := by decide +kernel
theorem dX7_findOne_66 : decode cX7_findOne 66 = .ok (.invokestatic 259, 3) := by decide +kernel
theorem dX7_findOne_69 : decode cX7_findOne 69 = .ok (.istore 9, 2) := by decide +kernel
theorem dX7_findOne_71 : decode cX7_findOne 71 = .ok (.aload_n 0, 1) := by decide +kernel
theorem dX7_findOne_72 : decode cX7_findOne 72 = .ok (.getfield 41, 3) := by decide +kernel
theorem dX7_findOne_75 : decode cX7_findOne 75 = .ok (.iload_n 2, 1) := by decide +kernel
theorem dX7_findOne_76 : decode cX7_findOne 76 = .ok (.iload 7, 2) := by decide +kernel
theorem dX7_findOne_78 : decode cX7_findOne 78 = .ok (.iadd, 1) := by decide +kernel
theorem dX7_findOne_79 : decode cX7_findOne 79 = .ok (.bipush 12, 2) := by decide +kernel
theorem dX7_findOne_81 : decode cX7_findOne 81 = .ok (.iadd, 1) := by decide +kernel
theorem dX7_findOne_82 : decode cX7_findOne 82 = .ok (.laload, 1) := by decide +kernel
theorem dX7_findOne_83 : decode cX7_findOne 83 = .ok (.iload_n 1, 1) := by decide +kernel
theorem dX7_findOne_84 : decode cX7_findOne 84 = .ok (.iconst 1, 1) := by decide +kernel
theorem dX7_findOne_85 : decode cX7_findOne 85 = .ok (.if_icmp .ne 7, 3) := by decide +kernel
theorem dX7_findOne_88 : decode cX7_findOne 88 = .ok (.lconst 0, 1) := by decide +kernel
theorem dX7_findOne_89 : decode cX7_findOne 89 = .ok (.goto 10, 3) := by decide +kernel
theorem dX7_findOne_92 : decode cX7_findOne 92 = .ok (.aload_n 0, 1) := by decide +kernel
theorem dX7_findOne_93 : decode cX7_findOne 93 = .ok (.getfield 32, 3) := by decide +kernel
theorem dX7_findOne_96 : decode cX7_findOne 96 = .ok (.iload 9, 2) := by decide +kernel
theorem dX7_findOne_98 : decode cX7_findOne 98 = .ok (.laload, 1) := by decide +kernel
theorem dX7_findOne_99 : decode cX7_findOne 99 = .ok (.ladd, 1) := by decide +kernel
theorem dX7_findOne_100 : decode cX7_findOne 100 = .ok (.lstore 10, 2) := by decide +kernel
theorem dX7_findOne_102 : decode cX7_findOne 102 = .ok (.iload 8, 2) := by decide +kernel
theorem dX7_findOne_104 : decode cX7_findOne 104 = .ok (.iload_n 1, 1) := by decide +kernel
theorem dX7_findOne_105 : decode cX7_findOne 105 = .ok (.iconst 1, 1) := by decide +kernel
theorem dX7_findOne_106 : decode cX7_findOne 106 = .ok (.if_icmp .ne 7, 3) := by decide +kernel
theorem dX7_findOne_109 : decode cX7_findOne 109 = .ok (.iconst 0, 1) := by decide +kernel
theorem dX7_findOne_110 : decode cX7_findOne 110 = .ok (.goto 10, 3) := by decide +kernel
theorem dX7_findOne_113 : decode cX7_findOne 113 = .ok (.aload_n 0, 1) := by decide +kernel
theorem dX7_findOne_114 : decode cX7_findOne 114 = .ok (.getfield 35, 3) := by decide +kernel
theorem dX7_findOne_117 : decode cX7_findOne 117 = .ok (.iload 9, 2) := by decide +kernel
theorem dX7_findOne_119 : decode cX7_findOne 119 = .ok (.iaload, 1) := by decide +kernel
theorem dX7_findOne_120 : decode cX7_findOne 120 = .ok (.iadd, 1) := by decide +kernel
theorem dX7_findOne_121 : decode cX7_findOne 121 = .ok (.istore 12, 2) := by decide +kernel
theorem dX7_findOne_123 : decode cX7_findOne 123 = .ok (.iload 5, 2) := by decide +kernel
theorem dX7_findOne_125 : decode cX7_findOne 125 = .ok (.ifCond .eq 41, 3) := by decide +kernel
theorem dX7_findOne_128 : decode cX7_findOne 128 = .ok (.lload 10, 2) := by decide +kernel
theorem dX7_findOne_130 : decode cX7_findOne 130 = .ok (.aload_n 0, 1) := by decide +kernel
theorem dX7_findOne_131 : decode cX7_findOne 131 = .ok (.getfield 32, 3) := by decide +kernel
theorem dX7_findOne_134 : decode cX7_findOne 134 = .ok (.iload 4, 2) := by decide +kernel
theorem dX7_findOne_136 : decode cX7_findOne 136 = .ok (.laload, 1) := by decide +kernel
theorem dX7_findOne_137 : decode cX7_findOne 137 = .ok (.lcmp, 1) := by decide +kernel
theorem dX7_findOne_138 : decode cX7_findOne 138 = .ok (.ifCond .gt 28, 3) := by decide +kernel
theorem dX7_findOne_141 : decode cX7_findOne 141 = .ok (.lload 10, 2) := by decide +kernel
theorem dX7_findOne_143 : decode cX7_findOne 143 = .ok (.aload_n 0, 1) := by decide +kernel
theorem dX7_findOne_144 : decode cX7_findOne 144 = .ok (.getfield 32, 3) := by decide +kernel
theorem dX7_findOne_147 : decode cX7_findOne 147 = .ok (.iload 4, 2) := by decide +kernel
theorem dX7_findOne_149 : decode cX7_findOne 149 = .ok (.laload, 1) := by decide +kernel
theorem dX7_findOne_150 : decode cX7_findOne 150 = .ok (.lcmp, 1) := by decide +kernel
theorem dX7_findOne_151 : decode cX7_findOne 151 = .ok (.ifCond .ne 45, 3) := by decide +kernel
theorem dX7_findOne_154 : decode cX7_findOne 154 = .ok (.iload 12, 2) := by decide +kernel
theorem dX7_findOne_156 : decode cX7_findOne 156 = .ok (.aload_n 0, 1) := by decide +kernel
theorem dX7_findOne_157 : decode cX7_findOne 157 = .ok (.getfield 35, 3) := by decide +kernel
theorem dX7_findOne_160 : decode cX7_findOne 160 = .ok (.iload 4, 2) := by decide +kernel
theorem dX7_findOne_162 : decode cX7_findOne 162 = .ok (.iaload, 1) := by decide +kernel
theorem dX7_findOne_163 : decode cX7_findOne 163 = .ok (.if_icmp .ge 33, 3) := by decide +kernel
theorem dX7_findOne_166 : decode cX7_findOne 166 = .ok (.iconst 1, 1) := by decide +kernel
theorem dX7_findOne_167 : decode cX7_findOne 167 = .ok (.istore 5, 2) := by decide +kernel
theorem dX7_findOne_169 : decode cX7_findOne 169 = .ok (.aload_n 0, 1) := by decide +kernel
theorem dX7_findOne_170 : decode cX7_findOne 170 = .ok (.getfield 32, 3) := by decide +kernel
theorem dX7_findOne_173 : decode cX7_findOne 173 = .ok (.iload 4, 2) := by decide +kernel
theorem dX7_findOne_175 : decode cX7_findOne 175 = .ok (.lload 10, 2) := by decide +kernel
theorem dX7_findOne_177 : decode cX7_findOne 177 = .ok (.lastore, 1) := by decide +kernel
theorem dX7_findOne_178 : decode cX7_findOne 178 = .ok (.aload_n 0, 1) := by decide +kernel
theorem dX7_findOne_179 : decode cX7_findOne 179 = .ok (.getfield 35, 3) := by decide +kernel
theorem dX7_findOne_182 : decode cX7_findOne 182 = .ok (.iload 4, 2) := by decide +kernel
theorem dX7_findOne_184 : decode cX7_findOne 184 = .ok (.iload 12, 2) := by decide +kernel
theorem dX7_findOne_186 : decode cX7_findOne 186 = .ok (.iastore, 1) := by decide +kernel
theorem dX7_findOne_187 : decode cX7_findOne 187 = .ok (.aload_n 0, 1) := by decide +kernel
theorem dX7_findOne_188 : decode cX7_findOne 188 = .ok (.getfield 38, 3) := by decide +kernel
theorem dX7_findOne_191 : decode cX7_findOne 191 = .ok (.iload 4, 2) := by decide +kernel
theorem dX7_findOne_193 : decode cX7_findOne 193 = .ok (.iload 7, 2) := by decide +kernel
theorem dX7_findOne_195 : decode cX7_findOne 195 = .ok (.iastore, 1) := by decide +kernel
theorem dX7_findOne_196 : decode cX7_findOne 196 = .ok (.iinc 6 1, 3) := by decide +kernel
theorem dX7_findOne_199 : decode cX7_findOne 199 = .ok (.goto (-185), 3) := by decide +kernel
theorem dX7_findOne_202 : decode cX7_findOne 202 = .ok (.return_, 1) := by decide +kernel
theorem dX7_bestWorth_0 : decode cX7_bestWorth 0 = .ok (.aload_n 0, 1) := by decide +kernel
theorem dX7_bestWorth_1 : decode cX7_bestWorth 1 = .ok (.iload_n 1, 1) := by decide +kernel
theorem dX7_bestWorth_2 : decode cX7_bestWorth 2 = .ok (.invokevirtual 265, 3) := by decide +kernel
theorem dX7_bestWorth_5 : decode cX7_bestWorth 5 = .ok (.aload_n 0, 1) := by decide +kernel
theorem dX7_bestWorth_6 : decode cX7_bestWorth 6 = .ok (.getfield 32, 3) := by decide +kernel
theorem dX7_bestWorth_9 : decode cX7_bestWorth 9 = .ok (.iload_n 1, 1) := by decide +kernel
theorem dX7_bestWorth_10 : decode cX7_bestWorth 10 = .ok (.aload_n 0, 1) := by decide +kernel
theorem dX7_bestWorth_11 : decode cX7_bestWorth 11 = .ok (.invokevirtual 111, 3) := by decide +kernel
theorem dX7_bestWorth_14 : decode cX7_bestWorth 14 = .ok (.aload_n 0, 1) := by decide +kernel
theorem dX7_bestWorth_15 : decode cX7_bestWorth 15 = .ok (.invokevirtual 115, 3) := by decide +kernel
theorem dX7_bestWorth_18 : decode cX7_bestWorth 18 = .ok (.invokestatic 259, 3) := by decide +kernel
theorem dX7_bestWorth_21 : decode cX7_bestWorth 21 = .ok (.laload, 1) := by decide +kernel
theorem dX7_bestWorth_22 : decode cX7_bestWorth 22 = .ok (.lreturn, 1) := by decide +kernel
theorem dX7_moveOf_0 : decode cX7_moveOf 0 = .ok (.aload_n 0, 1) := by decide +kernel
theorem dX7_moveOf_1 : decode cX7_moveOf 1 = .ok (.invokevirtual 111, 3) := by decide +kernel
theorem dX7_moveOf_4 : decode cX7_moveOf 4 = .ok (.istore_n 3, 1) := by decide +kernel
theorem dX7_moveOf_5 : decode cX7_moveOf 5 = .ok (.aload_n 0, 1) := by decide +kernel
theorem dX7_moveOf_6 : decode cX7_moveOf 6 = .ok (.invokevirtual 115, 3) := by decide +kernel
theorem dX7_moveOf_9 : decode cX7_moveOf 9 = .ok (.istore 4, 2) := by decide +kernel
theorem dX7_moveOf_11 : decode cX7_moveOf 11 = .ok (.iconst 0, 1) := by decide +kernel
theorem dX7_moveOf_12 : decode cX7_moveOf 12 = .ok (.istore 5, 2) := by decide +kernel
theorem dX7_moveOf_14 : decode cX7_moveOf 14 = .ok (.iconst 0, 1) := by decide +kernel
theorem dX7_moveOf_15 : decode cX7_moveOf 15 = .ok (.istore 6, 2) := by decide +kernel
theorem dX7_moveOf_17 : decode cX7_moveOf 17 = .ok (.iload 6, 2) := by decide +kernel
theorem dX7_moveOf_19 : decode cX7_moveOf 19 = .ok (.iload_n 2, 1) := by decide +kernel
theorem dX7_moveOf_20 : decode cX7_moveOf 20 = .ok (.if_icmp .gt 47, 3) := by decide +kernel
theorem dX7_moveOf_23 : decode cX7_moveOf 23 = .ok (.aload_n 0, 1) := by decide +kernel
theorem dX7_moveOf_24 : decode cX7_moveOf 24 = .ok (.getfield 38, 3) := by decide +kernel
theorem dX7_moveOf_27 : decode cX7_moveOf 27 = .ok (.iload_n 1, 1) := by decide +kernel
theorem dX7_moveOf_28 : decode cX7_moveOf 28 = .ok (.iload 6, 2) := by decide +kernel
theorem dX7_moveOf_30 : decode cX7_moveOf 30 = .ok (.isub, 1) := by decide +kernel
theorem dX7_moveOf_31 : decode cX7_moveOf 31 = .ok (.iload_n 3, 1) := by decide +kernel
theorem dX7_moveOf_32 : decode cX7_moveOf 32 = .ok (.iload 4, 2) := by decide +kernel
theorem dX7_moveOf_34 : decode cX7_moveOf 34 = .ok (.invokestatic 259, 3) := by decide +kernel
theorem dX7_moveOf_37 : decode cX7_moveOf 37 = .ok (.iaload, 1) := by decide +kernel
theorem dX7_moveOf_38 : decode cX7_moveOf 38 = .ok (.istore 5, 2) := by decide +kernel
theorem dX7_moveOf_40 : decode cX7_moveOf 40 = .ok (.iload_n 3, 1) := by decide +kernel
theorem dX7_moveOf_41 : decode cX7_moveOf 41 = .ok (.iload 5, 2) := by decide +kernel
theorem dX7_moveOf_43 : decode cX7_moveOf 43 = .ok (.iadd, 1) := by decide +kernel
theorem dX7_moveOf_44 : decode cX7_moveOf 44 = .ok (.istore_n 3, 1) := by decide +kernel
theorem dX7_moveOf_45 : decode cX7_moveOf 45 = .ok (.iload 4, 2) := by decide +kernel
theorem dX7_moveOf_47 : decode cX7_moveOf 47 = .ok (.aload_n 0, 1) := by decide +kernel
theorem dX7_moveOf_48 : decode cX7_moveOf 48 = .ok (.iconst 2, 1) := by decide +kernel
theorem dX7_moveOf_49 : decode cX7_moveOf 49 = .ok (.invokevirtual 71, 3) := by decide +kernel
theorem dX7_moveOf_52 : decode cX7_moveOf 52 = .ok (.iload 5, 2) := by decide +kernel
theorem dX7_moveOf_54 : decode cX7_moveOf 54 = .ok (.invokestatic 100, 3) := by decide +kernel
theorem dX7_moveOf_57 : decode cX7_moveOf 57 = .ok (.imul, 1) := by decide +kernel
theorem dX7_moveOf_58 : decode cX7_moveOf 58 = .ok (.isub, 1) := by decide +kernel
theorem dX7_moveOf_59 : decode cX7_moveOf 59 = .ok (.istore 4, 2) := by decide +kernel
theorem dX7_moveOf_61 : decode cX7_moveOf 61 = .ok (.iinc 6 1, 3) := by decide +kernel
theorem dX7_moveOf_64 : decode cX7_moveOf 64 = .ok (.goto (-47), 3) := by decide +kernel
theorem dX7_moveOf_67 : decode cX7_moveOf 67 = .ok (.iload 5, 2) := by decide +kernel
theorem dX7_moveOf_69 : decode cX7_moveOf 69 = .ok (.ireturn, 1) := by decide +kernel
theorem dX7_isAhead_0 : decode cX7_isAhead 0 = .ok (.iload_n 0, 1) := by decide +kernel
theorem dX7_isAhead_1 : decode cX7_isAhead 1 = .ok (.i2l, 1) := by decide +kernel
theorem dX7_isAhead_2 : decode cX7_isAhead 2 = .ok (.lconst 1, 1) := by decide +kernel
theorem dX7_isAhead_3 : decode cX7_isAhead 3 = .ok (.ldc2_w 268, 3) := by decide +kernel
theorem dX7_isAhead_6 : decode cX7_isAhead 6 = .ok (.invokestatic 85, 3) := by decide +kernel
theorem dX7_isAhead_9 : decode cX7_isAhead 9 = .ok (.ireturn, 1) := by decide +kernel
theorem dX7_best_0 : decode cX7_best 0 = .ok (.iload_n 1, 1) := by decide +kernel
theorem dX7_best_1 : decode cX7_best 1 = .ok (.invokestatic 270, 3) := by decide +kernel
theorem dX7_best_4 : decode cX7_best 4 = .ok (.ifCond .eq 15, 3) := by decide +kernel
theorem dX7_best_7 : decode cX7_best 7 = .ok (.iload_n 2, 1) := by decide +kernel
theorem dX7_best_8 : decode cX7_best 8 = .ok (.i2l, 1) := by decide +kernel
theorem dX7_best_9 : decode cX7_best 9 = .ok (.lconst 0, 1) := by decide +kernel
theorem dX7_best_10 : decode cX7_best 10 = .ok (.ldc2_w 273, 3) := by decide +kernel
theorem dX7_best_13 : decode cX7_best 13 = .ok (.invokestatic 85, 3) := by decide +kernel
theorem dX7_best_16 : decode cX7_best 16 = .ok (.ifCond .ne 10, 3) := by decide +kernel
theorem dX7_best_19 : decode cX7_best 19 = .ok (.aload_n 0, 1) := by decide +kernel
theorem dX7_best_20 : decode cX7_best 20 = .ok (.iconst 0, 1) := by decide +kernel
theorem dX7_best_21 : decode cX7_best 21 = .ok (.invokevirtual 93, 3) := by decide +kernel
theorem dX7_best_24 : decode cX7_best 24 = .ok (.i2l, 1) := by decide +kernel
theorem dX7_best_25 : decode cX7_best 25 = .ok (.lreturn, 1) := by decide +kernel
theorem dX7_best_26 : decode cX7_best 26 = .ok (.aload_n 0, 1) := by decide +kernel
theorem dX7_best_27 : decode cX7_best 27 = .ok (.iload_n 1, 1) := by decide +kernel
theorem dX7_best_28 : decode cX7_best 28 = .ok (.invokevirtual 275, 3) := by decide +kernel
theorem dX7_best_31 : decode cX7_best 31 = .ok (.lstore_n 3, 1) := by decide +kernel
theorem dX7_best_32 : decode cX7_best 32 = .ok (.iconst 0, 1) := by decide +kernel
theorem dX7_best_33 : decode cX7_best 33 = .ok (.istore 5, 2) := by decide +kernel
theorem dX7_best_35 : decode cX7_best 35 = .ok (.iconst 0, 1) := by decide +kernel
theorem dX7_best_36 : decode cX7_best 36 = .ok (.istore 6, 2) := by decide +kernel
theorem dX7_best_38 : decode cX7_best 38 = .ok (.iload 6, 2) := by decide +kernel
theorem dX7_best_40 : decode cX7_best 40 = .ok (.iload_n 1, 1) := by decide +kernel
theorem dX7_best_41 : decode cX7_best 41 = .ok (.if_icmp .ge 29, 3) := by decide +kernel
theorem dX7_best_44 : decode cX7_best 44 = .ok (.iload 5, 2) := by decide +kernel
theorem dX7_best_46 : decode cX7_best 46 = .ok (.aload_n 0, 1) := by decide +kernel
theorem dX7_best_47 : decode cX7_best 47 = .ok (.iload_n 1, 1) := by decide +kernel
theorem dX7_best_48 : decode cX7_best 48 = .ok (.iload 6, 2) := by decide +kernel
theorem dX7_best_50 : decode cX7_best 50 = .ok (.invokevirtual 278, 3) := by decide +kernel
theorem dX7_best_53 : decode cX7_best 53 = .ok (.ifCond .ne 7, 3) := by decide +kernel
theorem dX7_best_56 : decode cX7_best 56 = .ok (.iconst 0, 1) := by decide +kernel
theorem dX7_best_57 : decode cX7_best 57 = .ok (.goto 4, 3) := by decide +kernel
theorem dX7_best_60 : decode cX7_best 60 = .ok (.iconst 1, 1) := by decide +kernel
theorem dX7_best_61 : decode cX7_best 61 = .ok (.iadd, 1) := by decide +kernel
theorem dX7_best_62 : decode cX7_best 62 = .ok (.istore 5, 2) := by decide +kernel
theorem dX7_best_64 : decode cX7_best 64 = .ok (.iinc 6 1, 3) := by decide +kernel
theorem dX7_best_67 : decode cX7_best 67 = .ok (.goto (-29), 3) := by decide +kernel
theorem dX7_best_70 : decode cX7_best 70 = .ok (.iload_n 2, 1) := by decide +kernel
theorem dX7_best_71 : decode cX7_best 71 = .ok (.ifCond .ne 7, 3) := by decide +kernel
theorem dX7_best_74 : decode cX7_best 74 = .ok (.lload_n 3, 1) := by decide +kernel
theorem dX7_best_75 : decode cX7_best 75 = .ok (.goto 47, 3) := by decide +kernel
theorem dX7_best_78 : decode cX7_best 78 = .ok (.iload_n 2, 1) := by decide +kernel
theorem dX7_best_79 : decode cX7_best 79 = .ok (.iconst 1, 1) := by decide +kernel
theorem dX7_best_80 : decode cX7_best 80 = .ok (.if_icmp .ne 24, 3) := by decide +kernel
theorem dX7_best_83 : decode cX7_best 83 = .ok (.aload_n 0, 1) := by decide +kernel
theorem dX7_best_84 : decode cX7_best 84 = .ok (.getfield 35, 3) := by decide +kernel
theorem dX7_best_87 : decode cX7_best 87 = .ok (.iload_n 1, 1) := by decide +kernel
theorem dX7_best_88 : decode cX7_best 88 = .ok (.aload_n 0, 1) := by decide +kernel
theorem dX7_best_89 : decode cX7_best 89 = .ok (.invokevirtual 111, 3) := by decide +kernel
theorem dX7_best_92 : decode cX7_best 92 = .ok (.aload_n 0, 1) := by decide +kernel
theorem dX7_best_93 : decode cX7_best 93 = .ok (.invokevirtual 115, 3) := by decide +kernel
theorem dX7_best_96 : decode cX7_best 96 = .ok (.invokestatic 259, 3) := by decide +kernel
theorem dX7_best_99 : decode cX7_best 99 = .ok (.iaload, 1) := by decide +kernel
theorem dX7_best_100 : decode cX7_best 100 = .ok (.i2l, 1) := by decide +kernel
theorem dX7_best_101 : decode cX7_best 101 = .ok (.goto 21, 3) := by decide +kernel
theorem dX7_best_104 : decode cX7_best 104 = .ok (.iload_n 2, 1) := by decide +kernel
theorem dX7_best_105 : decode cX7_best 105 = .ok (.iconst 2, 1) := by decide +kernel
theorem dX7_best_106 : decode cX7_best 106 = .ok (.if_icmp .ne 9, 3) := by decide +kernel
theorem dX7_best_109 : decode cX7_best 109 = .ok (.iload 5, 2) := by decide +kernel
theorem dX7_best_111 : decode cX7_best 111 = .ok (.i2l, 1) := by decide +kernel
theorem dX7_best_112 : decode cX7_best 112 = .ok (.goto 10, 3) := by decide +kernel
theorem dX7_best_115 : decode cX7_best 115 = .ok (.aload_n 0, 1) := by decide +kernel
theorem dX7_best_116 : decode cX7_best 116 = .ok (.iload_n 1, 1) := by decide +kernel
theorem dX7_best_117 : decode cX7_best 117 = .ok (.iconst 0, 1) := by decide +kernel
theorem dX7_best_118 : decode cX7_best 118 = .ok (.invokevirtual 278, 3) := by decide +kernel
theorem dX7_best_121 : decode cX7_best 121 = .ok (.i2l, 1) := by decide +kernel
theorem dX7_best_122 : decode cX7_best 122 = .ok (.lreturn, 1) := by decide +kernel
theorem dX7_turn_0 : decode cX7_turn 0 = .ok (.iload_n 1, 1) := by decide +kernel
theorem dX7_turn_1 : decode cX7_turn 1 = .ok (.invokestatic 270, 3) := by decide +kernel
theorem dX7_turn_4 : decode cX7_turn 4 = .ok (.ifCond .eq 16, 3) := by decide +kernel
theorem dX7_turn_7 : decode cX7_turn 7 = .ok (.iload_n 2, 1) := by decide +kernel
theorem dX7_turn_8 : decode cX7_turn 8 = .ok (.i2l, 1) := by decide +kernel
theorem dX7_turn_9 : decode cX7_turn 9 = .ok (.lconst 0, 1) := by decide +kernel
theorem dX7_turn_10 : decode cX7_turn 10 = .ok (.iload_n 1, 1) := by decide +kernel
theorem dX7_turn_11 : decode cX7_turn 11 = .ok (.iconst 1, 1) := by decide +kernel
theorem dX7_turn_12 : decode cX7_turn 12 = .ok (.isub, 1) := by decide +kernel
theorem dX7_turn_13 : decode cX7_turn 13 = .ok (.i2l, 1) := by decide +kernel
theorem dX7_turn_14 : decode cX7_turn 14 = .ok (.invokestatic 85, 3) := by decide +kernel
theorem dX7_turn_17 : decode cX7_turn 17 = .ok (.ifCond .ne 9, 3) := by decide +kernel
theorem dX7_turn_20 : decode cX7_turn 20 = .ok (.aload_n 0, 1) := by decide +kernel
theorem dX7_turn_21 : decode cX7_turn 21 = .ok (.iconst 0, 1) := by decide +kernel
theorem dX7_turn_22 : decode cX7_turn 22 = .ok (.invokevirtual 93, 3) := by decide +kernel
theorem dX7_turn_25 : decode cX7_turn 25 = .ok (.ireturn, 1) := by decide +kernel
theorem dX7_turn_26 : decode cX7_turn 26 = .ok (.aload_n 0, 1) := by decide +kernel
theorem dX7_turn_27 : decode cX7_turn 27 = .ok (.iload_n 1, 1) := by decide +kernel
theorem dX7_turn_28 : decode cX7_turn 28 = .ok (.invokevirtual 265, 3) := by decide +kernel
theorem dX7_turn_31 : decode cX7_turn 31 = .ok (.aload_n 0, 1) := by decide +kernel
theorem dX7_turn_32 : decode cX7_turn 32 = .ok (.iload_n 1, 1) := by decide +kernel
theorem dX7_turn_33 : decode cX7_turn 33 = .ok (.iload_n 2, 1) := by decide +kernel
theorem dX7_turn_34 : decode cX7_turn 34 = .ok (.invokevirtual 278, 3) := by decide +kernel
theorem dX7_turn_37 : decode cX7_turn 37 = .ok (.ireturn, 1) := by decide +kernel
theorem dX7_rest_0 : decode cX7_rest 0 = .ok (.iload_n 1, 1) := by decide +kernel
theorem dX7_rest_1 : decode cX7_rest 1 = .ok (.invokestatic 270, 3) := by decide +kernel
theorem dX7_rest_4 : decode cX7_rest 4 = .ok (.ifCond .ne 10, 3) := by decide +kernel
theorem dX7_rest_7 : decode cX7_rest 7 = .ok (.aload_n 0, 1) := by decide +kernel
theorem dX7_rest_8 : decode cX7_rest 8 = .ok (.iconst 0, 1) := by decide +kernel
theorem dX7_rest_9 : decode cX7_rest 9 = .ok (.invokevirtual 93, 3) := by decide +kernel
theorem dX7_rest_12 : decode cX7_rest 12 = .ok (.i2l, 1) := by decide +kernel
theorem dX7_rest_13 : decode cX7_rest 13 = .ok (.lreturn, 1) := by decide +kernel
theorem dX7_rest_14 : decode cX7_rest 14 = .ok (.lconst 0, 1) := by decide +kernel
theorem dX7_rest_15 : decode cX7_rest 15 = .ok (.lstore_n 2, 1) := by decide +kernel
theorem dX7_rest_16 : decode cX7_rest 16 = .ok (.iconst 1, 1) := by decide +kernel
theorem dX7_rest_17 : decode cX7_rest 17 = .ok (.istore 4, 2) := by decide +kernel
theorem dX7_rest_19 : decode cX7_rest 19 = .ok (.iload 4, 2) := by decide +kernel
theorem dX7_rest_21 : decode cX7_rest 21 = .ok (.iload_n 1, 1) := by decide +kernel
theorem dX7_rest_22 : decode cX7_rest 22 = .ok (.if_icmp .gt 27, 3) := by decide +kernel
theorem dX7_rest_25 : decode cX7_rest 25 = .ok (.lload_n 2, 1) := by decide +kernel
theorem dX7_rest_26 : decode cX7_rest 26 = .ok (.aload_n 0, 1) := by decide +kernel
theorem dX7_rest_27 : decode cX7_rest 27 = .ok (.aload_n 0, 1) := by decide +kernel
theorem dX7_rest_28 : decode cX7_rest 28 = .ok (.invokevirtual 129, 3) := by decide +kernel
theorem dX7_rest_31 : decode cX7_rest 31 = .ok (.iload 4, 2) := by decide +kernel
theorem dX7_rest_33 : decode cX7_rest 33 = .ok (.iadd, 1) := by decide +kernel
theorem dX7_rest_34 : decode cX7_rest 34 = .ok (.aload_n 0, 1) := by decide +kernel
theorem dX7_rest_35 : decode cX7_rest 35 = .ok (.invokevirtual 111, 3) := by decide +kernel
theorem dX7_rest_38 : decode cX7_rest 38 = .ok (.invokevirtual 251, 3) := by decide +kernel
theorem dX7_rest_41 : decode cX7_rest 41 = .ok (.ladd, 1) := by decide +kernel
theorem dX7_rest_42 : decode cX7_rest 42 = .ok (.lstore_n 2, 1) := by decide +kernel
theorem dX7_rest_43 : decode cX7_rest 43 = .ok (.iinc 4 1, 3) := by decide +kernel
theorem dX7_rest_46 : decode cX7_rest 46 = .ok (.goto (-27), 3) := by decide +kernel
theorem dX7_rest_49 : decode cX7_rest 49 = .ok (.lload_n 2, 1) := by decide +kernel
theorem dX7_rest_50 : decode cX7_rest 50 = .ok (.lreturn, 1) := by decide +kernel
theorem dX7_home_0 : decode cX7_home 0 = .ok (.iload_n 1, 1) := by decide +kernel
theorem dX7_home_1 : decode cX7_home 1 = .ok (.i2l, 1) := by decide +kernel
theorem dX7_home_2 : decode cX7_home 2 = .ok (.lconst 0, 1) := by decide +kernel
theorem dX7_home_3 : decode cX7_home 3 = .ok (.ldc2_w 66, 3) := by decide +kernel
theorem dX7_home_6 : decode cX7_home 6 = .ok (.invokestatic 85, 3) := by decide +kernel
theorem dX7_home_9 : decode cX7_home 9 = .ok (.ifCond .eq 15, 3) := by decide +kernel
theorem dX7_home_12 : decode cX7_home 12 = .ok (.iload_n 2, 1) := by decide +kernel
theorem dX7_home_13 : decode cX7_home 13 = .ok (.i2l, 1) := by decide +kernel
theorem dX7_home_14 : decode cX7_home 14 = .ok (.lconst 0, 1) := by decide +kernel
theorem dX7_home_15 : decode cX7_home 15 = .ok (.ldc2_w 281, 3) := by decide +kernel
theorem dX7_home_18 : decode cX7_home 18 = .ok (.invokestatic 85, 3) := by decide +kernel
theorem dX7_home_21 : decode cX7_home 21 = .ok (.ifCond .ne 9, 3) := by decide +kernel
theorem dX7_home_24 : decode cX7_home 24 = .ok (.aload_n 0, 1) := by decide +kernel
theorem dX7_home_25 : decode cX7_home 25 = .ok (.iconst 0, 1) := by decide +kernel
theorem dX7_home_26 : decode cX7_home 26 = .ok (.invokevirtual 93, 3) := by decide +kernel
theorem dX7_home_29 : decode cX7_home 29 = .ok (.ireturn, 1) := by decide +kernel
theorem dX7_home_30 : decode cX7_home 30 = .ok (.aload_n 0, 1) := by decide +kernel
theorem dX7_home_31 : decode cX7_home 31 = .ok (.getfield 7, 3) := by decide +kernel
theorem dX7_home_34 : decode cX7_home 34 = .ok (.iconst 1, 1) := by decide +kernel
theorem dX7_home_35 : decode cX7_home 35 = .ok (.laload, 1) := by decide +kernel
theorem dX7_home_36 : decode cX7_home 36 = .ok (.lconst 0, 1) := by decide +kernel
theorem dX7_home_37 : decode cX7_home 37 = .ok (.lcmp, 1) := by decide +kernel
theorem dX7_home_38 : decode cX7_home 38 = .ok (.ifCond .ne 9, 3) := by decide +kernel
theorem dX7_home_41 : decode cX7_home 41 = .ok (.aload_n 0, 1) := by decide +kernel
theorem dX7_home_42 : decode cX7_home 42 = .ok (.iconst 4, 1) := by decide +kernel
theorem dX7_home_43 : decode cX7_home 43 = .ok (.invokevirtual 93, 3) := by decide +kernel
theorem dX7_home_46 : decode cX7_home 46 = .ok (.ireturn, 1) := by decide +kernel
theorem dX7_home_47 : decode cX7_home 47 = .ok (.iconst (-1), 1) := by decide +kernel
theorem dX7_home_48 : decode cX7_home 48 = .ok (.istore_n 3, 1) := by decide +kernel
theorem dX7_home_49 : decode cX7_home 49 = .ok (.iconst 1, 1) := by decide +kernel
theorem dX7_home_50 : decode cX7_home 50 = .ok (.istore 4, 2) := by decide +kernel
theorem dX7_home_52 : decode cX7_home 52 = .ok (.iload 4, 2) := by decide +kernel
theorem dX7_home_54 : decode cX7_home 54 = .ok (.bipush 40, 2) := by decide +kernel
theorem dX7_home_56 : decode cX7_home 56 = .ok (.if_icmp .gt 94, 3) := by decide +kernel
theorem dX7_home_59 : decode cX7_home 59 = .ok (.iload_n 3, 1) := by decide +kernel
theorem dX7_home_60 : decode cX7_home 60 = .ok (.ifCond .ge 90, 3) := by decide +kernel
theorem dX7_home_63 : decode cX7_home 63 = .ok (.aload_n 0, 1) := by decide +kernel
theorem dX7_home_64 : decode cX7_home 64 = .ok (.aload_n 0, 1) := by decide +kernel
theorem dX7_home_65 : decode cX7_home 65 = .ok (.invokevirtual 111, 3) := by decide +kernel
theorem dX7_home_68 : decode cX7_home 68 = .ok (.aload_n 0, 1) := by decide +kernel
theorem dX7_home_69 : decode cX7_home 69 = .ok (.invokevirtual 115, 3) := by decide +kernel
theorem dX7_home_72 : decode cX7_home 72 = .ok (.aload_n 0, 1) := by decide +kernel
theorem dX7_home_73 : decode cX7_home 73 = .ok (.invokevirtual 111, 3) := by decide +kernel
theorem dX7_home_76 : decode cX7_home 76 = .ok (.ineg, 1) := by decide +kernel
theorem dX7_home_77 : decode cX7_home 77 = .ok (.invokevirtual 118, 3) := by decide +kernel
theorem dX7_home_80 : decode cX7_home 80 = .ok (.ifCond .eq 70, 3) := by decide +kernel
theorem dX7_home_83 : decode cX7_home 83 = .ok (.iconst 1, 1) := by decide +kernel
theorem dX7_home_84 : decode cX7_home 84 = .ok (.istore 5, 2) := by decide +kernel
theorem dX7_home_86 : decode cX7_home 86 = .ok (.iconst 0, 1) := by decide +kernel
theorem dX7_home_87 : decode cX7_home 87 = .ok (.istore 6, 2) := by decide +kernel
theorem dX7_home_89 : decode cX7_home 89 = .ok (.iload 6, 2) := by decide +kernel
theorem dX7_home_91 : decode cX7_home 91 = .ok (.iload_n 2, 1) := by decide +kernel
theorem dX7_home_92 : decode cX7_home 92 = .ok (.if_icmp .gt 40, 3) := by decide +kernel
theorem dX7_home_95 : decode cX7_home 95 = .ok (.iload 5, 2) := by decide +kernel
theorem dX7_home_97 : decode cX7_home 97 = .ok (.ifCond .eq 26, 3) := by decide +kernel
theorem dX7_home_100 : decode cX7_home 100 = .ok (.aload_n 0, 1) := by decide +kernel
theorem dX7_home_101 : decode cX7_home 101 = .ok (.aload_n 0, 1) := by decide +kernel
theorem dX7_home_102 : decode cX7_home 102 = .ok (.invokevirtual 129, 3) := by decide +kernel
theorem dX7_home_105 : decode cX7_home 105 = .ok (.iload 4, 2) := by decide +kernel
theorem dX7_home_107 : decode cX7_home 107 = .ok (.iadd, 1) := by decide +kernel
theorem dX7_home_108 : decode cX7_home 108 = .ok (.iload 6, 2) := by decide +kernel
theorem dX7_home_110 : decode cX7_home 110 = .ok (.iadd, 1) := by decide +kernel
theorem dX7_home_111 : decode cX7_home 111 = .ok (.iconst 0, 1) := by decide +kernel
theorem dX7_home_112 : decode cX7_home 112 = .ok (.invokevirtual 132, 3) := by decide +kernel
theorem dX7_home_115 : decode cX7_home 115 = .ok (.iload_n 1, 1) := by decide +kernel
theorem dX7_home_116 : decode cX7_home 116 = .ok (.if_icmp .gt 7, 3) := by decide +kernel
theorem dX7_home_119 : decode cX7_home 119 = .ok (.iconst 1, 1) := by decide +kernel
theorem dX7_home_120 : decode cX7_home 120 = .ok (.goto 4, 3) := by decide +kernel
theorem dX7_home_123 : decode cX7_home 123 = .ok (.iconst 0, 1) := by decide +kernel
theorem dX7_home_124 : decode cX7_home 124 = .ok (.istore 5, 2) := by decide +kernel
theorem dX7_home_126 : decode cX7_home 126 = .ok (.iinc 6 1, 3) := by decide +kernel
theorem dX7_home_129 : decode cX7_home 129 = .ok (.goto (-40), 3) := by decide +kernel
theorem dX7_home_132 : decode cX7_home 132 = .ok (.iload 5, 2) := by decide +kernel
theorem dX7_home_134 : decode cX7_home 134 = .ok (.ifCond .eq 8, 3) := by decide +kernel
theorem dX7_home_137 : decode cX7_home 137 = .ok (.iload 4, 2) := by decide +kernel
theorem dX7_home_139 : decode cX7_home 139 = .ok (.goto 4, 3) := by decide +kernel
theorem dX7_home_142 : decode cX7_home 142 = .ok (.iconst (-1), 1) := by decide +kernel
theorem dX7_home_143 : decode cX7_home 143 = .ok (.istore_n 3, 1) := by decide +kernel
theorem dX7_home_144 : decode cX7_home 144 = .ok (.iinc 4 1, 3) := by decide +kernel
theorem dX7_home_147 : decode cX7_home 147 = .ok (.goto (-95), 3) := by decide +kernel
theorem dX7_home_150 : decode cX7_home 150 = .ok (.iload_n 3, 1) := by decide +kernel
theorem dX7_home_151 : decode cX7_home 151 = .ok (.ifCond .ge 11, 3) := by decide +kernel
theorem dX7_home_154 : decode cX7_home 154 = .ok (.aload_n 0, 1) := by decide +kernel
theorem dX7_home_155 : decode cX7_home 155 = .ok (.iconst 3, 1) := by decide +kernel
theorem dX7_home_156 : decode cX7_home 156 = .ok (.invokevirtual 93, 3) := by decide +kernel
theorem dX7_home_159 : decode cX7_home 159 = .ok (.goto 4, 3) := by decide +kernel
theorem dX7_home_162 : decode cX7_home 162 = .ok (.iload_n 3, 1) := by decide +kernel
theorem dX7_home_163 : decode cX7_home 163 = .ok (.ireturn, 1) := by decide +kernel
theorem dX7_worthBehind_0 : decode cX7_worthBehind 0 = .ok (.bipush 12, 2) := by decide +kernel
theorem dX7_worthBehind_2 : decode cX7_worthBehind 2 = .ok (.bipush 6, 2) := by decide +kernel
theorem dX7_worthBehind_4 : decode cX7_worthBehind 4 = .ok (.iload_n 1, 1) := by decide +kernel
theorem dX7_worthBehind_5 : decode cX7_worthBehind 5 = .ok (.imul, 1) := by decide +kernel
theorem dX7_worthBehind_6 : decode cX7_worthBehind 6 = .ok (.iadd, 1) := by decide +kernel
theorem dX7_worthBehind_7 : decode cX7_worthBehind 7 = .ok (.iconst 4, 1) := by decide +kernel
theorem dX7_worthBehind_8 : decode cX7_worthBehind 8 = .ok (.iadd, 1) := by decide +kernel
theorem dX7_worthBehind_9 : decode cX7_worthBehind 9 = .ok (.istore 4, 2) := by decide +kernel
theorem dX7_worthBehind_11 : decode cX7_worthBehind 11 = .ok (.aload_n 0, 1) := by decide +kernel
theorem dX7_worthBehind_12 : decode cX7_worthBehind 12 = .ok (.getfield 7, 3) := by decide +kernel
theorem dX7_worthBehind_15 : decode cX7_worthBehind 15 = .ok (.iload 4, 2) := by decide +kernel
theorem dX7_worthBehind_17 : decode cX7_worthBehind 17 = .ok (.laload, 1) := by decide +kernel
theorem dX7_worthBehind_18 : decode cX7_worthBehind 18 = .ok (.lstore 5, 2) := by decide +kernel
theorem dX7_worthBehind_20 : decode cX7_worthBehind 20 = .ok (.aload_n 0, 1) := by decide +kernel
theorem dX7_worthBehind_21 : decode cX7_worthBehind 21 = .ok (.getfield 7, 3) := by decide +kernel
theorem dX7_worthBehind_24 : decode cX7_worthBehind 24 = .ok (.iload 4, 2) := by decide +kernel
theorem dX7_worthBehind_26 : decode cX7_worthBehind 26 = .ok (.iload_n 2, 1) := by decide +kernel
theorem dX7_worthBehind_27 : decode cX7_worthBehind 27 = .ok (.ifCond .ge 8, 3) := by decide +kernel
theorem dX7_worthBehind_30 : decode cX7_worthBehind 30 = .ok (.lload 5, 2) := by decide +kernel
theorem dX7_worthBehind_32 : decode cX7_worthBehind 32 = .ok (.goto 5, 3) := by decide +kernel
theorem dX7_worthBehind_35 : decode cX7_worthBehind 35 = .ok (.iload_n 2, 1) := by decide +kernel
theorem dX7_worthBehind_36 : decode cX7_worthBehind 36 = .ok (.i2l, 1) := by decide +kernel
theorem dX7_worthBehind_37 : decode cX7_worthBehind 37 = .ok (.lastore, 1) := by decide +kernel
theorem dX7_worthBehind_38 : decode cX7_worthBehind 38 = .ok (.aload_n 0, 1) := by decide +kernel
theorem dX7_worthBehind_39 : decode cX7_worthBehind 39 = .ok (.iload_n 3, 1) := by decide +kernel
theorem dX7_worthBehind_40 : decode cX7_worthBehind 40 = .ok (.invokevirtual 275, 3) := by decide +kernel
theorem dX7_worthBehind_43 : decode cX7_worthBehind 43 = .ok (.lstore 7, 2) := by decide +kernel
theorem dX7_worthBehind_45 : decode cX7_worthBehind 45 = .ok (.aload_n 0, 1) := by decide +kernel
theorem dX7_worthBehind_46 : decode cX7_worthBehind 46 = .ok (.getfield 7, 3) := by decide +kernel
theorem dX7_worthBehind_49 : decode cX7_worthBehind 49 = .ok (.iload 4, 2) := by decide +kernel
theorem dX7_worthBehind_51 : decode cX7_worthBehind 51 = .ok (.lload 5, 2) := by decide +kernel
theorem dX7_worthBehind_53 : decode cX7_worthBehind 53 = .ok (.lastore, 1) := by decide +kernel
theorem dX7_worthBehind_54 : decode cX7_worthBehind 54 = .ok (.lload 7, 2) := by decide +kernel
theorem dX7_worthBehind_56 : decode cX7_worthBehind 56 = .ok (.lreturn, 1) := by decide +kernel
theorem dX7_know_0 : decode cX7_know 0 = .ok (.aload_n 0, 1) := by decide +kernel
theorem dX7_know_1 : decode cX7_know 1 = .ok (.iload_n 1, 1) := by decide +kernel
theorem dX7_know_2 : decode cX7_know 2 = .ok (.invokevirtual 150, 3) := by decide +kernel
theorem dX7_know_5 : decode cX7_know 5 = .ok (.ifCond .eq 24, 3) := by decide +kernel
theorem dX7_know_8 : decode cX7_know 8 = .ok (.iload_n 2, 1) := by decide +kernel
theorem dX7_know_9 : decode cX7_know 9 = .ok (.i2l, 1) := by decide +kernel
theorem dX7_know_10 : decode cX7_know 10 = .ok (.ldc2_w 173, 3) := by decide +kernel
theorem dX7_know_13 : decode cX7_know 13 = .ok (.ldc2_w 62, 3) := by decide +kernel
theorem dX7_know_16 : decode cX7_know 16 = .ok (.invokestatic 85, 3) := by decide +kernel
theorem dX7_know_19 : decode cX7_know 19 = .ok (.ifCond .eq 10, 3) := by decide +kernel
theorem dX7_know_22 : decode cX7_know 22 = .ok (.iload_n 3, 1) := by decide +kernel
theorem dX7_know_23 : decode cX7_know 23 = .ok (.invokestatic 270, 3) := by decide +kernel
theorem dX7_know_26 : decode cX7_know 26 = .ok (.ifCond .ne 10, 3) := by decide +kernel
theorem dX7_know_29 : decode cX7_know 29 = .ok (.aload_n 0, 1) := by decide +kernel
theorem dX7_know_30 : decode cX7_know 30 = .ok (.iconst 0, 1) := by decide +kernel
theorem dX7_know_31 : decode cX7_know 31 = .ok (.invokevirtual 93, 3) := by decide +kernel
theorem dX7_know_34 : decode cX7_know 34 = .ok (.i2l, 1) := by decide +kernel
theorem dX7_know_35 : decode cX7_know 35 = .ok (.lreturn, 1) := by decide +kernel
theorem dX7_know_36 : decode cX7_know 36 = .ok (.aload_n 0, 1) := by decide +kernel
theorem dX7_know_37 : decode cX7_know 37 = .ok (.iload_n 1, 1) := by decide +kernel
theorem dX7_know_38 : decode cX7_know 38 = .ok (.aload_n 0, 1) := by decide +kernel
theorem dX7_know_39 : decode cX7_know 39 = .ok (.invokevirtual 129, 3) := by decide +kernel
theorem dX7_know_42 : decode cX7_know 42 = .ok (.invokevirtual 156, 3) := by decide +kernel
theorem dX7_know_45 : decode cX7_know 45 = .ok (.ifCond .ne 10, 3) := by decide +kernel
theorem dX7_know_48 : decode cX7_know 48 = .ok (.aload_n 0, 1) := by decide +kernel
theorem dX7_know_49 : decode cX7_know 49 = .ok (.iconst 4, 1) := by decide +kernel
theorem dX7_know_50 : decode cX7_know 50 = .ok (.invokevirtual 93, 3) := by decide +kernel
theorem dX7_know_53 : decode cX7_know 53 = .ok (.i2l, 1) := by decide +kernel
theorem dX7_know_54 : decode cX7_know 54 = .ok (.lreturn, 1) := by decide +kernel
theorem dX7_know_55 : decode cX7_know 55 = .ok (.aload_n 0, 1) := by decide +kernel
theorem dX7_know_56 : decode cX7_know 56 = .ok (.iload_n 1, 1) := by decide +kernel
theorem dX7_know_57 : decode cX7_know 57 = .ok (.iconst 4, 1) := by decide +kernel
theorem dX7_know_58 : decode cX7_know 58 = .ok (.invokevirtual 147, 3) := by decide +kernel
theorem dX7_know_61 : decode cX7_know 61 = .ok (.i2l, 1) := by decide +kernel
theorem dX7_know_62 : decode cX7_know 62 = .ok (.lstore 4, 2) := by decide +kernel
theorem dX7_know_64 : decode cX7_know 64 = .ok (.lload 4, 2) := by decide +kernel
theorem dX7_know_66 : decode cX7_know 66 = .ok (.iload_n 2, 1) := by decide +kernel
theorem dX7_know_67 : decode cX7_know 67 = .ok (.i2l, 1) := by decide +kernel
theorem dX7_know_68 : decode cX7_know 68 = .ok (.lmul, 1) := by decide +kernel
theorem dX7_know_69 : decode cX7_know 69 = .ok (.ldc2_w 66, 3) := by decide +kernel
theorem dX7_know_72 : decode cX7_know 72 = .ok (.lload 4, 2) := by decide +kernel
theorem dX7_know_74 : decode cX7_know 74 = .ok (.lsub, 1) := by decide +kernel
theorem dX7_know_75 : decode cX7_know 75 = .ok (.ldc2_w 62, 3) := by decide +kernel
theorem dX7_know_78 : decode cX7_know 78 = .ok (.iload_n 2, 1) := by decide +kernel
theorem dX7_know_79 : decode cX7_know 79 = .ok (.i2l, 1) := by decide +kernel
theorem dX7_know_80 : decode cX7_know 80 = .ok (.lsub, 1) := by decide +kernel
theorem dX7_know_81 : decode cX7_know 81 = .ok (.lmul, 1) := by decide +kernel
theorem dX7_know_82 : decode cX7_know 82 = .ok (.ladd, 1) := by decide +kernel
theorem dX7_know_83 : decode cX7_know 83 = .ok (.ldc2_w 62, 3) := by decide +kernel
theorem dX7_know_86 : decode cX7_know 86 = .ok (.ldiv, 1) := by decide +kernel
theorem dX7_know_87 : decode cX7_know 87 = .ok (.lstore 6, 2) := by decide +kernel
theorem dX7_know_89 : decode cX7_know 89 = .ok (.aload_n 0, 1) := by decide +kernel
theorem dX7_know_90 : decode cX7_know 90 = .ok (.iload_n 1, 1) := by decide +kernel
theorem dX7_know_91 : decode cX7_know 91 = .ok (.aload_n 0, 1) := by decide +kernel
theorem dX7_know_92 : decode cX7_know 92 = .ok (.iload_n 1, 1) := by decide +kernel
theorem dX7_know_93 : decode cX7_know 93 = .ok (.iload_n 2, 1) := by decide +kernel
theorem dX7_know_94 : decode cX7_know 94 = .ok (.iconst 1, 1) := by decide +kernel
theorem dX7_know_95 : decode cX7_know 95 = .ok (.invokevirtual 175, 3) := by decide +kernel
theorem dX7_know_98 : decode cX7_know 98 = .ok (.iload_n 3, 1) := by decide +kernel
theorem dX7_know_99 : decode cX7_know 99 = .ok (.invokevirtual 283, 3) := by decide +kernel
theorem dX7_know_102 : decode cX7_know 102 = .ok (.lstore 8, 2) := by decide +kernel
theorem dX7_know_104 : decode cX7_know 104 = .ok (.aload_n 0, 1) := by decide +kernel
theorem dX7_know_105 : decode cX7_know 105 = .ok (.iload_n 1, 1) := by decide +kernel
theorem dX7_know_106 : decode cX7_know 106 = .ok (.aload_n 0, 1) := by decide +kernel
theorem dX7_know_107 : decode cX7_know 107 = .ok (.iload_n 1, 1) := by decide +kernel
theorem dX7_know_108 : decode cX7_know 108 = .ok (.iload_n 2, 1) := by decide +kernel
theorem dX7_know_109 : decode cX7_know 109 = .ok (.iconst 0, 1) := by decide +kernel
theorem dX7_know_110 : decode cX7_know 110 = .ok (.invokevirtual 175, 3) := by decide +kernel
theorem dX7_know_113 : decode cX7_know 113 = .ok (.iload_n 3, 1) := by decide +kernel
theorem dX7_know_114 : decode cX7_know 114 = .ok (.invokevirtual 283, 3) := by decide +kernel
theorem dX7_know_117 : decode cX7_know 117 = .ok (.lstore 10, 2) := by decide +kernel
theorem dX7_know_119 : decode cX7_know 119 = .ok (.lload 8, 2) := by decide +kernel
theorem dX7_know_121 : decode cX7_know 121 = .ok (.lload 6, 2) := by decide +kernel
theorem dX7_know_123 : decode cX7_know 123 = .ok (.lmul, 1) := by decide +kernel
theorem dX7_know_124 : decode cX7_know 124 = .ok (.lload 10, 2) := by decide +kernel
theorem dX7_know_126 : decode cX7_know 126 = .ok (.ldc2_w 66, 3) := by decide +kernel
theorem dX7_know_129 : decode cX7_know 129 = .ok (.lload 6, 2) := by decide +kernel
theorem dX7_know_131 : decode cX7_know 131 = .ok (.lsub, 1) := by decide +kernel
theorem dX7_know_132 : decode cX7_know 132 = .ok (.lmul, 1) := by decide +kernel
theorem dX7_know_133 : decode cX7_know 133 = .ok (.ladd, 1) := by decide +kernel
theorem dX7_know_134 : decode cX7_know 134 = .ok (.ldc2_w 66, 3) := by decide +kernel
theorem dX7_know_137 : decode cX7_know 137 = .ok (.ldiv, 1) := by decide +kernel
theorem dX7_know_138 : decode cX7_know 138 = .ok (.aload_n 0, 1) := by decide +kernel
theorem dX7_know_139 : decode cX7_know 139 = .ok (.iload_n 3, 1) := by decide +kernel
theorem dX7_know_140 : decode cX7_know 140 = .ok (.invokevirtual 275, 3) := by decide +kernel
theorem dX7_know_143 : decode cX7_know 143 = .ok (.lsub, 1) := by decide +kernel
theorem dX7_know_144 : decode cX7_know 144 = .ok (.lreturn, 1) := by decide +kernel
theorem dX7_lasts_0 : decode cX7_lasts 0 = .ok (.iload_n 1, 1) := by decide +kernel
theorem dX7_lasts_1 : decode cX7_lasts 1 = .ok (.istore_n 3, 1) := by decide +kernel
theorem dX7_lasts_2 : decode cX7_lasts 2 = .ok (.aload_n 0, 1) := by decide +kernel
theorem dX7_lasts_3 : decode cX7_lasts 3 = .ok (.invokevirtual 111, 3) := by decide +kernel
theorem dX7_lasts_6 : decode cX7_lasts 6 = .ok (.istore 4, 2) := by decide +kernel
theorem dX7_lasts_8 : decode cX7_lasts 8 = .ok (.aload_n 0, 1) := by decide +kernel
theorem dX7_lasts_9 : decode cX7_lasts 9 = .ok (.invokevirtual 115, 3) := by decide +kernel
theorem dX7_lasts_12 : decode cX7_lasts 12 = .ok (.istore 5, 2) := by decide +kernel
theorem dX7_lasts_14 : decode cX7_lasts 14 = .ok (.iconst 0, 1) := by decide +kernel
theorem dX7_lasts_15 : decode cX7_lasts 15 = .ok (.istore 6, 2) := by decide +kernel
theorem dX7_lasts_17 : decode cX7_lasts 17 = .ok (.aload_n 0, 1) := by decide +kernel
theorem dX7_lasts_18 : decode cX7_lasts 18 = .ok (.iconst 0, 1) := by decide +kernel
theorem dX7_lasts_19 : decode cX7_lasts 19 = .ok (.putfield 287, 3) := by decide +kernel
theorem dX7_lasts_22 : decode cX7_lasts 22 = .ok (.iload 6, 2) := by decide +kernel
theorem dX7_lasts_24 : decode cX7_lasts 24 = .ok (.iload_n 2, 1) := by decide +kernel
theorem dX7_lasts_25 : decode cX7_lasts 25 = .ok (.if_icmp .ge 102, 3) := by decide +kernel
theorem dX7_lasts_28 : decode cX7_lasts 28 = .ok (.aload_n 0, 1) := by decide +kernel
theorem dX7_lasts_29 : decode cX7_lasts 29 = .ok (.getfield 287, 3) := by decide +kernel
theorem dX7_lasts_32 : decode cX7_lasts 32 = .ok (.ifCond .ne 95, 3) := by decide +kernel
theorem dX7_lasts_35 : decode cX7_lasts 35 = .ok (.aload_n 0, 1) := by decide +kernel
theorem dX7_lasts_36 : decode cX7_lasts 36 = .ok (.aload_n 0, 1) := by decide +kernel
theorem dX7_lasts_37 : decode cX7_lasts 37 = .ok (.invokevirtual 129, 3) := by decide +kernel
theorem dX7_lasts_40 : decode cX7_lasts 40 = .ok (.iload 6, 2) := by decide +kernel
theorem dX7_lasts_42 : decode cX7_lasts 42 = .ok (.iadd, 1) := by decide +kernel
theorem dX7_lasts_43 : decode cX7_lasts 43 = .ok (.iload 4, 2) := by decide +kernel
theorem dX7_lasts_45 : decode cX7_lasts 45 = .ok (.iload 5, 2) := by decide +kernel
theorem dX7_lasts_47 : decode cX7_lasts 47 = .ok (.invokevirtual 136, 3) := by decide +kernel
theorem dX7_lasts_50 : decode cX7_lasts 50 = .ok (.istore 7, 2) := by decide +kernel
theorem dX7_lasts_52 : decode cX7_lasts 52 = .ok (.iload 4, 2) := by decide +kernel
theorem dX7_lasts_54 : decode cX7_lasts 54 = .ok (.iload 7, 2) := by decide +kernel
theorem dX7_lasts_56 : decode cX7_lasts 56 = .ok (.iadd, 1) := by decide +kernel
theorem dX7_lasts_57 : decode cX7_lasts 57 = .ok (.istore 4, 2) := by decide +kernel
theorem dX7_lasts_59 : decode cX7_lasts 59 = .ok (.iload 5, 2) := by decide +kernel
theorem dX7_lasts_61 : decode cX7_lasts 61 = .ok (.aload_n 0, 1) := by decide +kernel
theorem dX7_lasts_62 : decode cX7_lasts 62 = .ok (.iconst 2, 1) := by decide +kernel
theorem dX7_lasts_63 : decode cX7_lasts 63 = .ok (.invokevirtual 71, 3) := by decide +kernel
theorem dX7_lasts_66 : decode cX7_lasts 66 = .ok (.iload 7, 2) := by decide +kernel
theorem dX7_lasts_68 : decode cX7_lasts 68 = .ok (.invokestatic 100, 3) := by decide +kernel
theorem dX7_lasts_71 : decode cX7_lasts 71 = .ok (.imul, 1) := by decide +kernel
theorem dX7_lasts_72 : decode cX7_lasts 72 = .ok (.isub, 1) := by decide +kernel
theorem dX7_lasts_73 : decode cX7_lasts 73 = .ok (.istore 5, 2) := by decide +kernel
theorem dX7_lasts_75 : decode cX7_lasts 75 = .ok (.iinc 6 1, 3) := by decide +kernel
theorem dX7_lasts_78 : decode cX7_lasts 78 = .ok (.iload_n 3, 1) := by decide +kernel
theorem dX7_lasts_79 : decode cX7_lasts 79 = .ok (.ldc_w 291, 3) := by decide +kernel
theorem dX7_lasts_82 : decode cX7_lasts 82 = .ok (.imul, 1) := by decide +kernel
theorem dX7_lasts_83 : decode cX7_lasts 83 = .ok (.sipush 12345, 3) := by decide +kernel
theorem dX7_lasts_86 : decode cX7_lasts 86 = .ok (.iadd, 1) := by decide +kernel
theorem dX7_lasts_87 : decode cX7_lasts 87 = .ok (.istore_n 3, 1) := by decide +kernel
theorem dX7_lasts_88 : decode cX7_lasts 88 = .ok (.aload_n 0, 1) := by decide +kernel
theorem dX7_lasts_89 : decode cX7_lasts 89 = .ok (.iload_n 3, 1) := by decide +kernel
theorem dX7_lasts_90 : decode cX7_lasts 90 = .ok (.bipush 16, 2) := by decide +kernel
theorem dX7_lasts_92 : decode cX7_lasts 92 = .ok (.iushr, 1) := by decide +kernel
theorem dX7_lasts_93 : decode cX7_lasts 93 = .ok (.sipush 10000, 3) := by decide +kernel
theorem dX7_lasts_96 : decode cX7_lasts 96 = .ok (.irem, 1) := by decide +kernel
theorem dX7_lasts_97 : decode cX7_lasts 97 = .ok (.aload_n 0, 1) := by decide +kernel
theorem dX7_lasts_98 : decode cX7_lasts 98 = .ok (.aload_n 0, 1) := by decide +kernel
theorem dX7_lasts_99 : decode cX7_lasts 99 = .ok (.invokevirtual 129, 3) := by decide +kernel
theorem dX7_lasts_102 : decode cX7_lasts 102 = .ok (.iload 6, 2) := by decide +kernel
theorem dX7_lasts_104 : decode cX7_lasts 104 = .ok (.iadd, 1) := by decide +kernel
theorem dX7_lasts_105 : decode cX7_lasts 105 = .ok (.iload 4, 2) := by decide +kernel
theorem dX7_lasts_107 : decode cX7_lasts 107 = .ok (.invokevirtual 132, 3) := by decide +kernel
theorem dX7_lasts_110 : decode cX7_lasts 110 = .ok (.bipush 100, 2) := by decide +kernel
theorem dX7_lasts_112 : decode cX7_lasts 112 = .ok (.idiv, 1) := by decide +kernel
theorem dX7_lasts_113 : decode cX7_lasts 113 = .ok (.if_icmp .ge 7, 3) := by decide +kernel
theorem dX7_lasts_116 : decode cX7_lasts 116 = .ok (.iconst 1, 1) := by decide +kernel
theorem dX7_lasts_117 : decode cX7_lasts 117 = .ok (.goto 4, 3) := by decide +kernel
theorem dX7_lasts_120 : decode cX7_lasts 120 = .ok (.iconst 0, 1) := by decide +kernel
theorem dX7_lasts_121 : decode cX7_lasts 121 = .ok (.putfield 287, 3) := by decide +kernel
theorem dX7_lasts_124 : decode cX7_lasts 124 = .ok (.goto (-102), 3) := by decide +kernel
theorem dX7_lasts_127 : decode cX7_lasts 127 = .ok (.iload 6, 2) := by decide +kernel
theorem dX7_lasts_129 : decode cX7_lasts 129 = .ok (.ireturn, 1) := by decide +kernel
theorem dX7_life_0 : decode cX7_life 0 = .ok (.iload_n 2, 1) := by decide +kernel
theorem dX7_life_1 : decode cX7_life 1 = .ok (.i2l, 1) := by decide +kernel
theorem dX7_life_2 : decode cX7_life 2 = .ok (.lconst 1, 1) := by decide +kernel
theorem dX7_life_3 : decode cX7_life 3 = .ok (.ldc2_w 62, 3) := by decide +kernel
theorem dX7_life_6 : decode cX7_life 6 = .ok (.invokestatic 85, 3) := by decide +kernel
theorem dX7_life_9 : decode cX7_life 9 = .ok (.ifCond .eq 12, 3) := by decide +kernel
theorem dX7_life_12 : decode cX7_life 12 = .ok (.aload_n 0, 1) := by decide +kernel
theorem dX7_life_13 : decode cX7_life 13 = .ok (.iload_n 1, 1) := by decide +kernel
theorem dX7_life_14 : decode cX7_life 14 = .ok (.iload_n 2, 1) := by decide +kernel
theorem dX7_life_15 : decode cX7_life 15 = .ok (.invokevirtual 292, 3) := by decide +kernel
theorem dX7_life_18 : decode cX7_life 18 = .ok (.goto 8, 3) := by decide +kernel
theorem dX7_life_21 : decode cX7_life 21 = .ok (.aload_n 0, 1) := by decide +kernel
theorem dX7_life_22 : decode cX7_life 22 = .ok (.iconst 0, 1) := by decide +kernel
theorem dX7_life_23 : decode cX7_life 23 = .ok (.invokevirtual 93, 3) := by decide +kernel
theorem dX7_life_26 : decode cX7_life 26 = .ok (.ireturn, 1) := by decide +kernel
theorem dX7_lives_0 : decode cX7_lives 0 = .ok (.iload_n 2, 1) := by decide +kernel
theorem dX7_lives_1 : decode cX7_lives 1 = .ok (.i2l, 1) := by decide +kernel
theorem dX7_lives_2 : decode cX7_lives 2 = .ok (.lconst 1, 1) := by decide +kernel
theorem dX7_lives_3 : decode cX7_lives 3 = .ok (.ldc2_w 173, 3) := by decide +kernel
theorem dX7_lives_6 : decode cX7_lives 6 = .ok (.invokestatic 85, 3) := by decide +kernel
theorem dX7_lives_9 : decode cX7_lives 9 = .ok (.ifCond .eq 15, 3) := by decide +kernel
theorem dX7_lives_12 : decode cX7_lives 12 = .ok (.iload_n 3, 1) := by decide +kernel
theorem dX7_lives_13 : decode cX7_lives 13 = .ok (.i2l, 1) := by decide +kernel
theorem dX7_lives_14 : decode cX7_lives 14 = .ok (.lconst 1, 1) := by decide +kernel
theorem dX7_lives_15 : decode cX7_lives 15 = .ok (.ldc2_w 62, 3) := by decide +kernel
theorem dX7_lives_18 : decode cX7_lives 18 = .ok (.invokestatic 85, 3) := by decide +kernel
theorem dX7_lives_21 : decode cX7_lives 21 = .ok (.ifCond .ne 9, 3) := by decide +kernel
theorem dX7_lives_24 : decode cX7_lives 24 = .ok (.aload_n 0, 1) := by decide +kernel
theorem dX7_lives_25 : decode cX7_lives 25 = .ok (.iconst 0, 1) := by decide +kernel
theorem dX7_lives_26 : decode cX7_lives 26 = .ok (.invokevirtual 93, 3) := by decide +kernel
theorem dX7_lives_29 : decode cX7_lives 29 = .ok (.ireturn, 1) := by decide +kernel
theorem dX7_lives_30 : decode cX7_lives 30 = .ok (.iconst 0, 1) := by decide +kernel
theorem dX7_lives_31 : decode cX7_lives 31 = .ok (.istore 4, 2) := by decide +kernel
theorem dX7_lives_33 : decode cX7_lives 33 = .ok (.iconst 0, 1) := by decide +kernel
theorem dX7_lives_34 : decode cX7_lives 34 = .ok (.istore 5, 2) := by decide +kernel
theorem dX7_lives_36 : decode cX7_lives 36 = .ok (.iload 5, 2) := by decide +kernel
theorem dX7_lives_38 : decode cX7_lives 38 = .ok (.iload_n 2, 1) := by decide +kernel
theorem dX7_lives_39 : decode cX7_lives 39 = .ok (.if_icmp .ge 37, 3) := by decide +kernel
theorem dX7_lives_42 : decode cX7_lives 42 = .ok (.aload_n 0, 1) := by decide +kernel
theorem dX7_lives_43 : decode cX7_lives 43 = .ok (.iload_n 1, 1) := by decide +kernel
theorem dX7_lives_44 : decode cX7_lives 44 = .ok (.iload 5, 2) := by decide +kernel
theorem dX7_lives_46 : decode cX7_lives 46 = .ok (.iadd, 1) := by decide +kernel
theorem dX7_lives_47 : decode cX7_lives 47 = .ok (.iload_n 3, 1) := by decide +kernel
theorem dX7_lives_48 : decode cX7_lives 48 = .ok (.invokevirtual 292, 3) := by decide +kernel
theorem dX7_lives_51 : decode cX7_lives 51 = .ok (.istore 6, 2) := by decide +kernel
theorem dX7_lives_53 : decode cX7_lives 53 = .ok (.iload 4, 2) := by decide +kernel
theorem dX7_lives_55 : decode cX7_lives 55 = .ok (.aload_n 0, 1) := by decide +kernel
theorem dX7_lives_56 : decode cX7_lives 56 = .ok (.getfield 287, 3) := by decide +kernel
theorem dX7_lives_59 : decode cX7_lives 59 = .ok (.ifCond .eq 7, 3) := by decide +kernel
theorem dX7_lives_62 : decode cX7_lives 62 = .ok (.iconst 0, 1) := by decide +kernel
theorem dX7_lives_63 : decode cX7_lives 63 = .ok (.goto 4, 3) := by decide +kernel
theorem dX7_lives_66 : decode cX7_lives 66 = .ok (.iconst 1, 1) := by decide +kernel
theorem dX7_lives_67 : decode cX7_lives 67 = .ok (.iadd, 1) := by decide +kernel
theorem dX7_lives_68 : decode cX7_lives 68 = .ok (.istore 4, 2) := by decide +kernel
theorem dX7_lives_70 : decode cX7_lives 70 = .ok (.iinc 5 1, 3) := by decide +kernel
theorem dX7_lives_73 : decode cX7_lives 73 = .ok (.goto (-37), 3) := by decide +kernel
theorem dX7_lives_76 : decode cX7_lives 76 = .ok (.iload 4, 2) := by decide +kernel
theorem dX7_lives_78 : decode cX7_lives 78 = .ok (.ireturn, 1) := by decide +kernel
theorem dX7_isSheet_0 : decode cX7_isSheet 0 = .ok (.iload_n 0, 1) := by decide +kernel
theorem dX7_isSheet_1 : decode cX7_isSheet 1 = .ok (.i2l, 1) := by decide +kernel
theorem dX7_isSheet_2 : decode cX7_isSheet 2 = .ok (.lconst 0, 1) := by decide +kernel
theorem dX7_isSheet_3 : decode cX7_isSheet 3 = .ok (.ldc2_w 273, 3) := by decide +kernel
theorem dX7_isSheet_6 : decode cX7_isSheet 6 = .ok (.invokestatic 85, 3) := by decide +kernel
theorem dX7_isSheet_9 : decode cX7_isSheet 9 = .ok (.ireturn, 1) := by decide +kernel
theorem dX7_numberOf_0 : decode cX7_numberOf 0 = .ok (.aload_n 0, 1) := by decide +kernel
theorem dX7_numberOf_1 : decode cX7_numberOf 1 = .ok (.getfield 50, 3) := by decide +kernel
theorem dX7_numberOf_4 : decode cX7_numberOf 4 = .ok (.bipush 40, 2) := by decide +kernel
theorem dX7_numberOf_6 : decode cX7_numberOf 6 = .ok (.iload_n 1, 1) := by decide +kernel
theorem dX7_numberOf_7 : decode cX7_numberOf 7 = .ok (.imul, 1) := by decide +kernel
theorem dX7_numberOf_8 : decode cX7_numberOf 8 = .ok (.iload_n 2, 1) := by decide +kernel
theorem dX7_numberOf_9 : decode cX7_numberOf 9 = .ok (.iadd, 1) := by decide +kernel
theorem dX7_numberOf_10 : decode cX7_numberOf 10 = .ok (.laload, 1) := by decide +kernel
theorem dX7_numberOf_11 : decode cX7_numberOf 11 = .ok (.lreturn, 1) := by decide +kernel
theorem dX7_hinders_0 : decode cX7_hinders 0 = .ok (.iload_n 1, 1) := by decide +kernel
theorem dX7_hinders_1 : decode cX7_hinders 1 = .ok (.invokestatic 295, 3) := by decide +kernel
theorem dX7_hinders_4 : decode cX7_hinders 4 = .ok (.ifCond .ne 5, 3) := by decide +kernel
theorem dX7_hinders_7 : decode cX7_hinders 7 = .ok (.iconst 0, 1) := by decide +kernel
theorem dX7_hinders_8 : decode cX7_hinders 8 = .ok (.ireturn, 1) := by decide +kernel
theorem dX7_hinders_9 : decode cX7_hinders 9 = .ok (.aload_n 0, 1) := by decide +kernel
theorem dX7_hinders_10 : decode cX7_hinders 10 = .ok (.getfield 44, 3) := by decide +kernel
theorem dX7_hinders_13 : decode cX7_hinders 13 = .ok (.iload_n 1, 1) := by decide +kernel
theorem dX7_hinders_14 : decode cX7_hinders 14 = .ok (.iaload, 1) := by decide +kernel
theorem dX7_hinders_15 : decode cX7_hinders 15 = .ok (.ifCond .ne 5, 3) := by decide +kernel
theorem dX7_hinders_18 : decode cX7_hinders 18 = .ok (.iconst 5, 1) := by decide +kernel
theorem dX7_hinders_19 : decode cX7_hinders 19 = .ok (.ireturn, 1) := by decide +kernel
theorem dX7_hinders_20 : decode cX7_hinders 20 = .ok (.aload_n 0, 1) := by decide +kernel
theorem dX7_hinders_21 : decode cX7_hinders 21 = .ok (.getfield 47, 3) := by decide +kernel
theorem dX7_hinders_24 : decode cX7_hinders 24 = .ok (.iload_n 1, 1) := by decide +kernel
theorem dX7_hinders_25 : decode cX7_hinders 25 = .ok (.iaload, 1) := by decide +kernel
theorem dX7_hinders_26 : decode cX7_hinders 26 = .ok (.i2l, 1) := by decide +kernel
theorem dX7_hinders_27 : decode cX7_hinders 27 = .ok (.iload_n 2, 1) := by decide +kernel
theorem dX7_hinders_28 : decode cX7_hinders 28 = .ok (.i2l, 1) := by decide +kernel
theorem dX7_hinders_29 : decode cX7_hinders 29 = .ok (.iload_n 3, 1) := by decide +kernel
theorem dX7_hinders_30 : decode cX7_hinders 30 = .ok (.i2l, 1) := by decide +kernel
theorem dX7_hinders_31 : decode cX7_hinders 31 = .ok (.invokestatic 85, 3) := by decide +kernel
theorem dX7_hinders_34 : decode cX7_hinders 34 = .ok (.ifCond .ne 6, 3) := by decide +kernel
theorem dX7_hinders_37 : decode cX7_hinders 37 = .ok (.bipush 6, 2) := by decide +kernel
theorem dX7_hinders_39 : decode cX7_hinders 39 = .ok (.ireturn, 1) := by decide +kernel
theorem dX7_hinders_40 : decode cX7_hinders 40 = .ok (.iconst (-1), 1) := by decide +kernel
theorem dX7_hinders_41 : decode cX7_hinders 41 = .ok (.istore 6, 2) := by decide +kernel
theorem dX7_hinders_43 : decode cX7_hinders 43 = .ok (.iconst 0, 1) := by decide +kernel
theorem dX7_hinders_44 : decode cX7_hinders 44 = .ok (.istore 7, 2) := by decide +kernel
theorem dX7_hinders_46 : decode cX7_hinders 46 = .ok (.iload 7, 2) := by decide +kernel
theorem dX7_hinders_48 : decode cX7_hinders 48 = .ok (.aload_n 0, 1) := by decide +kernel
theorem dX7_hinders_49 : decode cX7_hinders 49 = .ok (.getfield 47, 3) := by decide +kernel
theorem dX7_hinders_52 : decode cX7_hinders 52 = .ok (.iload_n 1, 1) := by decide +kernel
theorem dX7_hinders_53 : decode cX7_hinders 53 = .ok (.iaload, 1) := by decide +kernel
theorem dX7_hinders_54 : decode cX7_hinders 54 = .ok (.if_icmp .ge 35, 3) := by decide +kernel
theorem dX7_hinders_57 : decode cX7_hinders 57 = .ok (.aload_n 0, 1) := by decide +kernel
theorem dX7_hinders_58 : decode cX7_hinders 58 = .ok (.iload_n 1, 1) := by decide +kernel
theorem dX7_hinders_59 : decode cX7_hinders 59 = .ok (.iload 7, 2) := by decide +kernel
theorem dX7_hinders_61 : decode cX7_hinders 61 = .ok (.invokevirtual 298, 3) := by decide +kernel
theorem dX7_hinders_64 : decode cX7_hinders 64 = .ok (.lload 4, 2) := by decide +kernel
theorem dX7_hinders_66 : decode cX7_hinders 66 = .ok (.lneg, 1) := by decide +kernel
theorem dX7_hinders_67 : decode cX7_hinders 67 = .ok (.lload 4, 2) := by decide +kernel
theorem dX7_hinders_69 : decode cX7_hinders 69 = .ok (.invokestatic 85, 3) := by decide +kernel
theorem dX7_hinders_72 : decode cX7_hinders 72 = .ok (.ifCond .eq 8, 3) := by decide +kernel
theorem dX7_hinders_75 : decode cX7_hinders 75 = .ok (.iload 6, 2) := by decide +kernel
theorem dX7_hinders_77 : decode cX7_hinders 77 = .ok (.goto 4, 3) := by decide +kernel
theorem dX7_hinders_80 : decode cX7_hinders 80 = .ok (.iconst 2, 1) := by decide +kernel
theorem dX7_hinders_81 : decode cX7_hinders 81 = .ok (.istore 6, 2) := by decide +kernel
theorem dX7_hinders_83 : decode cX7_hinders 83 = .ok (.iinc 7 1, 3) := by decide +kernel
theorem dX7_hinders_86 : decode cX7_hinders 86 = .ok (.goto (-40), 3) := by decide +kernel
theorem dX7_hinders_89 : decode cX7_hinders 89 = .ok (.iload 6, 2) := by decide +kernel
theorem dX7_hinders_91 : decode cX7_hinders 91 = .ok (.ireturn, 1) := by decide +kernel
theorem dX7_isRest_0 : decode cX7_isRest 0 = .ok (.aload_n 0, 1) := by decide +kernel
theorem dX7_isRest_1 : decode cX7_isRest 1 = .ok (.iload_n 1, 1) := by decide +kernel
theorem dX7_isRest_2 : decode cX7_isRest 2 = .ok (.iload_n 2, 1) := by decide +kernel
theorem dX7_isRest_3 : decode cX7_isRest 3 = .ok (.invokevirtual 298, 3) := by decide +kernel
theorem dX7_isRest_6 : decode cX7_isRest 6 = .ok (.aload_n 0, 1) := by decide +kernel
theorem dX7_isRest_7 : decode cX7_isRest 7 = .ok (.iload_n 1, 1) := by decide +kernel
theorem dX7_isRest_8 : decode cX7_isRest 8 = .ok (.iload_n 2, 1) := by decide +kernel
theorem dX7_isRest_9 : decode cX7_isRest 9 = .ok (.iconst 1, 1) := by decide +kernel
theorem dX7_isRest_10 : decode cX7_isRest 10 = .ok (.ixor, 1) := by decide +kernel
theorem dX7_isRest_11 : decode cX7_isRest 11 = .ok (.invokevirtual 298, 3) := by decide +kernel
theorem dX7_isRest_14 : decode cX7_isRest 14 = .ok (.lcmp, 1) := by decide +kernel
theorem dX7_isRest_15 : decode cX7_isRest 15 = .ok (.ifCond .lt 29, 3) := by decide +kernel
theorem dX7_isRest_18 : decode cX7_isRest 18 = .ok (.aload_n 0, 1) := by decide +kernel
theorem dX7_isRest_19 : decode cX7_isRest 19 = .ok (.iload_n 1, 1) := by decide +kernel
theorem dX7_isRest_20 : decode cX7_isRest 20 = .ok (.iconst 4, 1) := by decide +kernel
theorem dX7_isRest_21 : decode cX7_isRest 21 = .ok (.iload_n 2, 1) := by decide +kernel
theorem dX7_isRest_22 : decode cX7_isRest 22 = .ok (.iadd, 1) := by decide +kernel
theorem dX7_isRest_23 : decode cX7_isRest 23 = .ok (.invokevirtual 298, 3) := by decide +kernel
theorem dX7_isRest_26 : decode cX7_isRest 26 = .ok (.aload_n 0, 1) := by decide +kernel
theorem dX7_isRest_27 : decode cX7_isRest 27 = .ok (.iload_n 1, 1) := by decide +kernel
theorem dX7_isRest_28 : decode cX7_isRest 28 = .ok (.iconst 4, 1) := by decide +kernel
theorem dX7_isRest_29 : decode cX7_isRest 29 = .ok (.iload_n 2, 1) := by decide +kernel
theorem dX7_isRest_30 : decode cX7_isRest 30 = .ok (.iconst 2, 1) := by decide +kernel
theorem dX7_isRest_31 : decode cX7_isRest 31 = .ok (.ixor, 1) := by decide +kernel
theorem dX7_isRest_32 : decode cX7_isRest 32 = .ok (.iadd, 1) := by decide +kernel
theorem dX7_isRest_33 : decode cX7_isRest 33 = .ok (.invokevirtual 298, 3) := by decide +kernel
theorem dX7_isRest_36 : decode cX7_isRest 36 = .ok (.lcmp, 1) := by decide +kernel
theorem dX7_isRest_37 : decode cX7_isRest 37 = .ok (.ifCond .lt 7, 3) := by decide +kernel
theorem dX7_isRest_40 : decode cX7_isRest 40 = .ok (.iconst 1, 1) := by decide +kernel
theorem dX7_isRest_41 : decode cX7_isRest 41 = .ok (.goto 4, 3) := by decide +kernel
theorem dX7_isRest_44 : decode cX7_isRest 44 = .ok (.iconst 0, 1) := by decide +kernel
theorem dX7_isRest_45 : decode cX7_isRest 45 = .ok (.ireturn, 1) := by decide +kernel
theorem dX7_rests_0 : decode cX7_rests 0 = .ok (.aload_n 0, 1) := by decide +kernel
theorem dX7_rests_1 : decode cX7_rests 1 = .ok (.iload_n 1, 1) := by decide +kernel
theorem dX7_rests_2 : decode cX7_rests 2 = .ok (.bipush 8, 2) := by decide +kernel
theorem dX7_rests_4 : decode cX7_rests 4 = .ok (.bipush 8, 2) := by decide +kernel
theorem dX7_rests_6 : decode cX7_rests 6 = .ok (.ldc2_w 66, 3) := by decide +kernel
theorem dX7_rests_9 : decode cX7_rests 9 = .ok (.invokevirtual 301, 3) := by decide +kernel
theorem dX7_rests_12 : decode cX7_rests 12 = .ok (.istore_n 2, 1) := by decide +kernel
theorem dX7_rests_13 : decode cX7_rests 13 = .ok (.iload_n 2, 1) := by decide +kernel
theorem dX7_rests_14 : decode cX7_rests 14 = .ok (.ifCond .lt 9, 3) := by decide +kernel
theorem dX7_rests_17 : decode cX7_rests 17 = .ok (.aload_n 0, 1) := by decide +kernel
theorem dX7_rests_18 : decode cX7_rests 18 = .ok (.iload_n 2, 1) := by decide +kernel
theorem dX7_rests_19 : decode cX7_rests 19 = .ok (.invokevirtual 93, 3) := by decide +kernel
theorem dX7_rests_22 : decode cX7_rests 22 = .ok (.ireturn, 1) := by decide +kernel
theorem dX7_rests_23 : decode cX7_rests 23 = .ok (.iconst 0, 1) := by decide +kernel
theorem dX7_rests_24 : decode cX7_rests 24 = .ok (.istore_n 3, 1) := by decide +kernel
theorem dX7_rests_25 : decode cX7_rests 25 = .ok (.iconst 0, 1) := by decide +kernel
theorem dX7_rests_26 : decode cX7_rests 26 = .ok (.istore 4, 2) := by decide +kernel
theorem dX7_rests_28 : decode cX7_rests 28 = .ok (.iload 4, 2) := by decide +kernel
theorem dX7_rests_30 : decode cX7_rests 30 = .ok (.iconst 4, 1) := by decide +kernel
theorem dX7_rests_31 : decode cX7_rests 31 = .ok (.if_icmp .ge 30, 3) := by decide +kernel
theorem dX7_rests_34 : decode cX7_rests 34 = .ok (.iload_n 3, 1) := by decide +kernel
theorem dX7_rests_35 : decode cX7_rests 35 = .ok (.aload_n 0, 1) := by decide +kernel
theorem dX7_rests_36 : decode cX7_rests 36 = .ok (.iload_n 1, 1) := by decide +kernel
theorem dX7_rests_37 : decode cX7_rests 37 = .ok (.iload 4, 2) := by decide +kernel
theorem dX7_rests_39 : decode cX7_rests 39 = .ok (.invokevirtual 305, 3) := by decide +kernel
theorem dX7_rests_42 : decode cX7_rests 42 = .ok (.ifCond .eq 10, 3) := by decide +kernel
theorem dX7_rests_45 : decode cX7_rests 45 = .ok (.iconst 1, 1) := by decide +kernel
theorem dX7_rests_46 : decode cX7_rests 46 = .ok (.iload 4, 2) := by decide +kernel
theorem dX7_rests_48 : decode cX7_rests 48 = .ok (.ishl, 1) := by decide +kernel
theorem dX7_rests_49 : decode cX7_rests 49 = .ok (.goto 4, 3) := by decide +kernel
theorem dX7_rests_52 : decode cX7_rests 52 = .ok (.iconst 0, 1) := by decide +kernel
theorem dX7_rests_53 : decode cX7_rests 53 = .ok (.ior, 1) := by decide +kernel
theorem dX7_rests_54 : decode cX7_rests 54 = .ok (.istore_n 3, 1) := by decide +kernel
theorem dX7_rests_55 : decode cX7_rests 55 = .ok (.iinc 4 1, 3) := by decide +kernel
theorem dX7_rests_58 : decode cX7_rests 58 = .ok (.goto (-30), 3) := by decide +kernel
theorem dX7_rests_61 : decode cX7_rests 61 = .ok (.iload_n 3, 1) := by decide +kernel
theorem dX7_rests_62 : decode cX7_rests 62 = .ok (.ireturn, 1) := by decide +kernel
theorem dX7_both_0 : decode cX7_both 0 = .ok (.iload_n 1, 1) := by decide +kernel
theorem dX7_both_1 : decode cX7_both 1 = .ok (.invokestatic 295, 3) := by decide +kernel
theorem dX7_both_4 : decode cX7_both 4 = .ok (.ifCond .eq 13, 3) := by decide +kernel
theorem dX7_both_7 : decode cX7_both 7 = .ok (.iload_n 2, 1) := by decide +kernel
theorem dX7_both_8 : decode cX7_both 8 = .ok (.i2l, 1) := by decide +kernel
theorem dX7_both_9 : decode cX7_both 9 = .ok (.lconst 0, 1) := by decide +kernel
theorem dX7_both_10 : decode cX7_both 10 = .ok (.lconst 1, 1) := by decide +kernel
theorem dX7_both_11 : decode cX7_both 11 = .ok (.invokestatic 85, 3) := by decide +kernel
theorem dX7_both_14 : decode cX7_both 14 = .ok (.ifCond .ne 7, 3) := by decide +kernel
theorem dX7_both_17 : decode cX7_both 17 = .ok (.iconst 0, 1) := by decide +kernel
theorem dX7_both_18 : decode cX7_both 18 = .ok (.goto 15, 3) := by decide +kernel
theorem dX7_both_21 : decode cX7_both 21 = .ok (.aload_n 0, 1) := by decide +kernel
theorem dX7_both_22 : decode cX7_both 22 = .ok (.iload_n 1, 1) := by decide +kernel
theorem dX7_both_23 : decode cX7_both 23 = .ok (.bipush 8, 2) := by decide +kernel
theorem dX7_both_25 : decode cX7_both 25 = .ok (.bipush 8, 2) := by decide +kernel
theorem dX7_both_27 : decode cX7_both 27 = .ok (.ldc2_w 66, 3) := by decide +kernel
theorem dX7_both_30 : decode cX7_both 30 = .ok (.invokevirtual 301, 3) := by decide +kernel
theorem dX7_both_33 : decode cX7_both 33 = .ok (.istore_n 3, 1) := by decide +kernel
theorem dX7_both_34 : decode cX7_both 34 = .ok (.iload_n 3, 1) := by decide +kernel
theorem dX7_both_35 : decode cX7_both 35 = .ok (.ifCond .lt 9, 3) := by decide +kernel
theorem dX7_both_38 : decode cX7_both 38 = .ok (.aload_n 0, 1) := by decide +kernel
theorem dX7_both_39 : decode cX7_both 39 = .ok (.iload_n 3, 1) := by decide +kernel
theorem dX7_both_40 : decode cX7_both 40 = .ok (.invokevirtual 93, 3) := by decide +kernel
theorem dX7_both_43 : decode cX7_both 43 = .ok (.ireturn, 1) := by decide +kernel
theorem dX7_both_44 : decode cX7_both 44 = .ok (.iconst 0, 1) := by decide +kernel
theorem dX7_both_45 : decode cX7_both 45 = .ok (.istore 4, 2) := by decide +kernel
theorem dX7_both_47 : decode cX7_both 47 = .ok (.lconst 0, 1) := by decide +kernel
theorem dX7_both_48 : decode cX7_both 48 = .ok (.lstore 5, 2) := by decide +kernel
theorem dX7_both_50 : decode cX7_both 50 = .ok (.aload_n 0, 1) := by decide +kernel
theorem dX7_both_51 : decode cX7_both 51 = .ok (.iload_n 1, 1) := by decide +kernel
theorem dX7_both_52 : decode cX7_both 52 = .ok (.iconst 0, 1) := by decide +kernel
theorem dX7_both_53 : decode cX7_both 53 = .ok (.invokevirtual 298, 3) := by decide +kernel
theorem dX7_both_56 : decode cX7_both 56 = .ok (.aload_n 0, 1) := by decide +kernel
theorem dX7_both_57 : decode cX7_both 57 = .ok (.iload_n 1, 1) := by decide +kernel
theorem dX7_both_58 : decode cX7_both 58 = .ok (.iconst 4, 1) := by decide +kernel
theorem dX7_both_59 : decode cX7_both 59 = .ok (.invokevirtual 298, 3) := by decide +kernel
theorem dX7_both_62 : decode cX7_both 62 = .ok (.ladd, 1) := by decide +kernel
theorem dX7_both_63 : decode cX7_both 63 = .ok (.lstore 7, 2) := by decide +kernel
theorem dX7_both_65 : decode cX7_both 65 = .ok (.iconst 0, 1) := by decide +kernel
theorem dX7_both_66 : decode cX7_both 66 = .ok (.istore 9, 2) := by decide +kernel
theorem dX7_both_68 : decode cX7_both 68 = .ok (.iload 9, 2) := by decide +kernel
theorem dX7_both_70 : decode cX7_both 70 = .ok (.iconst 4, 1) := by decide +kernel
theorem dX7_both_71 : decode cX7_both 71 = .ok (.if_icmp .ge 75, 3) := by decide +kernel
theorem dX7_both_74 : decode cX7_both 74 = .ok (.aload_n 0, 1) := by decide +kernel
theorem dX7_both_75 : decode cX7_both 75 = .ok (.iload_n 1, 1) := by decide +kernel
theorem dX7_both_76 : decode cX7_both 76 = .ok (.iload 9, 2) := by decide +kernel
theorem dX7_both_78 : decode cX7_both 78 = .ok (.invokevirtual 298, 3) := by decide +kernel
theorem dX7_both_81 : decode cX7_both 81 = .ok (.aload_n 0, 1) := by decide +kernel
theorem dX7_both_82 : decode cX7_both 82 = .ok (.iload_n 1, 1) := by decide +kernel
theorem dX7_both_83 : decode cX7_both 83 = .ok (.iconst 4, 1) := by decide +kernel
theorem dX7_both_84 : decode cX7_both 84 = .ok (.iload 9, 2) := by decide +kernel
theorem dX7_both_86 : decode cX7_both 86 = .ok (.iadd, 1) := by decide +kernel
theorem dX7_both_87 : decode cX7_both 87 = .ok (.invokevirtual 298, 3) := by decide +kernel
theorem dX7_both_90 : decode cX7_both 90 = .ok (.ladd, 1) := by decide +kernel
theorem dX7_both_91 : decode cX7_both 91 = .ok (.lstore 10, 2) := by decide +kernel
theorem dX7_both_93 : decode cX7_both 93 = .ok (.lload 10, 2) := by decide +kernel
theorem dX7_both_95 : decode cX7_both 95 = .ok (.lload 7, 2) := by decide +kernel
theorem dX7_both_97 : decode cX7_both 97 = .ok (.lcmp, 1) := by decide +kernel
theorem dX7_both_98 : decode cX7_both 98 = .ok (.ifCond .le 8, 3) := by decide +kernel
theorem dX7_both_101 : decode cX7_both 101 = .ok (.lload 10, 2) := by decide +kernel
theorem dX7_both_103 : decode cX7_both 103 = .ok (.goto 5, 3) := by decide +kernel
theorem dX7_both_106 : decode cX7_both 106 = .ok (.lload 7, 2) := by decide +kernel
theorem dX7_both_108 : decode cX7_both 108 = .ok (.lstore 7, 2) := by decide +kernel
theorem dX7_both_110 : decode cX7_both 110 = .ok (.aload_n 0, 1) := by decide +kernel
theorem dX7_both_111 : decode cX7_both 111 = .ok (.iload_n 1, 1) := by decide +kernel
theorem dX7_both_112 : decode cX7_both 112 = .ok (.iload 9, 2) := by decide +kernel
theorem dX7_both_114 : decode cX7_both 114 = .ok (.invokevirtual 305, 3) := by decide +kernel
theorem dX7_both_117 : decode cX7_both 117 = .ok (.ifCond .eq 23, 3) := by decide +kernel
theorem dX7_both_120 : decode cX7_both 120 = .ok (.iload 4, 2) := by decide +kernel
theorem dX7_both_122 : decode cX7_both 122 = .ok (.ifCond .eq 11, 3) := by decide +kernel
theorem dX7_both_125 : decode cX7_both 125 = .ok (.lload 10, 2) := by decide +kernel
theorem dX7_both_127 : decode cX7_both 127 = .ok (.lload 5, 2) := by decide +kernel
theorem dX7_both_129 : decode cX7_both 129 = .ok (.lcmp, 1) := by decide +kernel
theorem dX7_both_130 : decode cX7_both 130 = .ok (.ifCond .le 10, 3) := by decide +kernel
theorem dX7_both_133 : decode cX7_both 133 = .ok (.iconst 1, 1) := by decide +kernel
theorem dX7_both_134 : decode cX7_both 134 = .ok (.istore 4, 2) := by decide +kernel
theorem dX7_both_136 : decode cX7_both 136 = .ok (.lload 10, 2) := by decide +kernel
theorem dX7_both_138 : decode cX7_both 138 = .ok (.lstore 5, 2) := by decide +kernel
theorem dX7_both_140 : decode cX7_both 140 = .ok (.iinc 9 1, 3) := by decide +kernel
theorem dX7_both_143 : decode cX7_both 143 = .ok (.goto (-75), 3) := by decide +kernel
theorem dX7_both_146 : decode cX7_both 146 = .ok (.iload_n 2, 1) := by decide +kernel
theorem dX7_both_147 : decode cX7_both 147 = .ok (.ifCond .ne 7, 3) := by decide +kernel
theorem dX7_both_150 : decode cX7_both 150 = .ok (.lload 7, 2) := by decide +kernel
theorem dX7_both_152 : decode cX7_both 152 = .ok (.l2i, 1) := by decide +kernel
theorem dX7_both_153 : decode cX7_both 153 = .ok (.ireturn, 1) := by decide +kernel
theorem dX7_both_154 : decode cX7_both 154 = .ok (.iload 4, 2) := by decide +kernel
theorem dX7_both_156 : decode cX7_both 156 = .ok (.ifCond .eq 12, 3) := by decide +kernel
theorem dX7_both_159 : decode cX7_both 159 = .ok (.lload 7, 2) := by decide +kernel
theorem dX7_both_161 : decode cX7_both 161 = .ok (.lload 5, 2) := by decide +kernel
theorem dX7_both_163 : decode cX7_both 163 = .ok (.lsub, 1) := by decide +kernel
theorem dX7_both_164 : decode cX7_both 164 = .ok (.l2i, 1) := by decide +kernel
theorem dX7_both_165 : decode cX7_both 165 = .ok (.goto 8, 3) := by decide +kernel
theorem dX7_both_168 : decode cX7_both 168 = .ok (.aload_n 0, 1) := by decide +kernel
theorem dX7_both_169 : decode cX7_both 169 = .ok (.iconst 3, 1) := by decide +kernel
theorem dX7_both_170 : decode cX7_both 170 = .ok (.invokevirtual 93, 3) := by decide +kernel
theorem dX7_both_173 : decode cX7_both 173 = .ok (.ireturn, 1) := by decide +kernel
theorem dX7_heightOf_0 : decode cX7_heightOf 0 = .ok (.aload_n 0, 1) := by decide +kernel
theorem dX7_heightOf_1 : decode cX7_heightOf 1 = .ok (.iload_n 1, 1) := by decide +kernel
theorem dX7_heightOf_2 : decode cX7_heightOf 2 = .ok (.iload_n 2, 1) := by decide +kernel
theorem dX7_heightOf_3 : decode cX7_heightOf 3 = .ok (.invokevirtual 298, 3) := by decide +kernel
theorem dX7_heightOf_6 : decode cX7_heightOf 6 = .ok (.l2i, 1) := by decide +kernel
theorem dX7_heightOf_7 : decode cX7_heightOf 7 = .ok (.iload_n 3, 1) := by decide +kernel
theorem dX7_heightOf_8 : decode cX7_heightOf 8 = .ok (.invokestatic 262, 3) := by decide +kernel
theorem dX7_heightOf_11 : decode cX7_heightOf 11 = .ok (.iadd, 1) := by decide +kernel
theorem dX7_heightOf_12 : decode cX7_heightOf 12 = .ok (.ireturn, 1) := by decide +kernel
theorem dX7_findSwarm_0 : decode cX7_findSwarm 0 = .ok (.aload_n 0, 1) := by decide +kernel
theorem dX7_findSwarm_1 : decode cX7_findSwarm 1 = .ok (.getfield 47, 3) := by decide +kernel
theorem dX7_findSwarm_4 : decode cX7_findSwarm 4 = .ok (.iload_n 1, 1) := by decide +kernel
theorem dX7_findSwarm_5 : decode cX7_findSwarm 5 = .ok (.iaload, 1) := by decide +kernel
theorem dX7_findSwarm_6 : decode cX7_findSwarm 6 = .ok (.istore 4, 2) := by decide +kernel
theorem dX7_findSwarm_8 : decode cX7_findSwarm 8 = .ok (.iload 4, 2) := by decide +kernel
theorem dX7_findSwarm_10 : decode cX7_findSwarm 10 = .ok (.iconst 1, 1) := by decide +kernel
theorem dX7_findSwarm_11 : decode cX7_findSwarm 11 = .ok (.isub, 1) := by decide +kernel
theorem dX7_findSwarm_12 : decode cX7_findSwarm 12 = .ok (.istore 5, 2) := by decide +kernel
theorem dX7_findSwarm_14 : decode cX7_findSwarm 14 = .ok (.iload 5, 2) := by decide +kernel
theorem dX7_findSwarm_16 : decode cX7_findSwarm 16 = .ok (.ifCond .lt 227, 3) := by decide +kernel
theorem dX7_findSwarm_19 : decode cX7_findSwarm 19 = .ok (.iconst 0, 1) := by decide +kernel
theorem dX7_findSwarm_20 : decode cX7_findSwarm 20 = .ok (.istore 6, 2) := by decide +kernel
theorem dX7_findSwarm_22 : decode cX7_findSwarm 22 = .ok (.iload 6, 2) := by decide +kernel
theorem dX7_findSwarm_24 : decode cX7_findSwarm 24 = .ok (.iconst 2, 1) := by decide +kernel
theorem dX7_findSwarm_25 : decode cX7_findSwarm 25 = .ok (.iload_n 3, 1) := by decide +kernel
theorem dX7_findSwarm_26 : decode cX7_findSwarm 26 = .ok (.imul, 1) := by decide +kernel
theorem dX7_findSwarm_27 : decode cX7_findSwarm 27 = .ok (.if_icmp .gt 210, 3) := by decide +kernel
theorem dX7_findSwarm_30 : decode cX7_findSwarm 30 = .ok (.iload 6, 2) := by decide +kernel
theorem dX7_findSwarm_32 : decode cX7_findSwarm 32 = .ok (.ifCond .ne 7, 3) := by decide +kernel
theorem dX7_findSwarm_35 : decode cX7_findSwarm 35 = .ok (.iconst 0, 1) := by decide +kernel
theorem dX7_findSwarm_36 : decode cX7_findSwarm 36 = .ok (.goto 15, 3) := by decide +kernel
theorem dX7_findSwarm_39 : decode cX7_findSwarm 39 = .ok (.sipush 1000, 3) := by decide +kernel
theorem dX7_findSwarm_42 : decode cX7_findSwarm 42 = .ok (.iload 6, 2) := by decide +kernel
theorem dX7_findSwarm_44 : decode cX7_findSwarm 44 = .ok (.invokestatic 262, 3) := by decide +kernel
theorem dX7_findSwarm_47 : decode cX7_findSwarm 47 = .ok (.invokestatic 100, 3) := by decide +kernel
theorem dX7_findSwarm_50 : decode cX7_findSwarm 50 = .ok (.iadd, 1) := by decide +kernel
theorem dX7_findSwarm_51 : decode cX7_findSwarm 51 = .ok (.istore 7, 2) := by decide +kernel
theorem dX7_findSwarm_53 : decode cX7_findSwarm 53 = .ok (.aload_n 0, 1) := by decide +kernel
theorem dX7_findSwarm_54 : decode cX7_findSwarm 54 = .ok (.getfield 56, 3) := by decide +kernel
theorem dX7_findSwarm_57 : decode cX7_findSwarm 57 = .ok (.bipush 41, 2) := by decide +kernel
theorem dX7_findSwarm_59 : decode cX7_findSwarm 59 = .ok (.iload 5, 2) := by decide +kernel
theorem dX7_findSwarm_61 : decode cX7_findSwarm 61 = .ok (.imul, 1) := by decide +kernel
theorem dX7_findSwarm_62 : decode cX7_findSwarm 62 = .ok (.iload 6, 2) := by decide +kernel
theorem dX7_findSwarm_64 : decode cX7_findSwarm 64 = .ok (.iadd, 1) := by decide +kernel
theorem dX7_findSwarm_65 : decode cX7_findSwarm 65 = .ok (.iload 5, 2) := by decide +kernel
theorem dX7_findSwarm_67 : decode cX7_findSwarm 67 = .ok (.iload 4, 2) := by decide +kernel
theorem dX7_findSwarm_69 : decode cX7_findSwarm 69 = .ok (.iconst 1, 1) := by decide +kernel
theorem dX7_findSwarm_70 : decode cX7_findSwarm 70 = .ok (.isub, 1) := by decide +kernel
theorem dX7_findSwarm_71 : decode cX7_findSwarm 71 = .ok (.if_icmp .ne 8, 3) := by decide +kernel
theorem dX7_findSwarm_74 : decode cX7_findSwarm 74 = .ok (.iload 7, 2) := by decide +kernel
theorem dX7_findSwarm_76 : decode cX7_findSwarm 76 = .ok (.goto 5, 3) := by decide +kernel
theorem dX7_findSwarm_79 : decode cX7_findSwarm 79 = .ok (.ldc 160, 2) := by decide +kernel
theorem dX7_findSwarm_81 : decode cX7_findSwarm 81 = .ok (.iastore, 1) := by decide +kernel
theorem dX7_findSwarm_82 : decode cX7_findSwarm 82 = .ok (.aload_n 0, 1) := by decide +kernel
theorem dX7_findSwarm_83 : decode cX7_findSwarm 83 = .ok (.getfield 59, 3) := by decide +kernel
theorem dX7_findSwarm_86 : decode cX7_findSwarm 86 = .ok (.bipush 41, 2) := by decide +kernel
theorem dX7_findSwarm_88 : decode cX7_findSwarm 88 = .ok (.iload 5, 2) := by decide +kernel
theorem dX7_findSwarm_90 : decode cX7_findSwarm 90 = .ok (.imul, 1) := by decide +kernel
theorem dX7_findSwarm_91 : decode cX7_findSwarm 91 = .ok (.iload 6, 2) := by decide +kernel
theorem dX7_findSwarm_93 : decode cX7_findSwarm 93 = .ok (.iadd, 1) := by decide +kernel
theorem dX7_findSwarm_94 : decode cX7_findSwarm 94 = .ok (.iconst (-1), 1) := by decide +kernel
theorem dX7_findSwarm_95 : decode cX7_findSwarm 95 = .ok (.iastore, 1) := by decide +kernel
theorem dX7_findSwarm_96 : decode cX7_findSwarm 96 = .ok (.iconst 0, 1) := by decide +kernel
theorem dX7_findSwarm_97 : decode cX7_findSwarm 97 = .ok (.istore 8, 2) := by decide +kernel
theorem dX7_findSwarm_99 : decode cX7_findSwarm 99 = .ok (.iload 8, 2) := by decide +kernel
theorem dX7_findSwarm_101 : decode cX7_findSwarm 101 = .ok (.iconst 2, 1) := by decide +kernel
theorem dX7_findSwarm_102 : decode cX7_findSwarm 102 = .ok (.iload_n 3, 1) := by decide +kernel
theorem dX7_findSwarm_103 : decode cX7_findSwarm 103 = .ok (.imul, 1) := by decide +kernel
theorem dX7_findSwarm_104 : decode cX7_findSwarm 104 = .ok (.if_icmp .gt 127, 3) := by decide +kernel
theorem dX7_findSwarm_107 : decode cX7_findSwarm 107 = .ok (.iload 5, 2) := by decide +kernel
theorem dX7_findSwarm_109 : decode cX7_findSwarm 109 = .ok (.iload 4, 2) := by decide +kernel
theorem dX7_findSwarm_111 : decode cX7_findSwarm 111 = .ok (.iconst 1, 1) := by decide +kernel
theorem dX7_findSwarm_112 : decode cX7_findSwarm 112 = .ok (.isub, 1) := by decide +kernel
theorem dX7_findSwarm_113 : decode cX7_findSwarm 113 = .ok (.if_icmp .ge 118, 3) := by decide +kernel
theorem dX7_findSwarm_116 : decode cX7_findSwarm 116 = .ok (.iload 7, 2) := by decide +kernel
theorem dX7_findSwarm_118 : decode cX7_findSwarm 118 = .ok (.aload_n 0, 1) := by decide +kernel
theorem dX7_findSwarm_119 : decode cX7_findSwarm 119 = .ok (.getfield 56, 3) := by decide +kernel
theorem dX7_findSwarm_122 : decode cX7_findSwarm 122 = .ok (.bipush 41, 2) := by decide +kernel
theorem dX7_findSwarm_124 : decode cX7_findSwarm 124 = .ok (.iload 5, 2) := by decide +kernel
theorem dX7_findSwarm_126 : decode cX7_findSwarm 126 = .ok (.imul, 1) := by decide +kernel
theorem dX7_findSwarm_127 : decode cX7_findSwarm 127 = .ok (.bipush 41, 2) := by decide +kernel
theorem dX7_findSwarm_129 : decode cX7_findSwarm 129 = .ok (.iadd, 1) := by decide +kernel
theorem dX7_findSwarm_130 : decode cX7_findSwarm 130 = .ok (.iload 8, 2) := by decide +kernel
theorem dX7_findSwarm_132 : decode cX7_findSwarm 132 = .ok (.iadd, 1) := by decide +kernel
theorem dX7_findSwarm_133 : decode cX7_findSwarm 133 = .ok (.iaload, 1) := by decide +kernel
theorem dX7_findSwarm_134 : decode cX7_findSwarm 134 = .ok (.iadd, 1) := by decide +kernel
theorem dX7_findSwarm_135 : decode cX7_findSwarm 135 = .ok (.istore 9, 2) := by decide +kernel
theorem dX7_findSwarm_137 : decode cX7_findSwarm 137 = .ok (.aload_n 0, 1) := by decide +kernel
theorem dX7_findSwarm_138 : decode cX7_findSwarm 138 = .ok (.iload_n 1, 1) := by decide +kernel
theorem dX7_findSwarm_139 : decode cX7_findSwarm 139 = .ok (.iload 5, 2) := by decide +kernel
theorem dX7_findSwarm_141 : decode cX7_findSwarm 141 = .ok (.iload 6, 2) := by decide +kernel
theorem dX7_findSwarm_143 : decode cX7_findSwarm 143 = .ok (.invokevirtual 308, 3) := by decide +kernel
theorem dX7_findSwarm_146 : decode cX7_findSwarm 146 = .ok (.aload_n 0, 1) := by decide +kernel
theorem dX7_findSwarm_147 : decode cX7_findSwarm 147 = .ok (.iload_n 1, 1) := by decide +kernel
theorem dX7_findSwarm_148 : decode cX7_findSwarm 148 = .ok (.iload 5, 2) := by decide +kernel
theorem dX7_findSwarm_150 : decode cX7_findSwarm 150 = .ok (.iconst 1, 1) := by decide +kernel
theorem dX7_findSwarm_151 : decode cX7_findSwarm 151 = .ok (.iadd, 1) := by decide +kernel
theorem dX7_findSwarm_152 : decode cX7_findSwarm 152 = .ok (.iload 8, 2) := by decide +kernel
theorem dX7_findSwarm_154 : decode cX7_findSwarm 154 = .ok (.invokevirtual 308, 3) := by decide +kernel
theorem dX7_findSwarm_157 : decode cX7_findSwarm 157 = .ok (.isub, 1) := by decide +kernel
theorem dX7_findSwarm_158 : decode cX7_findSwarm 158 = .ok (.invokestatic 100, 3) := by decide +kernel
theorem dX7_findSwarm_161 : decode cX7_findSwarm 161 = .ok (.iload_n 2, 1) := by decide +kernel
theorem dX7_findSwarm_162 : decode cX7_findSwarm 162 = .ok (.if_icmp .lt 7, 3) := by decide +kernel
theorem dX7_findSwarm_165 : decode cX7_findSwarm 165 = .ok (.iconst 1, 1) := by decide +kernel
theorem dX7_findSwarm_166 : decode cX7_findSwarm 166 = .ok (.goto 4, 3) := by decide +kernel
theorem dX7_findSwarm_169 : decode cX7_findSwarm 169 = .ok (.iconst 0, 1) := by decide +kernel
theorem dX7_findSwarm_170 : decode cX7_findSwarm 170 = .ok (.istore 10, 2) := by decide +kernel
theorem dX7_findSwarm_172 : decode cX7_findSwarm 172 = .ok (.iload 10, 2) := by decide +kernel
theorem dX7_findSwarm_174 : decode cX7_findSwarm 174 = .ok (.ifCond .eq 51, 3) := by decide +kernel
theorem dX7_findSwarm_177 : decode cX7_findSwarm 177 = .ok (.iload 9, 2) := by decide +kernel
theorem dX7_findSwarm_179 : decode cX7_findSwarm 179 = .ok (.aload_n 0, 1) := by decide +kernel
theorem dX7_findSwarm_180 : decode cX7_findSwarm 180 = .ok (.getfield 56, 3) := by decide +kernel
theorem dX7_findSwarm_183 : decode cX7_findSwarm 183 = .ok (.bipush 41, 2) := by decide +kernel
theorem dX7_findSwarm_185 : decode cX7_findSwarm 185 = .ok (.iload 5, 2) := by decide +kernel
theorem dX7_findSwarm_187 : decode cX7_findSwarm 187 = .ok (.imul, 1) := by decide +kernel
theorem dX7_findSwarm_188 : decode cX7_findSwarm 188 = .ok (.iload 6, 2) := by decide +kernel
theorem dX7_findSwarm_190 : decode cX7_findSwarm 190 = .ok (.iadd, 1) := by decide +kernel
theorem dX7_findSwarm_191 : decode cX7_findSwarm 191 = .ok (.iaload, 1) := by decide +kernel
theorem dX7_findSwarm_192 : decode cX7_findSwarm 192 = .ok (.if_icmp .ge 33, 3) := by decide +kernel
theorem dX7_findSwarm_195 : decode cX7_findSwarm 195 = .ok (.aload_n 0, 1) := by decide +kernel
theorem dX7_findSwarm_196 : decode cX7_findSwarm 196 = .ok (.getfield 56, 3) := by decide +kernel
theorem dX7_findSwarm_199 : decode cX7_findSwarm 199 = .ok (.bipush 41, 2) := by decide +kernel
theorem dX7_findSwarm_201 : decode cX7_findSwarm 201 = .ok (.iload 5, 2) := by decide +kernel
theorem dX7_findSwarm_203 : decode cX7_findSwarm 203 = .ok (.imul, 1) := by decide +kernel
theorem dX7_findSwarm_204 : decode cX7_findSwarm 204 = .ok (.iload 6, 2) := by decide +kernel
theorem dX7_findSwarm_206 : decode cX7_findSwarm 206 = .ok (.iadd, 1) := by decide +kernel
theorem dX7_findSwarm_207 : decode cX7_findSwarm 207 = .ok (.iload 9, 2) := by decide +kernel
theorem dX7_findSwarm_209 : decode cX7_findSwarm 209 = .ok (.iastore, 1) := by decide +kernel
theorem dX7_findSwarm_210 : decode cX7_findSwarm 210 = .ok (.aload_n 0, 1) := by decide +kernel
theorem dX7_findSwarm_211 : decode cX7_findSwarm 211 = .ok (.getfield 59, 3) := by decide +kernel
theorem dX7_findSwarm_214 : decode cX7_findSwarm 214 = .ok (.bipush 41, 2) := by decide +kernel
theorem dX7_findSwarm_216 : decode cX7_findSwarm 216 = .ok (.iload 5, 2) := by decide +kernel
theorem dX7_findSwarm_218 : decode cX7_findSwarm 218 = .ok (.imul, 1) := by decide +kernel
theorem dX7_findSwarm_219 : decode cX7_findSwarm 219 = .ok (.iload 6, 2) := by decide +kernel
theorem dX7_findSwarm_221 : decode cX7_findSwarm 221 = .ok (.iadd, 1) := by decide +kernel
theorem dX7_findSwarm_222 : decode cX7_findSwarm 222 = .ok (.iload 8, 2) := by decide +kernel
theorem dX7_findSwarm_224 : decode cX7_findSwarm 224 = .ok (.iastore, 1) := by decide +kernel
theorem dX7_findSwarm_225 : decode cX7_findSwarm 225 = .ok (.iinc 8 1, 3) := by decide +kernel
theorem dX7_findSwarm_228 : decode cX7_findSwarm 228 = .ok (.goto (-129), 3) := by decide +kernel
theorem dX7_findSwarm_231 : decode cX7_findSwarm 231 = .ok (.iinc 6 1, 3) := by decide +kernel
theorem dX7_findSwarm_234 : decode cX7_findSwarm 234 = .ok (.goto (-212), 3) := by decide +kernel
theorem dX7_findSwarm_237 : decode cX7_findSwarm 237 = .ok (.iinc 5 (-1), 3) := by decide +kernel
theorem dX7_findSwarm_240 : decode cX7_findSwarm 240 = .ok (.goto (-226), 3) := by decide +kernel
theorem dX7_findSwarm_243 : decode cX7_findSwarm 243 = .ok (.return_, 1) := by decide +kernel
theorem dX7_swarm_0 : decode cX7_swarm 0 = .ok (.iload_n 1, 1) := by decide +kernel
theorem dX7_swarm_1 : decode cX7_swarm 1 = .ok (.invokestatic 295, 3) := by decide +kernel
theorem dX7_swarm_4 : decode cX7_swarm 4 = .ok (.ifCond .eq 40, 3) := by decide +kernel
theorem dX7_swarm_7 : decode cX7_swarm 7 = .ok (.iload_n 2, 1) := by decide +kernel
theorem dX7_swarm_8 : decode cX7_swarm 8 = .ok (.i2l, 1) := by decide +kernel
theorem dX7_swarm_9 : decode cX7_swarm 9 = .ok (.lconst 0, 1) := by decide +kernel
theorem dX7_swarm_10 : decode cX7_swarm 10 = .ok (.ldc2_w 173, 3) := by decide +kernel
theorem dX7_swarm_13 : decode cX7_swarm 13 = .ok (.invokestatic 85, 3) := by decide +kernel
theorem dX7_swarm_16 : decode cX7_swarm 16 = .ok (.ifCond .eq 28, 3) := by decide +kernel
theorem dX7_swarm_19 : decode cX7_swarm 19 = .ok (.iload_n 3, 1) := by decide +kernel
theorem dX7_swarm_20 : decode cX7_swarm 20 = .ok (.i2l, 1) := by decide +kernel
theorem dX7_swarm_21 : decode cX7_swarm 21 = .ok (.lconst 0, 1) := by decide +kernel
theorem dX7_swarm_22 : decode cX7_swarm 22 = .ok (.ldc2_w 281, 3) := by decide +kernel
theorem dX7_swarm_25 : decode cX7_swarm 25 = .ok (.invokestatic 85, 3) := by decide +kernel
theorem dX7_swarm_28 : decode cX7_swarm 28 = .ok (.ifCond .eq 16, 3) := by decide +kernel
theorem dX7_swarm_31 : decode cX7_swarm 31 = .ok (.iload 4, 2) := by decide +kernel
theorem dX7_swarm_33 : decode cX7_swarm 33 = .ok (.i2l, 1) := by decide +kernel
theorem dX7_swarm_34 : decode cX7_swarm 34 = .ok (.lconst 0, 1) := by decide +kernel
theorem dX7_swarm_35 : decode cX7_swarm 35 = .ok (.ldc2_w 311, 3) := by decide +kernel
theorem dX7_swarm_38 : decode cX7_swarm 38 = .ok (.invokestatic 85, 3) := by decide +kernel
theorem dX7_swarm_41 : decode cX7_swarm 41 = .ok (.ifCond .ne 9, 3) := by decide +kernel
theorem dX7_swarm_44 : decode cX7_swarm 44 = .ok (.aload_n 0, 1) := by decide +kernel
theorem dX7_swarm_45 : decode cX7_swarm 45 = .ok (.iconst 0, 1) := by decide +kernel
theorem dX7_swarm_46 : decode cX7_swarm 46 = .ok (.invokevirtual 93, 3) := by decide +kernel
theorem dX7_swarm_49 : decode cX7_swarm 49 = .ok (.ireturn, 1) := by decide +kernel
theorem dX7_swarm_50 : decode cX7_swarm 50 = .ok (.aload_n 0, 1) := by decide +kernel
theorem dX7_swarm_51 : decode cX7_swarm 51 = .ok (.iload_n 1, 1) := by decide +kernel
theorem dX7_swarm_52 : decode cX7_swarm 52 = .ok (.iconst 2, 1) := by decide +kernel
theorem dX7_swarm_53 : decode cX7_swarm 53 = .ok (.bipush 12, 2) := by decide +kernel
theorem dX7_swarm_55 : decode cX7_swarm 55 = .ok (.ldc2_w 62, 3) := by decide +kernel
theorem dX7_swarm_58 : decode cX7_swarm 58 = .ok (.invokevirtual 301, 3) := by decide +kernel
theorem dX7_swarm_61 : decode cX7_swarm 61 = .ok (.istore 5, 2) := by decide +kernel
theorem dX7_swarm_63 : decode cX7_swarm 63 = .ok (.iload 5, 2) := by decide +kernel
theorem dX7_swarm_65 : decode cX7_swarm 65 = .ok (.ifCond .lt 10, 3) := by decide +kernel
theorem dX7_swarm_68 : decode cX7_swarm 68 = .ok (.aload_n 0, 1) := by decide +kernel
theorem dX7_swarm_69 : decode cX7_swarm 69 = .ok (.iload 5, 2) := by decide +kernel
theorem dX7_swarm_71 : decode cX7_swarm 71 = .ok (.invokevirtual 93, 3) := by decide +kernel
theorem dX7_swarm_74 : decode cX7_swarm 74 = .ok (.ireturn, 1) := by decide +kernel
theorem dX7_swarm_75 : decode cX7_swarm 75 = .ok (.aload_n 0, 1) := by decide +kernel
theorem dX7_swarm_76 : decode cX7_swarm 76 = .ok (.iload_n 1, 1) := by decide +kernel
theorem dX7_swarm_77 : decode cX7_swarm 77 = .ok (.iload_n 2, 1) := by decide +kernel
theorem dX7_swarm_78 : decode cX7_swarm 78 = .ok (.iload_n 3, 1) := by decide +kernel
theorem dX7_swarm_79 : decode cX7_swarm 79 = .ok (.invokevirtual 313, 3) := by decide +kernel
theorem dX7_swarm_82 : decode cX7_swarm 82 = .ok (.iconst 0, 1) := by decide +kernel
theorem dX7_swarm_83 : decode cX7_swarm 83 = .ok (.istore 6, 2) := by decide +kernel
theorem dX7_swarm_85 : decode cX7_swarm 85 = .ok (.iconst 1, 1) := by decide +kernel
theorem dX7_swarm_86 : decode cX7_swarm 86 = .ok (.istore 7, 2) := by decide +kernel
theorem dX7_swarm_88 : decode cX7_swarm 88 = .ok (.iload 7, 2) := by decide +kernel
theorem dX7_swarm_90 : decode cX7_swarm 90 = .ok (.iconst 2, 1) := by decide +kernel
theorem dX7_swarm_91 : decode cX7_swarm 91 = .ok (.iload_n 3, 1) := by decide +kernel
theorem dX7_swarm_92 : decode cX7_swarm 92 = .ok (.imul, 1) := by decide +kernel
theorem dX7_swarm_93 : decode cX7_swarm 93 = .ok (.if_icmp .gt 35, 3) := by decide +kernel
theorem dX7_swarm_96 : decode cX7_swarm 96 = .ok (.aload_n 0, 1) := by decide +kernel
theorem dX7_swarm_97 : decode cX7_swarm 97 = .ok (.getfield 56, 3) := by decide +kernel
theorem dX7_swarm_100 : decode cX7_swarm 100 = .ok (.iload 7, 2) := by decide +kernel
theorem dX7_swarm_102 : decode cX7_swarm 102 = .ok (.iaload, 1) := by decide +kernel
theorem dX7_swarm_103 : decode cX7_swarm 103 = .ok (.aload_n 0, 1) := by decide +kernel
theorem dX7_swarm_104 : decode cX7_swarm 104 = .ok (.getfield 56, 3) := by decide +kernel
theorem dX7_swarm_107 : decode cX7_swarm 107 = .ok (.iload 6, 2) := by decide +kernel
theorem dX7_swarm_109 : decode cX7_swarm 109 = .ok (.iaload, 1) := by decide +kernel
theorem dX7_swarm_110 : decode cX7_swarm 110 = .ok (.if_icmp .ge 8, 3) := by decide +kernel
theorem dX7_swarm_113 : decode cX7_swarm 113 = .ok (.iload 7, 2) := by decide +kernel
theorem dX7_swarm_115 : decode cX7_swarm 115 = .ok (.goto 5, 3) := by decide +kernel
theorem dX7_swarm_118 : decode cX7_swarm 118 = .ok (.iload 6, 2) := by decide +kernel
theorem dX7_swarm_120 : decode cX7_swarm 120 = .ok (.istore 6, 2) := by decide +kernel
theorem dX7_swarm_122 : decode cX7_swarm 122 = .ok (.iinc 7 1, 3) := by decide +kernel
theorem dX7_swarm_125 : decode cX7_swarm 125 = .ok (.goto (-37), 3) := by decide +kernel
theorem dX7_swarm_128 : decode cX7_swarm 128 = .ok (.aload_n 0, 1) := by decide +kernel
theorem dX7_swarm_129 : decode cX7_swarm 129 = .ok (.getfield 56, 3) := by decide +kernel
theorem dX7_swarm_132 : decode cX7_swarm 132 = .ok (.iload 6, 2) := by decide +kernel
theorem dX7_swarm_134 : decode cX7_swarm 134 = .ok (.iaload, 1) := by decide +kernel
theorem dX7_swarm_135 : decode cX7_swarm 135 = .ok (.ldc 160, 2) := by decide +kernel
theorem dX7_swarm_137 : decode cX7_swarm 137 = .ok (.if_icmp .ge 16, 3) := by decide +kernel
theorem dX7_swarm_140 : decode cX7_swarm 140 = .ok (.iload 4, 2) := by decide +kernel
theorem dX7_swarm_142 : decode cX7_swarm 142 = .ok (.iconst 2, 1) := by decide +kernel
theorem dX7_swarm_143 : decode cX7_swarm 143 = .ok (.isub, 1) := by decide +kernel
theorem dX7_swarm_144 : decode cX7_swarm 144 = .ok (.aload_n 0, 1) := by decide +kernel
theorem dX7_swarm_145 : decode cX7_swarm 145 = .ok (.getfield 47, 3) := by decide +kernel
theorem dX7_swarm_148 : decode cX7_swarm 148 = .ok (.iload_n 1, 1) := by decide +kernel
theorem dX7_swarm_149 : decode cX7_swarm 149 = .ok (.iaload, 1) := by decide +kernel
theorem dX7_swarm_150 : decode cX7_swarm 150 = .ok (.if_icmp .lt 9, 3) := by decide +kernel
theorem dX7_swarm_153 : decode cX7_swarm 153 = .ok (.aload_n 0, 1) := by decide +kernel
theorem dX7_swarm_154 : decode cX7_swarm 154 = .ok (.iconst 3, 1) := by decide +kernel
theorem dX7_swarm_155 : decode cX7_swarm 155 = .ok (.invokevirtual 93, 3) := by decide +kernel
theorem dX7_swarm_158 : decode cX7_swarm 158 = .ok (.ireturn, 1) := by decide +kernel
theorem dX7_swarm_159 : decode cX7_swarm 159 = .ok (.iload 4, 2) := by decide +kernel
theorem dX7_swarm_161 : decode cX7_swarm 161 = .ok (.iconst 2, 1) := by decide +kernel
theorem dX7_swarm_162 : decode cX7_swarm 162 = .ok (.if_icmp .ge 34, 3) := by decide +kernel
theorem dX7_swarm_165 : decode cX7_swarm 165 = .ok (.iload 4, 2) := by decide +kernel
theorem dX7_swarm_167 : decode cX7_swarm 167 = .ok (.ifCond .ne 17, 3) := by decide +kernel
theorem dX7_swarm_170 : decode cX7_swarm 170 = .ok (.aload_n 0, 1) := by decide +kernel
theorem dX7_swarm_171 : decode cX7_swarm 171 = .ok (.getfield 56, 3) := by decide +kernel
theorem dX7_swarm_174 : decode cX7_swarm 174 = .ok (.iload 6, 2) := by decide +kernel
theorem dX7_swarm_176 : decode cX7_swarm 176 = .ok (.iaload, 1) := by decide +kernel
theorem dX7_swarm_177 : decode cX7_swarm 177 = .ok (.sipush 1000, 3) := by decide +kernel
theorem dX7_swarm_180 : decode cX7_swarm 180 = .ok (.idiv, 1) := by decide +kernel
theorem dX7_swarm_181 : decode cX7_swarm 181 = .ok (.goto 14, 3) := by decide +kernel
theorem dX7_swarm_184 : decode cX7_swarm 184 = .ok (.aload_n 0, 1) := by decide +kernel
theorem dX7_swarm_185 : decode cX7_swarm 185 = .ok (.getfield 56, 3) := by decide +kernel
theorem dX7_swarm_188 : decode cX7_swarm 188 = .ok (.iload 6, 2) := by decide +kernel
theorem dX7_swarm_190 : decode cX7_swarm 190 = .ok (.iaload, 1) := by decide +kernel
theorem dX7_swarm_191 : decode cX7_swarm 191 = .ok (.sipush 1000, 3) := by decide +kernel
theorem dX7_swarm_194 : decode cX7_swarm 194 = .ok (.irem, 1) := by decide +kernel
theorem dX7_swarm_195 : decode cX7_swarm 195 = .ok (.ireturn, 1) := by decide +kernel
theorem dX7_swarm_196 : decode cX7_swarm 196 = .ok (.iload 6, 2) := by decide +kernel
theorem dX7_swarm_198 : decode cX7_swarm 198 = .ok (.istore 7, 2) := by decide +kernel
theorem dX7_swarm_200 : decode cX7_swarm 200 = .ok (.iconst 0, 1) := by decide +kernel
theorem dX7_swarm_201 : decode cX7_swarm 201 = .ok (.istore 8, 2) := by decide +kernel
theorem dX7_swarm_203 : decode cX7_swarm 203 = .ok (.iload 8, 2) := by decide +kernel
theorem dX7_swarm_205 : decode cX7_swarm 205 = .ok (.iload 4, 2) := by decide +kernel
theorem dX7_swarm_207 : decode cX7_swarm 207 = .ok (.iconst 2, 1) := by decide +kernel
theorem dX7_swarm_208 : decode cX7_swarm 208 = .ok (.isub, 1) := by decide +kernel
theorem dX7_swarm_209 : decode cX7_swarm 209 = .ok (.if_icmp .ge 24, 3) := by decide +kernel
theorem dX7_swarm_212 : decode cX7_swarm 212 = .ok (.aload_n 0, 1) := by decide +kernel
theorem dX7_swarm_213 : decode cX7_swarm 213 = .ok (.getfield 59, 3) := by decide +kernel
theorem dX7_swarm_216 : decode cX7_swarm 216 = .ok (.bipush 41, 2) := by decide +kernel
theorem dX7_swarm_218 : decode cX7_swarm 218 = .ok (.iload 8, 2) := by decide +kernel
theorem dX7_swarm_220 : decode cX7_swarm 220 = .ok (.imul, 1) := by decide +kernel
theorem dX7_swarm_221 : decode cX7_swarm 221 = .ok (.iload 7, 2) := by decide +kernel
theorem dX7_swarm_223 : decode cX7_swarm 223 = .ok (.iadd, 1) := by decide +kernel
theorem dX7_swarm_224 : decode cX7_swarm 224 = .ok (.iaload, 1) := by decide +kernel
theorem dX7_swarm_225 : decode cX7_swarm 225 = .ok (.istore 7, 2) := by decide +kernel
theorem dX7_swarm_227 : decode cX7_swarm 227 = .ok (.iinc 8 1, 3) := by decide +kernel
theorem dX7_swarm_230 : decode cX7_swarm 230 = .ok (.goto (-27), 3) := by decide +kernel
theorem dX7_swarm_233 : decode cX7_swarm 233 = .ok (.iload 7, 2) := by decide +kernel
theorem dX7_swarm_235 : decode cX7_swarm 235 = .ok (.invokestatic 262, 3) := by decide +kernel
theorem dX7_swarm_238 : decode cX7_swarm 238 = .ok (.ireturn, 1) := by decide +kernel
theorem dX7_sheet_0 : decode cX7_sheet 0 = .ok (.iload_n 1, 1) := by decide +kernel
theorem dX7_sheet_1 : decode cX7_sheet 1 = .ok (.invokestatic 295, 3) := by decide +kernel
theorem dX7_sheet_4 : decode cX7_sheet 4 = .ok (.ifCond .eq 25, 3) := by decide +kernel
theorem dX7_sheet_7 : decode cX7_sheet 7 = .ok (.iload_n 2, 1) := by decide +kernel
theorem dX7_sheet_8 : decode cX7_sheet 8 = .ok (.ifCond .eq 27, 3) := by decide +kernel
theorem dX7_sheet_11 : decode cX7_sheet 11 = .ok (.iload_n 2, 1) := by decide +kernel
theorem dX7_sheet_12 : decode cX7_sheet 12 = .ok (.bipush 8, 2) := by decide +kernel
theorem dX7_sheet_14 : decode cX7_sheet 14 = .ok (.if_icmp .eq 21, 3) := by decide +kernel
theorem dX7_sheet_17 : decode cX7_sheet 17 = .ok (.iload_n 2, 1) := by decide +kernel
theorem dX7_sheet_18 : decode cX7_sheet 18 = .ok (.bipush 16, 2) := by decide +kernel
theorem dX7_sheet_20 : decode cX7_sheet 20 = .ok (.if_icmp .eq 15, 3) := by decide +kernel
theorem dX7_sheet_23 : decode cX7_sheet 23 = .ok (.iload_n 2, 1) := by decide +kernel
theorem dX7_sheet_24 : decode cX7_sheet 24 = .ok (.bipush 64, 2) := by decide +kernel
theorem dX7_sheet_26 : decode cX7_sheet 26 = .ok (.if_icmp .eq 9, 3) := by decide +kernel
theorem dX7_sheet_29 : decode cX7_sheet 29 = .ok (.aload_n 0, 1) := by decide +kernel
theorem dX7_sheet_30 : decode cX7_sheet 30 = .ok (.iconst 0, 1) := by decide +kernel
theorem dX7_sheet_31 : decode cX7_sheet 31 = .ok (.invokevirtual 93, 3) := by decide +kernel
theorem dX7_sheet_34 : decode cX7_sheet 34 = .ok (.ireturn, 1) := by decide +kernel
theorem dX7_sheet_35 : decode cX7_sheet 35 = .ok (.iload_n 3, 1) := by decide +kernel
theorem dX7_sheet_36 : decode cX7_sheet 36 = .ok (.ifCond .ge 10, 3) := by decide +kernel
theorem dX7_sheet_39 : decode cX7_sheet 39 = .ok (.aload_n 0, 1) := by decide +kernel
theorem dX7_sheet_40 : decode cX7_sheet 40 = .ok (.bipush 6, 2) := by decide +kernel
theorem dX7_sheet_42 : decode cX7_sheet 42 = .ok (.invokevirtual 93, 3) := by decide +kernel
theorem dX7_sheet_45 : decode cX7_sheet 45 = .ok (.ireturn, 1) := by decide +kernel
theorem dX7_sheet_46 : decode cX7_sheet 46 = .ok (.iload_n 3, 1) := by decide +kernel
theorem dX7_sheet_47 : decode cX7_sheet 47 = .ok (.bipush 40, 2) := by decide +kernel
theorem dX7_sheet_49 : decode cX7_sheet 49 = .ok (.if_icmp .le 9, 3) := by decide +kernel
theorem dX7_sheet_52 : decode cX7_sheet 52 = .ok (.aload_n 0, 1) := by decide +kernel
theorem dX7_sheet_53 : decode cX7_sheet 53 = .ok (.iconst 0, 1) := by decide +kernel
theorem dX7_sheet_54 : decode cX7_sheet 54 = .ok (.invokevirtual 93, 3) := by decide +kernel
theorem dX7_sheet_57 : decode cX7_sheet 57 = .ok (.ireturn, 1) := by decide +kernel
theorem dX7_sheet_58 : decode cX7_sheet 58 = .ok (.aload_n 0, 1) := by decide +kernel
theorem dX7_sheet_59 : decode cX7_sheet 59 = .ok (.getfield 44, 3) := by decide +kernel
theorem dX7_sheet_62 : decode cX7_sheet 62 = .ok (.iload_n 1, 1) := by decide +kernel
theorem dX7_sheet_63 : decode cX7_sheet 63 = .ok (.iload_n 2, 1) := by decide +kernel
theorem dX7_sheet_64 : decode cX7_sheet 64 = .ok (.iastore, 1) := by decide +kernel
theorem dX7_sheet_65 : decode cX7_sheet 65 = .ok (.aload_n 0, 1) := by decide +kernel
theorem dX7_sheet_66 : decode cX7_sheet 66 = .ok (.getfield 47, 3) := by decide +kernel
theorem dX7_sheet_69 : decode cX7_sheet 69 = .ok (.iload_n 1, 1) := by decide +kernel
theorem dX7_sheet_70 : decode cX7_sheet 70 = .ok (.iload_n 2, 1) := by decide +kernel
theorem dX7_sheet_71 : decode cX7_sheet 71 = .ok (.ifCond .ne 7, 3) := by decide +kernel
theorem dX7_sheet_74 : decode cX7_sheet 74 = .ok (.iconst 0, 1) := by decide +kernel
theorem dX7_sheet_75 : decode cX7_sheet 75 = .ok (.goto 4, 3) := by decide +kernel
theorem dX7_sheet_78 : decode cX7_sheet 78 = .ok (.iload_n 3, 1) := by decide +kernel
theorem dX7_sheet_79 : decode cX7_sheet 79 = .ok (.iastore, 1) := by decide +kernel
theorem dX7_sheet_80 : decode cX7_sheet 80 = .ok (.iconst 0, 1) := by decide +kernel
theorem dX7_sheet_81 : decode cX7_sheet 81 = .ok (.istore 4, 2) := by decide +kernel
theorem dX7_sheet_83 : decode cX7_sheet 83 = .ok (.iload 4, 2) := by decide +kernel
theorem dX7_sheet_85 : decode cX7_sheet 85 = .ok (.bipush 40, 2) := by decide +kernel
theorem dX7_sheet_87 : decode cX7_sheet 87 = .ok (.if_icmp .ge 22, 3) := by decide +kernel
theorem dX7_sheet_90 : decode cX7_sheet 90 = .ok (.aload_n 0, 1) := by decide +kernel
theorem dX7_sheet_91 : decode cX7_sheet 91 = .ok (.getfield 50, 3) := by decide +kernel
theorem dX7_sheet_94 : decode cX7_sheet 94 = .ok (.bipush 40, 2) := by decide +kernel
theorem dX7_sheet_96 : decode cX7_sheet 96 = .ok (.iload_n 1, 1) := by decide +kernel
theorem dX7_sheet_97 : decode cX7_sheet 97 = .ok (.imul, 1) := by decide +kernel
theorem dX7_sheet_98 : decode cX7_sheet 98 = .ok (.iload 4, 2) := by decide +kernel
theorem dX7_sheet_100 : decode cX7_sheet 100 = .ok (.iadd, 1) := by decide +kernel
theorem dX7_sheet_101 : decode cX7_sheet 101 = .ok (.lconst 0, 1) := by decide +kernel
theorem dX7_sheet_102 : decode cX7_sheet 102 = .ok (.lastore, 1) := by decide +kernel
theorem dX7_sheet_103 : decode cX7_sheet 103 = .ok (.iinc 4 1, 3) := by decide +kernel
theorem dX7_sheet_106 : decode cX7_sheet 106 = .ok (.goto (-23), 3) := by decide +kernel
theorem dX7_sheet_109 : decode cX7_sheet 109 = .ok (.aload_n 0, 1) := by decide +kernel
theorem dX7_sheet_110 : decode cX7_sheet 110 = .ok (.getfield 47, 3) := by decide +kernel
theorem dX7_sheet_113 : decode cX7_sheet 113 = .ok (.iload_n 1, 1) := by decide +kernel
theorem dX7_sheet_114 : decode cX7_sheet 114 = .ok (.iaload, 1) := by decide +kernel
theorem dX7_sheet_115 : decode cX7_sheet 115 = .ok (.ireturn, 1) := by decide +kernel
theorem dX7_write_0 : decode cX7_write 0 = .ok (.iload_n 1, 1) := by decide +kernel
theorem dX7_write_1 : decode cX7_write 1 = .ok (.invokestatic 295, 3) := by decide +kernel
theorem dX7_write_4 : decode cX7_write 4 = .ok (.ifCond .ne 10, 3) := by decide +kernel
theorem dX7_write_7 : decode cX7_write 7 = .ok (.aload_n 0, 1) := by decide +kernel
theorem dX7_write_8 : decode cX7_write 8 = .ok (.iconst 0, 1) := by decide +kernel
theorem dX7_write_9 : decode cX7_write 9 = .ok (.invokevirtual 93, 3) := by decide +kernel
theorem dX7_write_12 : decode cX7_write 12 = .ok (.i2l, 1) := by decide +kernel
theorem dX7_write_13 : decode cX7_write 13 = .ok (.lreturn, 1) := by decide +kernel
theorem dX7_write_14 : decode cX7_write 14 = .ok (.aload_n 0, 1) := by decide +kernel
theorem dX7_write_15 : decode cX7_write 15 = .ok (.getfield 44, 3) := by decide +kernel
theorem dX7_write_18 : decode cX7_write 18 = .ok (.iload_n 1, 1) := by decide +kernel
theorem dX7_write_19 : decode cX7_write 19 = .ok (.iaload, 1) := by decide +kernel
theorem dX7_write_20 : decode cX7_write 20 = .ok (.ifCond .ne 10, 3) := by decide +kernel
theorem dX7_write_23 : decode cX7_write 23 = .ok (.aload_n 0, 1) := by decide +kernel
theorem dX7_write_24 : decode cX7_write 24 = .ok (.iconst 5, 1) := by decide +kernel
theorem dX7_write_25 : decode cX7_write 25 = .ok (.invokevirtual 93, 3) := by decide +kernel
theorem dX7_write_28 : decode cX7_write 28 = .ok (.i2l, 1) := by decide +kernel
theorem dX7_write_29 : decode cX7_write 29 = .ok (.lreturn, 1) := by decide +kernel
theorem dX7_write_30 : decode cX7_write 30 = .ok (.iload_n 2, 1) := by decide +kernel
theorem dX7_write_31 : decode cX7_write 31 = .ok (.i2l, 1) := by decide +kernel
theorem dX7_write_32 : decode cX7_write 32 = .ok (.lconst 0, 1) := by decide +kernel
theorem dX7_write_33 : decode cX7_write 33 = .ok (.aload_n 0, 1) := by decide +kernel
theorem dX7_write_34 : decode cX7_write 34 = .ok (.getfield 47, 3) := by decide +kernel
theorem dX7_write_37 : decode cX7_write 37 = .ok (.iload_n 1, 1) := by decide +kernel
theorem dX7_write_38 : decode cX7_write 38 = .ok (.iaload, 1) := by decide +kernel
theorem dX7_write_39 : decode cX7_write 39 = .ok (.iconst 1, 1) := by decide +kernel
theorem dX7_write_40 : decode cX7_write 40 = .ok (.isub, 1) := by decide +kernel
theorem dX7_write_41 : decode cX7_write 41 = .ok (.i2l, 1) := by decide +kernel
theorem dX7_write_42 : decode cX7_write 42 = .ok (.invokestatic 85, 3) := by decide +kernel
theorem dX7_write_45 : decode cX7_write 45 = .ok (.ifCond .ne 10, 3) := by decide +kernel
theorem dX7_write_48 : decode cX7_write 48 = .ok (.aload_n 0, 1) := by decide +kernel
theorem dX7_write_49 : decode cX7_write 49 = .ok (.iconst 0, 1) := by decide +kernel
theorem dX7_write_50 : decode cX7_write 50 = .ok (.invokevirtual 93, 3) := by decide +kernel
theorem dX7_write_53 : decode cX7_write 53 = .ok (.i2l, 1) := by decide +kernel
theorem dX7_write_54 : decode cX7_write 54 = .ok (.lreturn, 1) := by decide +kernel
theorem dX7_write_55 : decode cX7_write 55 = .ok (.aload_n 0, 1) := by decide +kernel
theorem dX7_write_56 : decode cX7_write 56 = .ok (.iload_n 1, 1) := by decide +kernel
theorem dX7_write_57 : decode cX7_write 57 = .ok (.iload_n 2, 1) := by decide +kernel
theorem dX7_write_58 : decode cX7_write 58 = .ok (.invokevirtual 298, 3) := by decide +kernel
theorem dX7_write_61 : decode cX7_write 61 = .ok (.lstore 5, 2) := by decide +kernel
theorem dX7_write_63 : decode cX7_write 63 = .ok (.aload_n 0, 1) := by decide +kernel
theorem dX7_write_64 : decode cX7_write 64 = .ok (.getfield 50, 3) := by decide +kernel
theorem dX7_write_67 : decode cX7_write 67 = .ok (.bipush 40, 2) := by decide +kernel
theorem dX7_write_69 : decode cX7_write 69 = .ok (.iload_n 1, 1) := by decide +kernel
theorem dX7_write_70 : decode cX7_write 70 = .ok (.imul, 1) := by decide +kernel
theorem dX7_write_71 : decode cX7_write 71 = .ok (.iload_n 2, 1) := by decide +kernel
theorem dX7_write_72 : decode cX7_write 72 = .ok (.iadd, 1) := by decide +kernel
theorem dX7_write_73 : decode cX7_write 73 = .ok (.aload_n 0, 1) := by decide +kernel
theorem dX7_write_74 : decode cX7_write 74 = .ok (.getfield 44, 3) := by decide +kernel
theorem dX7_write_77 : decode cX7_write 77 = .ok (.iload_n 1, 1) := by decide +kernel
theorem dX7_write_78 : decode cX7_write 78 = .ok (.iaload, 1) := by decide +kernel
theorem dX7_write_79 : decode cX7_write 79 = .ok (.bipush 8, 2) := by decide +kernel
theorem dX7_write_81 : decode cX7_write 81 = .ok (.if_icmp .ne 10, 3) := by decide +kernel
theorem dX7_write_84 : decode cX7_write 84 = .ok (.lload_n 3, 1) := by decide +kernel
theorem dX7_write_85 : decode cX7_write 85 = .ok (.l2i, 1) := by decide +kernel
theorem dX7_write_86 : decode cX7_write 86 = .ok (.i2b, 1) := by decide +kernel
theorem dX7_write_87 : decode cX7_write 87 = .ok (.i2l, 1) := by decide +kernel
theorem dX7_write_88 : decode cX7_write 88 = .ok (.goto 22, 3) := by decide +kernel
theorem dX7_write_91 : decode cX7_write 91 = .ok (.aload_n 0, 1) := by decide +kernel
theorem dX7_write_92 : decode cX7_write 92 = .ok (.getfield 44, 3) := by decide +kernel
theorem dX7_write_95 : decode cX7_write 95 = .ok (.iload_n 1, 1) := by decide +kernel
theorem dX7_write_96 : decode cX7_write 96 = .ok (.iaload, 1) := by decide +kernel
theorem dX7_write_97 : decode cX7_write 97 = .ok (.bipush 16, 2) := by decide +kernel
theorem dX7_write_99 : decode cX7_write 99 = .ok (.if_icmp .ne 10, 3) := by decide +kernel
theorem dX7_write_102 : decode cX7_write 102 = .ok (.lload_n 3, 1) := by decide +kernel
theorem dX7_write_103 : decode cX7_write 103 = .ok (.l2i, 1) := by decide +kernel
theorem dX7_write_104 : decode cX7_write 104 = .ok (.i2s, 1) := by decide +kernel
theorem dX7_write_105 : decode cX7_write 105 = .ok (.i2l, 1) := by decide +kernel
theorem dX7_write_106 : decode cX7_write 106 = .ok (.goto 4, 3) := by decide +kernel
theorem dX7_write_109 : decode cX7_write 109 = .ok (.lload_n 3, 1) := by decide +kernel
theorem dX7_write_110 : decode cX7_write 110 = .ok (.lastore, 1) := by decide +kernel
theorem dX7_write_111 : decode cX7_write 111 = .ok (.lload 5, 2) := by decide +kernel
theorem dX7_write_113 : decode cX7_write 113 = .ok (.lreturn, 1) := by decide +kernel
theorem dX7_copy_0 : decode cX7_copy 0 = .ok (.iload_n 1, 1) := by decide +kernel
theorem dX7_copy_1 : decode cX7_copy 1 = .ok (.invokestatic 295, 3) := by decide +kernel
theorem dX7_copy_4 : decode cX7_copy 4 = .ok (.ifCond .eq 10, 3) := by decide +kernel
theorem dX7_copy_7 : decode cX7_copy 7 = .ok (.iload_n 3, 1) := by decide +kernel
theorem dX7_copy_8 : decode cX7_copy 8 = .ok (.invokestatic 295, 3) := by decide +kernel
theorem dX7_copy_11 : decode cX7_copy 11 = .ok (.ifCond .ne 9, 3) := by decide +kernel
theorem dX7_copy_14 : decode cX7_copy 14 = .ok (.aload_n 0, 1) := by decide +kernel
theorem dX7_copy_15 : decode cX7_copy 15 = .ok (.iconst 0, 1) := by decide +kernel
theorem dX7_copy_16 : decode cX7_copy 16 = .ok (.invokevirtual 93, 3) := by decide +kernel
theorem dX7_copy_19 : decode cX7_copy 19 = .ok (.ireturn, 1) := by decide +kernel
theorem dX7_copy_20 : decode cX7_copy 20 = .ok (.aload_n 0, 1) := by decide +kernel
theorem dX7_copy_21 : decode cX7_copy 21 = .ok (.getfield 44, 3) := by decide +kernel
theorem dX7_copy_24 : decode cX7_copy 24 = .ok (.iload_n 1, 1) := by decide +kernel
theorem dX7_copy_25 : decode cX7_copy 25 = .ok (.iaload, 1) := by decide +kernel
theorem dX7_copy_26 : decode cX7_copy 26 = .ok (.ifCond .eq 12, 3) := by decide +kernel
theorem dX7_copy_29 : decode cX7_copy 29 = .ok (.aload_n 0, 1) := by decide +kernel
theorem dX7_copy_30 : decode cX7_copy 30 = .ok (.getfield 44, 3) := by decide +kernel
theorem dX7_copy_33 : decode cX7_copy 33 = .ok (.iload_n 3, 1) := by decide +kernel
theorem dX7_copy_34 : decode cX7_copy 34 = .ok (.iaload, 1) := by decide +kernel
theorem dX7_copy_35 : decode cX7_copy 35 = .ok (.ifCond .ne 9, 3) := by decide +kernel
theorem dX7_copy_38 : decode cX7_copy 38 = .ok (.aload_n 0, 1) := by decide +kernel
theorem dX7_copy_39 : decode cX7_copy 39 = .ok (.iconst 5, 1) := by decide +kernel
theorem dX7_copy_40 : decode cX7_copy 40 = .ok (.invokevirtual 93, 3) := by decide +kernel
theorem dX7_copy_43 : decode cX7_copy 43 = .ok (.ireturn, 1) := by decide +kernel
theorem dX7_copy_44 : decode cX7_copy 44 = .ok (.aload_n 0, 1) := by decide +kernel
theorem dX7_copy_45 : decode cX7_copy 45 = .ok (.getfield 44, 3) := by decide +kernel
theorem dX7_copy_48 : decode cX7_copy 48 = .ok (.iload_n 1, 1) := by decide +kernel
theorem dX7_copy_49 : decode cX7_copy 49 = .ok (.iaload, 1) := by decide +kernel
theorem dX7_copy_50 : decode cX7_copy 50 = .ok (.aload_n 0, 1) := by decide +kernel
theorem dX7_copy_51 : decode cX7_copy 51 = .ok (.getfield 44, 3) := by decide +kernel
theorem dX7_copy_54 : decode cX7_copy 54 = .ok (.iload_n 3, 1) := by decide +kernel
theorem dX7_copy_55 : decode cX7_copy 55 = .ok (.iaload, 1) := by decide +kernel
theorem dX7_copy_56 : decode cX7_copy 56 = .ok (.if_icmp .eq 9, 3) := by decide +kernel
theorem dX7_copy_59 : decode cX7_copy 59 = .ok (.aload_n 0, 1) := by decide +kernel
theorem dX7_copy_60 : decode cX7_copy 60 = .ok (.iconst 2, 1) := by decide +kernel
theorem dX7_copy_61 : decode cX7_copy 61 = .ok (.invokevirtual 93, 3) := by decide +kernel
theorem dX7_copy_64 : decode cX7_copy 64 = .ok (.ireturn, 1) := by decide +kernel
theorem dX7_copy_65 : decode cX7_copy 65 = .ok (.iload_n 2, 1) := by decide +kernel
theorem dX7_copy_66 : decode cX7_copy 66 = .ok (.ifCond .lt 40, 3) := by decide +kernel
theorem dX7_copy_69 : decode cX7_copy 69 = .ok (.iload 4, 2) := by decide +kernel
theorem dX7_copy_71 : decode cX7_copy 71 = .ok (.ifCond .lt 35, 3) := by decide +kernel
theorem dX7_copy_74 : decode cX7_copy 74 = .ok (.iload 5, 2) := by decide +kernel
theorem dX7_copy_76 : decode cX7_copy 76 = .ok (.ifCond .lt 30, 3) := by decide +kernel
theorem dX7_copy_79 : decode cX7_copy 79 = .ok (.iload_n 2, 1) := by decide +kernel
theorem dX7_copy_80 : decode cX7_copy 80 = .ok (.aload_n 0, 1) := by decide +kernel
theorem dX7_copy_81 : decode cX7_copy 81 = .ok (.getfield 47, 3) := by decide +kernel
theorem dX7_copy_84 : decode cX7_copy 84 = .ok (.iload_n 1, 1) := by decide +kernel
theorem dX7_copy_85 : decode cX7_copy 85 = .ok (.iaload, 1) := by decide +kernel
theorem dX7_copy_86 : decode cX7_copy 86 = .ok (.iload 5, 2) := by decide +kernel
theorem dX7_copy_88 : decode cX7_copy 88 = .ok (.isub, 1) := by decide +kernel
theorem dX7_copy_89 : decode cX7_copy 89 = .ok (.if_icmp .gt 17, 3) := by decide +kernel
theorem dX7_copy_92 : decode cX7_copy 92 = .ok (.iload 4, 2) := by decide +kernel
theorem dX7_copy_94 : decode cX7_copy 94 = .ok (.aload_n 0, 1) := by decide +kernel
theorem dX7_copy_95 : decode cX7_copy 95 = .ok (.getfield 47, 3) := by decide +kernel
theorem dX7_copy_98 : decode cX7_copy 98 = .ok (.iload_n 3, 1) := by decide +kernel
theorem dX7_copy_99 : decode cX7_copy 99 = .ok (.iaload, 1) := by decide +kernel
theorem dX7_copy_100 : decode cX7_copy 100 = .ok (.iload 5, 2) := by decide +kernel
theorem dX7_copy_102 : decode cX7_copy 102 = .ok (.isub, 1) := by decide +kernel
theorem dX7_copy_103 : decode cX7_copy 103 = .ok (.if_icmp .le 9, 3) := by decide +kernel
theorem dX7_copy_106 : decode cX7_copy 106 = .ok (.aload_n 0, 1) := by decide +kernel
theorem dX7_copy_107 : decode cX7_copy 107 = .ok (.iconst 0, 1) := by decide +kernel
theorem dX7_copy_108 : decode cX7_copy 108 = .ok (.invokevirtual 93, 3) := by decide +kernel
theorem dX7_copy_111 : decode cX7_copy 111 = .ok (.ireturn, 1) := by decide +kernel
theorem dX7_copy_112 : decode cX7_copy 112 = .ok (.iconst 0, 1) := by decide +kernel
theorem dX7_copy_113 : decode cX7_copy 113 = .ok (.istore 6, 2) := by decide +kernel
theorem dX7_copy_115 : decode cX7_copy 115 = .ok (.iload 6, 2) := by decide +kernel
theorem dX7_copy_117 : decode cX7_copy 117 = .ok (.iload 5, 2) := by decide +kernel
theorem dX7_copy_119 : decode cX7_copy 119 = .ok (.if_icmp .ge 30, 3) := by decide +kernel
theorem dX7_copy_122 : decode cX7_copy 122 = .ok (.aload_n 0, 1) := by decide +kernel
theorem dX7_copy_123 : decode cX7_copy 123 = .ok (.getfield 53, 3) := by decide +kernel
theorem dX7_copy_126 : decode cX7_copy 126 = .ok (.iload 6, 2) := by decide +kernel
theorem dX7_copy_128 : decode cX7_copy 128 = .ok (.aload_n 0, 1) := by decide +kernel
theorem dX7_copy_129 : decode cX7_copy 129 = .ok (.getfield 50, 3) := by decide +kernel
theorem dX7_copy_132 : decode cX7_copy 132 = .ok (.bipush 40, 2) := by decide +kernel
theorem dX7_copy_134 : decode cX7_copy 134 = .ok (.iload_n 1, 1) := by decide +kernel
theorem dX7_copy_135 : decode cX7_copy 135 = .ok (.imul, 1) := by decide +kernel
theorem dX7_copy_136 : decode cX7_copy 136 = .ok (.iload_n 2, 1) := by decide +kernel
theorem dX7_copy_137 : decode cX7_copy 137 = .ok (.iadd, 1) := by decide +kernel
theorem dX7_copy_138 : decode cX7_copy 138 = .ok (.iload 6, 2) := by decide +kernel
theorem dX7_copy_140 : decode cX7_copy 140 = .ok (.iadd, 1) := by decide +kernel
theorem dX7_copy_141 : decode cX7_copy 141 = .ok (.laload, 1) := by decide +kernel
theorem dX7_copy_142 : decode cX7_copy 142 = .ok (.lastore, 1) := by decide +kernel
theorem dX7_copy_143 : decode cX7_copy 143 = .ok (.iinc 6 1, 3) := by decide +kernel
theorem dX7_copy_146 : decode cX7_copy 146 = .ok (.goto (-31), 3) := by decide +kernel
theorem dX7_copy_149 : decode cX7_copy 149 = .ok (.iconst 0, 1) := by decide +kernel
theorem dX7_copy_150 : decode cX7_copy 150 = .ok (.istore 6, 2) := by decide +kernel
theorem dX7_copy_152 : decode cX7_copy 152 = .ok (.iload 6, 2) := by decide +kernel
theorem dX7_copy_154 : decode cX7_copy 154 = .ok (.iload 5, 2) := by decide +kernel
theorem dX7_copy_156 : decode cX7_copy 156 = .ok (.if_icmp .ge 31, 3) := by decide +kernel
theorem dX7_copy_159 : decode cX7_copy 159 = .ok (.aload_n 0, 1) := by decide +kernel
theorem dX7_copy_160 : decode cX7_copy 160 = .ok (.getfield 50, 3) := by decide +kernel
theorem dX7_copy_163 : decode cX7_copy 163 = .ok (.bipush 40, 2) := by decide +kernel
theorem dX7_copy_165 : decode cX7_copy 165 = .ok (.iload_n 3, 1) := by decide +kernel
theorem dX7_copy_166 : decode cX7_copy 166 = .ok (.imul, 1) := by decide +kernel
theorem dX7_copy_167 : decode cX7_copy 167 = .ok (.iload 4, 2) := by decide +kernel
theorem dX7_copy_169 : decode cX7_copy 169 = .ok (.iadd, 1) := by decide +kernel
theorem dX7_copy_170 : decode cX7_copy 170 = .ok (.iload 6, 2) := by decide +kernel
theorem dX7_copy_172 : decode cX7_copy 172 = .ok (.iadd, 1) := by decide +kernel
theorem dX7_copy_173 : decode cX7_copy 173 = .ok (.aload_n 0, 1) := by decide +kernel
theorem dX7_copy_174 : decode cX7_copy 174 = .ok (.getfield 53, 3) := by decide +kernel
theorem dX7_copy_177 : decode cX7_copy 177 = .ok (.iload 6, 2) := by decide +kernel
theorem dX7_copy_179 : decode cX7_copy 179 = .ok (.laload, 1) := by decide +kernel
theorem dX7_copy_180 : decode cX7_copy 180 = .ok (.lastore, 1) := by decide +kernel
theorem dX7_copy_181 : decode cX7_copy 181 = .ok (.iinc 6 1, 3) := by decide +kernel
theorem dX7_copy_184 : decode cX7_copy 184 = .ok (.goto (-32), 3) := by decide +kernel
theorem dX7_copy_187 : decode cX7_copy 187 = .ok (.iload 5, 2) := by decide +kernel
theorem dX7_copy_189 : decode cX7_copy 189 = .ok (.ireturn, 1) := by decide +kernel
theorem dX7_lacks_0 : decode cX7_lacks 0 = .ok (.iload_n 1, 1) := by decide +kernel
theorem dX7_lacks_1 : decode cX7_lacks 1 = .ok (.invokestatic 295, 3) := by decide +kernel
theorem dX7_lacks_4 : decode cX7_lacks 4 = .ok (.ifCond .ne 7, 3) := by decide +kernel
theorem dX7_lacks_7 : decode cX7_lacks 7 = .ok (.iconst 0, 1) := by decide +kernel
theorem dX7_lacks_8 : decode cX7_lacks 8 = .ok (.goto 17, 3) := by decide +kernel
theorem dX7_lacks_11 : decode cX7_lacks 11 = .ok (.aload_n 0, 1) := by decide +kernel
theorem dX7_lacks_12 : decode cX7_lacks 12 = .ok (.getfield 44, 3) := by decide +kernel
theorem dX7_lacks_15 : decode cX7_lacks 15 = .ok (.iload_n 1, 1) := by decide +kernel
theorem dX7_lacks_16 : decode cX7_lacks 16 = .ok (.iaload, 1) := by decide +kernel
theorem dX7_lacks_17 : decode cX7_lacks 17 = .ok (.ifCond .ne 7, 3) := by decide +kernel
theorem dX7_lacks_20 : decode cX7_lacks 20 = .ok (.iconst 5, 1) := by decide +kernel
theorem dX7_lacks_21 : decode cX7_lacks 21 = .ok (.goto 4, 3) := by decide +kernel
theorem dX7_lacks_24 : decode cX7_lacks 24 = .ok (.iconst (-1), 1) := by decide +kernel
theorem dX7_lacks_25 : decode cX7_lacks 25 = .ok (.ireturn, 1) := by decide +kernel
theorem dX7_turns_0 : decode cX7_turns 0 = .ok (.aload_n 0, 1) := by decide +kernel
theorem dX7_turns_1 : decode cX7_turns 1 = .ok (.iload_n 1, 1) := by decide +kernel
theorem dX7_turns_2 : decode cX7_turns 2 = .ok (.invokevirtual 316, 3) := by decide +kernel
theorem dX7_turns_5 : decode cX7_turns 5 = .ok (.istore_n 2, 1) := by decide +kernel
theorem dX7_turns_6 : decode cX7_turns 6 = .ok (.iload_n 2, 1) := by decide +kernel
theorem dX7_turns_7 : decode cX7_turns 7 = .ok (.ifCond .lt 9, 3) := by decide +kernel
theorem dX7_turns_10 : decode cX7_turns 10 = .ok (.aload_n 0, 1) := by decide +kernel
theorem dX7_turns_11 : decode cX7_turns 11 = .ok (.iload_n 2, 1) := by decide +kernel
theorem dX7_turns_12 : decode cX7_turns 12 = .ok (.invokevirtual 93, 3) := by decide +kernel
theorem dX7_turns_15 : decode cX7_turns 15 = .ok (.ireturn, 1) := by decide +kernel
theorem dX7_turns_16 : decode cX7_turns 16 = .ok (.iconst 0, 1) := by decide +kernel
theorem dX7_turns_17 : decode cX7_turns 17 = .ok (.istore_n 3, 1) := by decide +kernel
theorem dX7_turns_18 : decode cX7_turns 18 = .ok (.iconst 0, 1) := by decide +kernel
theorem dX7_turns_19 : decode cX7_turns 19 = .ok (.istore 4, 2) := by decide +kernel
theorem dX7_turns_21 : decode cX7_turns 21 = .ok (.iload 4, 2) := by decide +kernel
theorem dX7_turns_23 : decode cX7_turns 23 = .ok (.aload_n 0, 1) := by decide +kernel
theorem dX7_turns_24 : decode cX7_turns 24 = .ok (.getfield 47, 3) := by decide +kernel
theorem dX7_turns_27 : decode cX7_turns 27 = .ok (.iload_n 1, 1) := by decide +kernel
theorem dX7_turns_28 : decode cX7_turns 28 = .ok (.iaload, 1) := by decide +kernel
theorem dX7_turns_29 : decode cX7_turns 29 = .ok (.if_icmp .ge 71, 3) := by decide +kernel
theorem dX7_turns_32 : decode cX7_turns 32 = .ok (.aload_n 0, 1) := by decide +kernel
theorem dX7_turns_33 : decode cX7_turns 33 = .ok (.getfield 7, 3) := by decide +kernel
theorem dX7_turns_36 : decode cX7_turns 36 = .ok (.iconst 0, 1) := by decide +kernel
theorem dX7_turns_37 : decode cX7_turns 37 = .ok (.laload, 1) := by decide +kernel
theorem dX7_turns_38 : decode cX7_turns 38 = .ok (.ldc2_w 77, 3) := by decide +kernel
theorem dX7_turns_41 : decode cX7_turns 41 = .ok (.lcmp, 1) := by decide +kernel
theorem dX7_turns_42 : decode cX7_turns 42 = .ok (.ifCond .ge 58, 3) := by decide +kernel
theorem dX7_turns_45 : decode cX7_turns 45 = .ok (.aload_n 0, 1) := by decide +kernel
theorem dX7_turns_46 : decode cX7_turns 46 = .ok (.iload_n 1, 1) := by decide +kernel
theorem dX7_turns_47 : decode cX7_turns 47 = .ok (.iload 4, 2) := by decide +kernel
theorem dX7_turns_49 : decode cX7_turns 49 = .ok (.invokevirtual 298, 3) := by decide +kernel
theorem dX7_turns_52 : decode cX7_turns 52 = .ok (.lstore 5, 2) := by decide +kernel
theorem dX7_turns_54 : decode cX7_turns 54 = .ok (.lload 5, 2) := by decide +kernel
theorem dX7_turns_56 : decode cX7_turns 56 = .ok (.invokestatic 107, 3) := by decide +kernel
theorem dX7_turns_59 : decode cX7_turns 59 = .ok (.ifCond .eq 35, 3) := by decide +kernel
theorem dX7_turns_62 : decode cX7_turns 62 = .ok (.aload_n 0, 1) := by decide +kernel
theorem dX7_turns_63 : decode cX7_turns 63 = .ok (.aload_n 0, 1) := by decide +kernel
theorem dX7_turns_64 : decode cX7_turns 64 = .ok (.invokevirtual 111, 3) := by decide +kernel
theorem dX7_turns_67 : decode cX7_turns 67 = .ok (.aload_n 0, 1) := by decide +kernel
theorem dX7_turns_68 : decode cX7_turns 68 = .ok (.invokevirtual 115, 3) := by decide +kernel
theorem dX7_turns_71 : decode cX7_turns 71 = .ok (.lload 5, 2) := by decide +kernel
theorem dX7_turns_73 : decode cX7_turns 73 = .ok (.l2i, 1) := by decide +kernel
theorem dX7_turns_74 : decode cX7_turns 74 = .ok (.invokevirtual 118, 3) := by decide +kernel
theorem dX7_turns_77 : decode cX7_turns 77 = .ok (.ifCond .eq 17, 3) := by decide +kernel
theorem dX7_turns_80 : decode cX7_turns 80 = .ok (.aload_n 0, 1) := by decide +kernel
theorem dX7_turns_81 : decode cX7_turns 81 = .ok (.lload 5, 2) := by decide +kernel
theorem dX7_turns_83 : decode cX7_turns 83 = .ok (.l2i, 1) := by decide +kernel
theorem dX7_turns_84 : decode cX7_turns 84 = .ok (.invokevirtual 122, 3) := by decide +kernel
theorem dX7_turns_87 : decode cX7_turns 87 = .ok (.aload_n 0, 1) := by decide +kernel
theorem dX7_turns_88 : decode cX7_turns 88 = .ok (.invokevirtual 140, 3) := by decide +kernel
theorem dX7_turns_91 : decode cX7_turns 91 = .ok (.iinc 3 1, 3) := by decide +kernel
theorem dX7_turns_94 : decode cX7_turns 94 = .ok (.iinc 4 1, 3) := by decide +kernel
theorem dX7_turns_97 : decode cX7_turns 97 = .ok (.goto (-76), 3) := by decide +kernel
theorem dX7_turns_100 : decode cX7_turns 100 = .ok (.iload_n 3, 1) := by decide +kernel
theorem dX7_turns_101 : decode cX7_turns 101 = .ok (.ireturn, 1) := by decide +kernel
theorem dX7_read_0 : decode cX7_read 0 = .ok (.aload_n 0, 1) := by decide +kernel
theorem dX7_read_1 : decode cX7_read 1 = .ok (.iload_n 1, 1) := by decide +kernel
theorem dX7_read_2 : decode cX7_read 2 = .ok (.invokevirtual 316, 3) := by decide +kernel
theorem dX7_read_5 : decode cX7_read 5 = .ok (.istore_n 2, 1) := by decide +kernel
theorem dX7_read_6 : decode cX7_read 6 = .ok (.iload_n 2, 1) := by decide +kernel
theorem dX7_read_7 : decode cX7_read 7 = .ok (.ifCond .lt 9, 3) := by decide +kernel
theorem dX7_read_10 : decode cX7_read 10 = .ok (.aload_n 0, 1) := by decide +kernel
theorem dX7_read_11 : decode cX7_read 11 = .ok (.iload_n 2, 1) := by decide +kernel
theorem dX7_read_12 : decode cX7_read 12 = .ok (.invokevirtual 93, 3) := by decide +kernel
theorem dX7_read_15 : decode cX7_read 15 = .ok (.ireturn, 1) := by decide +kernel
theorem dX7_read_16 : decode cX7_read 16 = .ok (.iconst 0, 1) := by decide +kernel
theorem dX7_read_17 : decode cX7_read 17 = .ok (.istore_n 3, 1) := by decide +kernel
theorem dX7_read_18 : decode cX7_read 18 = .ok (.iload_n 3, 1) := by decide +kernel
theorem dX7_read_19 : decode cX7_read 19 = .ok (.aload_n 0, 1) := by decide +kernel
theorem dX7_read_20 : decode cX7_read 20 = .ok (.getfield 47, 3) := by decide +kernel
theorem dX7_read_23 : decode cX7_read 23 = .ok (.iload_n 1, 1) := by decide +kernel
theorem dX7_read_24 : decode cX7_read 24 = .ok (.iaload, 1) := by decide +kernel
theorem dX7_read_25 : decode cX7_read 25 = .ok (.if_icmp .ge 36, 3) := by decide +kernel
theorem dX7_read_28 : decode cX7_read 28 = .ok (.aload_n 0, 1) := by decide +kernel
theorem dX7_read_29 : decode cX7_read 29 = .ok (.iload_n 1, 1) := by decide +kernel
theorem dX7_read_30 : decode cX7_read 30 = .ok (.iload_n 3, 1) := by decide +kernel
theorem dX7_read_31 : decode cX7_read 31 = .ok (.invokevirtual 298, 3) := by decide +kernel
theorem dX7_read_34 : decode cX7_read 34 = .ok (.aload_n 0, 1) := by decide +kernel
theorem dX7_read_35 : decode cX7_read 35 = .ok (.aload_n 0, 1) := by decide +kernel
theorem dX7_read_36 : decode cX7_read 36 = .ok (.invokevirtual 129, 3) := by decide +kernel
theorem dX7_read_39 : decode cX7_read 39 = .ok (.iconst 1, 1) := by decide +kernel
theorem dX7_read_40 : decode cX7_read 40 = .ok (.iadd, 1) := by decide +kernel
theorem dX7_read_41 : decode cX7_read 41 = .ok (.iload_n 3, 1) := by decide +kernel
theorem dX7_read_42 : decode cX7_read 42 = .ok (.iadd, 1) := by decide +kernel
theorem dX7_read_43 : decode cX7_read 43 = .ok (.aload_n 0, 1) := by decide +kernel
theorem dX7_read_44 : decode cX7_read 44 = .ok (.invokevirtual 111, 3) := by decide +kernel
theorem dX7_read_47 : decode cX7_read 47 = .ok (.invokevirtual 132, 3) := by decide +kernel
theorem dX7_read_50 : decode cX7_read 50 = .ok (.i2l, 1) := by decide +kernel
theorem dX7_read_51 : decode cX7_read 51 = .ok (.lcmp, 1) := by decide +kernel
theorem dX7_read_52 : decode cX7_read 52 = .ok (.ifCond .ne 9, 3) := by decide +kernel
theorem dX7_read_55 : decode cX7_read 55 = .ok (.iinc 3 1, 3) := by decide +kernel
theorem dX7_read_58 : decode cX7_read 58 = .ok (.goto (-40), 3) := by decide +kernel
theorem dX7_read_61 : decode cX7_read 61 = .ok (.iload_n 3, 1) := by decide +kernel
theorem dX7_read_62 : decode cX7_read 62 = .ok (.aload_n 0, 1) := by decide +kernel
theorem dX7_read_63 : decode cX7_read 63 = .ok (.getfield 47, 3) := by decide +kernel
theorem dX7_read_66 : decode cX7_read 66 = .ok (.iload_n 1, 1) := by decide +kernel
theorem dX7_read_67 : decode cX7_read 67 = .ok (.iaload, 1) := by decide +kernel
theorem dX7_read_68 : decode cX7_read 68 = .ok (.if_icmp .ne 7, 3) := by decide +kernel
theorem dX7_read_71 : decode cX7_read 71 = .ok (.iconst 0, 1) := by decide +kernel
theorem dX7_read_72 : decode cX7_read 72 = .ok (.goto 6, 3) := by decide +kernel
theorem dX7_read_75 : decode cX7_read 75 = .ok (.iconst 1, 1) := by decide +kernel
theorem dX7_read_76 : decode cX7_read 76 = .ok (.iload_n 3, 1) := by decide +kernel
theorem dX7_read_77 : decode cX7_read 77 = .ok (.iadd, 1) := by decide +kernel
theorem dX7_read_78 : decode cX7_read 78 = .ok (.ireturn, 1) := by decide +kernel
theorem dX7_image_0 : decode cX7_image 0 = .ok (.iconst 0, 1) := by decide +kernel
theorem dX7_image_1 : decode cX7_image 1 = .ok (.istore_n 1, 1) := by decide +kernel
theorem dX7_image_2 : decode cX7_image 2 = .ok (.iload_n 1, 1) := by decide +kernel
theorem dX7_image_3 : decode cX7_image 3 = .ok (.sipush 214, 3) := by decide +kernel
theorem dX7_image_6 : decode cX7_image 6 = .ok (.if_icmp .ge 21, 3) := by decide +kernel
theorem dX7_image_9 : decode cX7_image 9 = .ok (.aload_n 0, 1) := by decide +kernel
theorem dX7_image_10 : decode cX7_image 10 = .ok (.getfield 13, 3) := by decide +kernel
theorem dX7_image_13 : decode cX7_image 13 = .ok (.iload_n 1, 1) := by decide +kernel
theorem dX7_image_14 : decode cX7_image 14 = .ok (.aload_n 0, 1) := by decide +kernel
theorem dX7_image_15 : decode cX7_image 15 = .ok (.getfield 7, 3) := by decide +kernel
theorem dX7_image_18 : decode cX7_image 18 = .ok (.iload_n 1, 1) := by decide +kernel
theorem dX7_image_19 : decode cX7_image 19 = .ok (.laload, 1) := by decide +kernel
theorem dX7_image_20 : decode cX7_image 20 = .ok (.lastore, 1) := by decide +kernel
theorem dX7_image_21 : decode cX7_image 21 = .ok (.iinc 1 1, 3) := by decide +kernel
theorem dX7_image_24 : decode cX7_image 24 = .ok (.goto (-22), 3) := by decide +kernel
theorem dX7_image_27 : decode cX7_image 27 = .ok (.aload_n 0, 1) := by decide +kernel
theorem dX7_image_28 : decode cX7_image 28 = .ok (.iconst 1, 1) := by decide +kernel
theorem dX7_image_29 : decode cX7_image 29 = .ok (.putfield 319, 3) := by decide +kernel
theorem dX7_image_32 : decode cX7_image 32 = .ok (.iconst 1, 1) := by decide +kernel
theorem dX7_image_33 : decode cX7_image 33 = .ok (.ireturn, 1) := by decide +kernel
theorem dX7_undo_0 : decode cX7_undo 0 = .ok (.aload_n 0, 1) := by decide +kernel
theorem dX7_undo_1 : decode cX7_undo 1 = .ok (.getfield 319, 3) := by decide +kernel
theorem dX7_undo_4 : decode cX7_undo 4 = .ok (.ifCond .ne 9, 3) := by decide +kernel
theorem dX7_undo_7 : decode cX7_undo 7 = .ok (.aload_n 0, 1) := by decide +kernel
theorem dX7_undo_8 : decode cX7_undo 8 = .ok (.iconst 3, 1) := by decide +kernel
theorem dX7_undo_9 : decode cX7_undo 9 = .ok (.invokevirtual 93, 3) := by decide +kernel
theorem dX7_undo_12 : decode cX7_undo 12 = .ok (.ireturn, 1) := by decide +kernel
theorem dX7_undo_13 : decode cX7_undo 13 = .ok (.iconst 0, 1) := by decide +kernel
theorem dX7_undo_14 : decode cX7_undo 14 = .ok (.istore_n 1, 1) := by decide +kernel
theorem dX7_undo_15 : decode cX7_undo 15 = .ok (.iload_n 1, 1) := by decide +kernel
theorem dX7_undo_16 : decode cX7_undo 16 = .ok (.sipush 214, 3) := by decide +kernel
theorem dX7_undo_19 : decode cX7_undo 19 = .ok (.if_icmp .ge 21, 3) := by decide +kernel
theorem dX7_undo_22 : decode cX7_undo 22 = .ok (.aload_n 0, 1) := by decide +kernel
theorem dX7_undo_23 : decode cX7_undo 23 = .ok (.getfield 7, 3) := by decide +kernel
theorem dX7_undo_26 : decode cX7_undo 26 = .ok (.iload_n 1, 1) := by decide +kernel
theorem dX7_undo_27 : decode cX7_undo 27 = .ok (.aload_n 0, 1) := by decide +kernel
theorem dX7_undo_28 : decode cX7_undo 28 = .ok (.getfield 13, 3) := by decide +kernel
theorem dX7_undo_31 : decode cX7_undo 31 = .ok (.iload_n 1, 1) := by decide +kernel
theorem dX7_undo_32 : decode cX7_undo 32 = .ok (.laload, 1) := by decide +kernel
theorem dX7_undo_33 : decode cX7_undo 33 = .ok (.lastore, 1) := by decide +kernel
theorem dX7_undo_34 : decode cX7_undo 34 = .ok (.iinc 1 1, 3) := by decide +kernel
theorem dX7_undo_37 : decode cX7_undo 37 = .ok (.goto (-22), 3) := by decide +kernel
theorem dX7_undo_40 : decode cX7_undo 40 = .ok (.aload_n 0, 1) := by decide +kernel
theorem dX7_undo_41 : decode cX7_undo 41 = .ok (.invokevirtual 129, 3) := by decide +kernel
theorem dX7_undo_44 : decode cX7_undo 44 = .ok (.ireturn, 1) := by decide +kernel
theorem dX7_tear_0 : decode cX7_tear 0 = .ok (.aload_n 0, 1) := by decide +kernel
theorem dX7_tear_1 : decode cX7_tear 1 = .ok (.getfield 319, 3) := by decide +kernel
theorem dX7_tear_4 : decode cX7_tear 4 = .ok (.ifCond .eq 7, 3) := by decide +kernel
theorem dX7_tear_7 : decode cX7_tear 7 = .ok (.iconst 1, 1) := by decide +kernel
theorem dX7_tear_8 : decode cX7_tear 8 = .ok (.goto 4, 3) := by decide +kernel
theorem dX7_tear_11 : decode cX7_tear 11 = .ok (.iconst 0, 1) := by decide +kernel
theorem dX7_tear_12 : decode cX7_tear 12 = .ok (.istore_n 1, 1) := by decide +kernel
theorem dX7_tear_13 : decode cX7_tear 13 = .ok (.aload_n 0, 1) := by decide +kernel
theorem dX7_tear_14 : decode cX7_tear 14 = .ok (.iconst 0, 1) := by decide +kernel
theorem dX7_tear_15 : decode cX7_tear 15 = .ok (.putfield 319, 3) := by decide +kernel
theorem dX7_tear_18 : decode cX7_tear 18 = .ok (.iload_n 1, 1) := by decide +kernel
theorem dX7_tear_19 : decode cX7_tear 19 = .ok (.ireturn, 1) := by decide +kernel
theorem dX7_count_0 : decode cX7_count 0 = .ok (.iload_n 1, 1) := by decide +kernel
theorem dX7_count_1 : decode cX7_count 1 = .ok (.tableswitch 118 0 5 #[39, 46, 55, 86, 104, 109], 39) := by decide +kernel
theorem dX7_count_40 : decode cX7_count 40 = .ok (.aload_n 0, 1) := by decide +kernel
theorem dX7_count_41 : decode cX7_count 41 = .ok (.bipush 10, 2) := by decide +kernel
theorem dX7_count_43 : decode cX7_count 43 = .ok (.invokevirtual 71, 3) := by decide +kernel
theorem dX7_count_46 : decode cX7_count 46 = .ok (.ireturn, 1) := by decide +kernel
theorem dX7_count_47 : decode cX7_count 47 = .ok (.aload_n 0, 1) := by decide +kernel
theorem dX7_count_48 : decode cX7_count 48 = .ok (.aload_n 0, 1) := by decide +kernel
theorem dX7_count_49 : decode cX7_count 49 = .ok (.invokevirtual 129, 3) := by decide +kernel
theorem dX7_count_52 : decode cX7_count 52 = .ok (.invokevirtual 242, 3) := by decide +kernel
theorem dX7_count_55 : decode cX7_count 55 = .ok (.ireturn, 1) := by decide +kernel
theorem dX7_count_56 : decode cX7_count 56 = .ok (.iconst 0, 1) := by decide +kernel
theorem dX7_count_57 : decode cX7_count 57 = .ok (.istore_n 2, 1) := by decide +kernel
theorem dX7_count_58 : decode cX7_count 58 = .ok (.iconst 0, 1) := by decide +kernel
theorem dX7_count_59 : decode cX7_count 59 = .ok (.istore_n 3, 1) := by decide +kernel
theorem dX7_count_60 : decode cX7_count 60 = .ok (.iload_n 3, 1) := by decide +kernel
theorem dX7_count_61 : decode cX7_count 61 = .ok (.aload_n 0, 1) := by decide +kernel
theorem dX7_count_62 : decode cX7_count 62 = .ok (.bipush 10, 2) := by decide +kernel
theorem dX7_count_64 : decode cX7_count 64 = .ok (.invokevirtual 71, 3) := by decide +kernel
theorem dX7_count_67 : decode cX7_count 67 = .ok (.if_icmp .ge 18, 3) := by decide +kernel
theorem dX7_count_70 : decode cX7_count 70 = .ok (.iload_n 2, 1) := by decide +kernel
theorem dX7_count_71 : decode cX7_count 71 = .ok (.aload_n 0, 1) := by decide +kernel
theorem dX7_count_72 : decode cX7_count 72 = .ok (.iload_n 3, 1) := by decide +kernel
theorem dX7_count_73 : decode cX7_count 73 = .ok (.iconst 5, 1) := by decide +kernel
theorem dX7_count_74 : decode cX7_count 74 = .ok (.invokevirtual 147, 3) := by decide +kernel
theorem dX7_count_77 : decode cX7_count 77 = .ok (.iadd, 1) := by decide +kernel
theorem dX7_count_78 : decode cX7_count 78 = .ok (.istore_n 2, 1) := by decide +kernel
theorem dX7_count_79 : decode cX7_count 79 = .ok (.iinc 3 1, 3) := by decide +kernel
theorem dX7_count_82 : decode cX7_count 82 = .ok (.goto (-22), 3) := by decide +kernel
theorem dX7_count_85 : decode cX7_count 85 = .ok (.iload_n 2, 1) := by decide +kernel
theorem dX7_count_86 : decode cX7_count 86 = .ok (.ireturn, 1) := by decide +kernel
theorem dX7_count_87 : decode cX7_count 87 = .ok (.aload_n 0, 1) := by decide +kernel
theorem dX7_count_88 : decode cX7_count 88 = .ok (.getfield 7, 3) := by decide +kernel
theorem dX7_count_91 : decode cX7_count 91 = .ok (.bipush 11, 2) := by decide +kernel
theorem dX7_count_93 : decode cX7_count 93 = .ok (.laload, 1) := by decide +kernel
theorem dX7_count_94 : decode cX7_count 94 = .ok (.lconst 0, 1) := by decide +kernel
theorem dX7_count_95 : decode cX7_count 95 = .ok (.lcmp, 1) := by decide +kernel
theorem dX7_count_96 : decode cX7_count 96 = .ok (.ifCond .le 7, 3) := by decide +kernel
theorem dX7_count_99 : decode cX7_count 99 = .ok (.iconst 1, 1) := by decide +kernel
theorem dX7_count_100 : decode cX7_count 100 = .ok (.goto 4, 3) := by decide +kernel
theorem dX7_count_103 : decode cX7_count 103 = .ok (.iconst 0, 1) := by decide +kernel
theorem dX7_count_104 : decode cX7_count 104 = .ok (.ireturn, 1) := by decide +kernel
theorem dX7_count_105 : decode cX7_count 105 = .ok (.aload_n 0, 1) := by decide +kernel
theorem dX7_count_106 : decode cX7_count 106 = .ok (.getfield 188, 3) := by decide +kernel
theorem dX7_count_109 : decode cX7_count 109 = .ok (.ireturn, 1) := by decide +kernel
theorem dX7_count_110 : decode cX7_count 110 = .ok (.aload_n 0, 1) := by decide +kernel
theorem dX7_count_111 : decode cX7_count 111 = .ok (.aload_n 0, 1) := by decide +kernel
theorem dX7_count_112 : decode cX7_count 112 = .ok (.invokevirtual 129, 3) := by decide +kernel
theorem dX7_count_115 : decode cX7_count 115 = .ok (.invokevirtual 239, 3) := by decide +kernel
theorem dX7_count_118 : decode cX7_count 118 = .ok (.ireturn, 1) := by decide +kernel
theorem dX7_count_119 : decode cX7_count 119 = .ok (.aload_n 0, 1) := by decide +kernel
theorem dX7_count_120 : decode cX7_count 120 = .ok (.iconst 0, 1) := by decide +kernel
theorem dX7_count_121 : decode cX7_count 121 = .ok (.invokevirtual 93, 3) := by decide +kernel
theorem dX7_count_124 : decode cX7_count 124 = .ok (.ireturn, 1) := by decide +kernel
theorem dX7_status_0 : decode cX7_status 0 = .ok (.iload_n 1, 1) := by decide +kernel
theorem dX7_status_1 : decode cX7_status 1 = .ok (.i2l, 1) := by decide +kernel
theorem dX7_status_2 : decode cX7_status 2 = .ok (.ldc2_w 322, 3) := by decide +kernel
theorem dX7_status_5 : decode cX7_status 5 = .ok (.ldc2_w 154, 3) := by decide +kernel
theorem dX7_status_8 : decode cX7_status 8 = .ok (.invokestatic 85, 3) := by decide +kernel
theorem dX7_status_11 : decode cX7_status 11 = .ok (.ifCond .ne 9, 3) := by decide +kernel
theorem dX7_status_14 : decode cX7_status 14 = .ok (.aload_n 0, 1) := by decide +kernel
theorem dX7_status_15 : decode cX7_status 15 = .ok (.iconst 0, 1) := by decide +kernel
theorem dX7_status_16 : decode cX7_status 16 = .ok (.invokevirtual 93, 3) := by decide +kernel
theorem dX7_status_19 : decode cX7_status 19 = .ok (.ireturn, 1) := by decide +kernel
theorem dX7_status_20 : decode cX7_status 20 = .ok (.iconst 0, 1) := by decide +kernel
theorem dX7_status_21 : decode cX7_status 21 = .ok (.istore_n 2, 1) := by decide +kernel
theorem dX7_status_22 : decode cX7_status 22 = .ok (.iconst 0, 1) := by decide +kernel
theorem dX7_status_23 : decode cX7_status 23 = .ok (.istore_n 3, 1) := by decide +kernel
theorem dX7_status_24 : decode cX7_status 24 = .ok (.iload_n 3, 1) := by decide +kernel
theorem dX7_status_25 : decode cX7_status 25 = .ok (.bipush 7, 2) := by decide +kernel
theorem dX7_status_27 : decode cX7_status 27 = .ok (.if_icmp .ge 32, 3) := by decide +kernel
theorem dX7_status_30 : decode cX7_status 30 = .ok (.iload_n 2, 1) := by decide +kernel
theorem dX7_status_31 : decode cX7_status 31 = .ok (.iload_n 1, 1) := by decide +kernel
theorem dX7_status_32 : decode cX7_status 32 = .ok (.iconst (-1), 1) := by decide +kernel
theorem dX7_status_33 : decode cX7_status 33 = .ok (.if_icmp .eq 8, 3) := by decide +kernel
theorem dX7_status_36 : decode cX7_status 36 = .ok (.iload_n 1, 1) := by decide +kernel
theorem dX7_status_37 : decode cX7_status 37 = .ok (.iload_n 3, 1) := by decide +kernel
theorem dX7_status_38 : decode cX7_status 38 = .ok (.if_icmp .ne 12, 3) := by decide +kernel
theorem dX7_status_41 : decode cX7_status 41 = .ok (.aload_n 0, 1) := by decide +kernel
theorem dX7_status_42 : decode cX7_status 42 = .ok (.getfield 16, 3) := by decide +kernel
theorem dX7_status_45 : decode cX7_status 45 = .ok (.iload_n 3, 1) := by decide +kernel
theorem dX7_status_46 : decode cX7_status 46 = .ok (.iaload, 1) := by decide +kernel
theorem dX7_status_47 : decode cX7_status 47 = .ok (.goto 4, 3) := by decide +kernel
theorem dX7_status_50 : decode cX7_status 50 = .ok (.iconst 0, 1) := by decide +kernel
theorem dX7_status_51 : decode cX7_status 51 = .ok (.iadd, 1) := by decide +kernel
theorem dX7_status_52 : decode cX7_status 52 = .ok (.istore_n 2, 1) := by decide +kernel
theorem dX7_status_53 : decode cX7_status 53 = .ok (.iinc 3 1, 3) := by decide +kernel
theorem dX7_status_56 : decode cX7_status 56 = .ok (.goto (-32), 3) := by decide +kernel
theorem dX7_status_59 : decode cX7_status 59 = .ok (.iload_n 2, 1) := by decide +kernel
theorem dX7_status_60 : decode cX7_status 60 = .ok (.ireturn, 1) := by decide +kernel
