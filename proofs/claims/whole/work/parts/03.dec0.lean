theorem dX0_init_0 : decode cX0_init 0 = .ok (.aload_n 0, 1) := by decide +kernel
theorem dX0_init_1 : decode cX0_init 1 = .ok (.invokespecial 3, 3) := by decide +kernel
theorem dX0_init_4 : decode cX0_init 4 = .ok (.aload_n 0, 1) := by decide +kernel
theorem dX0_init_5 : decode cX0_init 5 = .ok (.sipush 1000, 3) := by decide +kernel
theorem dX0_init_8 : decode cX0_init 8 = .ok (.newarray .int, 2) := by decide +kernel
theorem dX0_init_10 : decode cX0_init 10 = .ok (.putfield 9, 3) := by decide +kernel
theorem dX0_init_13 : decode cX0_init 13 = .ok (.aload_n 0, 1) := by decide +kernel
theorem dX0_init_14 : decode cX0_init 14 = .ok (.iconst 4, 1) := by decide +kernel
theorem dX0_init_15 : decode cX0_init 15 = .ok (.newarray .int, 2) := by decide +kernel
theorem dX0_init_17 : decode cX0_init 17 = .ok (.putfield 15, 3) := by decide +kernel
theorem dX0_init_20 : decode cX0_init 20 = .ok (.aload_n 0, 1) := by decide +kernel
theorem dX0_init_21 : decode cX0_init 21 = .ok (.bipush 25, 2) := by decide +kernel
theorem dX0_init_23 : decode cX0_init 23 = .ok (.newarray .int, 2) := by decide +kernel
theorem dX0_init_25 : decode cX0_init 25 = .ok (.putfield 18, 3) := by decide +kernel
theorem dX0_init_28 : decode cX0_init 28 = .ok (.return_, 1) := by decide +kernel
theorem dX0_clear_0 : decode cX0_clear 0 = .ok (.aload_n 0, 1) := by decide +kernel
theorem dX0_clear_1 : decode cX0_clear 1 = .ok (.iconst 0, 1) := by decide +kernel
theorem dX0_clear_2 : decode cX0_clear 2 = .ok (.putfield 21, 3) := by decide +kernel
theorem dX0_clear_5 : decode cX0_clear 5 = .ok (.return_, 1) := by decide +kernel
theorem dX0_add_0 : decode cX0_add 0 = .ok (.aload_n 0, 1) := by decide +kernel
theorem dX0_add_1 : decode cX0_add 1 = .ok (.getfield 21, 3) := by decide +kernel
theorem dX0_add_4 : decode cX0_add 4 = .ok (.sipush 1000, 3) := by decide +kernel
theorem dX0_add_7 : decode cX0_add 7 = .ok (.if_icmp .ge 25, 3) := by decide +kernel
theorem dX0_add_10 : decode cX0_add 10 = .ok (.aload_n 0, 1) := by decide +kernel
theorem dX0_add_11 : decode cX0_add 11 = .ok (.getfield 9, 3) := by decide +kernel
theorem dX0_add_14 : decode cX0_add 14 = .ok (.aload_n 0, 1) := by decide +kernel
theorem dX0_add_15 : decode cX0_add 15 = .ok (.getfield 21, 3) := by decide +kernel
theorem dX0_add_18 : decode cX0_add 18 = .ok (.iload_n 1, 1) := by decide +kernel
theorem dX0_add_19 : decode cX0_add 19 = .ok (.invokestatic 25, 3) := by decide +kernel
theorem dX0_add_22 : decode cX0_add 22 = .ok (.aload_n 0, 1) := by decide +kernel
theorem dX0_add_23 : decode cX0_add 23 = .ok (.dup, 1) := by decide +kernel
theorem dX0_add_24 : decode cX0_add 24 = .ok (.getfield 21, 3) := by decide +kernel
theorem dX0_add_27 : decode cX0_add 27 = .ok (.iconst 1, 1) := by decide +kernel
theorem dX0_add_28 : decode cX0_add 28 = .ok (.iadd, 1) := by decide +kernel
theorem dX0_add_29 : decode cX0_add 29 = .ok (.putfield 21, 3) := by decide +kernel
theorem dX0_add_32 : decode cX0_add 32 = .ok (.return_, 1) := by decide +kernel
theorem dX0_amount_0 : decode cX0_amount 0 = .ok (.aload_n 0, 1) := by decide +kernel
theorem dX0_amount_1 : decode cX0_amount 1 = .ok (.getfield 15, 3) := by decide +kernel
theorem dX0_amount_4 : decode cX0_amount 4 = .ok (.iconst 0, 1) := by decide +kernel
theorem dX0_amount_5 : decode cX0_amount 5 = .ok (.iload_n 1, 1) := by decide +kernel
theorem dX0_amount_6 : decode cX0_amount 6 = .ok (.invokestatic 25, 3) := by decide +kernel
theorem dX0_amount_9 : decode cX0_amount 9 = .ok (.aload_n 0, 1) := by decide +kernel
theorem dX0_amount_10 : decode cX0_amount 10 = .ok (.getfield 15, 3) := by decide +kernel
theorem dX0_amount_13 : decode cX0_amount 13 = .ok (.iconst 1, 1) := by decide +kernel
theorem dX0_amount_14 : decode cX0_amount 14 = .ok (.iload_n 2, 1) := by decide +kernel
theorem dX0_amount_15 : decode cX0_amount 15 = .ok (.invokestatic 25, 3) := by decide +kernel
theorem dX0_amount_18 : decode cX0_amount 18 = .ok (.aload_n 0, 1) := by decide +kernel
theorem dX0_amount_19 : decode cX0_amount 19 = .ok (.getfield 15, 3) := by decide +kernel
theorem dX0_amount_22 : decode cX0_amount 22 = .ok (.iconst 2, 1) := by decide +kernel
theorem dX0_amount_23 : decode cX0_amount 23 = .ok (.iload_n 3, 1) := by decide +kernel
theorem dX0_amount_24 : decode cX0_amount 24 = .ok (.invokestatic 25, 3) := by decide +kernel
theorem dX0_amount_27 : decode cX0_amount 27 = .ok (.aload_n 0, 1) := by decide +kernel
theorem dX0_amount_28 : decode cX0_amount 28 = .ok (.getfield 15, 3) := by decide +kernel
theorem dX0_amount_31 : decode cX0_amount 31 = .ok (.iconst 3, 1) := by decide +kernel
theorem dX0_amount_32 : decode cX0_amount 32 = .ok (.iload 4, 2) := by decide +kernel
theorem dX0_amount_34 : decode cX0_amount 34 = .ok (.invokestatic 25, 3) := by decide +kernel
theorem dX0_amount_37 : decode cX0_amount 37 = .ok (.iconst 0, 1) := by decide +kernel
theorem dX0_amount_38 : decode cX0_amount 38 = .ok (.istore 5, 2) := by decide +kernel
theorem dX0_amount_40 : decode cX0_amount 40 = .ok (.iconst 0, 1) := by decide +kernel
theorem dX0_amount_41 : decode cX0_amount 41 = .ok (.istore 6, 2) := by decide +kernel
theorem dX0_amount_43 : decode cX0_amount 43 = .ok (.iload 6, 2) := by decide +kernel
theorem dX0_amount_45 : decode cX0_amount 45 = .ok (.aload_n 0, 1) := by decide +kernel
theorem dX0_amount_46 : decode cX0_amount 46 = .ok (.getfield 21, 3) := by decide +kernel
theorem dX0_amount_49 : decode cX0_amount 49 = .ok (.if_icmp .ge 142, 3) := by decide +kernel
theorem dX0_amount_52 : decode cX0_amount 52 = .ok (.aload_n 0, 1) := by decide +kernel
theorem dX0_amount_53 : decode cX0_amount 53 = .ok (.getfield 9, 3) := by decide +kernel
theorem dX0_amount_56 : decode cX0_amount 56 = .ok (.iload 6, 2) := by decide +kernel
theorem dX0_amount_58 : decode cX0_amount 58 = .ok (.invokestatic 29, 3) := by decide +kernel
theorem dX0_amount_61 : decode cX0_amount 61 = .ok (.istore 7, 2) := by decide +kernel
theorem dX0_amount_63 : decode cX0_amount 63 = .ok (.iload 7, 2) := by decide +kernel
theorem dX0_amount_65 : decode cX0_amount 65 = .ok (.bipush (-6), 2) := by decide +kernel
theorem dX0_amount_67 : decode cX0_amount 67 = .ok (.if_icmp .gt 45, 3) := by decide +kernel
theorem dX0_amount_70 : decode cX0_amount 70 = .ok (.iinc 5 (-1), 3) := by decide +kernel
theorem dX0_amount_73 : decode cX0_amount 73 = .ok (.aload_n 0, 1) := by decide +kernel
theorem dX0_amount_74 : decode cX0_amount 74 = .ok (.getfield 18, 3) := by decide +kernel
theorem dX0_amount_77 : decode cX0_amount 77 = .ok (.iload 5, 2) := by decide +kernel
theorem dX0_amount_79 : decode cX0_amount 79 = .ok (.iconst 1, 1) := by decide +kernel
theorem dX0_amount_80 : decode cX0_amount 80 = .ok (.isub, 1) := by decide +kernel
theorem dX0_amount_81 : decode cX0_amount 81 = .ok (.iload 7, 2) := by decide +kernel
theorem dX0_amount_83 : decode cX0_amount 83 = .ok (.aload_n 0, 1) := by decide +kernel
theorem dX0_amount_84 : decode cX0_amount 84 = .ok (.getfield 18, 3) := by decide +kernel
theorem dX0_amount_87 : decode cX0_amount 87 = .ok (.iload 5, 2) := by decide +kernel
theorem dX0_amount_89 : decode cX0_amount 89 = .ok (.iconst 1, 1) := by decide +kernel
theorem dX0_amount_90 : decode cX0_amount 90 = .ok (.isub, 1) := by decide +kernel
theorem dX0_amount_91 : decode cX0_amount 91 = .ok (.invokestatic 29, 3) := by decide +kernel
theorem dX0_amount_94 : decode cX0_amount 94 = .ok (.aload_n 0, 1) := by decide +kernel
theorem dX0_amount_95 : decode cX0_amount 95 = .ok (.getfield 18, 3) := by decide +kernel
theorem dX0_amount_98 : decode cX0_amount 98 = .ok (.iload 5, 2) := by decide +kernel
theorem dX0_amount_100 : decode cX0_amount 100 = .ok (.invokestatic 29, 3) := by decide +kernel
theorem dX0_amount_103 : decode cX0_amount 103 = .ok (.invokestatic 33, 3) := by decide +kernel
theorem dX0_amount_106 : decode cX0_amount 106 = .ok (.invokestatic 25, 3) := by decide +kernel
theorem dX0_amount_109 : decode cX0_amount 109 = .ok (.goto 76, 3) := by decide +kernel
theorem dX0_amount_112 : decode cX0_amount 112 = .ok (.iload 7, 2) := by decide +kernel
theorem dX0_amount_114 : decode cX0_amount 114 = .ok (.bipush (-5), 2) := by decide +kernel
theorem dX0_amount_116 : decode cX0_amount 116 = .ok (.if_icmp .ne 36, 3) := by decide +kernel
theorem dX0_amount_119 : decode cX0_amount 119 = .ok (.aload_n 0, 1) := by decide +kernel
theorem dX0_amount_120 : decode cX0_amount 120 = .ok (.getfield 18, 3) := by decide +kernel
theorem dX0_amount_123 : decode cX0_amount 123 = .ok (.iload 5, 2) := by decide +kernel
theorem dX0_amount_125 : decode cX0_amount 125 = .ok (.iconst 1, 1) := by decide +kernel
theorem dX0_amount_126 : decode cX0_amount 126 = .ok (.isub, 1) := by decide +kernel
theorem dX0_amount_127 : decode cX0_amount 127 = .ok (.aload_n 0, 1) := by decide +kernel
theorem dX0_amount_128 : decode cX0_amount 128 = .ok (.getfield 18, 3) := by decide +kernel
theorem dX0_amount_131 : decode cX0_amount 131 = .ok (.iload 5, 2) := by decide +kernel
theorem dX0_amount_133 : decode cX0_amount 133 = .ok (.iconst 1, 1) := by decide +kernel
theorem dX0_amount_134 : decode cX0_amount 134 = .ok (.isub, 1) := by decide +kernel
theorem dX0_amount_135 : decode cX0_amount 135 = .ok (.invokestatic 29, 3) := by decide +kernel
theorem dX0_amount_138 : decode cX0_amount 138 = .ok (.ifCond .ne 7, 3) := by decide +kernel
theorem dX0_amount_141 : decode cX0_amount 141 = .ok (.iconst 1, 1) := by decide +kernel
theorem dX0_amount_142 : decode cX0_amount 142 = .ok (.goto 4, 3) := by decide +kernel
theorem dX0_amount_145 : decode cX0_amount 145 = .ok (.iconst 0, 1) := by decide +kernel
theorem dX0_amount_146 : decode cX0_amount 146 = .ok (.invokestatic 25, 3) := by decide +kernel
theorem dX0_amount_149 : decode cX0_amount 149 = .ok (.goto 36, 3) := by decide +kernel
theorem dX0_amount_152 : decode cX0_amount 152 = .ok (.aload_n 0, 1) := by decide +kernel
theorem dX0_amount_153 : decode cX0_amount 153 = .ok (.getfield 18, 3) := by decide +kernel
theorem dX0_amount_156 : decode cX0_amount 156 = .ok (.iload 5, 2) := by decide +kernel
theorem dX0_amount_158 : decode cX0_amount 158 = .ok (.iload 7, 2) := by decide +kernel
theorem dX0_amount_160 : decode cX0_amount 160 = .ok (.ifCond .lt 8, 3) := by decide +kernel
theorem dX0_amount_163 : decode cX0_amount 163 = .ok (.iload 7, 2) := by decide +kernel
theorem dX0_amount_165 : decode cX0_amount 165 = .ok (.goto 14, 3) := by decide +kernel
theorem dX0_amount_168 : decode cX0_amount 168 = .ok (.aload_n 0, 1) := by decide +kernel
theorem dX0_amount_169 : decode cX0_amount 169 = .ok (.getfield 15, 3) := by decide +kernel
theorem dX0_amount_172 : decode cX0_amount 172 = .ok (.iconst (-1), 1) := by decide +kernel
theorem dX0_amount_173 : decode cX0_amount 173 = .ok (.iload 7, 2) := by decide +kernel
theorem dX0_amount_175 : decode cX0_amount 175 = .ok (.isub, 1) := by decide +kernel
theorem dX0_amount_176 : decode cX0_amount 176 = .ok (.invokestatic 29, 3) := by decide +kernel
theorem dX0_amount_179 : decode cX0_amount 179 = .ok (.invokestatic 25, 3) := by decide +kernel
theorem dX0_amount_182 : decode cX0_amount 182 = .ok (.iinc 5 1, 3) := by decide +kernel
theorem dX0_amount_185 : decode cX0_amount 185 = .ok (.iinc 6 1, 3) := by decide +kernel
theorem dX0_amount_188 : decode cX0_amount 188 = .ok (.goto (-145), 3) := by decide +kernel
theorem dX0_amount_191 : decode cX0_amount 191 = .ok (.aload_n 0, 1) := by decide +kernel
theorem dX0_amount_192 : decode cX0_amount 192 = .ok (.getfield 18, 3) := by decide +kernel
theorem dX0_amount_195 : decode cX0_amount 195 = .ok (.iconst 0, 1) := by decide +kernel
theorem dX0_amount_196 : decode cX0_amount 196 = .ok (.invokestatic 29, 3) := by decide +kernel
theorem dX0_amount_199 : decode cX0_amount 199 = .ok (.ireturn, 1) := by decide +kernel
theorem dX0_joined_0 : decode cX0_joined 0 = .ok (.iload_n 0, 1) := by decide +kernel
theorem dX0_joined_1 : decode cX0_joined 1 = .ok (.tableswitch 97 (-11) (-6) #[93, 89, 78, 67, 53, 39], 39) := by decide +kernel
theorem dX0_joined_40 : decode cX0_joined 40 = .ok (.iload_n 1, 1) := by decide +kernel
theorem dX0_joined_41 : decode cX0_joined 41 = .ok (.ifCond .eq 11, 3) := by decide +kernel
theorem dX0_joined_44 : decode cX0_joined 44 = .ok (.iload_n 2, 1) := by decide +kernel
theorem dX0_joined_45 : decode cX0_joined 45 = .ok (.ifCond .eq 7, 3) := by decide +kernel
theorem dX0_joined_48 : decode cX0_joined 48 = .ok (.iconst 1, 1) := by decide +kernel
theorem dX0_joined_49 : decode cX0_joined 49 = .ok (.goto 4, 3) := by decide +kernel
theorem dX0_joined_52 : decode cX0_joined 52 = .ok (.iconst 0, 1) := by decide +kernel
theorem dX0_joined_53 : decode cX0_joined 53 = .ok (.ireturn, 1) := by decide +kernel
theorem dX0_joined_54 : decode cX0_joined 54 = .ok (.iload_n 1, 1) := by decide +kernel
theorem dX0_joined_55 : decode cX0_joined 55 = .ok (.ifCond .ne 7, 3) := by decide +kernel
theorem dX0_joined_58 : decode cX0_joined 58 = .ok (.iload_n 2, 1) := by decide +kernel
theorem dX0_joined_59 : decode cX0_joined 59 = .ok (.ifCond .eq 7, 3) := by decide +kernel
theorem dX0_joined_62 : decode cX0_joined 62 = .ok (.iconst 1, 1) := by decide +kernel
theorem dX0_joined_63 : decode cX0_joined 63 = .ok (.goto 4, 3) := by decide +kernel
theorem dX0_joined_66 : decode cX0_joined 66 = .ok (.iconst 0, 1) := by decide +kernel
theorem dX0_joined_67 : decode cX0_joined 67 = .ok (.ireturn, 1) := by decide +kernel
theorem dX0_joined_68 : decode cX0_joined 68 = .ok (.iload_n 1, 1) := by decide +kernel
theorem dX0_joined_69 : decode cX0_joined 69 = .ok (.iload_n 2, 1) := by decide +kernel
theorem dX0_joined_70 : decode cX0_joined 70 = .ok (.if_icmp .ge 7, 3) := by decide +kernel
theorem dX0_joined_73 : decode cX0_joined 73 = .ok (.iconst 1, 1) := by decide +kernel
theorem dX0_joined_74 : decode cX0_joined 74 = .ok (.goto 4, 3) := by decide +kernel
theorem dX0_joined_77 : decode cX0_joined 77 = .ok (.iconst 0, 1) := by decide +kernel
theorem dX0_joined_78 : decode cX0_joined 78 = .ok (.ireturn, 1) := by decide +kernel
theorem dX0_joined_79 : decode cX0_joined 79 = .ok (.iload_n 1, 1) := by decide +kernel
theorem dX0_joined_80 : decode cX0_joined 80 = .ok (.iload_n 2, 1) := by decide +kernel
theorem dX0_joined_81 : decode cX0_joined 81 = .ok (.if_icmp .ne 7, 3) := by decide +kernel
theorem dX0_joined_84 : decode cX0_joined 84 = .ok (.iconst 1, 1) := by decide +kernel
theorem dX0_joined_85 : decode cX0_joined 85 = .ok (.goto 4, 3) := by decide +kernel
theorem dX0_joined_88 : decode cX0_joined 88 = .ok (.iconst 0, 1) := by decide +kernel
theorem dX0_joined_89 : decode cX0_joined 89 = .ok (.ireturn, 1) := by decide +kernel
theorem dX0_joined_90 : decode cX0_joined 90 = .ok (.iload_n 1, 1) := by decide +kernel
theorem dX0_joined_91 : decode cX0_joined 91 = .ok (.iload_n 2, 1) := by decide +kernel
theorem dX0_joined_92 : decode cX0_joined 92 = .ok (.iadd, 1) := by decide +kernel
theorem dX0_joined_93 : decode cX0_joined 93 = .ok (.ireturn, 1) := by decide +kernel
theorem dX0_joined_94 : decode cX0_joined 94 = .ok (.iload_n 1, 1) := by decide +kernel
theorem dX0_joined_95 : decode cX0_joined 95 = .ok (.iload_n 2, 1) := by decide +kernel
theorem dX0_joined_96 : decode cX0_joined 96 = .ok (.isub, 1) := by decide +kernel
theorem dX0_joined_97 : decode cX0_joined 97 = .ok (.ireturn, 1) := by decide +kernel
theorem dX0_joined_98 : decode cX0_joined 98 = .ok (.iload_n 1, 1) := by decide +kernel
theorem dX0_joined_99 : decode cX0_joined 99 = .ok (.iload_n 2, 1) := by decide +kernel
theorem dX0_joined_100 : decode cX0_joined 100 = .ok (.imul, 1) := by decide +kernel
theorem dX0_joined_101 : decode cX0_joined 101 = .ok (.ireturn, 1) := by decide +kernel
theorem dX1_init_0 : decode cX1_init 0 = .ok (.aload_n 0, 1) := by decide +kernel
theorem dX1_init_1 : decode cX1_init 1 = .ok (.invokespecial 1, 3) := by decide +kernel
theorem dX1_init_4 : decode cX1_init 4 = .ok (.aload_n 0, 1) := by decide +kernel
theorem dX1_init_5 : decode cX1_init 5 = .ok (.new 7, 3) := by decide +kernel
theorem dX1_init_8 : decode cX1_init 8 = .ok (.dup, 1) := by decide +kernel
theorem dX1_init_9 : decode cX1_init 9 = .ok (.invokespecial 9, 3) := by decide +kernel
theorem dX1_init_12 : decode cX1_init 12 = .ok (.putfield 10, 3) := by decide +kernel
theorem dX1_init_15 : decode cX1_init 15 = .ok (.aload_n 0, 1) := by decide +kernel
theorem dX1_init_16 : decode cX1_init 16 = .ok (.new 16, 3) := by decide +kernel
theorem dX1_init_19 : decode cX1_init 19 = .ok (.dup, 1) := by decide +kernel
theorem dX1_init_20 : decode cX1_init 20 = .ok (.invokespecial 18, 3) := by decide +kernel
theorem dX1_init_23 : decode cX1_init 23 = .ok (.putfield 19, 3) := by decide +kernel
theorem dX1_init_26 : decode cX1_init 26 = .ok (.aload_n 0, 1) := by decide +kernel
theorem dX1_init_27 : decode cX1_init 27 = .ok (.new 23, 3) := by decide +kernel
theorem dX1_init_30 : decode cX1_init 30 = .ok (.dup, 1) := by decide +kernel
theorem dX1_init_31 : decode cX1_init 31 = .ok (.invokespecial 25, 3) := by decide +kernel
theorem dX1_init_34 : decode cX1_init 34 = .ok (.putfield 26, 3) := by decide +kernel
theorem dX1_init_37 : decode cX1_init 37 = .ok (.return_, 1) := by decide +kernel
theorem dX2_init_0 : decode cX2_init 0 = .ok (.aload_n 0, 1) := by decide +kernel
theorem dX2_init_1 : decode cX2_init 1 = .ok (.invokespecial 3, 3) := by decide +kernel
theorem dX2_init_4 : decode cX2_init 4 = .ok (.aload_n 0, 1) := by decide +kernel
theorem dX2_init_5 : decode cX2_init 5 = .ok (.bipush 8, 2) := by decide +kernel
theorem dX2_init_7 : decode cX2_init 7 = .ok (.newarray .int, 2) := by decide +kernel
theorem dX2_init_9 : decode cX2_init 9 = .ok (.putfield 9, 3) := by decide +kernel
theorem dX2_init_12 : decode cX2_init 12 = .ok (.aload_n 0, 1) := by decide +kernel
theorem dX2_init_13 : decode cX2_init 13 = .ok (.bipush 8, 2) := by decide +kernel
theorem dX2_init_15 : decode cX2_init 15 = .ok (.newarray .int, 2) := by decide +kernel
theorem dX2_init_17 : decode cX2_init 17 = .ok (.putfield 15, 3) := by decide +kernel
theorem dX2_init_20 : decode cX2_init 20 = .ok (.aload_n 0, 1) := by decide +kernel
theorem dX2_init_21 : decode cX2_init 21 = .ok (.bipush 8, 2) := by decide +kernel
theorem dX2_init_23 : decode cX2_init 23 = .ok (.newarray .int, 2) := by decide +kernel
theorem dX2_init_25 : decode cX2_init 25 = .ok (.putfield 18, 3) := by decide +kernel
theorem dX2_init_28 : decode cX2_init 28 = .ok (.return_, 1) := by decide +kernel
theorem dX2_clear_0 : decode cX2_clear 0 = .ok (.aload_n 0, 1) := by decide +kernel
theorem dX2_clear_1 : decode cX2_clear 1 = .ok (.iconst 0, 1) := by decide +kernel
theorem dX2_clear_2 : decode cX2_clear 2 = .ok (.putfield 21, 3) := by decide +kernel
theorem dX2_clear_5 : decode cX2_clear 5 = .ok (.return_, 1) := by decide +kernel
theorem dX2_add_0 : decode cX2_add 0 = .ok (.aload_n 0, 1) := by decide +kernel
theorem dX2_add_1 : decode cX2_add 1 = .ok (.getfield 21, 3) := by decide +kernel
theorem dX2_add_4 : decode cX2_add 4 = .ok (.bipush 8, 2) := by decide +kernel
theorem dX2_add_6 : decode cX2_add 6 = .ok (.if_icmp .lt 5, 3) := by decide +kernel
theorem dX2_add_9 : decode cX2_add 9 = .ok (.iconst 0, 1) := by decide +kernel
theorem dX2_add_10 : decode cX2_add 10 = .ok (.ireturn, 1) := by decide +kernel
theorem dX2_add_11 : decode cX2_add 11 = .ok (.aload_n 0, 1) := by decide +kernel
theorem dX2_add_12 : decode cX2_add 12 = .ok (.getfield 9, 3) := by decide +kernel
theorem dX2_add_15 : decode cX2_add 15 = .ok (.aload_n 0, 1) := by decide +kernel
theorem dX2_add_16 : decode cX2_add 16 = .ok (.getfield 21, 3) := by decide +kernel
theorem dX2_add_19 : decode cX2_add 19 = .ok (.iload_n 1, 1) := by decide +kernel
theorem dX2_add_20 : decode cX2_add 20 = .ok (.invokestatic 25, 3) := by decide +kernel
theorem dX2_add_23 : decode cX2_add 23 = .ok (.aload_n 0, 1) := by decide +kernel
theorem dX2_add_24 : decode cX2_add 24 = .ok (.getfield 15, 3) := by decide +kernel
theorem dX2_add_27 : decode cX2_add 27 = .ok (.aload_n 0, 1) := by decide +kernel
theorem dX2_add_28 : decode cX2_add 28 = .ok (.getfield 21, 3) := by decide +kernel
theorem dX2_add_31 : decode cX2_add 31 = .ok (.iload_n 2, 1) := by decide +kernel
theorem dX2_add_32 : decode cX2_add 32 = .ok (.invokestatic 25, 3) := by decide +kernel
theorem dX2_add_35 : decode cX2_add 35 = .ok (.aload_n 0, 1) := by decide +kernel
theorem dX2_add_36 : decode cX2_add 36 = .ok (.getfield 18, 3) := by decide +kernel
theorem dX2_add_39 : decode cX2_add 39 = .ok (.aload_n 0, 1) := by decide +kernel
theorem dX2_add_40 : decode cX2_add 40 = .ok (.getfield 21, 3) := by decide +kernel
theorem dX2_add_43 : decode cX2_add 43 = .ok (.iload_n 3, 1) := by decide +kernel
theorem dX2_add_44 : decode cX2_add 44 = .ok (.ifCond .eq 7, 3) := by decide +kernel
theorem dX2_add_47 : decode cX2_add 47 = .ok (.iconst 1, 1) := by decide +kernel
theorem dX2_add_48 : decode cX2_add 48 = .ok (.goto 4, 3) := by decide +kernel
theorem dX2_add_51 : decode cX2_add 51 = .ok (.iconst 0, 1) := by decide +kernel
theorem dX2_add_52 : decode cX2_add 52 = .ok (.invokestatic 25, 3) := by decide +kernel
theorem dX2_add_55 : decode cX2_add 55 = .ok (.aload_n 0, 1) := by decide +kernel
theorem dX2_add_56 : decode cX2_add 56 = .ok (.dup, 1) := by decide +kernel
theorem dX2_add_57 : decode cX2_add 57 = .ok (.getfield 21, 3) := by decide +kernel
theorem dX2_add_60 : decode cX2_add 60 = .ok (.iconst 1, 1) := by decide +kernel
theorem dX2_add_61 : decode cX2_add 61 = .ok (.iadd, 1) := by decide +kernel
theorem dX2_add_62 : decode cX2_add 62 = .ok (.putfield 21, 3) := by decide +kernel
theorem dX2_add_65 : decode cX2_add 65 = .ok (.iconst 1, 1) := by decide +kernel
theorem dX2_add_66 : decode cX2_add 66 = .ok (.ireturn, 1) := by decide +kernel
theorem dX2_copyFrom_0 : decode cX2_copyFrom 0 = .ok (.aload_n 0, 1) := by decide +kernel
theorem dX2_copyFrom_1 : decode cX2_copyFrom 1 = .ok (.aload_n 1, 1) := by decide +kernel
theorem dX2_copyFrom_2 : decode cX2_copyFrom 2 = .ok (.getfield 21, 3) := by decide +kernel
theorem dX2_copyFrom_5 : decode cX2_copyFrom 5 = .ok (.putfield 21, 3) := by decide +kernel
theorem dX2_copyFrom_8 : decode cX2_copyFrom 8 = .ok (.aload_n 1, 1) := by decide +kernel
theorem dX2_copyFrom_9 : decode cX2_copyFrom 9 = .ok (.getfield 9, 3) := by decide +kernel
theorem dX2_copyFrom_12 : decode cX2_copyFrom 12 = .ok (.aload_n 0, 1) := by decide +kernel
theorem dX2_copyFrom_13 : decode cX2_copyFrom 13 = .ok (.getfield 9, 3) := by decide +kernel
theorem dX2_copyFrom_16 : decode cX2_copyFrom 16 = .ok (.invokestatic 29, 3) := by decide +kernel
theorem dX2_copyFrom_19 : decode cX2_copyFrom 19 = .ok (.aload_n 1, 1) := by decide +kernel
theorem dX2_copyFrom_20 : decode cX2_copyFrom 20 = .ok (.getfield 15, 3) := by decide +kernel
theorem dX2_copyFrom_23 : decode cX2_copyFrom 23 = .ok (.aload_n 0, 1) := by decide +kernel
theorem dX2_copyFrom_24 : decode cX2_copyFrom 24 = .ok (.getfield 15, 3) := by decide +kernel
theorem dX2_copyFrom_27 : decode cX2_copyFrom 27 = .ok (.invokestatic 29, 3) := by decide +kernel
theorem dX2_copyFrom_30 : decode cX2_copyFrom 30 = .ok (.aload_n 1, 1) := by decide +kernel
theorem dX2_copyFrom_31 : decode cX2_copyFrom 31 = .ok (.getfield 18, 3) := by decide +kernel
theorem dX2_copyFrom_34 : decode cX2_copyFrom 34 = .ok (.aload_n 0, 1) := by decide +kernel
theorem dX2_copyFrom_35 : decode cX2_copyFrom 35 = .ok (.getfield 18, 3) := by decide +kernel
theorem dX2_copyFrom_38 : decode cX2_copyFrom 38 = .ok (.invokestatic 29, 3) := by decide +kernel
theorem dX2_copyFrom_41 : decode cX2_copyFrom 41 = .ok (.return_, 1) := by decide +kernel
theorem dX3_init_0 : decode cX3_init 0 = .ok (.aload_n 0, 1) := by decide +kernel
theorem dX3_init_1 : decode cX3_init 1 = .ok (.invokespecial 3, 3) := by decide +kernel
theorem dX3_init_4 : decode cX3_init 4 = .ok (.aload_n 0, 1) := by decide +kernel
theorem dX3_init_5 : decode cX3_init 5 = .ok (.bipush 6, 2) := by decide +kernel
theorem dX3_init_7 : decode cX3_init 7 = .ok (.newarray .int, 2) := by decide +kernel
theorem dX3_init_9 : decode cX3_init 9 = .ok (.putfield 9, 3) := by decide +kernel
theorem dX3_init_12 : decode cX3_init 12 = .ok (.aload_n 0, 1) := by decide +kernel
theorem dX3_init_13 : decode cX3_init 13 = .ok (.bipush 6, 2) := by decide +kernel
theorem dX3_init_15 : decode cX3_init 15 = .ok (.newarray .int, 2) := by decide +kernel
theorem dX3_init_17 : decode cX3_init 17 = .ok (.putfield 15, 3) := by decide +kernel
theorem dX3_init_20 : decode cX3_init 20 = .ok (.aload_n 0, 1) := by decide +kernel
theorem dX3_init_21 : decode cX3_init 21 = .ok (.bipush 6, 2) := by decide +kernel
theorem dX3_init_23 : decode cX3_init 23 = .ok (.newarray .int, 2) := by decide +kernel
theorem dX3_init_25 : decode cX3_init 25 = .ok (.putfield 18, 3) := by decide +kernel
theorem dX3_init_28 : decode cX3_init 28 = .ok (.aload_n 0, 1) := by decide +kernel
theorem dX3_init_29 : decode cX3_init 29 = .ok (.bipush 6, 2) := by decide +kernel
theorem dX3_init_31 : decode cX3_init 31 = .ok (.newarray .int, 2) := by decide +kernel
theorem dX3_init_33 : decode cX3_init 33 = .ok (.putfield 21, 3) := by decide +kernel
theorem dX3_init_36 : decode cX3_init 36 = .ok (.aload_n 0, 1) := by decide +kernel
theorem dX3_init_37 : decode cX3_init 37 = .ok (.bipush 6, 2) := by decide +kernel
theorem dX3_init_39 : decode cX3_init 39 = .ok (.newarray .int, 2) := by decide +kernel
theorem dX3_init_41 : decode cX3_init 41 = .ok (.putfield 24, 3) := by decide +kernel
theorem dX3_init_44 : decode cX3_init 44 = .ok (.aload_n 0, 1) := by decide +kernel
theorem dX3_init_45 : decode cX3_init 45 = .ok (.bipush 6, 2) := by decide +kernel
theorem dX3_init_47 : decode cX3_init 47 = .ok (.newarray .int, 2) := by decide +kernel
theorem dX3_init_49 : decode cX3_init 49 = .ok (.putfield 27, 3) := by decide +kernel
theorem dX3_init_52 : decode cX3_init 52 = .ok (.return_, 1) := by decide +kernel
theorem dX3_begin_0 : decode cX3_begin 0 = .ok (.aload_n 0, 1) := by decide +kernel
theorem dX3_begin_1 : decode cX3_begin 1 = .ok (.aload_n 1, 1) := by decide +kernel
theorem dX3_begin_2 : decode cX3_begin 2 = .ok (.getfield 30, 3) := by decide +kernel
theorem dX3_begin_5 : decode cX3_begin 5 = .ok (.putfield 36, 3) := by decide +kernel
theorem dX3_begin_8 : decode cX3_begin 8 = .ok (.aload_n 0, 1) := by decide +kernel
theorem dX3_begin_9 : decode cX3_begin 9 = .ok (.iconst 0, 1) := by decide +kernel
theorem dX3_begin_10 : decode cX3_begin 10 = .ok (.putfield 37, 3) := by decide +kernel
theorem dX3_begin_13 : decode cX3_begin 13 = .ok (.aload_n 0, 1) := by decide +kernel
theorem dX3_begin_14 : decode cX3_begin 14 = .ok (.iconst 0, 1) := by decide +kernel
theorem dX3_begin_15 : decode cX3_begin 15 = .ok (.putfield 40, 3) := by decide +kernel
theorem dX3_begin_18 : decode cX3_begin 18 = .ok (.aload_n 1, 1) := by decide +kernel
theorem dX3_begin_19 : decode cX3_begin 19 = .ok (.getfield 43, 3) := by decide +kernel
theorem dX3_begin_22 : decode cX3_begin 22 = .ok (.aload_n 0, 1) := by decide +kernel
theorem dX3_begin_23 : decode cX3_begin 23 = .ok (.getfield 15, 3) := by decide +kernel
theorem dX3_begin_26 : decode cX3_begin 26 = .ok (.invokestatic 44, 3) := by decide +kernel
theorem dX3_begin_29 : decode cX3_begin 29 = .ok (.aload_n 1, 1) := by decide +kernel
theorem dX3_begin_30 : decode cX3_begin 30 = .ok (.getfield 48, 3) := by decide +kernel
theorem dX3_begin_33 : decode cX3_begin 33 = .ok (.aload_n 0, 1) := by decide +kernel
theorem dX3_begin_34 : decode cX3_begin 34 = .ok (.getfield 18, 3) := by decide +kernel
theorem dX3_begin_37 : decode cX3_begin 37 = .ok (.invokestatic 44, 3) := by decide +kernel
theorem dX3_begin_40 : decode cX3_begin 40 = .ok (.iconst 0, 1) := by decide +kernel
theorem dX3_begin_41 : decode cX3_begin 41 = .ok (.istore_n 2, 1) := by decide +kernel
theorem dX3_begin_42 : decode cX3_begin 42 = .ok (.iload_n 2, 1) := by decide +kernel
theorem dX3_begin_43 : decode cX3_begin 43 = .ok (.bipush 6, 2) := by decide +kernel
theorem dX3_begin_45 : decode cX3_begin 45 = .ok (.if_icmp .ge 29, 3) := by decide +kernel
theorem dX3_begin_48 : decode cX3_begin 48 = .ok (.aload_n 0, 1) := by decide +kernel
theorem dX3_begin_49 : decode cX3_begin 49 = .ok (.getfield 9, 3) := by decide +kernel
theorem dX3_begin_52 : decode cX3_begin 52 = .ok (.iload_n 2, 1) := by decide +kernel
theorem dX3_begin_53 : decode cX3_begin 53 = .ok (.iconst 0, 1) := by decide +kernel
theorem dX3_begin_54 : decode cX3_begin 54 = .ok (.invokestatic 49, 3) := by decide +kernel
theorem dX3_begin_57 : decode cX3_begin 57 = .ok (.aload_n 0, 1) := by decide +kernel
theorem dX3_begin_58 : decode cX3_begin 58 = .ok (.getfield 21, 3) := by decide +kernel
theorem dX3_begin_61 : decode cX3_begin 61 = .ok (.iload_n 2, 1) := by decide +kernel
theorem dX3_begin_62 : decode cX3_begin 62 = .ok (.iconst 1, 1) := by decide +kernel
theorem dX3_begin_63 : decode cX3_begin 63 = .ok (.iload_n 2, 1) := by decide +kernel
theorem dX3_begin_64 : decode cX3_begin 64 = .ok (.ishl, 1) := by decide +kernel
theorem dX3_begin_65 : decode cX3_begin 65 = .ok (.invokestatic 49, 3) := by decide +kernel
theorem dX3_begin_68 : decode cX3_begin 68 = .ok (.iinc 2 1, 3) := by decide +kernel
theorem dX3_begin_71 : decode cX3_begin 71 = .ok (.goto (-29), 3) := by decide +kernel
theorem dX3_begin_74 : decode cX3_begin 74 = .ok (.return_, 1) := by decide +kernel
theorem dX3_copyFrom_0 : decode cX3_copyFrom 0 = .ok (.aload_n 0, 1) := by decide +kernel
theorem dX3_copyFrom_1 : decode cX3_copyFrom 1 = .ok (.aload_n 1, 1) := by decide +kernel
theorem dX3_copyFrom_2 : decode cX3_copyFrom 2 = .ok (.getfield 36, 3) := by decide +kernel
theorem dX3_copyFrom_5 : decode cX3_copyFrom 5 = .ok (.putfield 36, 3) := by decide +kernel
theorem dX3_copyFrom_8 : decode cX3_copyFrom 8 = .ok (.aload_n 0, 1) := by decide +kernel
theorem dX3_copyFrom_9 : decode cX3_copyFrom 9 = .ok (.aload_n 1, 1) := by decide +kernel
theorem dX3_copyFrom_10 : decode cX3_copyFrom 10 = .ok (.getfield 37, 3) := by decide +kernel
theorem dX3_copyFrom_13 : decode cX3_copyFrom 13 = .ok (.putfield 37, 3) := by decide +kernel
theorem dX3_copyFrom_16 : decode cX3_copyFrom 16 = .ok (.aload_n 0, 1) := by decide +kernel
theorem dX3_copyFrom_17 : decode cX3_copyFrom 17 = .ok (.aload_n 1, 1) := by decide +kernel
theorem dX3_copyFrom_18 : decode cX3_copyFrom 18 = .ok (.getfield 40, 3) := by decide +kernel
theorem dX3_copyFrom_21 : decode cX3_copyFrom 21 = .ok (.putfield 40, 3) := by decide +kernel
theorem dX3_copyFrom_24 : decode cX3_copyFrom 24 = .ok (.aload_n 1, 1) := by decide +kernel
theorem dX3_copyFrom_25 : decode cX3_copyFrom 25 = .ok (.getfield 9, 3) := by decide +kernel
theorem dX3_copyFrom_28 : decode cX3_copyFrom 28 = .ok (.aload_n 0, 1) := by decide +kernel
theorem dX3_copyFrom_29 : decode cX3_copyFrom 29 = .ok (.getfield 9, 3) := by decide +kernel
theorem dX3_copyFrom_32 : decode cX3_copyFrom 32 = .ok (.invokestatic 44, 3) := by decide +kernel
theorem dX3_copyFrom_35 : decode cX3_copyFrom 35 = .ok (.aload_n 1, 1) := by decide +kernel
theorem dX3_copyFrom_36 : decode cX3_copyFrom 36 = .ok (.getfield 15, 3) := by decide +kernel
theorem dX3_copyFrom_39 : decode cX3_copyFrom 39 = .ok (.aload_n 0, 1) := by decide +kernel
theorem dX3_copyFrom_40 : decode cX3_copyFrom 40 = .ok (.getfield 15, 3) := by decide +kernel
theorem dX3_copyFrom_43 : decode cX3_copyFrom 43 = .ok (.invokestatic 44, 3) := by decide +kernel
theorem dX3_copyFrom_46 : decode cX3_copyFrom 46 = .ok (.aload_n 1, 1) := by decide +kernel
theorem dX3_copyFrom_47 : decode cX3_copyFrom 47 = .ok (.getfield 18, 3) := by decide +kernel
theorem dX3_copyFrom_50 : decode cX3_copyFrom 50 = .ok (.aload_n 0, 1) := by decide +kernel
theorem dX3_copyFrom_51 : decode cX3_copyFrom 51 = .ok (.getfield 18, 3) := by decide +kernel
theorem dX3_copyFrom_54 : decode cX3_copyFrom 54 = .ok (.invokestatic 44, 3) := by decide +kernel
theorem dX3_copyFrom_57 : decode cX3_copyFrom 57 = .ok (.aload_n 1, 1) := by decide +kernel
theorem dX3_copyFrom_58 : decode cX3_copyFrom 58 = .ok (.getfield 21, 3) := by decide +kernel
theorem dX3_copyFrom_61 : decode cX3_copyFrom 61 = .ok (.aload_n 0, 1) := by decide +kernel
theorem dX3_copyFrom_62 : decode cX3_copyFrom 62 = .ok (.getfield 21, 3) := by decide +kernel
theorem dX3_copyFrom_65 : decode cX3_copyFrom 65 = .ok (.invokestatic 44, 3) := by decide +kernel
theorem dX3_copyFrom_68 : decode cX3_copyFrom 68 = .ok (.return_, 1) := by decide +kernel
theorem dX3_pass_0 : decode cX3_pass 0 = .ok (.iconst 0, 1) := by decide +kernel
theorem dX3_pass_1 : decode cX3_pass 1 = .ok (.istore_n 3, 1) := by decide +kernel
theorem dX3_pass_2 : decode cX3_pass 2 = .ok (.iconst 0, 1) := by decide +kernel
theorem dX3_pass_3 : decode cX3_pass 3 = .ok (.istore 4, 2) := by decide +kernel
theorem dX3_pass_5 : decode cX3_pass 5 = .ok (.iload 4, 2) := by decide +kernel
theorem dX3_pass_7 : decode cX3_pass 7 = .ok (.aload_n 0, 1) := by decide +kernel
theorem dX3_pass_8 : decode cX3_pass 8 = .ok (.getfield 36, 3) := by decide +kernel
theorem dX3_pass_11 : decode cX3_pass 11 = .ok (.if_icmp .ge 89, 3) := by decide +kernel
theorem dX3_pass_14 : decode cX3_pass 14 = .ok (.aload_n 0, 1) := by decide +kernel
theorem dX3_pass_15 : decode cX3_pass 15 = .ok (.getfield 9, 3) := by decide +kernel
theorem dX3_pass_18 : decode cX3_pass 18 = .ok (.iload 4, 2) := by decide +kernel
theorem dX3_pass_20 : decode cX3_pass 20 = .ok (.invokestatic 53, 3) := by decide +kernel
theorem dX3_pass_23 : decode cX3_pass 23 = .ok (.istore 5, 2) := by decide +kernel
theorem dX3_pass_25 : decode cX3_pass 25 = .ok (.aload_n 0, 1) := by decide +kernel
theorem dX3_pass_26 : decode cX3_pass 26 = .ok (.aload_n 1, 1) := by decide +kernel
theorem dX3_pass_27 : decode cX3_pass 27 = .ok (.iload 4, 2) := by decide +kernel
theorem dX3_pass_29 : decode cX3_pass 29 = .ok (.iload_n 2, 1) := by decide +kernel
theorem dX3_pass_30 : decode cX3_pass 30 = .ok (.invokevirtual 57, 3) := by decide +kernel
theorem dX3_pass_33 : decode cX3_pass 33 = .ok (.istore 6, 2) := by decide +kernel
theorem dX3_pass_35 : decode cX3_pass 35 = .ok (.aload_n 0, 1) := by decide +kernel
theorem dX3_pass_36 : decode cX3_pass 36 = .ok (.getfield 9, 3) := by decide +kernel
theorem dX3_pass_39 : decode cX3_pass 39 = .ok (.iload 4, 2) := by decide +kernel
theorem dX3_pass_41 : decode cX3_pass 41 = .ok (.iload 5, 2) := by decide +kernel
theorem dX3_pass_43 : decode cX3_pass 43 = .ok (.iload 6, 2) := by decide +kernel
theorem dX3_pass_45 : decode cX3_pass 45 = .ok (.iadd, 1) := by decide +kernel
theorem dX3_pass_46 : decode cX3_pass 46 = .ok (.invokestatic 49, 3) := by decide +kernel
theorem dX3_pass_49 : decode cX3_pass 49 = .ok (.aload_n 0, 1) := by decide +kernel
theorem dX3_pass_50 : decode cX3_pass 50 = .ok (.getfield 27, 3) := by decide +kernel
theorem dX3_pass_53 : decode cX3_pass 53 = .ok (.iload 4, 2) := by decide +kernel
theorem dX3_pass_55 : decode cX3_pass 55 = .ok (.iload 6, 2) := by decide +kernel
theorem dX3_pass_57 : decode cX3_pass 57 = .ok (.aload_n 0, 1) := by decide +kernel
theorem dX3_pass_58 : decode cX3_pass 58 = .ok (.getfield 18, 3) := by decide +kernel
theorem dX3_pass_61 : decode cX3_pass 61 = .ok (.iload 4, 2) := by decide +kernel
theorem dX3_pass_63 : decode cX3_pass 63 = .ok (.invokestatic 53, 3) := by decide +kernel
theorem dX3_pass_66 : decode cX3_pass 66 = .ok (.imul, 1) := by decide +kernel
theorem dX3_pass_67 : decode cX3_pass 67 = .ok (.invokestatic 49, 3) := by decide +kernel
theorem dX3_pass_70 : decode cX3_pass 70 = .ok (.iload 5, 2) := by decide +kernel
theorem dX3_pass_72 : decode cX3_pass 72 = .ok (.bipush 10, 2) := by decide +kernel
theorem dX3_pass_74 : decode cX3_pass 74 = .ok (.if_icmp .ge 20, 3) := by decide +kernel
theorem dX3_pass_77 : decode cX3_pass 77 = .ok (.iload 5, 2) := by decide +kernel
theorem dX3_pass_79 : decode cX3_pass 79 = .ok (.iload 6, 2) := by decide +kernel
theorem dX3_pass_81 : decode cX3_pass 81 = .ok (.iadd, 1) := by decide +kernel
theorem dX3_pass_82 : decode cX3_pass 82 = .ok (.bipush 10, 2) := by decide +kernel
theorem dX3_pass_84 : decode cX3_pass 84 = .ok (.if_icmp .lt 10, 3) := by decide +kernel
theorem dX3_pass_87 : decode cX3_pass 87 = .ok (.iload_n 3, 1) := by decide +kernel
theorem dX3_pass_88 : decode cX3_pass 88 = .ok (.iconst 1, 1) := by decide +kernel
theorem dX3_pass_89 : decode cX3_pass 89 = .ok (.iload 4, 2) := by decide +kernel
theorem dX3_pass_91 : decode cX3_pass 91 = .ok (.ishl, 1) := by decide +kernel
theorem dX3_pass_92 : decode cX3_pass 92 = .ok (.ior, 1) := by decide +kernel
theorem dX3_pass_93 : decode cX3_pass 93 = .ok (.istore_n 3, 1) := by decide +kernel
theorem dX3_pass_94 : decode cX3_pass 94 = .ok (.iinc 4 1, 3) := by decide +kernel
theorem dX3_pass_97 : decode cX3_pass 97 = .ok (.goto (-92), 3) := by decide +kernel
theorem dX3_pass_100 : decode cX3_pass 100 = .ok (.aload_n 0, 1) := by decide +kernel
theorem dX3_pass_101 : decode cX3_pass 101 = .ok (.aload_n 1, 1) := by decide +kernel
theorem dX3_pass_102 : decode cX3_pass 102 = .ok (.invokevirtual 61, 3) := by decide +kernel
theorem dX3_pass_105 : decode cX3_pass 105 = .ok (.aload_n 0, 1) := by decide +kernel
theorem dX3_pass_106 : decode cX3_pass 106 = .ok (.iconst 0, 1) := by decide +kernel
theorem dX3_pass_107 : decode cX3_pass 107 = .ok (.putfield 40, 3) := by decide +kernel
theorem dX3_pass_110 : decode cX3_pass 110 = .ok (.aload_n 0, 1) := by decide +kernel
theorem dX3_pass_111 : decode cX3_pass 111 = .ok (.dup, 1) := by decide +kernel
theorem dX3_pass_112 : decode cX3_pass 112 = .ok (.getfield 37, 3) := by decide +kernel
theorem dX3_pass_115 : decode cX3_pass 115 = .ok (.iconst 1, 1) := by decide +kernel
theorem dX3_pass_116 : decode cX3_pass 116 = .ok (.iadd, 1) := by decide +kernel
theorem dX3_pass_117 : decode cX3_pass 117 = .ok (.putfield 37, 3) := by decide +kernel
theorem dX3_pass_120 : decode cX3_pass 120 = .ok (.iload_n 3, 1) := by decide +kernel
theorem dX3_pass_121 : decode cX3_pass 121 = .ok (.ireturn, 1) := by decide +kernel
theorem dX3_growth_0 : decode cX3_growth 0 = .ok (.aload_n 0, 1) := by decide +kernel
theorem dX3_growth_1 : decode cX3_growth 1 = .ok (.getfield 18, 3) := by decide +kernel
theorem dX3_growth_4 : decode cX3_growth 4 = .ok (.iload_n 2, 1) := by decide +kernel
theorem dX3_growth_5 : decode cX3_growth 5 = .ok (.invokestatic 53, 3) := by decide +kernel
theorem dX3_growth_8 : decode cX3_growth 8 = .ok (.istore 4, 2) := by decide +kernel
theorem dX3_growth_10 : decode cX3_growth 10 = .ok (.iload 4, 2) := by decide +kernel
theorem dX3_growth_12 : decode cX3_growth 12 = .ok (.ifCond .eq 11, 3) := by decide +kernel
theorem dX3_growth_15 : decode cX3_growth 15 = .ok (.aload_n 0, 1) := by decide +kernel
theorem dX3_growth_16 : decode cX3_growth 16 = .ok (.iload_n 2, 1) := by decide +kernel
theorem dX3_growth_17 : decode cX3_growth 17 = .ok (.invokevirtual 65, 3) := by decide +kernel
theorem dX3_growth_20 : decode cX3_growth 20 = .ok (.ifCond .eq 5, 3) := by decide +kernel
theorem dX3_growth_23 : decode cX3_growth 23 = .ok (.iconst 0, 1) := by decide +kernel
theorem dX3_growth_24 : decode cX3_growth 24 = .ok (.ireturn, 1) := by decide +kernel
theorem dX3_growth_25 : decode cX3_growth 25 = .ok (.aload_n 0, 1) := by decide +kernel
theorem dX3_growth_26 : decode cX3_growth 26 = .ok (.getfield 9, 3) := by decide +kernel
theorem dX3_growth_29 : decode cX3_growth 29 = .ok (.iload_n 2, 1) := by decide +kernel
theorem dX3_growth_30 : decode cX3_growth 30 = .ok (.invokestatic 53, 3) := by decide +kernel
theorem dX3_growth_33 : decode cX3_growth 33 = .ok (.istore 5, 2) := by decide +kernel
theorem dX3_growth_35 : decode cX3_growth 35 = .ok (.iconst 0, 1) := by decide +kernel
theorem dX3_growth_36 : decode cX3_growth 36 = .ok (.aload_n 0, 1) := by decide +kernel
theorem dX3_growth_37 : decode cX3_growth 37 = .ok (.getfield 15, 3) := by decide +kernel
theorem dX3_growth_40 : decode cX3_growth 40 = .ok (.iload_n 2, 1) := by decide +kernel
theorem dX3_growth_41 : decode cX3_growth 41 = .ok (.invokestatic 53, 3) := by decide +kernel
theorem dX3_growth_44 : decode cX3_growth 44 = .ok (.iload_n 3, 1) := by decide +kernel
theorem dX3_growth_45 : decode cX3_growth 45 = .ok (.isub, 1) := by decide +kernel
theorem dX3_growth_46 : decode cX3_growth 46 = .ok (.invokestatic 69, 3) := by decide +kernel
theorem dX3_growth_49 : decode cX3_growth 49 = .ok (.istore 6, 2) := by decide +kernel
theorem dX3_growth_51 : decode cX3_growth 51 = .ok (.iconst 0, 1) := by decide +kernel
theorem dX3_growth_52 : decode cX3_growth 52 = .ok (.bipush 9, 2) := by decide +kernel
theorem dX3_growth_54 : decode cX3_growth 54 = .ok (.aload_n 1, 1) := by decide +kernel
theorem dX3_growth_55 : decode cX3_growth 55 = .ok (.getfield 75, 3) := by decide +kernel
theorem dX3_growth_58 : decode cX3_growth 58 = .ok (.iload 6, 2) := by decide +kernel
theorem dX3_growth_60 : decode cX3_growth 60 = .ok (.iload 5, 2) := by decide +kernel
theorem dX3_growth_62 : decode cX3_growth 62 = .ok (.iload 4, 2) := by decide +kernel
theorem dX3_growth_64 : decode cX3_growth 64 = .ok (.aload_n 0, 1) := by decide +kernel
theorem dX3_growth_65 : decode cX3_growth 65 = .ok (.getfield 37, 3) := by decide +kernel
theorem dX3_growth_68 : decode cX3_growth 68 = .ok (.invokevirtual 79, 3) := by decide +kernel
theorem dX3_growth_71 : decode cX3_growth 71 = .ok (.invokestatic 85, 3) := by decide +kernel
theorem dX3_growth_74 : decode cX3_growth 74 = .ok (.invokestatic 69, 3) := by decide +kernel
theorem dX3_growth_77 : decode cX3_growth 77 = .ok (.istore 7, 2) := by decide +kernel
theorem dX3_growth_79 : decode cX3_growth 79 = .ok (.aload_n 1, 1) := by decide +kernel
theorem dX3_growth_80 : decode cX3_growth 80 = .ok (.getfield 88, 3) := by decide +kernel
theorem dX3_growth_83 : decode cX3_growth 83 = .ok (.iload_n 2, 1) := by decide +kernel
theorem dX3_growth_84 : decode cX3_growth 84 = .ok (.invokestatic 53, 3) := by decide +kernel
theorem dX3_growth_87 : decode cX3_growth 87 = .ok (.istore 8, 2) := by decide +kernel
theorem dX3_growth_89 : decode cX3_growth 89 = .ok (.iload 8, 2) := by decide +kernel
theorem dX3_growth_91 : decode cX3_growth 91 = .ok (.iconst 1, 1) := by decide +kernel
theorem dX3_growth_92 : decode cX3_growth 92 = .ok (.if_icmp .ne 16, 3) := by decide +kernel
theorem dX3_growth_95 : decode cX3_growth 95 = .ok (.iload 5, 2) := by decide +kernel
theorem dX3_growth_97 : decode cX3_growth 97 = .ok (.bipush 10, 2) := by decide +kernel
theorem dX3_growth_99 : decode cX3_growth 99 = .ok (.if_icmp .ge 9, 3) := by decide +kernel
theorem dX3_growth_102 : decode cX3_growth 102 = .ok (.iinc 7 1, 3) := by decide +kernel
theorem dX3_growth_105 : decode cX3_growth 105 = .ok (.goto 51, 3) := by decide +kernel
theorem dX3_growth_108 : decode cX3_growth 108 = .ok (.iload 8, 2) := by decide +kernel
theorem dX3_growth_110 : decode cX3_growth 110 = .ok (.iconst 2, 1) := by decide +kernel
theorem dX3_growth_111 : decode cX3_growth 111 = .ok (.if_icmp .ne 28, 3) := by decide +kernel
theorem dX3_growth_114 : decode cX3_growth 114 = .ok (.aload_n 1, 1) := by decide +kernel
theorem dX3_growth_115 : decode cX3_growth 115 = .ok (.getfield 91, 3) := by decide +kernel
theorem dX3_growth_118 : decode cX3_growth 118 = .ok (.iload_n 2, 1) := by decide +kernel
theorem dX3_growth_119 : decode cX3_growth 119 = .ok (.invokestatic 53, 3) := by decide +kernel
theorem dX3_growth_122 : decode cX3_growth 122 = .ok (.aload_n 0, 1) := by decide +kernel
theorem dX3_growth_123 : decode cX3_growth 123 = .ok (.getfield 40, 3) := by decide +kernel
theorem dX3_growth_126 : decode cX3_growth 126 = .ok (.iand, 1) := by decide +kernel
theorem dX3_growth_127 : decode cX3_growth 127 = .ok (.ifCond .eq 12, 3) := by decide +kernel
theorem dX3_growth_130 : decode cX3_growth 130 = .ok (.iload 7, 2) := by decide +kernel
theorem dX3_growth_132 : decode cX3_growth 132 = .ok (.iconst 2, 1) := by decide +kernel
theorem dX3_growth_133 : decode cX3_growth 133 = .ok (.idiv, 1) := by decide +kernel
theorem dX3_growth_134 : decode cX3_growth 134 = .ok (.istore 7, 2) := by decide +kernel
theorem dX3_growth_136 : decode cX3_growth 136 = .ok (.goto 20, 3) := by decide +kernel
theorem dX3_growth_139 : decode cX3_growth 139 = .ok (.iload 8, 2) := by decide +kernel
theorem dX3_growth_141 : decode cX3_growth 141 = .ok (.iconst 3, 1) := by decide +kernel
theorem dX3_growth_142 : decode cX3_growth 142 = .ok (.if_icmp .ne 14, 3) := by decide +kernel
theorem dX3_growth_145 : decode cX3_growth 145 = .ok (.iload 7, 2) := by decide +kernel
theorem dX3_growth_147 : decode cX3_growth 147 = .ok (.aload_n 0, 1) := by decide +kernel
theorem dX3_growth_148 : decode cX3_growth 148 = .ok (.aload_n 1, 1) := by decide +kernel
theorem dX3_growth_149 : decode cX3_growth 149 = .ok (.iload_n 2, 1) := by decide +kernel
theorem dX3_growth_150 : decode cX3_growth 150 = .ok (.invokevirtual 94, 3) := by decide +kernel
theorem dX3_growth_153 : decode cX3_growth 153 = .ok (.iadd, 1) := by decide +kernel
theorem dX3_growth_154 : decode cX3_growth 154 = .ok (.istore 7, 2) := by decide +kernel
theorem dX3_growth_156 : decode cX3_growth 156 = .ok (.iload 7, 2) := by decide +kernel
theorem dX3_growth_158 : decode cX3_growth 158 = .ok (.aload_n 1, 1) := by decide +kernel
theorem dX3_growth_159 : decode cX3_growth 159 = .ok (.getfield 98, 3) := by decide +kernel
theorem dX3_growth_162 : decode cX3_growth 162 = .ok (.iload 5, 2) := by decide +kernel
theorem dX3_growth_164 : decode cX3_growth 164 = .ok (.isub, 1) := by decide +kernel
theorem dX3_growth_165 : decode cX3_growth 165 = .ok (.invokestatic 85, 3) := by decide +kernel
theorem dX3_growth_168 : decode cX3_growth 168 = .ok (.ireturn, 1) := by decide +kernel
theorem dX3_greaterNear_0 : decode cX3_greaterNear 0 = .ok (.iconst 0, 1) := by decide +kernel
theorem dX3_greaterNear_1 : decode cX3_greaterNear 1 = .ok (.istore_n 3, 1) := by decide +kernel
theorem dX3_greaterNear_2 : decode cX3_greaterNear 2 = .ok (.aload_n 1, 1) := by decide +kernel
theorem dX3_greaterNear_3 : decode cX3_greaterNear 3 = .ok (.getfield 91, 3) := by decide +kernel
theorem dX3_greaterNear_6 : decode cX3_greaterNear 6 = .ok (.iload_n 2, 1) := by decide +kernel
theorem dX3_greaterNear_7 : decode cX3_greaterNear 7 = .ok (.invokestatic 53, 3) := by decide +kernel
theorem dX3_greaterNear_10 : decode cX3_greaterNear 10 = .ok (.istore 4, 2) := by decide +kernel
theorem dX3_greaterNear_12 : decode cX3_greaterNear 12 = .ok (.iconst 0, 1) := by decide +kernel
theorem dX3_greaterNear_13 : decode cX3_greaterNear 13 = .ok (.istore 5, 2) := by decide +kernel
theorem dX3_greaterNear_15 : decode cX3_greaterNear 15 = .ok (.iload 5, 2) := by decide +kernel
theorem dX3_greaterNear_17 : decode cX3_greaterNear 17 = .ok (.aload_n 0, 1) := by decide +kernel
theorem dX3_greaterNear_18 : decode cX3_greaterNear 18 = .ok (.getfield 36, 3) := by decide +kernel
theorem dX3_greaterNear_21 : decode cX3_greaterNear 21 = .ok (.if_icmp .ge 43, 3) := by decide +kernel
theorem dX3_greaterNear_24 : decode cX3_greaterNear 24 = .ok (.iload 4, 2) := by decide +kernel
theorem dX3_greaterNear_26 : decode cX3_greaterNear 26 = .ok (.iload 5, 2) := by decide +kernel
theorem dX3_greaterNear_28 : decode cX3_greaterNear 28 = .ok (.ishr, 1) := by decide +kernel
theorem dX3_greaterNear_29 : decode cX3_greaterNear 29 = .ok (.iconst 1, 1) := by decide +kernel
theorem dX3_greaterNear_30 : decode cX3_greaterNear 30 = .ok (.iand, 1) := by decide +kernel
theorem dX3_greaterNear_31 : decode cX3_greaterNear 31 = .ok (.iconst 1, 1) := by decide +kernel
theorem dX3_greaterNear_32 : decode cX3_greaterNear 32 = .ok (.if_icmp .ne 26, 3) := by decide +kernel
theorem dX3_greaterNear_35 : decode cX3_greaterNear 35 = .ok (.aload_n 0, 1) := by decide +kernel
theorem dX3_greaterNear_36 : decode cX3_greaterNear 36 = .ok (.getfield 18, 3) := by decide +kernel
theorem dX3_greaterNear_39 : decode cX3_greaterNear 39 = .ok (.iload 5, 2) := by decide +kernel
theorem dX3_greaterNear_41 : decode cX3_greaterNear 41 = .ok (.invokestatic 53, 3) := by decide +kernel
theorem dX3_greaterNear_44 : decode cX3_greaterNear 44 = .ok (.aload_n 0, 1) := by decide +kernel
theorem dX3_greaterNear_45 : decode cX3_greaterNear 45 = .ok (.getfield 18, 3) := by decide +kernel
theorem dX3_greaterNear_48 : decode cX3_greaterNear 48 = .ok (.iload_n 2, 1) := by decide +kernel
theorem dX3_greaterNear_49 : decode cX3_greaterNear 49 = .ok (.invokestatic 53, 3) := by decide +kernel
theorem dX3_greaterNear_52 : decode cX3_greaterNear 52 = .ok (.if_icmp .le 6, 3) := by decide +kernel
theorem dX3_greaterNear_55 : decode cX3_greaterNear 55 = .ok (.iinc 3 1, 3) := by decide +kernel
theorem dX3_greaterNear_58 : decode cX3_greaterNear 58 = .ok (.iinc 5 1, 3) := by decide +kernel
theorem dX3_greaterNear_61 : decode cX3_greaterNear 61 = .ok (.goto (-46), 3) := by decide +kernel
theorem dX3_greaterNear_64 : decode cX3_greaterNear 64 = .ok (.iload_n 3, 1) := by decide +kernel
theorem dX3_greaterNear_65 : decode cX3_greaterNear 65 = .ok (.ireturn, 1) := by decide +kernel
theorem dX3_passOnHearsay_0 : decode cX3_passOnHearsay 0 = .ok (.aload_n 0, 1) := by decide +kernel
theorem dX3_passOnHearsay_1 : decode cX3_passOnHearsay 1 = .ok (.getfield 21, 3) := by decide +kernel
theorem dX3_passOnHearsay_4 : decode cX3_passOnHearsay 4 = .ok (.aload_n 0, 1) := by decide +kernel
theorem dX3_passOnHearsay_5 : decode cX3_passOnHearsay 5 = .ok (.getfield 24, 3) := by decide +kernel
theorem dX3_passOnHearsay_8 : decode cX3_passOnHearsay 8 = .ok (.invokestatic 44, 3) := by decide +kernel
theorem dX3_passOnHearsay_11 : decode cX3_passOnHearsay 11 = .ok (.iconst 0, 1) := by decide +kernel
theorem dX3_passOnHearsay_12 : decode cX3_passOnHearsay 12 = .ok (.istore_n 2, 1) := by decide +kernel
theorem dX3_passOnHearsay_13 : decode cX3_passOnHearsay 13 = .ok (.iload_n 2, 1) := by decide +kernel
theorem dX3_passOnHearsay_14 : decode cX3_passOnHearsay 14 = .ok (.aload_n 0, 1) := by decide +kernel
theorem dX3_passOnHearsay_15 : decode cX3_passOnHearsay 15 = .ok (.getfield 36, 3) := by decide +kernel
theorem dX3_passOnHearsay_18 : decode cX3_passOnHearsay 18 = .ok (.if_icmp .ge 70, 3) := by decide +kernel
theorem dX3_passOnHearsay_21 : decode cX3_passOnHearsay 21 = .ok (.iconst 0, 1) := by decide +kernel
theorem dX3_passOnHearsay_22 : decode cX3_passOnHearsay 22 = .ok (.istore_n 3, 1) := by decide +kernel
theorem dX3_passOnHearsay_23 : decode cX3_passOnHearsay 23 = .ok (.iload_n 3, 1) := by decide +kernel
theorem dX3_passOnHearsay_24 : decode cX3_passOnHearsay 24 = .ok (.aload_n 0, 1) := by decide +kernel
theorem dX3_passOnHearsay_25 : decode cX3_passOnHearsay 25 = .ok (.getfield 36, 3) := by decide +kernel
theorem dX3_passOnHearsay_28 : decode cX3_passOnHearsay 28 = .ok (.if_icmp .ge 54, 3) := by decide +kernel
theorem dX3_passOnHearsay_31 : decode cX3_passOnHearsay 31 = .ok (.aload_n 0, 1) := by decide +kernel
theorem dX3_passOnHearsay_32 : decode cX3_passOnHearsay 32 = .ok (.getfield 27, 3) := by decide +kernel
theorem dX3_passOnHearsay_35 : decode cX3_passOnHearsay 35 = .ok (.iload_n 2, 1) := by decide +kernel
theorem dX3_passOnHearsay_36 : decode cX3_passOnHearsay 36 = .ok (.invokestatic 53, 3) := by decide +kernel
theorem dX3_passOnHearsay_39 : decode cX3_passOnHearsay 39 = .ok (.ifCond .le 37, 3) := by decide +kernel
theorem dX3_passOnHearsay_42 : decode cX3_passOnHearsay 42 = .ok (.aload_n 1, 1) := by decide +kernel
theorem dX3_passOnHearsay_43 : decode cX3_passOnHearsay 43 = .ok (.iload_n 2, 1) := by decide +kernel
theorem dX3_passOnHearsay_44 : decode cX3_passOnHearsay 44 = .ok (.iload_n 3, 1) := by decide +kernel
theorem dX3_passOnHearsay_45 : decode cX3_passOnHearsay 45 = .ok (.invokevirtual 101, 3) := by decide +kernel
theorem dX3_passOnHearsay_48 : decode cX3_passOnHearsay 48 = .ok (.ifCond .eq 28, 3) := by decide +kernel
theorem dX3_passOnHearsay_51 : decode cX3_passOnHearsay 51 = .ok (.aload_n 0, 1) := by decide +kernel
theorem dX3_passOnHearsay_52 : decode cX3_passOnHearsay 52 = .ok (.getfield 21, 3) := by decide +kernel
theorem dX3_passOnHearsay_55 : decode cX3_passOnHearsay 55 = .ok (.iload_n 3, 1) := by decide +kernel
theorem dX3_passOnHearsay_56 : decode cX3_passOnHearsay 56 = .ok (.aload_n 0, 1) := by decide +kernel
theorem dX3_passOnHearsay_57 : decode cX3_passOnHearsay 57 = .ok (.getfield 21, 3) := by decide +kernel
theorem dX3_passOnHearsay_60 : decode cX3_passOnHearsay 60 = .ok (.iload_n 3, 1) := by decide +kernel
theorem dX3_passOnHearsay_61 : decode cX3_passOnHearsay 61 = .ok (.invokestatic 53, 3) := by decide +kernel
theorem dX3_passOnHearsay_64 : decode cX3_passOnHearsay 64 = .ok (.aload_n 0, 1) := by decide +kernel
theorem dX3_passOnHearsay_65 : decode cX3_passOnHearsay 65 = .ok (.getfield 24, 3) := by decide +kernel
theorem dX3_passOnHearsay_68 : decode cX3_passOnHearsay 68 = .ok (.iload_n 2, 1) := by decide +kernel
theorem dX3_passOnHearsay_69 : decode cX3_passOnHearsay 69 = .ok (.invokestatic 53, 3) := by decide +kernel
theorem dX3_passOnHearsay_72 : decode cX3_passOnHearsay 72 = .ok (.ior, 1) := by decide +kernel
theorem dX3_passOnHearsay_73 : decode cX3_passOnHearsay 73 = .ok (.invokestatic 49, 3) := by decide +kernel
theorem dX3_passOnHearsay_76 : decode cX3_passOnHearsay 76 = .ok (.iinc 3 1, 3) := by decide +kernel
theorem dX3_passOnHearsay_79 : decode cX3_passOnHearsay 79 = .ok (.goto (-56), 3) := by decide +kernel
theorem dX3_passOnHearsay_82 : decode cX3_passOnHearsay 82 = .ok (.iinc 2 1, 3) := by decide +kernel
theorem dX3_passOnHearsay_85 : decode cX3_passOnHearsay 85 = .ok (.goto (-72), 3) := by decide +kernel
theorem dX3_passOnHearsay_88 : decode cX3_passOnHearsay 88 = .ok (.return_, 1) := by decide +kernel
theorem dX3_isLit_0 : decode cX3_isLit 0 = .ok (.aload_n 0, 1) := by decide +kernel
theorem dX3_isLit_1 : decode cX3_isLit 1 = .ok (.getfield 40, 3) := by decide +kernel
theorem dX3_isLit_4 : decode cX3_isLit 4 = .ok (.iload_n 1, 1) := by decide +kernel
theorem dX3_isLit_5 : decode cX3_isLit 5 = .ok (.ishr, 1) := by decide +kernel
theorem dX3_isLit_6 : decode cX3_isLit 6 = .ok (.iconst 1, 1) := by decide +kernel
theorem dX3_isLit_7 : decode cX3_isLit 7 = .ok (.iand, 1) := by decide +kernel
theorem dX3_isLit_8 : decode cX3_isLit 8 = .ok (.iconst 1, 1) := by decide +kernel
theorem dX3_isLit_9 : decode cX3_isLit 9 = .ok (.if_icmp .ne 7, 3) := by decide +kernel
theorem dX3_isLit_12 : decode cX3_isLit 12 = .ok (.iconst 1, 1) := by decide +kernel
theorem dX3_isLit_13 : decode cX3_isLit 13 = .ok (.goto 4, 3) := by decide +kernel
theorem dX3_isLit_16 : decode cX3_isLit 16 = .ok (.iconst 0, 1) := by decide +kernel
theorem dX3_isLit_17 : decode cX3_isLit 17 = .ok (.ireturn, 1) := by decide +kernel
theorem dX3_lightUp_0 : decode cX3_lightUp 0 = .ok (.aload_n 0, 1) := by decide +kernel
theorem dX3_lightUp_1 : decode cX3_lightUp 1 = .ok (.iload_n 1, 1) := by decide +kernel
theorem dX3_lightUp_2 : decode cX3_lightUp 2 = .ok (.invokevirtual 65, 3) := by decide +kernel
theorem dX3_lightUp_5 : decode cX3_lightUp 5 = .ok (.ifCond .ne 7, 3) := by decide +kernel
theorem dX3_lightUp_8 : decode cX3_lightUp 8 = .ok (.iconst 1, 1) := by decide +kernel
theorem dX3_lightUp_9 : decode cX3_lightUp 9 = .ok (.goto 4, 3) := by decide +kernel
theorem dX3_lightUp_12 : decode cX3_lightUp 12 = .ok (.iconst 0, 1) := by decide +kernel
theorem dX3_lightUp_13 : decode cX3_lightUp 13 = .ok (.istore_n 2, 1) := by decide +kernel
theorem dX3_lightUp_14 : decode cX3_lightUp 14 = .ok (.aload_n 0, 1) := by decide +kernel
theorem dX3_lightUp_15 : decode cX3_lightUp 15 = .ok (.dup, 1) := by decide +kernel
theorem dX3_lightUp_16 : decode cX3_lightUp 16 = .ok (.getfield 40, 3) := by decide +kernel
theorem dX3_lightUp_19 : decode cX3_lightUp 19 = .ok (.iconst 1, 1) := by decide +kernel
theorem dX3_lightUp_20 : decode cX3_lightUp 20 = .ok (.iload_n 1, 1) := by decide +kernel
theorem dX3_lightUp_21 : decode cX3_lightUp 21 = .ok (.ishl, 1) := by decide +kernel
theorem dX3_lightUp_22 : decode cX3_lightUp 22 = .ok (.ior, 1) := by decide +kernel
theorem dX3_lightUp_23 : decode cX3_lightUp 23 = .ok (.putfield 40, 3) := by decide +kernel
theorem dX3_lightUp_26 : decode cX3_lightUp 26 = .ok (.iload_n 2, 1) := by decide +kernel
theorem dX3_lightUp_27 : decode cX3_lightUp 27 = .ok (.ireturn, 1) := by decide +kernel
theorem dX3_heatTo_0 : decode cX3_heatTo 0 = .ok (.aload_n 0, 1) := by decide +kernel
theorem dX3_heatTo_1 : decode cX3_heatTo 1 = .ok (.getfield 15, 3) := by decide +kernel
theorem dX3_heatTo_4 : decode cX3_heatTo 4 = .ok (.iload_n 1, 1) := by decide +kernel
theorem dX3_heatTo_5 : decode cX3_heatTo 5 = .ok (.iload_n 2, 1) := by decide +kernel
theorem dX3_heatTo_6 : decode cX3_heatTo 6 = .ok (.invokestatic 49, 3) := by decide +kernel
theorem dX3_heatTo_9 : decode cX3_heatTo 9 = .ok (.return_, 1) := by decide +kernel
theorem dX3_canLose_0 : decode cX3_canLose 0 = .ok (.aload_n 0, 1) := by decide +kernel
theorem dX3_canLose_1 : decode cX3_canLose 1 = .ok (.getfield 18, 3) := by decide +kernel
theorem dX3_canLose_4 : decode cX3_canLose 4 = .ok (.iload_n 1, 1) := by decide +kernel
theorem dX3_canLose_5 : decode cX3_canLose 5 = .ok (.invokestatic 53, 3) := by decide +kernel
theorem dX3_canLose_8 : decode cX3_canLose 8 = .ok (.iload_n 2, 1) := by decide +kernel
theorem dX3_canLose_9 : decode cX3_canLose 9 = .ok (.if_icmp .lt 20, 3) := by decide +kernel
theorem dX3_canLose_12 : decode cX3_canLose 12 = .ok (.aload_n 0, 1) := by decide +kernel
theorem dX3_canLose_13 : decode cX3_canLose 13 = .ok (.getfield 9, 3) := by decide +kernel
theorem dX3_canLose_16 : decode cX3_canLose 16 = .ok (.iload_n 1, 1) := by decide +kernel
theorem dX3_canLose_17 : decode cX3_canLose 17 = .ok (.invokestatic 53, 3) := by decide +kernel
theorem dX3_canLose_20 : decode cX3_canLose 20 = .ok (.bipush 10, 2) := by decide +kernel
theorem dX3_canLose_22 : decode cX3_canLose 22 = .ok (.if_icmp .lt 7, 3) := by decide +kernel
theorem dX3_canLose_25 : decode cX3_canLose 25 = .ok (.iconst 1, 1) := by decide +kernel
theorem dX3_canLose_26 : decode cX3_canLose 26 = .ok (.goto 4, 3) := by decide +kernel
theorem dX3_canLose_29 : decode cX3_canLose 29 = .ok (.iconst 0, 1) := by decide +kernel
theorem dX3_canLose_30 : decode cX3_canLose 30 = .ok (.ireturn, 1) := by decide +kernel
theorem dX3_lose_0 : decode cX3_lose 0 = .ok (.aload_n 0, 1) := by decide +kernel
theorem dX3_lose_1 : decode cX3_lose 1 = .ok (.getfield 18, 3) := by decide +kernel
theorem dX3_lose_4 : decode cX3_lose 4 = .ok (.iload_n 1, 1) := by decide +kernel
theorem dX3_lose_5 : decode cX3_lose 5 = .ok (.aload_n 0, 1) := by decide +kernel
theorem dX3_lose_6 : decode cX3_lose 6 = .ok (.getfield 18, 3) := by decide +kernel
theorem dX3_lose_9 : decode cX3_lose 9 = .ok (.iload_n 1, 1) := by decide +kernel
theorem dX3_lose_10 : decode cX3_lose 10 = .ok (.invokestatic 53, 3) := by decide +kernel
theorem dX3_lose_13 : decode cX3_lose 13 = .ok (.iload_n 2, 1) := by decide +kernel
theorem dX3_lose_14 : decode cX3_lose 14 = .ok (.isub, 1) := by decide +kernel
theorem dX3_lose_15 : decode cX3_lose 15 = .ok (.invokestatic 49, 3) := by decide +kernel
theorem dX3_lose_18 : decode cX3_lose 18 = .ok (.aload_n 0, 1) := by decide +kernel
theorem dX3_lose_19 : decode cX3_lose 19 = .ok (.getfield 18, 3) := by decide +kernel
theorem dX3_lose_22 : decode cX3_lose 22 = .ok (.iload_n 1, 1) := by decide +kernel
theorem dX3_lose_23 : decode cX3_lose 23 = .ok (.invokestatic 53, 3) := by decide +kernel
theorem dX3_lose_26 : decode cX3_lose 26 = .ok (.ifCond .ne 12, 3) := by decide +kernel
theorem dX3_lose_29 : decode cX3_lose 29 = .ok (.aload_n 0, 1) := by decide +kernel
theorem dX3_lose_30 : decode cX3_lose 30 = .ok (.getfield 9, 3) := by decide +kernel
theorem dX3_lose_33 : decode cX3_lose 33 = .ok (.iload_n 1, 1) := by decide +kernel
theorem dX3_lose_34 : decode cX3_lose 34 = .ok (.iconst 0, 1) := by decide +kernel
theorem dX3_lose_35 : decode cX3_lose 35 = .ok (.invokestatic 49, 3) := by decide +kernel
theorem dX3_lose_38 : decode cX3_lose 38 = .ok (.return_, 1) := by decide +kernel
theorem dX3_murmurOf_0 : decode cX3_murmurOf 0 = .ok (.sipush 999, 3) := by decide +kernel
theorem dX3_murmurOf_3 : decode cX3_murmurOf 3 = .ok (.iload_n 0, 1) := by decide +kernel
theorem dX3_murmurOf_4 : decode cX3_murmurOf 4 = .ok (.iload_n 1, 1) := by decide +kernel
theorem dX3_murmurOf_5 : decode cX3_murmurOf 5 = .ok (.imul, 1) := by decide +kernel
theorem dX3_murmurOf_6 : decode cX3_murmurOf 6 = .ok (.bipush 10, 2) := by decide +kernel
theorem dX3_murmurOf_8 : decode cX3_murmurOf 8 = .ok (.idiv, 1) := by decide +kernel
theorem dX3_murmurOf_9 : decode cX3_murmurOf 9 = .ok (.invokestatic 85, 3) := by decide +kernel
theorem dX3_murmurOf_12 : decode cX3_murmurOf 12 = .ok (.ireturn, 1) := by decide +kernel
theorem dX3_murmur_0 : decode cX3_murmur 0 = .ok (.aload_n 0, 1) := by decide +kernel
theorem dX3_murmur_1 : decode cX3_murmur 1 = .ok (.getfield 9, 3) := by decide +kernel
theorem dX3_murmur_4 : decode cX3_murmur 4 = .ok (.iload_n 1, 1) := by decide +kernel
theorem dX3_murmur_5 : decode cX3_murmur 5 = .ok (.invokestatic 53, 3) := by decide +kernel
theorem dX3_murmur_8 : decode cX3_murmur 8 = .ok (.aload_n 0, 1) := by decide +kernel
theorem dX3_murmur_9 : decode cX3_murmur 9 = .ok (.getfield 18, 3) := by decide +kernel
theorem dX3_murmur_12 : decode cX3_murmur 12 = .ok (.iload_n 1, 1) := by decide +kernel
theorem dX3_murmur_13 : decode cX3_murmur 13 = .ok (.invokestatic 53, 3) := by decide +kernel
theorem dX3_murmur_16 : decode cX3_murmur 16 = .ok (.invokestatic 105, 3) := by decide +kernel
theorem dX3_murmur_19 : decode cX3_murmur 19 = .ok (.ireturn, 1) := by decide +kernel
theorem dX3_murmursOfAll_0 : decode cX3_murmursOfAll 0 = .ok (.iconst 0, 1) := by decide +kernel
theorem dX3_murmursOfAll_1 : decode cX3_murmursOfAll 1 = .ok (.istore_n 1, 1) := by decide +kernel
theorem dX3_murmursOfAll_2 : decode cX3_murmursOfAll 2 = .ok (.iconst 0, 1) := by decide +kernel
theorem dX3_murmursOfAll_3 : decode cX3_murmursOfAll 3 = .ok (.istore_n 2, 1) := by decide +kernel
theorem dX3_murmursOfAll_4 : decode cX3_murmursOfAll 4 = .ok (.iload_n 2, 1) := by decide +kernel
theorem dX3_murmursOfAll_5 : decode cX3_murmursOfAll 5 = .ok (.aload_n 0, 1) := by decide +kernel
theorem dX3_murmursOfAll_6 : decode cX3_murmursOfAll 6 = .ok (.getfield 36, 3) := by decide +kernel
theorem dX3_murmursOfAll_9 : decode cX3_murmursOfAll 9 = .ok (.if_icmp .ge 17, 3) := by decide +kernel
theorem dX3_murmursOfAll_12 : decode cX3_murmursOfAll 12 = .ok (.iload_n 1, 1) := by decide +kernel
theorem dX3_murmursOfAll_13 : decode cX3_murmursOfAll 13 = .ok (.aload_n 0, 1) := by decide +kernel
theorem dX3_murmursOfAll_14 : decode cX3_murmursOfAll 14 = .ok (.iload_n 2, 1) := by decide +kernel
theorem dX3_murmursOfAll_15 : decode cX3_murmursOfAll 15 = .ok (.invokevirtual 108, 3) := by decide +kernel
theorem dX3_murmursOfAll_18 : decode cX3_murmursOfAll 18 = .ok (.iadd, 1) := by decide +kernel
theorem dX3_murmursOfAll_19 : decode cX3_murmursOfAll 19 = .ok (.istore_n 1, 1) := by decide +kernel
theorem dX3_murmursOfAll_20 : decode cX3_murmursOfAll 20 = .ok (.iinc 2 1, 3) := by decide +kernel
theorem dX3_murmursOfAll_23 : decode cX3_murmursOfAll 23 = .ok (.goto (-19), 3) := by decide +kernel
theorem dX3_murmursOfAll_26 : decode cX3_murmursOfAll 26 = .ok (.iload_n 1, 1) := by decide +kernel
theorem dX3_murmursOfAll_27 : decode cX3_murmursOfAll 27 = .ok (.ireturn, 1) := by decide +kernel
theorem dX3_crownsOfAll_0 : decode cX3_crownsOfAll 0 = .ok (.iconst 0, 1) := by decide +kernel
theorem dX3_crownsOfAll_1 : decode cX3_crownsOfAll 1 = .ok (.istore_n 1, 1) := by decide +kernel
theorem dX3_crownsOfAll_2 : decode cX3_crownsOfAll 2 = .ok (.iconst 0, 1) := by decide +kernel
theorem dX3_crownsOfAll_3 : decode cX3_crownsOfAll 3 = .ok (.istore_n 2, 1) := by decide +kernel
theorem dX3_crownsOfAll_4 : decode cX3_crownsOfAll 4 = .ok (.iload_n 2, 1) := by decide +kernel
theorem dX3_crownsOfAll_5 : decode cX3_crownsOfAll 5 = .ok (.aload_n 0, 1) := by decide +kernel
theorem dX3_crownsOfAll_6 : decode cX3_crownsOfAll 6 = .ok (.getfield 36, 3) := by decide +kernel
theorem dX3_crownsOfAll_9 : decode cX3_crownsOfAll 9 = .ok (.if_icmp .ge 20, 3) := by decide +kernel
theorem dX3_crownsOfAll_12 : decode cX3_crownsOfAll 12 = .ok (.iload_n 1, 1) := by decide +kernel
theorem dX3_crownsOfAll_13 : decode cX3_crownsOfAll 13 = .ok (.aload_n 0, 1) := by decide +kernel
theorem dX3_crownsOfAll_14 : decode cX3_crownsOfAll 14 = .ok (.getfield 18, 3) := by decide +kernel
theorem dX3_crownsOfAll_17 : decode cX3_crownsOfAll 17 = .ok (.iload_n 2, 1) := by decide +kernel
theorem dX3_crownsOfAll_18 : decode cX3_crownsOfAll 18 = .ok (.invokestatic 53, 3) := by decide +kernel
theorem dX3_crownsOfAll_21 : decode cX3_crownsOfAll 21 = .ok (.iadd, 1) := by decide +kernel
theorem dX3_crownsOfAll_22 : decode cX3_crownsOfAll 22 = .ok (.istore_n 1, 1) := by decide +kernel
theorem dX3_crownsOfAll_23 : decode cX3_crownsOfAll 23 = .ok (.iinc 2 1, 3) := by decide +kernel
theorem dX3_crownsOfAll_26 : decode cX3_crownsOfAll 26 = .ok (.goto (-22), 3) := by decide +kernel
theorem dX3_crownsOfAll_29 : decode cX3_crownsOfAll 29 = .ok (.iload_n 1, 1) := by decide +kernel
theorem dX3_crownsOfAll_30 : decode cX3_crownsOfAll 30 = .ok (.ireturn, 1) := by decide +kernel
theorem dX3_allAtRoof_0 : decode cX3_allAtRoof 0 = .ok (.iconst 0, 1) := by decide +kernel
theorem dX3_allAtRoof_1 : decode cX3_allAtRoof 1 = .ok (.istore_n 2, 1) := by decide +kernel
theorem dX3_allAtRoof_2 : decode cX3_allAtRoof 2 = .ok (.iload_n 2, 1) := by decide +kernel
theorem dX3_allAtRoof_3 : decode cX3_allAtRoof 3 = .ok (.aload_n 0, 1) := by decide +kernel
theorem dX3_allAtRoof_4 : decode cX3_allAtRoof 4 = .ok (.getfield 36, 3) := by decide +kernel
theorem dX3_allAtRoof_7 : decode cX3_allAtRoof 7 = .ok (.if_icmp .ge 34, 3) := by decide +kernel
theorem dX3_allAtRoof_10 : decode cX3_allAtRoof 10 = .ok (.aload_n 0, 1) := by decide +kernel
theorem dX3_allAtRoof_11 : decode cX3_allAtRoof 11 = .ok (.getfield 18, 3) := by decide +kernel
theorem dX3_allAtRoof_14 : decode cX3_allAtRoof 14 = .ok (.iload_n 2, 1) := by decide +kernel
theorem dX3_allAtRoof_15 : decode cX3_allAtRoof 15 = .ok (.invokestatic 53, 3) := by decide +kernel
theorem dX3_allAtRoof_18 : decode cX3_allAtRoof 18 = .ok (.ifCond .le 17, 3) := by decide +kernel
theorem dX3_allAtRoof_21 : decode cX3_allAtRoof 21 = .ok (.aload_n 0, 1) := by decide +kernel
theorem dX3_allAtRoof_22 : decode cX3_allAtRoof 22 = .ok (.getfield 9, 3) := by decide +kernel
theorem dX3_allAtRoof_25 : decode cX3_allAtRoof 25 = .ok (.iload_n 2, 1) := by decide +kernel
theorem dX3_allAtRoof_26 : decode cX3_allAtRoof 26 = .ok (.invokestatic 53, 3) := by decide +kernel
theorem dX3_allAtRoof_29 : decode cX3_allAtRoof 29 = .ok (.iload_n 1, 1) := by decide +kernel
theorem dX3_allAtRoof_30 : decode cX3_allAtRoof 30 = .ok (.if_icmp .ge 5, 3) := by decide +kernel
theorem dX3_allAtRoof_33 : decode cX3_allAtRoof 33 = .ok (.iconst 0, 1) := by decide +kernel
theorem dX3_allAtRoof_34 : decode cX3_allAtRoof 34 = .ok (.ireturn, 1) := by decide +kernel
theorem dX3_allAtRoof_35 : decode cX3_allAtRoof 35 = .ok (.iinc 2 1, 3) := by decide +kernel
theorem dX3_allAtRoof_38 : decode cX3_allAtRoof 38 = .ok (.goto (-36), 3) := by decide +kernel
theorem dX3_allAtRoof_41 : decode cX3_allAtRoof 41 = .ok (.iconst 1, 1) := by decide +kernel
theorem dX3_allAtRoof_42 : decode cX3_allAtRoof 42 = .ok (.ireturn, 1) := by decide +kernel
theorem dX4_init_0 : decode cX4_init 0 = .ok (.aload_n 0, 1) := by decide +kernel
theorem dX4_init_1 : decode cX4_init 1 = .ok (.invokespecial 3, 3) := by decide +kernel
theorem dX4_init_4 : decode cX4_init 4 = .ok (.aload_n 0, 1) := by decide +kernel
theorem dX4_init_5 : decode cX4_init 5 = .ok (.sipush 1000, 3) := by decide +kernel
theorem dX4_init_8 : decode cX4_init 8 = .ok (.newarray .int, 2) := by decide +kernel
theorem dX4_init_10 : decode cX4_init 10 = .ok (.putfield 9, 3) := by decide +kernel
theorem dX4_init_13 : decode cX4_init 13 = .ok (.aload_n 0, 1) := by decide +kernel
theorem dX4_init_14 : decode cX4_init 14 = .ok (.getstatic 15, 3) := by decide +kernel
theorem dX4_init_17 : decode cX4_init 17 = .ok (.putfield 21, 3) := by decide +kernel
theorem dX4_init_20 : decode cX4_init 20 = .ok (.return_, 1) := by decide +kernel
theorem dX4_append_0 : decode cX4_append 0 = .ok (.iload_n 1, 1) := by decide +kernel
theorem dX4_append_1 : decode cX4_append 1 = .ok (.bipush 10, 2) := by decide +kernel
theorem dX4_append_3 : decode cX4_append 3 = .ok (.if_icmp .eq 14, 3) := by decide +kernel
theorem dX4_append_6 : decode cX4_append 6 = .ok (.iload_n 1, 1) := by decide +kernel
theorem dX4_append_7 : decode cX4_append 7 = .ok (.bipush 32, 2) := by decide +kernel
theorem dX4_append_9 : decode cX4_append 9 = .ok (.bipush 126, 2) := by decide +kernel
theorem dX4_append_11 : decode cX4_append 11 = .ok (.invokestatic 24, 3) := by decide +kernel
theorem dX4_append_14 : decode cX4_append 14 = .ok (.ifCond .eq 7, 3) := by decide +kernel
theorem dX4_append_17 : decode cX4_append 17 = .ok (.iconst 1, 1) := by decide +kernel
theorem dX4_append_18 : decode cX4_append 18 = .ok (.goto 4, 3) := by decide +kernel
theorem dX4_append_21 : decode cX4_append 21 = .ok (.iconst 0, 1) := by decide +kernel
theorem dX4_append_22 : decode cX4_append 22 = .ok (.istore_n 2, 1) := by decide +kernel
theorem dX4_append_23 : decode cX4_append 23 = .ok (.iload_n 2, 1) := by decide +kernel
theorem dX4_append_24 : decode cX4_append 24 = .ok (.ifCond .eq 35, 3) := by decide +kernel
theorem dX4_append_27 : decode cX4_append 27 = .ok (.aload_n 0, 1) := by decide +kernel
theorem dX4_append_28 : decode cX4_append 28 = .ok (.getfield 28, 3) := by decide +kernel
theorem dX4_append_31 : decode cX4_append 31 = .ok (.sipush 1000, 3) := by decide +kernel
theorem dX4_append_34 : decode cX4_append 34 = .ok (.if_icmp .ge 25, 3) := by decide +kernel
theorem dX4_append_37 : decode cX4_append 37 = .ok (.aload_n 0, 1) := by decide +kernel
theorem dX4_append_38 : decode cX4_append 38 = .ok (.getfield 9, 3) := by decide +kernel
theorem dX4_append_41 : decode cX4_append 41 = .ok (.aload_n 0, 1) := by decide +kernel
theorem dX4_append_42 : decode cX4_append 42 = .ok (.getfield 28, 3) := by decide +kernel
theorem dX4_append_45 : decode cX4_append 45 = .ok (.iload_n 1, 1) := by decide +kernel
theorem dX4_append_46 : decode cX4_append 46 = .ok (.invokestatic 32, 3) := by decide +kernel
theorem dX4_append_49 : decode cX4_append 49 = .ok (.aload_n 0, 1) := by decide +kernel
theorem dX4_append_50 : decode cX4_append 50 = .ok (.dup, 1) := by decide +kernel
theorem dX4_append_51 : decode cX4_append 51 = .ok (.getfield 28, 3) := by decide +kernel
theorem dX4_append_54 : decode cX4_append 54 = .ok (.iconst 1, 1) := by decide +kernel
theorem dX4_append_55 : decode cX4_append 55 = .ok (.iadd, 1) := by decide +kernel
theorem dX4_append_56 : decode cX4_append 56 = .ok (.putfield 28, 3) := by decide +kernel
theorem dX4_append_59 : decode cX4_append 59 = .ok (.return_, 1) := by decide +kernel
theorem dX4_empty_0 : decode cX4_empty 0 = .ok (.aload_n 0, 1) := by decide +kernel
theorem dX4_empty_1 : decode cX4_empty 1 = .ok (.iconst 0, 1) := by decide +kernel
theorem dX4_empty_2 : decode cX4_empty 2 = .ok (.putfield 28, 3) := by decide +kernel
theorem dX4_empty_5 : decode cX4_empty 5 = .ok (.return_, 1) := by decide +kernel
theorem dX4_begin_0 : decode cX4_begin 0 = .ok (.aload_n 0, 1) := by decide +kernel
theorem dX4_begin_1 : decode cX4_begin 1 = .ok (.iconst 0, 1) := by decide +kernel
theorem dX4_begin_2 : decode cX4_begin 2 = .ok (.putfield 36, 3) := by decide +kernel
theorem dX4_begin_5 : decode cX4_begin 5 = .ok (.aload_n 0, 1) := by decide +kernel
theorem dX4_begin_6 : decode cX4_begin 6 = .ok (.iconst 0, 1) := by decide +kernel
theorem dX4_begin_7 : decode cX4_begin 7 = .ok (.putfield 39, 3) := by decide +kernel
theorem dX4_begin_10 : decode cX4_begin 10 = .ok (.aload_n 0, 1) := by decide +kernel
theorem dX4_begin_11 : decode cX4_begin 11 = .ok (.invokevirtual 42, 3) := by decide +kernel
theorem dX4_begin_14 : decode cX4_begin 14 = .ok (.return_, 1) := by decide +kernel
theorem dX4_advance_0 : decode cX4_advance 0 = .ok (.aload_n 0, 1) := by decide +kernel
theorem dX4_advance_1 : decode cX4_advance 1 = .ok (.getfield 39, 3) := by decide +kernel
theorem dX4_advance_4 : decode cX4_advance 4 = .ok (.ifCond .eq 4, 3) := by decide +kernel
theorem dX4_advance_7 : decode cX4_advance 7 = .ok (.return_, 1) := by decide +kernel
theorem dX4_advance_8 : decode cX4_advance 8 = .ok (.aload_n 0, 1) := by decide +kernel
theorem dX4_advance_9 : decode cX4_advance 9 = .ok (.getfield 36, 3) := by decide +kernel
theorem dX4_advance_12 : decode cX4_advance 12 = .ok (.aload_n 0, 1) := by decide +kernel
theorem dX4_advance_13 : decode cX4_advance 13 = .ok (.getfield 28, 3) := by decide +kernel
theorem dX4_advance_16 : decode cX4_advance 16 = .ok (.if_icmp .ge 48, 3) := by decide +kernel
theorem dX4_advance_19 : decode cX4_advance 19 = .ok (.aload_n 0, 1) := by decide +kernel
theorem dX4_advance_20 : decode cX4_advance 20 = .ok (.getfield 9, 3) := by decide +kernel
theorem dX4_advance_23 : decode cX4_advance 23 = .ok (.aload_n 0, 1) := by decide +kernel
theorem dX4_advance_24 : decode cX4_advance 24 = .ok (.getfield 36, 3) := by decide +kernel
theorem dX4_advance_27 : decode cX4_advance 27 = .ok (.invokestatic 45, 3) := by decide +kernel
theorem dX4_advance_30 : decode cX4_advance 30 = .ok (.bipush 32, 2) := by decide +kernel
theorem dX4_advance_32 : decode cX4_advance 32 = .ok (.if_icmp .eq 19, 3) := by decide +kernel
theorem dX4_advance_35 : decode cX4_advance 35 = .ok (.aload_n 0, 1) := by decide +kernel
theorem dX4_advance_36 : decode cX4_advance 36 = .ok (.getfield 9, 3) := by decide +kernel
theorem dX4_advance_39 : decode cX4_advance 39 = .ok (.aload_n 0, 1) := by decide +kernel
theorem dX4_advance_40 : decode cX4_advance 40 = .ok (.getfield 36, 3) := by decide +kernel
theorem dX4_advance_43 : decode cX4_advance 43 = .ok (.invokestatic 45, 3) := by decide +kernel
theorem dX4_advance_46 : decode cX4_advance 46 = .ok (.bipush 10, 2) := by decide +kernel
theorem dX4_advance_48 : decode cX4_advance 48 = .ok (.if_icmp .ne 16, 3) := by decide +kernel
theorem dX4_advance_51 : decode cX4_advance 51 = .ok (.aload_n 0, 1) := by decide +kernel
theorem dX4_advance_52 : decode cX4_advance 52 = .ok (.dup, 1) := by decide +kernel
theorem dX4_advance_53 : decode cX4_advance 53 = .ok (.getfield 36, 3) := by decide +kernel
theorem dX4_advance_56 : decode cX4_advance 56 = .ok (.iconst 1, 1) := by decide +kernel
theorem dX4_advance_57 : decode cX4_advance 57 = .ok (.iadd, 1) := by decide +kernel
theorem dX4_advance_58 : decode cX4_advance 58 = .ok (.putfield 36, 3) := by decide +kernel
theorem dX4_advance_61 : decode cX4_advance 61 = .ok (.goto (-53), 3) := by decide +kernel
theorem dX4_advance_64 : decode cX4_advance 64 = .ok (.aload_n 0, 1) := by decide +kernel
theorem dX4_advance_65 : decode cX4_advance 65 = .ok (.aload_n 0, 1) := by decide +kernel
theorem dX4_advance_66 : decode cX4_advance 66 = .ok (.getfield 36, 3) := by decide +kernel
theorem dX4_advance_69 : decode cX4_advance 69 = .ok (.putfield 49, 3) := by decide +kernel
theorem dX4_advance_72 : decode cX4_advance 72 = .ok (.aload_n 0, 1) := by decide +kernel
theorem dX4_advance_73 : decode cX4_advance 73 = .ok (.aload_n 0, 1) := by decide +kernel
theorem dX4_advance_74 : decode cX4_advance 74 = .ok (.getfield 9, 3) := by decide +kernel
theorem dX4_advance_77 : decode cX4_advance 77 = .ok (.aload_n 0, 1) := by decide +kernel
theorem dX4_advance_78 : decode cX4_advance 78 = .ok (.getfield 36, 3) := by decide +kernel
theorem dX4_advance_81 : decode cX4_advance 81 = .ok (.invokestatic 45, 3) := by decide +kernel
theorem dX4_advance_84 : decode cX4_advance 84 = .ok (.putfield 52, 3) := by decide +kernel
theorem dX4_advance_87 : decode cX4_advance 87 = .ok (.aload_n 0, 1) := by decide +kernel
theorem dX4_advance_88 : decode cX4_advance 88 = .ok (.getfield 36, 3) := by decide +kernel
theorem dX4_advance_91 : decode cX4_advance 91 = .ok (.aload_n 0, 1) := by decide +kernel
theorem dX4_advance_92 : decode cX4_advance 92 = .ok (.getfield 28, 3) := by decide +kernel
theorem dX4_advance_95 : decode cX4_advance 95 = .ok (.if_icmp .lt 11, 3) := by decide +kernel
theorem dX4_advance_98 : decode cX4_advance 98 = .ok (.aload_n 0, 1) := by decide +kernel
theorem dX4_advance_99 : decode cX4_advance 99 = .ok (.iconst 0, 1) := by decide +kernel
theorem dX4_advance_100 : decode cX4_advance 100 = .ok (.putfield 55, 3) := by decide +kernel
theorem dX4_advance_103 : decode cX4_advance 103 = .ok (.goto 77, 3) := by decide +kernel
theorem dX4_advance_106 : decode cX4_advance 106 = .ok (.aload_n 0, 1) := by decide +kernel
theorem dX4_advance_107 : decode cX4_advance 107 = .ok (.getfield 52, 3) := by decide +kernel
theorem dX4_advance_110 : decode cX4_advance 110 = .ok (.bipush 97, 2) := by decide +kernel
theorem dX4_advance_112 : decode cX4_advance 112 = .ok (.bipush 122, 2) := by decide +kernel
theorem dX4_advance_114 : decode cX4_advance 114 = .ok (.invokestatic 24, 3) := by decide +kernel
theorem dX4_advance_117 : decode cX4_advance 117 = .ok (.ifCond .eq 10, 3) := by decide +kernel
theorem dX4_advance_120 : decode cX4_advance 120 = .ok (.aload_n 0, 1) := by decide +kernel
theorem dX4_advance_121 : decode cX4_advance 121 = .ok (.invokevirtual 58, 3) := by decide +kernel
theorem dX4_advance_124 : decode cX4_advance 124 = .ok (.goto 56, 3) := by decide +kernel
theorem dX4_advance_127 : decode cX4_advance 127 = .ok (.aload_n 0, 1) := by decide +kernel
theorem dX4_advance_128 : decode cX4_advance 128 = .ok (.getfield 52, 3) := by decide +kernel
theorem dX4_advance_131 : decode cX4_advance 131 = .ok (.bipush 48, 2) := by decide +kernel
theorem dX4_advance_133 : decode cX4_advance 133 = .ok (.bipush 57, 2) := by decide +kernel
theorem dX4_advance_135 : decode cX4_advance 135 = .ok (.invokestatic 24, 3) := by decide +kernel
theorem dX4_advance_138 : decode cX4_advance 138 = .ok (.ifCond .eq 10, 3) := by decide +kernel
theorem dX4_advance_141 : decode cX4_advance 141 = .ok (.aload_n 0, 1) := by decide +kernel
theorem dX4_advance_142 : decode cX4_advance 142 = .ok (.invokevirtual 61, 3) := by decide +kernel
theorem dX4_advance_145 : decode cX4_advance 145 = .ok (.goto 35, 3) := by decide +kernel
theorem dX4_advance_148 : decode cX4_advance 148 = .ok (.aload_n 0, 1) := by decide +kernel
theorem dX4_advance_149 : decode cX4_advance 149 = .ok (.ldc 64, 2) := by decide +kernel
theorem dX4_advance_151 : decode cX4_advance 151 = .ok (.aload_n 0, 1) := by decide +kernel
theorem dX4_advance_152 : decode cX4_advance 152 = .ok (.getfield 52, 3) := by decide +kernel
theorem dX4_advance_155 : decode cX4_advance 155 = .ok (.i2c, 1) := by decide +kernel
theorem dX4_advance_156 : decode cX4_advance 156 = .ok (.invokevirtual 66, 3) := by decide +kernel
theorem dX4_advance_159 : decode cX4_advance 159 = .ok (.ifCond .lt 7, 3) := by decide +kernel
theorem dX4_advance_162 : decode cX4_advance 162 = .ok (.iconst 4, 1) := by decide +kernel
theorem dX4_advance_163 : decode cX4_advance 163 = .ok (.goto 4, 3) := by decide +kernel
theorem dX4_advance_166 : decode cX4_advance 166 = .ok (.iconst 1, 1) := by decide +kernel
theorem dX4_advance_167 : decode cX4_advance 167 = .ok (.putfield 55, 3) := by decide +kernel
theorem dX4_advance_170 : decode cX4_advance 170 = .ok (.aload_n 0, 1) := by decide +kernel
theorem dX4_advance_171 : decode cX4_advance 171 = .ok (.dup, 1) := by decide +kernel
theorem dX4_advance_172 : decode cX4_advance 172 = .ok (.getfield 36, 3) := by decide +kernel
theorem dX4_advance_175 : decode cX4_advance 175 = .ok (.iconst 1, 1) := by decide +kernel
theorem dX4_advance_176 : decode cX4_advance 176 = .ok (.iadd, 1) := by decide +kernel
theorem dX4_advance_177 : decode cX4_advance 177 = .ok (.putfield 36, 3) := by decide +kernel
theorem dX4_advance_180 : decode cX4_advance 180 = .ok (.return_, 1) := by decide +kernel
theorem dX4_readWord_0 : decode cX4_readWord 0 = .ok (.aload_n 0, 1) := by decide +kernel
theorem dX4_readWord_1 : decode cX4_readWord 1 = .ok (.lconst 0, 1) := by decide +kernel
theorem dX4_readWord_2 : decode cX4_readWord 2 = .ok (.putfield 72, 3) := by decide +kernel
theorem dX4_readWord_5 : decode cX4_readWord 5 = .ok (.aload_n 0, 1) := by decide +kernel
theorem dX4_readWord_6 : decode cX4_readWord 6 = .ok (.getfield 36, 3) := by decide +kernel
theorem dX4_readWord_9 : decode cX4_readWord 9 = .ok (.aload_n 0, 1) := by decide +kernel
theorem dX4_readWord_10 : decode cX4_readWord 10 = .ok (.getfield 28, 3) := by decide +kernel
theorem dX4_readWord_13 : decode cX4_readWord 13 = .ok (.if_icmp .ge 68, 3) := by decide +kernel
theorem dX4_readWord_16 : decode cX4_readWord 16 = .ok (.aload_n 0, 1) := by decide +kernel
theorem dX4_readWord_17 : decode cX4_readWord 17 = .ok (.getfield 9, 3) := by decide +kernel
theorem dX4_readWord_20 : decode cX4_readWord 20 = .ok (.aload_n 0, 1) := by decide +kernel
theorem dX4_readWord_21 : decode cX4_readWord 21 = .ok (.getfield 36, 3) := by decide +kernel
theorem dX4_readWord_24 : decode cX4_readWord 24 = .ok (.invokestatic 45, 3) := by decide +kernel
theorem dX4_readWord_27 : decode cX4_readWord 27 = .ok (.bipush 97, 2) := by decide +kernel
theorem dX4_readWord_29 : decode cX4_readWord 29 = .ok (.bipush 122, 2) := by decide +kernel
theorem dX4_readWord_31 : decode cX4_readWord 31 = .ok (.invokestatic 24, 3) := by decide +kernel
theorem dX4_readWord_34 : decode cX4_readWord 34 = .ok (.ifCond .eq 47, 3) := by decide +kernel
theorem dX4_readWord_37 : decode cX4_readWord 37 = .ok (.aload_n 0, 1) := by decide +kernel
theorem dX4_readWord_38 : decode cX4_readWord 38 = .ok (.aload_n 0, 1) := by decide +kernel
theorem dX4_readWord_39 : decode cX4_readWord 39 = .ok (.getfield 72, 3) := by decide +kernel
theorem dX4_readWord_42 : decode cX4_readWord 42 = .ok (.ldc2_w 76, 3) := by decide +kernel
theorem dX4_readWord_45 : decode cX4_readWord 45 = .ok (.lmul, 1) := by decide +kernel
theorem dX4_readWord_46 : decode cX4_readWord 46 = .ok (.aload_n 0, 1) := by decide +kernel
theorem dX4_readWord_47 : decode cX4_readWord 47 = .ok (.getfield 9, 3) := by decide +kernel
theorem dX4_readWord_50 : decode cX4_readWord 50 = .ok (.aload_n 0, 1) := by decide +kernel
theorem dX4_readWord_51 : decode cX4_readWord 51 = .ok (.getfield 36, 3) := by decide +kernel
theorem dX4_readWord_54 : decode cX4_readWord 54 = .ok (.invokestatic 45, 3) := by decide +kernel
theorem dX4_readWord_57 : decode cX4_readWord 57 = .ok (.i2l, 1) := by decide +kernel
theorem dX4_readWord_58 : decode cX4_readWord 58 = .ok (.ladd, 1) := by decide +kernel
theorem dX4_readWord_59 : decode cX4_readWord 59 = .ok (.ldc2_w 78, 3) := by decide +kernel
theorem dX4_readWord_62 : decode cX4_readWord 62 = .ok (.lsub, 1) := by decide +kernel
theorem dX4_readWord_63 : decode cX4_readWord 63 = .ok (.lconst 1, 1) := by decide +kernel
theorem dX4_readWord_64 : decode cX4_readWord 64 = .ok (.ladd, 1) := by decide +kernel
theorem dX4_readWord_65 : decode cX4_readWord 65 = .ok (.putfield 72, 3) := by decide +kernel
theorem dX4_readWord_68 : decode cX4_readWord 68 = .ok (.aload_n 0, 1) := by decide +kernel
theorem dX4_readWord_69 : decode cX4_readWord 69 = .ok (.dup, 1) := by decide +kernel
theorem dX4_readWord_70 : decode cX4_readWord 70 = .ok (.getfield 36, 3) := by decide +kernel
theorem dX4_readWord_73 : decode cX4_readWord 73 = .ok (.iconst 1, 1) := by decide +kernel
theorem dX4_readWord_74 : decode cX4_readWord 74 = .ok (.iadd, 1) := by decide +kernel
theorem dX4_readWord_75 : decode cX4_readWord 75 = .ok (.putfield 36, 3) := by decide +kernel
theorem dX4_readWord_78 : decode cX4_readWord 78 = .ok (.goto (-73), 3) := by decide +kernel
theorem dX4_readWord_81 : decode cX4_readWord 81 = .ok (.aload_n 0, 1) := by decide +kernel
theorem dX4_readWord_82 : decode cX4_readWord 82 = .ok (.aload_n 0, 1) := by decide +kernel
theorem dX4_readWord_83 : decode cX4_readWord 83 = .ok (.getfield 36, 3) := by decide +kernel
theorem dX4_readWord_86 : decode cX4_readWord 86 = .ok (.aload_n 0, 1) := by decide +kernel
theorem dX4_readWord_87 : decode cX4_readWord 87 = .ok (.getfield 49, 3) := by decide +kernel
theorem dX4_readWord_90 : decode cX4_readWord 90 = .ok (.isub, 1) := by decide +kernel
theorem dX4_readWord_91 : decode cX4_readWord 91 = .ok (.bipush 8, 2) := by decide +kernel
theorem dX4_readWord_93 : decode cX4_readWord 93 = .ok (.if_icmp .le 7, 3) := by decide +kernel
theorem dX4_readWord_96 : decode cX4_readWord 96 = .ok (.iconst 1, 1) := by decide +kernel
theorem dX4_readWord_97 : decode cX4_readWord 97 = .ok (.goto 4, 3) := by decide +kernel
theorem dX4_readWord_100 : decode cX4_readWord 100 = .ok (.iconst 2, 1) := by decide +kernel
theorem dX4_readWord_101 : decode cX4_readWord 101 = .ok (.putfield 55, 3) := by decide +kernel
theorem dX4_readWord_104 : decode cX4_readWord 104 = .ok (.aload_n 0, 1) := by decide +kernel
theorem dX4_readWord_105 : decode cX4_readWord 105 = .ok (.getstatic 15, 3) := by decide +kernel
theorem dX4_readWord_108 : decode cX4_readWord 108 = .ok (.putfield 21, 3) := by decide +kernel
theorem dX4_readWord_111 : decode cX4_readWord 111 = .ok (.getstatic 80, 3) := by decide +kernel
theorem dX4_readWord_114 : decode cX4_readWord 114 = .ok (.astore_n 1, 1) := by decide +kernel
theorem dX4_readWord_115 : decode cX4_readWord 115 = .ok (.aload_n 1, 1) := by decide +kernel
theorem dX4_readWord_116 : decode cX4_readWord 116 = .ok (.arraylength, 1) := by decide +kernel
theorem dX4_readWord_117 : decode cX4_readWord 117 = .ok (.istore_n 2, 1) := by decide +kernel
theorem dX4_readWord_118 : decode cX4_readWord 118 = .ok (.iconst 0, 1) := by decide +kernel
theorem dX4_readWord_119 : decode cX4_readWord 119 = .ok (.istore_n 3, 1) := by decide +kernel
theorem dX4_readWord_120 : decode cX4_readWord 120 = .ok (.iload_n 3, 1) := by decide +kernel
theorem dX4_readWord_121 : decode cX4_readWord 121 = .ok (.iload_n 2, 1) := by decide +kernel
theorem dX4_readWord_122 : decode cX4_readWord 122 = .ok (.if_icmp .ge 33, 3) := by decide +kernel
theorem dX4_readWord_125 : decode cX4_readWord 125 = .ok (.aload_n 1, 1) := by decide +kernel
theorem dX4_readWord_126 : decode cX4_readWord 126 = .ok (.iload_n 3, 1) := by decide +kernel
theorem dX4_readWord_127 : decode cX4_readWord 127 = .ok (.aaload, 1) := by decide +kernel
theorem dX4_readWord_128 : decode cX4_readWord 128 = .ok (.astore 4, 2) := by decide +kernel
theorem dX4_readWord_130 : decode cX4_readWord 130 = .ok (.aload 4, 2) := by decide +kernel
theorem dX4_readWord_132 : decode cX4_readWord 132 = .ok (.getfield 84, 3) := by decide +kernel
theorem dX4_readWord_135 : decode cX4_readWord 135 = .ok (.aload_n 0, 1) := by decide +kernel
theorem dX4_readWord_136 : decode cX4_readWord 136 = .ok (.getfield 72, 3) := by decide +kernel
theorem dX4_readWord_139 : decode cX4_readWord 139 = .ok (.lcmp, 1) := by decide +kernel
theorem dX4_readWord_140 : decode cX4_readWord 140 = .ok (.ifCond .ne 9, 3) := by decide +kernel
theorem dX4_readWord_143 : decode cX4_readWord 143 = .ok (.aload_n 0, 1) := by decide +kernel
theorem dX4_readWord_144 : decode cX4_readWord 144 = .ok (.aload 4, 2) := by decide +kernel
theorem dX4_readWord_146 : decode cX4_readWord 146 = .ok (.putfield 21, 3) := by decide +kernel
theorem dX4_readWord_149 : decode cX4_readWord 149 = .ok (.iinc 3 1, 3) := by decide +kernel
theorem dX4_readWord_152 : decode cX4_readWord 152 = .ok (.goto (-32), 3) := by decide +kernel
theorem dX4_readWord_155 : decode cX4_readWord 155 = .ok (.return_, 1) := by decide +kernel
theorem dX4_readNumber_0 : decode cX4_readNumber 0 = .ok (.aload_n 0, 1) := by decide +kernel
theorem dX4_readNumber_1 : decode cX4_readNumber 1 = .ok (.iconst 0, 1) := by decide +kernel
theorem dX4_readNumber_2 : decode cX4_readNumber 2 = .ok (.putfield 85, 3) := by decide +kernel
theorem dX4_readNumber_5 : decode cX4_readNumber 5 = .ok (.aload_n 0, 1) := by decide +kernel
theorem dX4_readNumber_6 : decode cX4_readNumber 6 = .ok (.getfield 36, 3) := by decide +kernel
theorem dX4_readNumber_9 : decode cX4_readNumber 9 = .ok (.aload_n 0, 1) := by decide +kernel
theorem dX4_readNumber_10 : decode cX4_readNumber 10 = .ok (.getfield 28, 3) := by decide +kernel
theorem dX4_readNumber_13 : decode cX4_readNumber 13 = .ok (.if_icmp .ge 63, 3) := by decide +kernel
theorem dX4_readNumber_16 : decode cX4_readNumber 16 = .ok (.aload_n 0, 1) := by decide +kernel
theorem dX4_readNumber_17 : decode cX4_readNumber 17 = .ok (.getfield 9, 3) := by decide +kernel
theorem dX4_readNumber_20 : decode cX4_readNumber 20 = .ok (.aload_n 0, 1) := by decide +kernel
theorem dX4_readNumber_21 : decode cX4_readNumber 21 = .ok (.getfield 36, 3) := by decide +kernel
theorem dX4_readNumber_24 : decode cX4_readNumber 24 = .ok (.invokestatic 45, 3) := by decide +kernel
theorem dX4_readNumber_27 : decode cX4_readNumber 27 = .ok (.bipush 48, 2) := by decide +kernel
theorem dX4_readNumber_29 : decode cX4_readNumber 29 = .ok (.bipush 57, 2) := by decide +kernel
theorem dX4_readNumber_31 : decode cX4_readNumber 31 = .ok (.invokestatic 24, 3) := by decide +kernel
theorem dX4_readNumber_34 : decode cX4_readNumber 34 = .ok (.ifCond .eq 42, 3) := by decide +kernel
theorem dX4_readNumber_37 : decode cX4_readNumber 37 = .ok (.aload_n 0, 1) := by decide +kernel
theorem dX4_readNumber_38 : decode cX4_readNumber 38 = .ok (.aload_n 0, 1) := by decide +kernel
theorem dX4_readNumber_39 : decode cX4_readNumber 39 = .ok (.getfield 85, 3) := by decide +kernel
theorem dX4_readNumber_42 : decode cX4_readNumber 42 = .ok (.bipush 10, 2) := by decide +kernel
theorem dX4_readNumber_44 : decode cX4_readNumber 44 = .ok (.imul, 1) := by decide +kernel
theorem dX4_readNumber_45 : decode cX4_readNumber 45 = .ok (.aload_n 0, 1) := by decide +kernel
theorem dX4_readNumber_46 : decode cX4_readNumber 46 = .ok (.getfield 9, 3) := by decide +kernel
theorem dX4_readNumber_49 : decode cX4_readNumber 49 = .ok (.aload_n 0, 1) := by decide +kernel
theorem dX4_readNumber_50 : decode cX4_readNumber 50 = .ok (.getfield 36, 3) := by decide +kernel
theorem dX4_readNumber_53 : decode cX4_readNumber 53 = .ok (.invokestatic 45, 3) := by decide +kernel
theorem dX4_readNumber_56 : decode cX4_readNumber 56 = .ok (.iadd, 1) := by decide +kernel
theorem dX4_readNumber_57 : decode cX4_readNumber 57 = .ok (.bipush 48, 2) := by decide +kernel
theorem dX4_readNumber_59 : decode cX4_readNumber 59 = .ok (.isub, 1) := by decide +kernel
theorem dX4_readNumber_60 : decode cX4_readNumber 60 = .ok (.putfield 85, 3) := by decide +kernel
theorem dX4_readNumber_63 : decode cX4_readNumber 63 = .ok (.aload_n 0, 1) := by decide +kernel
theorem dX4_readNumber_64 : decode cX4_readNumber 64 = .ok (.dup, 1) := by decide +kernel
theorem dX4_readNumber_65 : decode cX4_readNumber 65 = .ok (.getfield 36, 3) := by decide +kernel
theorem dX4_readNumber_68 : decode cX4_readNumber 68 = .ok (.iconst 1, 1) := by decide +kernel
theorem dX4_readNumber_69 : decode cX4_readNumber 69 = .ok (.iadd, 1) := by decide +kernel
theorem dX4_readNumber_70 : decode cX4_readNumber 70 = .ok (.putfield 36, 3) := by decide +kernel
theorem dX4_readNumber_73 : decode cX4_readNumber 73 = .ok (.goto (-68), 3) := by decide +kernel
theorem dX4_readNumber_76 : decode cX4_readNumber 76 = .ok (.aload_n 0, 1) := by decide +kernel
theorem dX4_readNumber_77 : decode cX4_readNumber 77 = .ok (.aload_n 0, 1) := by decide +kernel
theorem dX4_readNumber_78 : decode cX4_readNumber 78 = .ok (.getfield 36, 3) := by decide +kernel
theorem dX4_readNumber_81 : decode cX4_readNumber 81 = .ok (.aload_n 0, 1) := by decide +kernel
theorem dX4_readNumber_82 : decode cX4_readNumber 82 = .ok (.getfield 49, 3) := by decide +kernel
theorem dX4_readNumber_85 : decode cX4_readNumber 85 = .ok (.isub, 1) := by decide +kernel
theorem dX4_readNumber_86 : decode cX4_readNumber 86 = .ok (.iconst 4, 1) := by decide +kernel
theorem dX4_readNumber_87 : decode cX4_readNumber 87 = .ok (.if_icmp .le 7, 3) := by decide +kernel
theorem dX4_readNumber_90 : decode cX4_readNumber 90 = .ok (.iconst 1, 1) := by decide +kernel
theorem dX4_readNumber_91 : decode cX4_readNumber 91 = .ok (.goto 4, 3) := by decide +kernel
theorem dX4_readNumber_94 : decode cX4_readNumber 94 = .ok (.iconst 3, 1) := by decide +kernel
theorem dX4_readNumber_95 : decode cX4_readNumber 95 = .ok (.putfield 55, 3) := by decide +kernel
theorem dX4_readNumber_98 : decode cX4_readNumber 98 = .ok (.return_, 1) := by decide +kernel
theorem dX4_fail_0 : decode cX4_fail 0 = .ok (.aload_n 0, 1) := by decide +kernel
theorem dX4_fail_1 : decode cX4_fail 1 = .ok (.getfield 39, 3) := by decide +kernel
theorem dX4_fail_4 : decode cX4_fail 4 = .ok (.ifCond .ne 16, 3) := by decide +kernel
theorem dX4_fail_7 : decode cX4_fail 7 = .ok (.aload_n 0, 1) := by decide +kernel
theorem dX4_fail_8 : decode cX4_fail 8 = .ok (.iload_n 1, 1) := by decide +kernel
theorem dX4_fail_9 : decode cX4_fail 9 = .ok (.bipush 16, 2) := by decide +kernel
theorem dX4_fail_11 : decode cX4_fail 11 = .ok (.aload_n 0, 1) := by decide +kernel
theorem dX4_fail_12 : decode cX4_fail 12 = .ok (.getfield 49, 3) := by decide +kernel
theorem dX4_fail_15 : decode cX4_fail 15 = .ok (.imul, 1) := by decide +kernel
theorem dX4_fail_16 : decode cX4_fail 16 = .ok (.iadd, 1) := by decide +kernel
theorem dX4_fail_17 : decode cX4_fail 17 = .ok (.putfield 39, 3) := by decide +kernel
theorem dX4_fail_20 : decode cX4_fail 20 = .ok (.return_, 1) := by decide +kernel
theorem dX4_goesOn_0 : decode cX4_goesOn 0 = .ok (.aload_n 0, 1) := by decide +kernel
theorem dX4_goesOn_1 : decode cX4_goesOn 1 = .ok (.getfield 39, 3) := by decide +kernel
theorem dX4_goesOn_4 : decode cX4_goesOn 4 = .ok (.ifCond .ne 14, 3) := by decide +kernel
theorem dX4_goesOn_7 : decode cX4_goesOn 7 = .ok (.aload_n 0, 1) := by decide +kernel
theorem dX4_goesOn_8 : decode cX4_goesOn 8 = .ok (.getfield 55, 3) := by decide +kernel
theorem dX4_goesOn_11 : decode cX4_goesOn 11 = .ok (.ifCond .eq 7, 3) := by decide +kernel
theorem dX4_goesOn_14 : decode cX4_goesOn 14 = .ok (.iconst 1, 1) := by decide +kernel
theorem dX4_goesOn_15 : decode cX4_goesOn 15 = .ok (.goto 4, 3) := by decide +kernel
theorem dX4_goesOn_18 : decode cX4_goesOn 18 = .ok (.iconst 0, 1) := by decide +kernel
theorem dX4_goesOn_19 : decode cX4_goesOn 19 = .ok (.ireturn, 1) := by decide +kernel
theorem dX4_isWord_0 : decode cX4_isWord 0 = .ok (.aload_n 0, 1) := by decide +kernel
theorem dX4_isWord_1 : decode cX4_isWord 1 = .ok (.getfield 39, 3) := by decide +kernel
theorem dX4_isWord_4 : decode cX4_isWord 4 = .ok (.ifCond .ne 23, 3) := by decide +kernel
theorem dX4_isWord_7 : decode cX4_isWord 7 = .ok (.aload_n 0, 1) := by decide +kernel
theorem dX4_isWord_8 : decode cX4_isWord 8 = .ok (.getfield 55, 3) := by decide +kernel
theorem dX4_isWord_11 : decode cX4_isWord 11 = .ok (.iconst 2, 1) := by decide +kernel
theorem dX4_isWord_12 : decode cX4_isWord 12 = .ok (.if_icmp .ne 15, 3) := by decide +kernel
theorem dX4_isWord_15 : decode cX4_isWord 15 = .ok (.aload_n 0, 1) := by decide +kernel
theorem dX4_isWord_16 : decode cX4_isWord 16 = .ok (.getfield 21, 3) := by decide +kernel
theorem dX4_isWord_19 : decode cX4_isWord 19 = .ok (.aload_n 1, 1) := by decide +kernel
theorem dX4_isWord_20 : decode cX4_isWord 20 = .ok (.if_acmp .ne 7, 3) := by decide +kernel
theorem dX4_isWord_23 : decode cX4_isWord 23 = .ok (.iconst 1, 1) := by decide +kernel
theorem dX4_isWord_24 : decode cX4_isWord 24 = .ok (.goto 4, 3) := by decide +kernel
theorem dX4_isWord_27 : decode cX4_isWord 27 = .ok (.iconst 0, 1) := by decide +kernel
theorem dX4_isWord_28 : decode cX4_isWord 28 = .ok (.ireturn, 1) := by decide +kernel
theorem dX4_isName_0 : decode cX4_isName 0 = .ok (.aload_n 0, 1) := by decide +kernel
theorem dX4_isName_1 : decode cX4_isName 1 = .ok (.getfield 39, 3) := by decide +kernel
theorem dX4_isName_4 : decode cX4_isName 4 = .ok (.ifCond .ne 25, 3) := by decide +kernel
theorem dX4_isName_7 : decode cX4_isName 7 = .ok (.aload_n 0, 1) := by decide +kernel
theorem dX4_isName_8 : decode cX4_isName 8 = .ok (.getfield 55, 3) := by decide +kernel
theorem dX4_isName_11 : decode cX4_isName 11 = .ok (.iconst 2, 1) := by decide +kernel
theorem dX4_isName_12 : decode cX4_isName 12 = .ok (.if_icmp .ne 17, 3) := by decide +kernel
theorem dX4_isName_15 : decode cX4_isName 15 = .ok (.aload_n 0, 1) := by decide +kernel
theorem dX4_isName_16 : decode cX4_isName 16 = .ok (.getfield 21, 3) := by decide +kernel
theorem dX4_isName_19 : decode cX4_isName 19 = .ok (.getfield 88, 3) := by decide +kernel
theorem dX4_isName_22 : decode cX4_isName 22 = .ok (.ifCond .ne 7, 3) := by decide +kernel
theorem dX4_isName_25 : decode cX4_isName 25 = .ok (.iconst 1, 1) := by decide +kernel
theorem dX4_isName_26 : decode cX4_isName 26 = .ok (.goto 4, 3) := by decide +kernel
theorem dX4_isName_29 : decode cX4_isName 29 = .ok (.iconst 0, 1) := by decide +kernel
theorem dX4_isName_30 : decode cX4_isName 30 = .ok (.ireturn, 1) := by decide +kernel
theorem dX4_isNumber_0 : decode cX4_isNumber 0 = .ok (.aload_n 0, 1) := by decide +kernel
theorem dX4_isNumber_1 : decode cX4_isNumber 1 = .ok (.getfield 39, 3) := by decide +kernel
theorem dX4_isNumber_4 : decode cX4_isNumber 4 = .ok (.ifCond .ne 15, 3) := by decide +kernel
theorem dX4_isNumber_7 : decode cX4_isNumber 7 = .ok (.aload_n 0, 1) := by decide +kernel
theorem dX4_isNumber_8 : decode cX4_isNumber 8 = .ok (.getfield 55, 3) := by decide +kernel
theorem dX4_isNumber_11 : decode cX4_isNumber 11 = .ok (.iconst 3, 1) := by decide +kernel
theorem dX4_isNumber_12 : decode cX4_isNumber 12 = .ok (.if_icmp .ne 7, 3) := by decide +kernel
theorem dX4_isNumber_15 : decode cX4_isNumber 15 = .ok (.iconst 1, 1) := by decide +kernel
theorem dX4_isNumber_16 : decode cX4_isNumber 16 = .ok (.goto 4, 3) := by decide +kernel
theorem dX4_isNumber_19 : decode cX4_isNumber 19 = .ok (.iconst 0, 1) := by decide +kernel
theorem dX4_isNumber_20 : decode cX4_isNumber 20 = .ok (.ireturn, 1) := by decide +kernel
theorem dX4_isSign_0 : decode cX4_isSign 0 = .ok (.aload_n 0, 1) := by decide +kernel
theorem dX4_isSign_1 : decode cX4_isSign 1 = .ok (.getfield 39, 3) := by decide +kernel
theorem dX4_isSign_4 : decode cX4_isSign 4 = .ok (.ifCond .ne 23, 3) := by decide +kernel
theorem dX4_isSign_7 : decode cX4_isSign 7 = .ok (.aload_n 0, 1) := by decide +kernel
theorem dX4_isSign_8 : decode cX4_isSign 8 = .ok (.getfield 55, 3) := by decide +kernel
theorem dX4_isSign_11 : decode cX4_isSign 11 = .ok (.iconst 4, 1) := by decide +kernel
theorem dX4_isSign_12 : decode cX4_isSign 12 = .ok (.if_icmp .ne 15, 3) := by decide +kernel
theorem dX4_isSign_15 : decode cX4_isSign 15 = .ok (.aload_n 0, 1) := by decide +kernel
theorem dX4_isSign_16 : decode cX4_isSign 16 = .ok (.getfield 52, 3) := by decide +kernel
theorem dX4_isSign_19 : decode cX4_isSign 19 = .ok (.iload_n 1, 1) := by decide +kernel
theorem dX4_isSign_20 : decode cX4_isSign 20 = .ok (.if_icmp .ne 7, 3) := by decide +kernel
theorem dX4_isSign_23 : decode cX4_isSign 23 = .ok (.iconst 1, 1) := by decide +kernel
theorem dX4_isSign_24 : decode cX4_isSign 24 = .ok (.goto 4, 3) := by decide +kernel
theorem dX4_isSign_27 : decode cX4_isSign 27 = .ok (.iconst 0, 1) := by decide +kernel
theorem dX4_isSign_28 : decode cX4_isSign 28 = .ok (.ireturn, 1) := by decide +kernel
theorem dX4_takeWord_0 : decode cX4_takeWord 0 = .ok (.aload_n 0, 1) := by decide +kernel
theorem dX4_takeWord_1 : decode cX4_takeWord 1 = .ok (.aload_n 1, 1) := by decide +kernel
theorem dX4_takeWord_2 : decode cX4_takeWord 2 = .ok (.invokevirtual 92, 3) := by decide +kernel
theorem dX4_takeWord_5 : decode cX4_takeWord 5 = .ok (.ifCond .ne 8, 3) := by decide +kernel
theorem dX4_takeWord_8 : decode cX4_takeWord 8 = .ok (.aload_n 0, 1) := by decide +kernel
theorem dX4_takeWord_9 : decode cX4_takeWord 9 = .ok (.iconst 1, 1) := by decide +kernel
theorem dX4_takeWord_10 : decode cX4_takeWord 10 = .ok (.invokevirtual 96, 3) := by decide +kernel
theorem dX4_takeWord_13 : decode cX4_takeWord 13 = .ok (.aload_n 0, 1) := by decide +kernel
theorem dX4_takeWord_14 : decode cX4_takeWord 14 = .ok (.invokevirtual 42, 3) := by decide +kernel
theorem dX4_takeWord_17 : decode cX4_takeWord 17 = .ok (.return_, 1) := by decide +kernel
theorem dX4_takeSign_0 : decode cX4_takeSign 0 = .ok (.aload_n 0, 1) := by decide +kernel
theorem dX4_takeSign_1 : decode cX4_takeSign 1 = .ok (.iload_n 1, 1) := by decide +kernel
theorem dX4_takeSign_2 : decode cX4_takeSign 2 = .ok (.invokevirtual 100, 3) := by decide +kernel
theorem dX4_takeSign_5 : decode cX4_takeSign 5 = .ok (.ifCond .ne 8, 3) := by decide +kernel
theorem dX4_takeSign_8 : decode cX4_takeSign 8 = .ok (.aload_n 0, 1) := by decide +kernel
theorem dX4_takeSign_9 : decode cX4_takeSign 9 = .ok (.iconst 1, 1) := by decide +kernel
theorem dX4_takeSign_10 : decode cX4_takeSign 10 = .ok (.invokevirtual 96, 3) := by decide +kernel
theorem dX4_takeSign_13 : decode cX4_takeSign 13 = .ok (.aload_n 0, 1) := by decide +kernel
theorem dX4_takeSign_14 : decode cX4_takeSign 14 = .ok (.invokevirtual 42, 3) := by decide +kernel
theorem dX4_takeSign_17 : decode cX4_takeSign 17 = .ok (.return_, 1) := by decide +kernel
theorem dX4_takeNumber_0 : decode cX4_takeNumber 0 = .ok (.aload_n 0, 1) := by decide +kernel
theorem dX4_takeNumber_1 : decode cX4_takeNumber 1 = .ok (.invokevirtual 104, 3) := by decide +kernel
theorem dX4_takeNumber_4 : decode cX4_takeNumber 4 = .ok (.ifCond .ne 11, 3) := by decide +kernel
theorem dX4_takeNumber_7 : decode cX4_takeNumber 7 = .ok (.aload_n 0, 1) := by decide +kernel
theorem dX4_takeNumber_8 : decode cX4_takeNumber 8 = .ok (.iconst 1, 1) := by decide +kernel
theorem dX4_takeNumber_9 : decode cX4_takeNumber 9 = .ok (.invokevirtual 96, 3) := by decide +kernel
theorem dX4_takeNumber_12 : decode cX4_takeNumber 12 = .ok (.goto 20, 3) := by decide +kernel
theorem dX4_takeNumber_15 : decode cX4_takeNumber 15 = .ok (.aload_n 0, 1) := by decide +kernel
theorem dX4_takeNumber_16 : decode cX4_takeNumber 16 = .ok (.getfield 85, 3) := by decide +kernel
theorem dX4_takeNumber_19 : decode cX4_takeNumber 19 = .ok (.iload_n 1, 1) := by decide +kernel
theorem dX4_takeNumber_20 : decode cX4_takeNumber 20 = .ok (.iload_n 2, 1) := by decide +kernel
theorem dX4_takeNumber_21 : decode cX4_takeNumber 21 = .ok (.invokestatic 24, 3) := by decide +kernel
theorem dX4_takeNumber_24 : decode cX4_takeNumber 24 = .ok (.ifCond .ne 8, 3) := by decide +kernel
theorem dX4_takeNumber_27 : decode cX4_takeNumber 27 = .ok (.aload_n 0, 1) := by decide +kernel
theorem dX4_takeNumber_28 : decode cX4_takeNumber 28 = .ok (.iconst 4, 1) := by decide +kernel
theorem dX4_takeNumber_29 : decode cX4_takeNumber 29 = .ok (.invokevirtual 96, 3) := by decide +kernel
theorem dX4_takeNumber_32 : decode cX4_takeNumber 32 = .ok (.aload_n 0, 1) := by decide +kernel
theorem dX4_takeNumber_33 : decode cX4_takeNumber 33 = .ok (.getfield 85, 3) := by decide +kernel
theorem dX4_takeNumber_36 : decode cX4_takeNumber 36 = .ok (.istore_n 3, 1) := by decide +kernel
theorem dX4_takeNumber_37 : decode cX4_takeNumber 37 = .ok (.aload_n 0, 1) := by decide +kernel
theorem dX4_takeNumber_38 : decode cX4_takeNumber 38 = .ok (.invokevirtual 42, 3) := by decide +kernel
theorem dX4_takeNumber_41 : decode cX4_takeNumber 41 = .ok (.iload_n 3, 1) := by decide +kernel
theorem dX4_takeNumber_42 : decode cX4_takeNumber 42 = .ok (.ireturn, 1) := by decide +kernel
theorem dX4_takeNewName_0 : decode cX4_takeNewName 0 = .ok (.aload_n 0, 1) := by decide +kernel
theorem dX4_takeNewName_1 : decode cX4_takeNewName 1 = .ok (.invokevirtual 108, 3) := by decide +kernel
theorem dX4_takeNewName_4 : decode cX4_takeNewName 4 = .ok (.ifCond .ne 11, 3) := by decide +kernel
theorem dX4_takeNewName_7 : decode cX4_takeNewName 7 = .ok (.aload_n 0, 1) := by decide +kernel
theorem dX4_takeNewName_8 : decode cX4_takeNewName 8 = .ok (.iconst 1, 1) := by decide +kernel
theorem dX4_takeNewName_9 : decode cX4_takeNewName 9 = .ok (.invokevirtual 96, 3) := by decide +kernel
theorem dX4_takeNewName_12 : decode cX4_takeNewName 12 = .ok (.goto 31, 3) := by decide +kernel
theorem dX4_takeNewName_15 : decode cX4_takeNewName 15 = .ok (.aload_n 1, 1) := by decide +kernel
theorem dX4_takeNewName_16 : decode cX4_takeNewName 16 = .ok (.aload_n 0, 1) := by decide +kernel
theorem dX4_takeNewName_17 : decode cX4_takeNewName 17 = .ok (.getfield 72, 3) := by decide +kernel
theorem dX4_takeNewName_20 : decode cX4_takeNewName 20 = .ok (.invokevirtual 111, 3) := by decide +kernel
theorem dX4_takeNewName_23 : decode cX4_takeNewName 23 = .ok (.iconst (-1), 1) := by decide +kernel
theorem dX4_takeNewName_24 : decode cX4_takeNewName 24 = .ok (.if_icmp .ne 14, 3) := by decide +kernel
theorem dX4_takeNewName_27 : decode cX4_takeNewName 27 = .ok (.aload_n 1, 1) := by decide +kernel
theorem dX4_takeNewName_28 : decode cX4_takeNewName 28 = .ok (.aload_n 0, 1) := by decide +kernel
theorem dX4_takeNewName_29 : decode cX4_takeNewName 29 = .ok (.getfield 72, 3) := by decide +kernel
theorem dX4_takeNewName_32 : decode cX4_takeNewName 32 = .ok (.invokevirtual 117, 3) := by decide +kernel
theorem dX4_takeNewName_35 : decode cX4_takeNewName 35 = .ok (.ifCond .eq 8, 3) := by decide +kernel
theorem dX4_takeNewName_38 : decode cX4_takeNewName 38 = .ok (.aload_n 0, 1) := by decide +kernel
theorem dX4_takeNewName_39 : decode cX4_takeNewName 39 = .ok (.iconst 3, 1) := by decide +kernel
theorem dX4_takeNewName_40 : decode cX4_takeNewName 40 = .ok (.invokevirtual 96, 3) := by decide +kernel
theorem dX4_takeNewName_43 : decode cX4_takeNewName 43 = .ok (.aload_n 0, 1) := by decide +kernel
theorem dX4_takeNewName_44 : decode cX4_takeNewName 44 = .ok (.getfield 72, 3) := by decide +kernel
theorem dX4_takeNewName_47 : decode cX4_takeNewName 47 = .ok (.lstore_n 2, 1) := by decide +kernel
theorem dX4_takeNewName_48 : decode cX4_takeNewName 48 = .ok (.aload_n 0, 1) := by decide +kernel
theorem dX4_takeNewName_49 : decode cX4_takeNewName 49 = .ok (.invokevirtual 42, 3) := by decide +kernel
theorem dX4_takeNewName_52 : decode cX4_takeNewName 52 = .ok (.lload_n 2, 1) := by decide +kernel
theorem dX4_takeNewName_53 : decode cX4_takeNewName 53 = .ok (.lreturn, 1) := by decide +kernel
theorem dX4_shedHere_0 : decode cX4_shedHere 0 = .ok (.aload_n 0, 1) := by decide +kernel
theorem dX4_shedHere_1 : decode cX4_shedHere 1 = .ok (.invokevirtual 108, 3) := by decide +kernel
theorem dX4_shedHere_4 : decode cX4_shedHere 4 = .ok (.ifCond .ne 8, 3) := by decide +kernel
theorem dX4_shedHere_7 : decode cX4_shedHere 7 = .ok (.aload_n 0, 1) := by decide +kernel
theorem dX4_shedHere_8 : decode cX4_shedHere 8 = .ok (.iconst 1, 1) := by decide +kernel
theorem dX4_shedHere_9 : decode cX4_shedHere 9 = .ok (.invokevirtual 96, 3) := by decide +kernel
theorem dX4_shedHere_12 : decode cX4_shedHere 12 = .ok (.aload_n 1, 1) := by decide +kernel
theorem dX4_shedHere_13 : decode cX4_shedHere 13 = .ok (.aload_n 0, 1) := by decide +kernel
theorem dX4_shedHere_14 : decode cX4_shedHere 14 = .ok (.getfield 72, 3) := by decide +kernel
theorem dX4_shedHere_17 : decode cX4_shedHere 17 = .ok (.invokevirtual 111, 3) := by decide +kernel
theorem dX4_shedHere_20 : decode cX4_shedHere 20 = .ok (.istore_n 2, 1) := by decide +kernel
theorem dX4_shedHere_21 : decode cX4_shedHere 21 = .ok (.iload_n 2, 1) := by decide +kernel
theorem dX4_shedHere_22 : decode cX4_shedHere 22 = .ok (.iconst (-1), 1) := by decide +kernel
theorem dX4_shedHere_23 : decode cX4_shedHere 23 = .ok (.if_icmp .ne 8, 3) := by decide +kernel
theorem dX4_shedHere_26 : decode cX4_shedHere 26 = .ok (.aload_n 0, 1) := by decide +kernel
theorem dX4_shedHere_27 : decode cX4_shedHere 27 = .ok (.iconst 2, 1) := by decide +kernel
theorem dX4_shedHere_28 : decode cX4_shedHere 28 = .ok (.invokevirtual 96, 3) := by decide +kernel
theorem dX4_shedHere_31 : decode cX4_shedHere 31 = .ok (.iload_n 2, 1) := by decide +kernel
theorem dX4_shedHere_32 : decode cX4_shedHere 32 = .ok (.ireturn, 1) := by decide +kernel
theorem dX5_init_0 : decode cX5_init 0 = .ok (.aload_n 0, 1) := by decide +kernel
theorem dX5_init_1 : decode cX5_init 1 = .ok (.invokespecial 3, 3) := by decide +kernel
theorem dX5_init_4 : decode cX5_init 4 = .ok (.aload_n 0, 1) := by decide +kernel
theorem dX5_init_5 : decode cX5_init 5 = .ok (.bipush 40, 2) := by decide +kernel
theorem dX5_init_7 : decode cX5_init 7 = .ok (.newarray .int, 2) := by decide +kernel
theorem dX5_init_9 : decode cX5_init 9 = .ok (.putfield 9, 3) := by decide +kernel
theorem dX5_init_12 : decode cX5_init 12 = .ok (.aload_n 0, 1) := by decide +kernel
theorem dX5_init_13 : decode cX5_init 13 = .ok (.bipush 40, 2) := by decide +kernel
theorem dX5_init_15 : decode cX5_init 15 = .ok (.newarray .int, 2) := by decide +kernel
theorem dX5_init_17 : decode cX5_init 17 = .ok (.putfield 15, 3) := by decide +kernel
theorem dX5_init_20 : decode cX5_init 20 = .ok (.aload_n 0, 1) := by decide +kernel
theorem dX5_init_21 : decode cX5_init 21 = .ok (.bipush 40, 2) := by decide +kernel
theorem dX5_init_23 : decode cX5_init 23 = .ok (.newarray .int, 2) := by decide +kernel
theorem dX5_init_25 : decode cX5_init 25 = .ok (.putfield 18, 3) := by decide +kernel
theorem dX5_init_28 : decode cX5_init 28 = .ok (.return_, 1) := by decide +kernel
theorem dX5_clear_0 : decode cX5_clear 0 = .ok (.aload_n 0, 1) := by decide +kernel
theorem dX5_clear_1 : decode cX5_clear 1 = .ok (.iconst 0, 1) := by decide +kernel
theorem dX5_clear_2 : decode cX5_clear 2 = .ok (.putfield 21, 3) := by decide +kernel
theorem dX5_clear_5 : decode cX5_clear 5 = .ok (.return_, 1) := by decide +kernel
theorem dX5_add_0 : decode cX5_add 0 = .ok (.aload_n 0, 1) := by decide +kernel
theorem dX5_add_1 : decode cX5_add 1 = .ok (.getfield 21, 3) := by decide +kernel
theorem dX5_add_4 : decode cX5_add 4 = .ok (.bipush 40, 2) := by decide +kernel
theorem dX5_add_6 : decode cX5_add 6 = .ok (.if_icmp .ge 49, 3) := by decide +kernel
theorem dX5_add_9 : decode cX5_add 9 = .ok (.aload_n 0, 1) := by decide +kernel
theorem dX5_add_10 : decode cX5_add 10 = .ok (.getfield 9, 3) := by decide +kernel
theorem dX5_add_13 : decode cX5_add 13 = .ok (.aload_n 0, 1) := by decide +kernel
theorem dX5_add_14 : decode cX5_add 14 = .ok (.getfield 21, 3) := by decide +kernel
theorem dX5_add_17 : decode cX5_add 17 = .ok (.iload_n 1, 1) := by decide +kernel
theorem dX5_add_18 : decode cX5_add 18 = .ok (.invokestatic 25, 3) := by decide +kernel
theorem dX5_add_21 : decode cX5_add 21 = .ok (.aload_n 0, 1) := by decide +kernel
theorem dX5_add_22 : decode cX5_add 22 = .ok (.getfield 15, 3) := by decide +kernel
theorem dX5_add_25 : decode cX5_add 25 = .ok (.aload_n 0, 1) := by decide +kernel
theorem dX5_add_26 : decode cX5_add 26 = .ok (.getfield 21, 3) := by decide +kernel
theorem dX5_add_29 : decode cX5_add 29 = .ok (.iload_n 2, 1) := by decide +kernel
theorem dX5_add_30 : decode cX5_add 30 = .ok (.invokestatic 25, 3) := by decide +kernel
theorem dX5_add_33 : decode cX5_add 33 = .ok (.aload_n 0, 1) := by decide +kernel
theorem dX5_add_34 : decode cX5_add 34 = .ok (.getfield 18, 3) := by decide +kernel
theorem dX5_add_37 : decode cX5_add 37 = .ok (.aload_n 0, 1) := by decide +kernel
theorem dX5_add_38 : decode cX5_add 38 = .ok (.getfield 21, 3) := by decide +kernel
theorem dX5_add_41 : decode cX5_add 41 = .ok (.iload_n 3, 1) := by decide +kernel
theorem dX5_add_42 : decode cX5_add 42 = .ok (.invokestatic 25, 3) := by decide +kernel
theorem dX5_add_45 : decode cX5_add 45 = .ok (.aload_n 0, 1) := by decide +kernel
theorem dX5_add_46 : decode cX5_add 46 = .ok (.dup, 1) := by decide +kernel
theorem dX5_add_47 : decode cX5_add 47 = .ok (.getfield 21, 3) := by decide +kernel
theorem dX5_add_50 : decode cX5_add 50 = .ok (.iconst 1, 1) := by decide +kernel
theorem dX5_add_51 : decode cX5_add 51 = .ok (.iadd, 1) := by decide +kernel
theorem dX5_add_52 : decode cX5_add 52 = .ok (.putfield 21, 3) := by decide +kernel
theorem dX5_add_55 : decode cX5_add 55 = .ok (.return_, 1) := by decide +kernel
theorem dX5_copyFrom_0 : decode cX5_copyFrom 0 = .ok (.aload_n 0, 1) := by decide +kernel
theorem dX5_copyFrom_1 : decode cX5_copyFrom 1 = .ok (.aload_n 1, 1) := by decide +kernel
theorem dX5_copyFrom_2 : decode cX5_copyFrom 2 = .ok (.getfield 21, 3) := by decide +kernel
theorem dX5_copyFrom_5 : decode cX5_copyFrom 5 = .ok (.putfield 21, 3) := by decide +kernel
theorem dX5_copyFrom_8 : decode cX5_copyFrom 8 = .ok (.aload_n 1, 1) := by decide +kernel
theorem dX5_copyFrom_9 : decode cX5_copyFrom 9 = .ok (.getfield 9, 3) := by decide +kernel
theorem dX5_copyFrom_12 : decode cX5_copyFrom 12 = .ok (.aload_n 0, 1) := by decide +kernel
theorem dX5_copyFrom_13 : decode cX5_copyFrom 13 = .ok (.getfield 9, 3) := by decide +kernel
theorem dX5_copyFrom_16 : decode cX5_copyFrom 16 = .ok (.invokestatic 29, 3) := by decide +kernel
theorem dX5_copyFrom_19 : decode cX5_copyFrom 19 = .ok (.aload_n 1, 1) := by decide +kernel
theorem dX5_copyFrom_20 : decode cX5_copyFrom 20 = .ok (.getfield 15, 3) := by decide +kernel
theorem dX5_copyFrom_23 : decode cX5_copyFrom 23 = .ok (.aload_n 0, 1) := by decide +kernel
theorem dX5_copyFrom_24 : decode cX5_copyFrom 24 = .ok (.getfield 15, 3) := by decide +kernel
theorem dX5_copyFrom_27 : decode cX5_copyFrom 27 = .ok (.invokestatic 29, 3) := by decide +kernel
theorem dX5_copyFrom_30 : decode cX5_copyFrom 30 = .ok (.aload_n 1, 1) := by decide +kernel
theorem dX5_copyFrom_31 : decode cX5_copyFrom 31 = .ok (.getfield 18, 3) := by decide +kernel
theorem dX5_copyFrom_34 : decode cX5_copyFrom 34 = .ok (.aload_n 0, 1) := by decide +kernel
theorem dX5_copyFrom_35 : decode cX5_copyFrom 35 = .ok (.getfield 18, 3) := by decide +kernel
theorem dX5_copyFrom_38 : decode cX5_copyFrom 38 = .ok (.invokestatic 29, 3) := by decide +kernel
theorem dX5_copyFrom_41 : decode cX5_copyFrom 41 = .ok (.return_, 1) := by decide +kernel
theorem dX5_carryOut_0 : decode cX5_carryOut 0 = .ok (.aload_n 0, 1) := by decide +kernel
theorem dX5_carryOut_1 : decode cX5_carryOut 1 = .ok (.getfield 9, 3) := by decide +kernel
theorem dX5_carryOut_4 : decode cX5_carryOut 4 = .ok (.iload_n 1, 1) := by decide +kernel
theorem dX5_carryOut_5 : decode cX5_carryOut 5 = .ok (.invokestatic 33, 3) := by decide +kernel
theorem dX5_carryOut_8 : decode cX5_carryOut 8 = .ok (.istore 4, 2) := by decide +kernel
theorem dX5_carryOut_10 : decode cX5_carryOut 10 = .ok (.aload_n 0, 1) := by decide +kernel
theorem dX5_carryOut_11 : decode cX5_carryOut 11 = .ok (.getfield 15, 3) := by decide +kernel
theorem dX5_carryOut_14 : decode cX5_carryOut 14 = .ok (.iload_n 1, 1) := by decide +kernel
theorem dX5_carryOut_15 : decode cX5_carryOut 15 = .ok (.invokestatic 33, 3) := by decide +kernel
theorem dX5_carryOut_18 : decode cX5_carryOut 18 = .ok (.istore 5, 2) := by decide +kernel
theorem dX5_carryOut_20 : decode cX5_carryOut 20 = .ok (.aload_n 0, 1) := by decide +kernel
theorem dX5_carryOut_21 : decode cX5_carryOut 21 = .ok (.getfield 18, 3) := by decide +kernel
theorem dX5_carryOut_24 : decode cX5_carryOut 24 = .ok (.iload_n 1, 1) := by decide +kernel
theorem dX5_carryOut_25 : decode cX5_carryOut 25 = .ok (.invokestatic 33, 3) := by decide +kernel
theorem dX5_carryOut_28 : decode cX5_carryOut 28 = .ok (.istore 6, 2) := by decide +kernel
theorem dX5_carryOut_30 : decode cX5_carryOut 30 = .ok (.iload 4, 2) := by decide +kernel
theorem dX5_carryOut_32 : decode cX5_carryOut 32 = .ok (.ifCond .ne 17, 3) := by decide +kernel
theorem dX5_carryOut_35 : decode cX5_carryOut 35 = .ok (.aload_n 2, 1) := by decide +kernel
theorem dX5_carryOut_36 : decode cX5_carryOut 36 = .ok (.aload_n 3, 1) := by decide +kernel
theorem dX5_carryOut_37 : decode cX5_carryOut 37 = .ok (.aload_n 3, 1) := by decide +kernel
theorem dX5_carryOut_38 : decode cX5_carryOut 38 = .ok (.aload_n 2, 1) := by decide +kernel
theorem dX5_carryOut_39 : decode cX5_carryOut 39 = .ok (.getfield 37, 3) := by decide +kernel
theorem dX5_carryOut_42 : decode cX5_carryOut 42 = .ok (.invokevirtual 42, 3) := by decide +kernel
theorem dX5_carryOut_45 : decode cX5_carryOut 45 = .ok (.invokevirtual 48, 3) := by decide +kernel
theorem dX5_carryOut_48 : decode cX5_carryOut 48 = .ok (.ireturn, 1) := by decide +kernel
theorem dX5_carryOut_49 : decode cX5_carryOut 49 = .ok (.iload 4, 2) := by decide +kernel
theorem dX5_carryOut_51 : decode cX5_carryOut 51 = .ok (.iconst 1, 1) := by decide +kernel
theorem dX5_carryOut_52 : decode cX5_carryOut 52 = .ok (.if_icmp .ne 13, 3) := by decide +kernel
theorem dX5_carryOut_55 : decode cX5_carryOut 55 = .ok (.aload_n 2, 1) := by decide +kernel
theorem dX5_carryOut_56 : decode cX5_carryOut 56 = .ok (.iload 5, 2) := by decide +kernel
theorem dX5_carryOut_58 : decode cX5_carryOut 58 = .ok (.iload 6, 2) := by decide +kernel
theorem dX5_carryOut_60 : decode cX5_carryOut 60 = .ok (.invokevirtual 52, 3) := by decide +kernel
theorem dX5_carryOut_63 : decode cX5_carryOut 63 = .ok (.iconst 0, 1) := by decide +kernel
theorem dX5_carryOut_64 : decode cX5_carryOut 64 = .ok (.ireturn, 1) := by decide +kernel
theorem dX5_carryOut_65 : decode cX5_carryOut 65 = .ok (.iload 4, 2) := by decide +kernel
theorem dX5_carryOut_67 : decode cX5_carryOut 67 = .ok (.iconst 2, 1) := by decide +kernel
theorem dX5_carryOut_68 : decode cX5_carryOut 68 = .ok (.if_icmp .ne 18, 3) := by decide +kernel
theorem dX5_carryOut_71 : decode cX5_carryOut 71 = .ok (.aload_n 2, 1) := by decide +kernel
theorem dX5_carryOut_72 : decode cX5_carryOut 72 = .ok (.iload 5, 2) := by decide +kernel
theorem dX5_carryOut_74 : decode cX5_carryOut 74 = .ok (.invokevirtual 56, 3) := by decide +kernel
theorem dX5_carryOut_77 : decode cX5_carryOut 77 = .ok (.ifCond .eq 7, 3) := by decide +kernel
theorem dX5_carryOut_80 : decode cX5_carryOut 80 = .ok (.iconst 0, 1) := by decide +kernel
theorem dX5_carryOut_81 : decode cX5_carryOut 81 = .ok (.goto 4, 3) := by decide +kernel
theorem dX5_carryOut_84 : decode cX5_carryOut 84 = .ok (.iconst (-1), 1) := by decide +kernel
theorem dX5_carryOut_85 : decode cX5_carryOut 85 = .ok (.ireturn, 1) := by decide +kernel
theorem dX5_carryOut_86 : decode cX5_carryOut 86 = .ok (.aload_n 2, 1) := by decide +kernel
theorem dX5_carryOut_87 : decode cX5_carryOut 87 = .ok (.iload 5, 2) := by decide +kernel
theorem dX5_carryOut_89 : decode cX5_carryOut 89 = .ok (.iload 6, 2) := by decide +kernel
theorem dX5_carryOut_91 : decode cX5_carryOut 91 = .ok (.invokevirtual 60, 3) := by decide +kernel
theorem dX5_carryOut_94 : decode cX5_carryOut 94 = .ok (.ifCond .ne 5, 3) := by decide +kernel
theorem dX5_carryOut_97 : decode cX5_carryOut 97 = .ok (.iconst (-1), 1) := by decide +kernel
theorem dX5_carryOut_98 : decode cX5_carryOut 98 = .ok (.ireturn, 1) := by decide +kernel
theorem dX5_carryOut_99 : decode cX5_carryOut 99 = .ok (.aload_n 2, 1) := by decide +kernel
theorem dX5_carryOut_100 : decode cX5_carryOut 100 = .ok (.iload 5, 2) := by decide +kernel
theorem dX5_carryOut_102 : decode cX5_carryOut 102 = .ok (.iload 6, 2) := by decide +kernel
theorem dX5_carryOut_104 : decode cX5_carryOut 104 = .ok (.invokevirtual 64, 3) := by decide +kernel
theorem dX5_carryOut_107 : decode cX5_carryOut 107 = .ok (.iconst 0, 1) := by decide +kernel
theorem dX5_carryOut_108 : decode cX5_carryOut 108 = .ok (.ireturn, 1) := by decide +kernel
theorem dX6_read_0 : decode cX6_read 0 = .ok (.aload_n 1, 1) := by decide +kernel
theorem dX6_read_1 : decode cX6_read 1 = .ok (.invokevirtual 9, 3) := by decide +kernel
theorem dX6_read_4 : decode cX6_read 4 = .ok (.aload_n 0, 1) := by decide +kernel
theorem dX6_read_5 : decode cX6_read 5 = .ok (.invokevirtual 14, 3) := by decide +kernel
theorem dX6_read_8 : decode cX6_read 8 = .ok (.iconst 0, 1) := by decide +kernel
theorem dX6_read_9 : decode cX6_read 9 = .ok (.istore_n 3, 1) := by decide +kernel
theorem dX6_read_10 : decode cX6_read 10 = .ok (.iload_n 3, 1) := by decide +kernel
theorem dX6_read_11 : decode cX6_read 11 = .ok (.bipush 40, 2) := by decide +kernel
theorem dX6_read_13 : decode cX6_read 13 = .ok (.if_icmp .gt 28, 3) := by decide +kernel
theorem dX6_read_16 : decode cX6_read 16 = .ok (.aload_n 0, 1) := by decide +kernel
theorem dX6_read_17 : decode cX6_read 17 = .ok (.invokevirtual 19, 3) := by decide +kernel
theorem dX6_read_20 : decode cX6_read 20 = .ok (.ifCond .eq 21, 3) := by decide +kernel
theorem dX6_read_23 : decode cX6_read 23 = .ok (.aload_n 0, 1) := by decide +kernel
theorem dX6_read_24 : decode cX6_read 24 = .ok (.aload_n 1, 1) := by decide +kernel
theorem dX6_read_25 : decode cX6_read 25 = .ok (.aload_n 2, 1) := by decide +kernel
theorem dX6_read_26 : decode cX6_read 26 = .ok (.invokestatic 23, 3) := by decide +kernel
theorem dX6_read_29 : decode cX6_read 29 = .ok (.aload_n 0, 1) := by decide +kernel
theorem dX6_read_30 : decode cX6_read 30 = .ok (.bipush 59, 2) := by decide +kernel
theorem dX6_read_32 : decode cX6_read 32 = .ok (.invokevirtual 29, 3) := by decide +kernel
theorem dX6_read_35 : decode cX6_read 35 = .ok (.iinc 3 1, 3) := by decide +kernel
theorem dX6_read_38 : decode cX6_read 38 = .ok (.goto (-28), 3) := by decide +kernel
theorem dX6_read_41 : decode cX6_read 41 = .ok (.aload_n 0, 1) := by decide +kernel
theorem dX6_read_42 : decode cX6_read 42 = .ok (.getfield 33, 3) := by decide +kernel
theorem dX6_read_45 : decode cX6_read 45 = .ok (.ireturn, 1) := by decide +kernel
theorem dX6_readLine_0 : decode cX6_readLine 0 = .ok (.aload_n 0, 1) := by decide +kernel
theorem dX6_readLine_1 : decode cX6_readLine 1 = .ok (.invokestatic 37, 3) := by decide +kernel
theorem dX6_readLine_4 : decode cX6_readLine 4 = .ok (.istore_n 3, 1) := by decide +kernel
theorem dX6_readLine_5 : decode cX6_readLine 5 = .ok (.iload_n 3, 1) := by decide +kernel
theorem dX6_readLine_6 : decode cX6_readLine 6 = .ok (.iconst (-1), 1) := by decide +kernel
theorem dX6_readLine_7 : decode cX6_readLine 7 = .ok (.if_icmp .ne 11, 3) := by decide +kernel
theorem dX6_readLine_10 : decode cX6_readLine 10 = .ok (.aload_n 0, 1) := by decide +kernel
theorem dX6_readLine_11 : decode cX6_readLine 11 = .ok (.iconst 1, 1) := by decide +kernel
theorem dX6_readLine_12 : decode cX6_readLine 12 = .ok (.invokevirtual 41, 3) := by decide +kernel
theorem dX6_readLine_15 : decode cX6_readLine 15 = .ok (.goto 17, 3) := by decide +kernel
theorem dX6_readLine_18 : decode cX6_readLine 18 = .ok (.aload_n 1, 1) := by decide +kernel
theorem dX6_readLine_19 : decode cX6_readLine 19 = .ok (.getfield 44, 3) := by decide +kernel
theorem dX6_readLine_22 : decode cX6_readLine 22 = .ok (.bipush 40, 2) := by decide +kernel
theorem dX6_readLine_24 : decode cX6_readLine 24 = .ok (.if_icmp .lt 8, 3) := by decide +kernel
theorem dX6_readLine_27 : decode cX6_readLine 27 = .ok (.aload_n 0, 1) := by decide +kernel
theorem dX6_readLine_28 : decode cX6_readLine 28 = .ok (.iconst 5, 1) := by decide +kernel
theorem dX6_readLine_29 : decode cX6_readLine 29 = .ok (.invokevirtual 41, 3) := by decide +kernel
theorem dX6_readLine_32 : decode cX6_readLine 32 = .ok (.aload_n 0, 1) := by decide +kernel
theorem dX6_readLine_33 : decode cX6_readLine 33 = .ok (.invokevirtual 47, 3) := by decide +kernel
theorem dX6_readLine_36 : decode cX6_readLine 36 = .ok (.iconst (-1), 1) := by decide +kernel
theorem dX6_readLine_37 : decode cX6_readLine 37 = .ok (.istore 4, 2) := by decide +kernel
theorem dX6_readLine_39 : decode cX6_readLine 39 = .ok (.iconst 0, 1) := by decide +kernel
theorem dX6_readLine_40 : decode cX6_readLine 40 = .ok (.istore 5, 2) := by decide +kernel
theorem dX6_readLine_42 : decode cX6_readLine 42 = .ok (.iload_n 3, 1) := by decide +kernel
theorem dX6_readLine_43 : decode cX6_readLine 43 = .ok (.ifCond .eq 14, 3) := by decide +kernel
theorem dX6_readLine_46 : decode cX6_readLine 46 = .ok (.aload_n 0, 1) := by decide +kernel
theorem dX6_readLine_47 : decode cX6_readLine 47 = .ok (.aload_n 2, 1) := by decide +kernel
theorem dX6_readLine_48 : decode cX6_readLine 48 = .ok (.invokevirtual 50, 3) := by decide +kernel
theorem dX6_readLine_51 : decode cX6_readLine 51 = .ok (.istore 4, 2) := by decide +kernel
theorem dX6_readLine_53 : decode cX6_readLine 53 = .ok (.aload_n 0, 1) := by decide +kernel
theorem dX6_readLine_54 : decode cX6_readLine 54 = .ok (.invokevirtual 47, 3) := by decide +kernel
theorem dX6_readLine_57 : decode cX6_readLine 57 = .ok (.iload_n 3, 1) := by decide +kernel
theorem dX6_readLine_58 : decode cX6_readLine 58 = .ok (.iconst 1, 1) := by decide +kernel
theorem dX6_readLine_59 : decode cX6_readLine 59 = .ok (.if_icmp .ne 15, 3) := by decide +kernel
theorem dX6_readLine_62 : decode cX6_readLine 62 = .ok (.aload_n 0, 1) := by decide +kernel
theorem dX6_readLine_63 : decode cX6_readLine 63 = .ok (.iconst 0, 1) := by decide +kernel
theorem dX6_readLine_64 : decode cX6_readLine 64 = .ok (.bipush 9, 2) := by decide +kernel
theorem dX6_readLine_66 : decode cX6_readLine 66 = .ok (.invokevirtual 54, 3) := by decide +kernel
theorem dX6_readLine_69 : decode cX6_readLine 69 = .ok (.istore 5, 2) := by decide +kernel
theorem dX6_readLine_71 : decode cX6_readLine 71 = .ok (.goto 17, 3) := by decide +kernel
theorem dX6_readLine_74 : decode cX6_readLine 74 = .ok (.iload_n 3, 1) := by decide +kernel
theorem dX6_readLine_75 : decode cX6_readLine 75 = .ok (.iconst 3, 1) := by decide +kernel
theorem dX6_readLine_76 : decode cX6_readLine 76 = .ok (.if_icmp .ne 12, 3) := by decide +kernel
theorem dX6_readLine_79 : decode cX6_readLine 79 = .ok (.aload_n 0, 1) := by decide +kernel
theorem dX6_readLine_80 : decode cX6_readLine 80 = .ok (.iconst 1, 1) := by decide +kernel
theorem dX6_readLine_81 : decode cX6_readLine 81 = .ok (.bipush 20, 2) := by decide +kernel
theorem dX6_readLine_83 : decode cX6_readLine 83 = .ok (.invokevirtual 54, 3) := by decide +kernel
theorem dX6_readLine_86 : decode cX6_readLine 86 = .ok (.istore 5, 2) := by decide +kernel
theorem dX6_readLine_88 : decode cX6_readLine 88 = .ok (.aload_n 0, 1) := by decide +kernel
theorem dX6_readLine_89 : decode cX6_readLine 89 = .ok (.getfield 33, 3) := by decide +kernel
theorem dX6_readLine_92 : decode cX6_readLine 92 = .ok (.ifCond .ne 12, 3) := by decide +kernel
theorem dX6_readLine_95 : decode cX6_readLine 95 = .ok (.aload_n 1, 1) := by decide +kernel
theorem dX6_readLine_96 : decode cX6_readLine 96 = .ok (.iload_n 3, 1) := by decide +kernel
theorem dX6_readLine_97 : decode cX6_readLine 97 = .ok (.iload 4, 2) := by decide +kernel
theorem dX6_readLine_99 : decode cX6_readLine 99 = .ok (.iload 5, 2) := by decide +kernel
theorem dX6_readLine_101 : decode cX6_readLine 101 = .ok (.invokevirtual 58, 3) := by decide +kernel
theorem dX6_readLine_104 : decode cX6_readLine 104 = .ok (.return_, 1) := by decide +kernel
theorem dX6_deedHere_0 : decode cX6_deedHere 0 = .ok (.aload_n 0, 1) := by decide +kernel
theorem dX6_deedHere_1 : decode cX6_deedHere 1 = .ok (.getstatic 62, 3) := by decide +kernel
theorem dX6_deedHere_4 : decode cX6_deedHere 4 = .ok (.invokevirtual 68, 3) := by decide +kernel
theorem dX6_deedHere_7 : decode cX6_deedHere 7 = .ok (.ifCond .eq 5, 3) := by decide +kernel
theorem dX6_deedHere_10 : decode cX6_deedHere 10 = .ok (.iconst 0, 1) := by decide +kernel
theorem dX6_deedHere_11 : decode cX6_deedHere 11 = .ok (.ireturn, 1) := by decide +kernel
theorem dX6_deedHere_12 : decode cX6_deedHere 12 = .ok (.aload_n 0, 1) := by decide +kernel
theorem dX6_deedHere_13 : decode cX6_deedHere 13 = .ok (.getstatic 72, 3) := by decide +kernel
theorem dX6_deedHere_16 : decode cX6_deedHere 16 = .ok (.invokevirtual 68, 3) := by decide +kernel
theorem dX6_deedHere_19 : decode cX6_deedHere 19 = .ok (.ifCond .eq 5, 3) := by decide +kernel
theorem dX6_deedHere_22 : decode cX6_deedHere 22 = .ok (.iconst 1, 1) := by decide +kernel
theorem dX6_deedHere_23 : decode cX6_deedHere 23 = .ok (.ireturn, 1) := by decide +kernel
theorem dX6_deedHere_24 : decode cX6_deedHere 24 = .ok (.aload_n 0, 1) := by decide +kernel
theorem dX6_deedHere_25 : decode cX6_deedHere 25 = .ok (.getstatic 75, 3) := by decide +kernel
theorem dX6_deedHere_28 : decode cX6_deedHere 28 = .ok (.invokevirtual 68, 3) := by decide +kernel
theorem dX6_deedHere_31 : decode cX6_deedHere 31 = .ok (.ifCond .eq 5, 3) := by decide +kernel
theorem dX6_deedHere_34 : decode cX6_deedHere 34 = .ok (.iconst 2, 1) := by decide +kernel
theorem dX6_deedHere_35 : decode cX6_deedHere 35 = .ok (.ireturn, 1) := by decide +kernel
theorem dX6_deedHere_36 : decode cX6_deedHere 36 = .ok (.aload_n 0, 1) := by decide +kernel
theorem dX6_deedHere_37 : decode cX6_deedHere 37 = .ok (.getstatic 78, 3) := by decide +kernel
theorem dX6_deedHere_40 : decode cX6_deedHere 40 = .ok (.invokevirtual 68, 3) := by decide +kernel
theorem dX6_deedHere_43 : decode cX6_deedHere 43 = .ok (.ifCond .eq 7, 3) := by decide +kernel
theorem dX6_deedHere_46 : decode cX6_deedHere 46 = .ok (.iconst 3, 1) := by decide +kernel
theorem dX6_deedHere_47 : decode cX6_deedHere 47 = .ok (.goto 4, 3) := by decide +kernel
theorem dX6_deedHere_50 : decode cX6_deedHere 50 = .ok (.iconst (-1), 1) := by decide +kernel
theorem dX6_deedHere_51 : decode cX6_deedHere 51 = .ok (.ireturn, 1) := by decide +kernel
theorem dX8_init_0 : decode cX8_init 0 = .ok (.aload_n 0, 1) := by decide +kernel
theorem dX8_init_1 : decode cX8_init 1 = .ok (.invokespecial 3, 3) := by decide +kernel
theorem dX8_init_4 : decode cX8_init 4 = .ok (.aload_n 0, 1) := by decide +kernel
theorem dX8_init_5 : decode cX8_init 5 = .ok (.bipush 6, 2) := by decide +kernel
theorem dX8_init_7 : decode cX8_init 7 = .ok (.newarray .long, 2) := by decide +kernel
theorem dX8_init_9 : decode cX8_init 9 = .ok (.putfield 9, 3) := by decide +kernel
theorem dX8_init_12 : decode cX8_init 12 = .ok (.aload_n 0, 1) := by decide +kernel
theorem dX8_init_13 : decode cX8_init 13 = .ok (.bipush 6, 2) := by decide +kernel
theorem dX8_init_15 : decode cX8_init 15 = .ok (.newarray .int, 2) := by decide +kernel
theorem dX8_init_17 : decode cX8_init 17 = .ok (.putfield 15, 3) := by decide +kernel
theorem dX8_init_20 : decode cX8_init 20 = .ok (.aload_n 0, 1) := by decide +kernel
theorem dX8_init_21 : decode cX8_init 21 = .ok (.bipush 6, 2) := by decide +kernel
theorem dX8_init_23 : decode cX8_init 23 = .ok (.newarray .int, 2) := by decide +kernel
theorem dX8_init_25 : decode cX8_init 25 = .ok (.putfield 19, 3) := by decide +kernel
theorem dX8_init_28 : decode cX8_init 28 = .ok (.aload_n 0, 1) := by decide +kernel
theorem dX8_init_29 : decode cX8_init 29 = .ok (.bipush 6, 2) := by decide +kernel
theorem dX8_init_31 : decode cX8_init 31 = .ok (.newarray .int, 2) := by decide +kernel
theorem dX8_init_33 : decode cX8_init 33 = .ok (.putfield 22, 3) := by decide +kernel
theorem dX8_init_36 : decode cX8_init 36 = .ok (.aload_n 0, 1) := by decide +kernel
theorem dX8_init_37 : decode cX8_init 37 = .ok (.bipush 6, 2) := by decide +kernel
theorem dX8_init_39 : decode cX8_init 39 = .ok (.newarray .int, 2) := by decide +kernel
theorem dX8_init_41 : decode cX8_init 41 = .ok (.putfield 25, 3) := by decide +kernel
theorem dX8_init_44 : decode cX8_init 44 = .ok (.aload_n 0, 1) := by decide +kernel
theorem dX8_init_45 : decode cX8_init 45 = .ok (.iconst 5, 1) := by decide +kernel
theorem dX8_init_46 : decode cX8_init 46 = .ok (.newarray .long, 2) := by decide +kernel
theorem dX8_init_48 : decode cX8_init 48 = .ok (.putfield 28, 3) := by decide +kernel
theorem dX8_init_51 : decode cX8_init 51 = .ok (.aload_n 0, 1) := by decide +kernel
theorem dX8_init_52 : decode cX8_init 52 = .ok (.iconst 5, 1) := by decide +kernel
theorem dX8_init_53 : decode cX8_init 53 = .ok (.newarray .int, 2) := by decide +kernel
theorem dX8_init_55 : decode cX8_init 55 = .ok (.putfield 31, 3) := by decide +kernel
theorem dX8_init_58 : decode cX8_init 58 = .ok (.aload_n 0, 1) := by decide +kernel
theorem dX8_init_59 : decode cX8_init 59 = .ok (.iconst 5, 1) := by decide +kernel
theorem dX8_init_60 : decode cX8_init 60 = .ok (.newarray .int, 2) := by decide +kernel
theorem dX8_init_62 : decode cX8_init 62 = .ok (.putfield 34, 3) := by decide +kernel
theorem dX8_init_65 : decode cX8_init 65 = .ok (.aload_n 0, 1) := by decide +kernel
theorem dX8_init_66 : decode cX8_init 66 = .ok (.bipush 12, 2) := by decide +kernel
theorem dX8_init_68 : decode cX8_init 68 = .ok (.newarray .int, 2) := by decide +kernel
theorem dX8_init_70 : decode cX8_init 70 = .ok (.putfield 37, 3) := by decide +kernel
theorem dX8_init_73 : decode cX8_init 73 = .ok (.aload_n 0, 1) := by decide +kernel
theorem dX8_init_74 : decode cX8_init 74 = .ok (.bipush 30, 2) := by decide +kernel
theorem dX8_init_76 : decode cX8_init 76 = .ok (.putfield 40, 3) := by decide +kernel
theorem dX8_init_79 : decode cX8_init 79 = .ok (.aload_n 0, 1) := by decide +kernel
theorem dX8_init_80 : decode cX8_init 80 = .ok (.new 44, 3) := by decide +kernel
theorem dX8_init_83 : decode cX8_init 83 = .ok (.dup, 1) := by decide +kernel
theorem dX8_init_84 : decode cX8_init 84 = .ok (.invokespecial 46, 3) := by decide +kernel
theorem dX8_init_87 : decode cX8_init 87 = .ok (.putfield 47, 3) := by decide +kernel
theorem dX8_init_90 : decode cX8_init 90 = .ok (.return_, 1) := by decide +kernel
theorem dX8_clear_0 : decode cX8_clear 0 = .ok (.aload_n 0, 1) := by decide +kernel
theorem dX8_clear_1 : decode cX8_clear 1 = .ok (.iconst 0, 1) := by decide +kernel
theorem dX8_clear_2 : decode cX8_clear 2 = .ok (.putfield 51, 3) := by decide +kernel
theorem dX8_clear_5 : decode cX8_clear 5 = .ok (.aload_n 0, 1) := by decide +kernel
theorem dX8_clear_6 : decode cX8_clear 6 = .ok (.iconst 0, 1) := by decide +kernel
theorem dX8_clear_7 : decode cX8_clear 7 = .ok (.putfield 54, 3) := by decide +kernel
theorem dX8_clear_10 : decode cX8_clear 10 = .ok (.aload_n 0, 1) := by decide +kernel
theorem dX8_clear_11 : decode cX8_clear 11 = .ok (.iconst 0, 1) := by decide +kernel
theorem dX8_clear_12 : decode cX8_clear 12 = .ok (.putfield 57, 3) := by decide +kernel
theorem dX8_clear_15 : decode cX8_clear 15 = .ok (.aload_n 0, 1) := by decide +kernel
theorem dX8_clear_16 : decode cX8_clear 16 = .ok (.iconst 0, 1) := by decide +kernel
theorem dX8_clear_17 : decode cX8_clear 17 = .ok (.putfield 40, 3) := by decide +kernel
theorem dX8_clear_20 : decode cX8_clear 20 = .ok (.aload_n 0, 1) := by decide +kernel
theorem dX8_clear_21 : decode cX8_clear 21 = .ok (.getfield 47, 3) := by decide +kernel
theorem dX8_clear_24 : decode cX8_clear 24 = .ok (.invokevirtual 60, 3) := by decide +kernel
theorem dX8_clear_27 : decode cX8_clear 27 = .ok (.return_, 1) := by decide +kernel
theorem dX8_fillUp_0 : decode cX8_fillUp 0 = .ok (.aload_n 0, 1) := by decide +kernel
theorem dX8_fillUp_1 : decode cX8_fillUp 1 = .ok (.getfield 40, 3) := by decide +kernel
theorem dX8_fillUp_4 : decode cX8_fillUp 4 = .ok (.ifCond .ne 9, 3) := by decide +kernel
theorem dX8_fillUp_7 : decode cX8_fillUp 7 = .ok (.aload_n 0, 1) := by decide +kernel
theorem dX8_fillUp_8 : decode cX8_fillUp 8 = .ok (.bipush 30, 2) := by decide +kernel
theorem dX8_fillUp_10 : decode cX8_fillUp 10 = .ok (.putfield 40, 3) := by decide +kernel
theorem dX8_fillUp_13 : decode cX8_fillUp 13 = .ok (.aload_n 0, 1) := by decide +kernel
theorem dX8_fillUp_14 : decode cX8_fillUp 14 = .ok (.getfield 47, 3) := by decide +kernel
theorem dX8_fillUp_17 : decode cX8_fillUp 17 = .ok (.getfield 63, 3) := by decide +kernel
theorem dX8_fillUp_20 : decode cX8_fillUp 20 = .ok (.ifCond .ne 11, 3) := by decide +kernel
theorem dX8_fillUp_23 : decode cX8_fillUp 23 = .ok (.aload_n 0, 1) := by decide +kernel
theorem dX8_fillUp_24 : decode cX8_fillUp 24 = .ok (.getfield 47, 3) := by decide +kernel
theorem dX8_fillUp_27 : decode cX8_fillUp 27 = .ok (.iconst (-1), 1) := by decide +kernel
theorem dX8_fillUp_28 : decode cX8_fillUp 28 = .ok (.invokevirtual 66, 3) := by decide +kernel
theorem dX8_fillUp_31 : decode cX8_fillUp 31 = .ok (.return_, 1) := by decide +kernel
theorem dX8_addShed_0 : decode cX8_addShed 0 = .ok (.aload_n 0, 1) := by decide +kernel
theorem dX8_addShed_1 : decode cX8_addShed 1 = .ok (.getfield 51, 3) := by decide +kernel
theorem dX8_addShed_4 : decode cX8_addShed 4 = .ok (.bipush 6, 2) := by decide +kernel
theorem dX8_addShed_6 : decode cX8_addShed 6 = .ok (.if_icmp .ge 75, 3) := by decide +kernel
theorem dX8_addShed_9 : decode cX8_addShed 9 = .ok (.aload_n 0, 1) := by decide +kernel
theorem dX8_addShed_10 : decode cX8_addShed 10 = .ok (.getfield 9, 3) := by decide +kernel
theorem dX8_addShed_13 : decode cX8_addShed 13 = .ok (.aload_n 0, 1) := by decide +kernel
theorem dX8_addShed_14 : decode cX8_addShed 14 = .ok (.getfield 51, 3) := by decide +kernel
theorem dX8_addShed_17 : decode cX8_addShed 17 = .ok (.lload_n 1, 1) := by decide +kernel
theorem dX8_addShed_18 : decode cX8_addShed 18 = .ok (.invokestatic 70, 3) := by decide +kernel
theorem dX8_addShed_21 : decode cX8_addShed 21 = .ok (.aload_n 0, 1) := by decide +kernel
theorem dX8_addShed_22 : decode cX8_addShed 22 = .ok (.getfield 15, 3) := by decide +kernel
theorem dX8_addShed_25 : decode cX8_addShed 25 = .ok (.aload_n 0, 1) := by decide +kernel
theorem dX8_addShed_26 : decode cX8_addShed 26 = .ok (.getfield 51, 3) := by decide +kernel
theorem dX8_addShed_29 : decode cX8_addShed 29 = .ok (.iload_n 3, 1) := by decide +kernel
theorem dX8_addShed_30 : decode cX8_addShed 30 = .ok (.invokestatic 74, 3) := by decide +kernel
theorem dX8_addShed_33 : decode cX8_addShed 33 = .ok (.aload_n 0, 1) := by decide +kernel
theorem dX8_addShed_34 : decode cX8_addShed 34 = .ok (.getfield 19, 3) := by decide +kernel
theorem dX8_addShed_37 : decode cX8_addShed 37 = .ok (.aload_n 0, 1) := by decide +kernel
theorem dX8_addShed_38 : decode cX8_addShed 38 = .ok (.getfield 51, 3) := by decide +kernel
theorem dX8_addShed_41 : decode cX8_addShed 41 = .ok (.iload 4, 2) := by decide +kernel
theorem dX8_addShed_43 : decode cX8_addShed 43 = .ok (.invokestatic 74, 3) := by decide +kernel
theorem dX8_addShed_46 : decode cX8_addShed 46 = .ok (.aload_n 0, 1) := by decide +kernel
theorem dX8_addShed_47 : decode cX8_addShed 47 = .ok (.getfield 22, 3) := by decide +kernel
theorem dX8_addShed_50 : decode cX8_addShed 50 = .ok (.aload_n 0, 1) := by decide +kernel
theorem dX8_addShed_51 : decode cX8_addShed 51 = .ok (.getfield 51, 3) := by decide +kernel
theorem dX8_addShed_54 : decode cX8_addShed 54 = .ok (.iload 5, 2) := by decide +kernel
theorem dX8_addShed_56 : decode cX8_addShed 56 = .ok (.invokestatic 74, 3) := by decide +kernel
theorem dX8_addShed_59 : decode cX8_addShed 59 = .ok (.aload_n 0, 1) := by decide +kernel
theorem dX8_addShed_60 : decode cX8_addShed 60 = .ok (.getfield 25, 3) := by decide +kernel
theorem dX8_addShed_63 : decode cX8_addShed 63 = .ok (.aload_n 0, 1) := by decide +kernel
theorem dX8_addShed_64 : decode cX8_addShed 64 = .ok (.getfield 51, 3) := by decide +kernel
theorem dX8_addShed_67 : decode cX8_addShed 67 = .ok (.iconst 0, 1) := by decide +kernel
theorem dX8_addShed_68 : decode cX8_addShed 68 = .ok (.invokestatic 74, 3) := by decide +kernel
theorem dX8_addShed_71 : decode cX8_addShed 71 = .ok (.aload_n 0, 1) := by decide +kernel
theorem dX8_addShed_72 : decode cX8_addShed 72 = .ok (.dup, 1) := by decide +kernel
theorem dX8_addShed_73 : decode cX8_addShed 73 = .ok (.getfield 51, 3) := by decide +kernel
theorem dX8_addShed_76 : decode cX8_addShed 76 = .ok (.iconst 1, 1) := by decide +kernel
theorem dX8_addShed_77 : decode cX8_addShed 77 = .ok (.iadd, 1) := by decide +kernel
theorem dX8_addShed_78 : decode cX8_addShed 78 = .ok (.putfield 51, 3) := by decide +kernel
theorem dX8_addShed_81 : decode cX8_addShed 81 = .ok (.return_, 1) := by decide +kernel
theorem dX8_addStage_0 : decode cX8_addStage 0 = .ok (.aload_n 0, 1) := by decide +kernel
theorem dX8_addStage_1 : decode cX8_addStage 1 = .ok (.getfield 54, 3) := by decide +kernel
theorem dX8_addStage_4 : decode cX8_addStage 4 = .ok (.iconst 5, 1) := by decide +kernel
theorem dX8_addStage_5 : decode cX8_addStage 5 = .ok (.if_icmp .ge 50, 3) := by decide +kernel
theorem dX8_addStage_8 : decode cX8_addStage 8 = .ok (.aload_n 0, 1) := by decide +kernel
theorem dX8_addStage_9 : decode cX8_addStage 9 = .ok (.getfield 28, 3) := by decide +kernel
theorem dX8_addStage_12 : decode cX8_addStage 12 = .ok (.aload_n 0, 1) := by decide +kernel
theorem dX8_addStage_13 : decode cX8_addStage 13 = .ok (.getfield 54, 3) := by decide +kernel
theorem dX8_addStage_16 : decode cX8_addStage 16 = .ok (.lload_n 1, 1) := by decide +kernel
theorem dX8_addStage_17 : decode cX8_addStage 17 = .ok (.invokestatic 70, 3) := by decide +kernel
theorem dX8_addStage_20 : decode cX8_addStage 20 = .ok (.aload_n 0, 1) := by decide +kernel
theorem dX8_addStage_21 : decode cX8_addStage 21 = .ok (.getfield 31, 3) := by decide +kernel
theorem dX8_addStage_24 : decode cX8_addStage 24 = .ok (.aload_n 0, 1) := by decide +kernel
theorem dX8_addStage_25 : decode cX8_addStage 25 = .ok (.getfield 54, 3) := by decide +kernel
theorem dX8_addStage_28 : decode cX8_addStage 28 = .ok (.iload_n 3, 1) := by decide +kernel
theorem dX8_addStage_29 : decode cX8_addStage 29 = .ok (.invokestatic 74, 3) := by decide +kernel
theorem dX8_addStage_32 : decode cX8_addStage 32 = .ok (.aload_n 0, 1) := by decide +kernel
theorem dX8_addStage_33 : decode cX8_addStage 33 = .ok (.getfield 34, 3) := by decide +kernel
theorem dX8_addStage_36 : decode cX8_addStage 36 = .ok (.aload_n 0, 1) := by decide +kernel
theorem dX8_addStage_37 : decode cX8_addStage 37 = .ok (.getfield 54, 3) := by decide +kernel
theorem dX8_addStage_40 : decode cX8_addStage 40 = .ok (.iload 4, 2) := by decide +kernel
theorem dX8_addStage_42 : decode cX8_addStage 42 = .ok (.invokestatic 74, 3) := by decide +kernel
theorem dX8_addStage_45 : decode cX8_addStage 45 = .ok (.aload_n 0, 1) := by decide +kernel
theorem dX8_addStage_46 : decode cX8_addStage 46 = .ok (.dup, 1) := by decide +kernel
theorem dX8_addStage_47 : decode cX8_addStage 47 = .ok (.getfield 54, 3) := by decide +kernel
theorem dX8_addStage_50 : decode cX8_addStage 50 = .ok (.iconst 1, 1) := by decide +kernel
theorem dX8_addStage_51 : decode cX8_addStage 51 = .ok (.iadd, 1) := by decide +kernel
theorem dX8_addStage_52 : decode cX8_addStage 52 = .ok (.putfield 54, 3) := by decide +kernel
theorem dX8_addStage_55 : decode cX8_addStage 55 = .ok (.return_, 1) := by decide +kernel
theorem dX8_addNear_0 : decode cX8_addNear 0 = .ok (.aload_n 0, 1) := by decide +kernel
theorem dX8_addNear_1 : decode cX8_addNear 1 = .ok (.getfield 25, 3) := by decide +kernel
theorem dX8_addNear_4 : decode cX8_addNear 4 = .ok (.iload_n 1, 1) := by decide +kernel
theorem dX8_addNear_5 : decode cX8_addNear 5 = .ok (.aload_n 0, 1) := by decide +kernel
theorem dX8_addNear_6 : decode cX8_addNear 6 = .ok (.getfield 25, 3) := by decide +kernel
theorem dX8_addNear_9 : decode cX8_addNear 9 = .ok (.iload_n 1, 1) := by decide +kernel
theorem dX8_addNear_10 : decode cX8_addNear 10 = .ok (.invokestatic 77, 3) := by decide +kernel
theorem dX8_addNear_13 : decode cX8_addNear 13 = .ok (.iconst 1, 1) := by decide +kernel
theorem dX8_addNear_14 : decode cX8_addNear 14 = .ok (.iload_n 2, 1) := by decide +kernel
theorem dX8_addNear_15 : decode cX8_addNear 15 = .ok (.ishl, 1) := by decide +kernel
theorem dX8_addNear_16 : decode cX8_addNear 16 = .ok (.ior, 1) := by decide +kernel
theorem dX8_addNear_17 : decode cX8_addNear 17 = .ok (.invokestatic 74, 3) := by decide +kernel
theorem dX8_addNear_20 : decode cX8_addNear 20 = .ok (.aload_n 0, 1) := by decide +kernel
theorem dX8_addNear_21 : decode cX8_addNear 21 = .ok (.getfield 25, 3) := by decide +kernel
theorem dX8_addNear_24 : decode cX8_addNear 24 = .ok (.iload_n 2, 1) := by decide +kernel
theorem dX8_addNear_25 : decode cX8_addNear 25 = .ok (.aload_n 0, 1) := by decide +kernel
theorem dX8_addNear_26 : decode cX8_addNear 26 = .ok (.getfield 25, 3) := by decide +kernel
theorem dX8_addNear_29 : decode cX8_addNear 29 = .ok (.iload_n 2, 1) := by decide +kernel
theorem dX8_addNear_30 : decode cX8_addNear 30 = .ok (.invokestatic 77, 3) := by decide +kernel
theorem dX8_addNear_33 : decode cX8_addNear 33 = .ok (.iconst 1, 1) := by decide +kernel
theorem dX8_addNear_34 : decode cX8_addNear 34 = .ok (.iload_n 1, 1) := by decide +kernel
theorem dX8_addNear_35 : decode cX8_addNear 35 = .ok (.ishl, 1) := by decide +kernel
theorem dX8_addNear_36 : decode cX8_addNear 36 = .ok (.ior, 1) := by decide +kernel
theorem dX8_addNear_37 : decode cX8_addNear 37 = .ok (.invokestatic 74, 3) := by decide +kernel
theorem dX8_addNear_40 : decode cX8_addNear 40 = .ok (.return_, 1) := by decide +kernel
theorem dX8_addFrost_0 : decode cX8_addFrost 0 = .ok (.aload_n 0, 1) := by decide +kernel
theorem dX8_addFrost_1 : decode cX8_addFrost 1 = .ok (.getfield 57, 3) := by decide +kernel
theorem dX8_addFrost_4 : decode cX8_addFrost 4 = .ok (.bipush 12, 2) := by decide +kernel
theorem dX8_addFrost_6 : decode cX8_addFrost 6 = .ok (.if_icmp .ge 25, 3) := by decide +kernel
theorem dX8_addFrost_9 : decode cX8_addFrost 9 = .ok (.aload_n 0, 1) := by decide +kernel
theorem dX8_addFrost_10 : decode cX8_addFrost 10 = .ok (.getfield 37, 3) := by decide +kernel
theorem dX8_addFrost_13 : decode cX8_addFrost 13 = .ok (.aload_n 0, 1) := by decide +kernel
theorem dX8_addFrost_14 : decode cX8_addFrost 14 = .ok (.getfield 57, 3) := by decide +kernel
theorem dX8_addFrost_17 : decode cX8_addFrost 17 = .ok (.iload_n 1, 1) := by decide +kernel
theorem dX8_addFrost_18 : decode cX8_addFrost 18 = .ok (.invokestatic 74, 3) := by decide +kernel
theorem dX8_addFrost_21 : decode cX8_addFrost 21 = .ok (.aload_n 0, 1) := by decide +kernel
theorem dX8_addFrost_22 : decode cX8_addFrost 22 = .ok (.dup, 1) := by decide +kernel
theorem dX8_addFrost_23 : decode cX8_addFrost 23 = .ok (.getfield 57, 3) := by decide +kernel
theorem dX8_addFrost_26 : decode cX8_addFrost 26 = .ok (.iconst 1, 1) := by decide +kernel
theorem dX8_addFrost_27 : decode cX8_addFrost 27 = .ok (.iadd, 1) := by decide +kernel
theorem dX8_addFrost_28 : decode cX8_addFrost 28 = .ok (.putfield 57, 3) := by decide +kernel
theorem dX8_addFrost_31 : decode cX8_addFrost 31 = .ok (.return_, 1) := by decide +kernel
theorem dX8_shedNamed_0 : decode cX8_shedNamed 0 = .ok (.iconst 0, 1) := by decide +kernel
theorem dX8_shedNamed_1 : decode cX8_shedNamed 1 = .ok (.istore_n 3, 1) := by decide +kernel
theorem dX8_shedNamed_2 : decode cX8_shedNamed 2 = .ok (.iload_n 3, 1) := by decide +kernel
theorem dX8_shedNamed_3 : decode cX8_shedNamed 3 = .ok (.aload_n 0, 1) := by decide +kernel
theorem dX8_shedNamed_4 : decode cX8_shedNamed 4 = .ok (.getfield 51, 3) := by decide +kernel
theorem dX8_shedNamed_7 : decode cX8_shedNamed 7 = .ok (.if_icmp .ge 24, 3) := by decide +kernel
theorem dX8_shedNamed_10 : decode cX8_shedNamed 10 = .ok (.aload_n 0, 1) := by decide +kernel
theorem dX8_shedNamed_11 : decode cX8_shedNamed 11 = .ok (.getfield 9, 3) := by decide +kernel
theorem dX8_shedNamed_14 : decode cX8_shedNamed 14 = .ok (.iload_n 3, 1) := by decide +kernel
theorem dX8_shedNamed_15 : decode cX8_shedNamed 15 = .ok (.invokestatic 81, 3) := by decide +kernel
theorem dX8_shedNamed_18 : decode cX8_shedNamed 18 = .ok (.lload_n 1, 1) := by decide +kernel
theorem dX8_shedNamed_19 : decode cX8_shedNamed 19 = .ok (.lcmp, 1) := by decide +kernel
theorem dX8_shedNamed_20 : decode cX8_shedNamed 20 = .ok (.ifCond .ne 5, 3) := by decide +kernel
theorem dX8_shedNamed_23 : decode cX8_shedNamed 23 = .ok (.iload_n 3, 1) := by decide +kernel
theorem dX8_shedNamed_24 : decode cX8_shedNamed 24 = .ok (.ireturn, 1) := by decide +kernel
theorem dX8_shedNamed_25 : decode cX8_shedNamed 25 = .ok (.iinc 3 1, 3) := by decide +kernel
theorem dX8_shedNamed_28 : decode cX8_shedNamed 28 = .ok (.goto (-26), 3) := by decide +kernel
theorem dX8_shedNamed_31 : decode cX8_shedNamed 31 = .ok (.iconst (-1), 1) := by decide +kernel
theorem dX8_shedNamed_32 : decode cX8_shedNamed 32 = .ok (.ireturn, 1) := by decide +kernel
theorem dX8_hasStageNamed_0 : decode cX8_hasStageNamed 0 = .ok (.iconst 0, 1) := by decide +kernel
theorem dX8_hasStageNamed_1 : decode cX8_hasStageNamed 1 = .ok (.istore_n 3, 1) := by decide +kernel
theorem dX8_hasStageNamed_2 : decode cX8_hasStageNamed 2 = .ok (.iload_n 3, 1) := by decide +kernel
theorem dX8_hasStageNamed_3 : decode cX8_hasStageNamed 3 = .ok (.aload_n 0, 1) := by decide +kernel
theorem dX8_hasStageNamed_4 : decode cX8_hasStageNamed 4 = .ok (.getfield 54, 3) := by decide +kernel
theorem dX8_hasStageNamed_7 : decode cX8_hasStageNamed 7 = .ok (.if_icmp .ge 24, 3) := by decide +kernel
theorem dX8_hasStageNamed_10 : decode cX8_hasStageNamed 10 = .ok (.aload_n 0, 1) := by decide +kernel
theorem dX8_hasStageNamed_11 : decode cX8_hasStageNamed 11 = .ok (.getfield 28, 3) := by decide +kernel
theorem dX8_hasStageNamed_14 : decode cX8_hasStageNamed 14 = .ok (.iload_n 3, 1) := by decide +kernel
theorem dX8_hasStageNamed_15 : decode cX8_hasStageNamed 15 = .ok (.invokestatic 81, 3) := by decide +kernel
theorem dX8_hasStageNamed_18 : decode cX8_hasStageNamed 18 = .ok (.lload_n 1, 1) := by decide +kernel
theorem dX8_hasStageNamed_19 : decode cX8_hasStageNamed 19 = .ok (.lcmp, 1) := by decide +kernel
theorem dX8_hasStageNamed_20 : decode cX8_hasStageNamed 20 = .ok (.ifCond .ne 5, 3) := by decide +kernel
theorem dX8_hasStageNamed_23 : decode cX8_hasStageNamed 23 = .ok (.iconst 1, 1) := by decide +kernel
theorem dX8_hasStageNamed_24 : decode cX8_hasStageNamed 24 = .ok (.ireturn, 1) := by decide +kernel
theorem dX8_hasStageNamed_25 : decode cX8_hasStageNamed 25 = .ok (.iinc 3 1, 3) := by decide +kernel
theorem dX8_hasStageNamed_28 : decode cX8_hasStageNamed 28 = .ok (.goto (-26), 3) := by decide +kernel
theorem dX8_hasStageNamed_31 : decode cX8_hasStageNamed 31 = .ok (.iconst 0, 1) := by decide +kernel
theorem dX8_hasStageNamed_32 : decode cX8_hasStageNamed 32 = .ok (.ireturn, 1) := by decide +kernel
theorem dX8_areNear_0 : decode cX8_areNear 0 = .ok (.aload_n 0, 1) := by decide +kernel
theorem dX8_areNear_1 : decode cX8_areNear 1 = .ok (.getfield 25, 3) := by decide +kernel
theorem dX8_areNear_4 : decode cX8_areNear 4 = .ok (.iload_n 1, 1) := by decide +kernel
theorem dX8_areNear_5 : decode cX8_areNear 5 = .ok (.invokestatic 77, 3) := by decide +kernel
theorem dX8_areNear_8 : decode cX8_areNear 8 = .ok (.iload_n 2, 1) := by decide +kernel
theorem dX8_areNear_9 : decode cX8_areNear 9 = .ok (.ishr, 1) := by decide +kernel
theorem dX8_areNear_10 : decode cX8_areNear 10 = .ok (.iconst 1, 1) := by decide +kernel
theorem dX8_areNear_11 : decode cX8_areNear 11 = .ok (.iand, 1) := by decide +kernel
theorem dX8_areNear_12 : decode cX8_areNear 12 = .ok (.iconst 1, 1) := by decide +kernel
theorem dX8_areNear_13 : decode cX8_areNear 13 = .ok (.if_icmp .ne 7, 3) := by decide +kernel
theorem dX8_areNear_16 : decode cX8_areNear 16 = .ok (.iconst 1, 1) := by decide +kernel
theorem dX8_areNear_17 : decode cX8_areNear 17 = .ok (.goto 4, 3) := by decide +kernel
theorem dX8_areNear_20 : decode cX8_areNear 20 = .ok (.iconst 0, 1) := by decide +kernel
theorem dX8_areNear_21 : decode cX8_areNear 21 = .ok (.ireturn, 1) := by decide +kernel
theorem dX8_withNear_0 : decode cX8_withNear 0 = .ok (.iload_n 1, 1) := by decide +kernel
theorem dX8_withNear_1 : decode cX8_withNear 1 = .ok (.istore_n 2, 1) := by decide +kernel
theorem dX8_withNear_2 : decode cX8_withNear 2 = .ok (.iconst 0, 1) := by decide +kernel
theorem dX8_withNear_3 : decode cX8_withNear 3 = .ok (.istore_n 3, 1) := by decide +kernel
theorem dX8_withNear_4 : decode cX8_withNear 4 = .ok (.iload_n 3, 1) := by decide +kernel
theorem dX8_withNear_5 : decode cX8_withNear 5 = .ok (.aload_n 0, 1) := by decide +kernel
theorem dX8_withNear_6 : decode cX8_withNear 6 = .ok (.getfield 51, 3) := by decide +kernel
theorem dX8_withNear_9 : decode cX8_withNear 9 = .ok (.if_icmp .ge 29, 3) := by decide +kernel
theorem dX8_withNear_12 : decode cX8_withNear 12 = .ok (.iload_n 1, 1) := by decide +kernel
theorem dX8_withNear_13 : decode cX8_withNear 13 = .ok (.iload_n 3, 1) := by decide +kernel
theorem dX8_withNear_14 : decode cX8_withNear 14 = .ok (.ishr, 1) := by decide +kernel
theorem dX8_withNear_15 : decode cX8_withNear 15 = .ok (.iconst 1, 1) := by decide +kernel
theorem dX8_withNear_16 : decode cX8_withNear 16 = .ok (.iand, 1) := by decide +kernel
theorem dX8_withNear_17 : decode cX8_withNear 17 = .ok (.iconst 1, 1) := by decide +kernel
theorem dX8_withNear_18 : decode cX8_withNear 18 = .ok (.if_icmp .ne 14, 3) := by decide +kernel
theorem dX8_withNear_21 : decode cX8_withNear 21 = .ok (.iload_n 2, 1) := by decide +kernel
theorem dX8_withNear_22 : decode cX8_withNear 22 = .ok (.aload_n 0, 1) := by decide +kernel
theorem dX8_withNear_23 : decode cX8_withNear 23 = .ok (.getfield 25, 3) := by decide +kernel
theorem dX8_withNear_26 : decode cX8_withNear 26 = .ok (.iload_n 3, 1) := by decide +kernel
theorem dX8_withNear_27 : decode cX8_withNear 27 = .ok (.invokestatic 77, 3) := by decide +kernel
theorem dX8_withNear_30 : decode cX8_withNear 30 = .ok (.ior, 1) := by decide +kernel
theorem dX8_withNear_31 : decode cX8_withNear 31 = .ok (.istore_n 2, 1) := by decide +kernel
theorem dX8_withNear_32 : decode cX8_withNear 32 = .ok (.iinc 3 1, 3) := by decide +kernel
theorem dX8_withNear_35 : decode cX8_withNear 35 = .ok (.goto (-31), 3) := by decide +kernel
theorem dX8_withNear_38 : decode cX8_withNear 38 = .ok (.iload_n 2, 1) := by decide +kernel
theorem dX8_withNear_39 : decode cX8_withNear 39 = .ok (.ireturn, 1) := by decide +kernel
theorem dX8_frostOf_0 : decode cX8_frostOf 0 = .ok (.aload_n 0, 1) := by decide +kernel
theorem dX8_frostOf_1 : decode cX8_frostOf 1 = .ok (.getfield 57, 3) := by decide +kernel
theorem dX8_frostOf_4 : decode cX8_frostOf 4 = .ok (.ifCond .le 19, 3) := by decide +kernel
theorem dX8_frostOf_7 : decode cX8_frostOf 7 = .ok (.aload_n 0, 1) := by decide +kernel
theorem dX8_frostOf_8 : decode cX8_frostOf 8 = .ok (.getfield 37, 3) := by decide +kernel
theorem dX8_frostOf_11 : decode cX8_frostOf 11 = .ok (.iload_n 1, 1) := by decide +kernel
theorem dX8_frostOf_12 : decode cX8_frostOf 12 = .ok (.aload_n 0, 1) := by decide +kernel
theorem dX8_frostOf_13 : decode cX8_frostOf 13 = .ok (.getfield 57, 3) := by decide +kernel
theorem dX8_frostOf_16 : decode cX8_frostOf 16 = .ok (.irem, 1) := by decide +kernel
theorem dX8_frostOf_17 : decode cX8_frostOf 17 = .ok (.invokestatic 77, 3) := by decide +kernel
theorem dX8_frostOf_20 : decode cX8_frostOf 20 = .ok (.goto 4, 3) := by decide +kernel
theorem dX8_frostOf_23 : decode cX8_frostOf 23 = .ok (.iconst 0, 1) := by decide +kernel
theorem dX8_frostOf_24 : decode cX8_frostOf 24 = .ok (.ireturn, 1) := by decide +kernel
theorem dX8_suits_0 : decode cX8_suits 0 = .ok (.iload_n 2, 1) := by decide +kernel
theorem dX8_suits_1 : decode cX8_suits 1 = .ok (.aload_n 0, 1) := by decide +kernel
theorem dX8_suits_2 : decode cX8_suits 2 = .ok (.getfield 31, 3) := by decide +kernel
theorem dX8_suits_5 : decode cX8_suits 5 = .ok (.iload_n 1, 1) := by decide +kernel
theorem dX8_suits_6 : decode cX8_suits 6 = .ok (.invokestatic 77, 3) := by decide +kernel
theorem dX8_suits_9 : decode cX8_suits 9 = .ok (.aload_n 0, 1) := by decide +kernel
theorem dX8_suits_10 : decode cX8_suits 10 = .ok (.getfield 34, 3) := by decide +kernel
theorem dX8_suits_13 : decode cX8_suits 13 = .ok (.iload_n 1, 1) := by decide +kernel
theorem dX8_suits_14 : decode cX8_suits 14 = .ok (.invokestatic 77, 3) := by decide +kernel
theorem dX8_suits_17 : decode cX8_suits 17 = .ok (.invokestatic 84, 3) := by decide +kernel
theorem dX8_suits_20 : decode cX8_suits 20 = .ok (.ireturn, 1) := by decide +kernel
theorem dX9_read_0 : decode cX9_read 0 = .ok (.aload_n 1, 1) := by decide +kernel
theorem dX9_read_1 : decode cX9_read 1 = .ok (.invokevirtual 9, 3) := by decide +kernel
theorem dX9_read_4 : decode cX9_read 4 = .ok (.aload_n 0, 1) := by decide +kernel
theorem dX9_read_5 : decode cX9_read 5 = .ok (.invokevirtual 14, 3) := by decide +kernel
theorem dX9_read_8 : decode cX9_read 8 = .ok (.iconst 0, 1) := by decide +kernel
theorem dX9_read_9 : decode cX9_read 9 = .ok (.istore_n 2, 1) := by decide +kernel
theorem dX9_read_10 : decode cX9_read 10 = .ok (.iload_n 2, 1) := by decide +kernel
theorem dX9_read_11 : decode cX9_read 11 = .ok (.sipush 1000, 3) := by decide +kernel
theorem dX9_read_14 : decode cX9_read 14 = .ok (.if_icmp .ge 159, 3) := by decide +kernel
theorem dX9_read_17 : decode cX9_read 17 = .ok (.aload_n 0, 1) := by decide +kernel
theorem dX9_read_18 : decode cX9_read 18 = .ok (.invokevirtual 19, 3) := by decide +kernel
theorem dX9_read_21 : decode cX9_read 21 = .ok (.ifCond .eq 152, 3) := by decide +kernel
theorem dX9_read_24 : decode cX9_read 24 = .ok (.aload_n 0, 1) := by decide +kernel
theorem dX9_read_25 : decode cX9_read 25 = .ok (.getstatic 23, 3) := by decide +kernel
theorem dX9_read_28 : decode cX9_read 28 = .ok (.invokevirtual 29, 3) := by decide +kernel
theorem dX9_read_31 : decode cX9_read 31 = .ok (.ifCond .eq 11, 3) := by decide +kernel
theorem dX9_read_34 : decode cX9_read 34 = .ok (.aload_n 0, 1) := by decide +kernel
theorem dX9_read_35 : decode cX9_read 35 = .ok (.aload_n 1, 1) := by decide +kernel
theorem dX9_read_36 : decode cX9_read 36 = .ok (.invokestatic 33, 3) := by decide +kernel
theorem dX9_read_39 : decode cX9_read 39 = .ok (.goto 122, 3) := by decide +kernel
theorem dX9_read_42 : decode cX9_read 42 = .ok (.aload_n 0, 1) := by decide +kernel
theorem dX9_read_43 : decode cX9_read 43 = .ok (.getstatic 39, 3) := by decide +kernel
theorem dX9_read_46 : decode cX9_read 46 = .ok (.invokevirtual 29, 3) := by decide +kernel
theorem dX9_read_49 : decode cX9_read 49 = .ok (.ifCond .eq 11, 3) := by decide +kernel
theorem dX9_read_52 : decode cX9_read 52 = .ok (.aload_n 0, 1) := by decide +kernel
theorem dX9_read_53 : decode cX9_read 53 = .ok (.aload_n 1, 1) := by decide +kernel
theorem dX9_read_54 : decode cX9_read 54 = .ok (.invokestatic 42, 3) := by decide +kernel
theorem dX9_read_57 : decode cX9_read 57 = .ok (.goto 104, 3) := by decide +kernel
theorem dX9_read_60 : decode cX9_read 60 = .ok (.aload_n 0, 1) := by decide +kernel
theorem dX9_read_61 : decode cX9_read 61 = .ok (.getstatic 45, 3) := by decide +kernel
theorem dX9_read_64 : decode cX9_read 64 = .ok (.invokevirtual 29, 3) := by decide +kernel
theorem dX9_read_67 : decode cX9_read 67 = .ok (.ifCond .eq 11, 3) := by decide +kernel
theorem dX9_read_70 : decode cX9_read 70 = .ok (.aload_n 0, 1) := by decide +kernel
theorem dX9_read_71 : decode cX9_read 71 = .ok (.aload_n 1, 1) := by decide +kernel
theorem dX9_read_72 : decode cX9_read 72 = .ok (.invokestatic 48, 3) := by decide +kernel
theorem dX9_read_75 : decode cX9_read 75 = .ok (.goto 86, 3) := by decide +kernel
theorem dX9_read_78 : decode cX9_read 78 = .ok (.aload_n 0, 1) := by decide +kernel
theorem dX9_read_79 : decode cX9_read 79 = .ok (.getstatic 51, 3) := by decide +kernel
theorem dX9_read_82 : decode cX9_read 82 = .ok (.invokevirtual 29, 3) := by decide +kernel
theorem dX9_read_85 : decode cX9_read 85 = .ok (.ifCond .eq 11, 3) := by decide +kernel
theorem dX9_read_88 : decode cX9_read 88 = .ok (.aload_n 0, 1) := by decide +kernel
theorem dX9_read_89 : decode cX9_read 89 = .ok (.aload_n 1, 1) := by decide +kernel
theorem dX9_read_90 : decode cX9_read 90 = .ok (.invokestatic 54, 3) := by decide +kernel
theorem dX9_read_93 : decode cX9_read 93 = .ok (.goto 68, 3) := by decide +kernel
theorem dX9_read_96 : decode cX9_read 96 = .ok (.aload_n 0, 1) := by decide +kernel
theorem dX9_read_97 : decode cX9_read 97 = .ok (.getstatic 57, 3) := by decide +kernel
theorem dX9_read_100 : decode cX9_read 100 = .ok (.invokevirtual 29, 3) := by decide +kernel
theorem dX9_read_103 : decode cX9_read 103 = .ok (.ifCond .eq 11, 3) := by decide +kernel
theorem dX9_read_106 : decode cX9_read 106 = .ok (.aload_n 0, 1) := by decide +kernel
theorem dX9_read_107 : decode cX9_read 107 = .ok (.aload_n 1, 1) := by decide +kernel
theorem dX9_read_108 : decode cX9_read 108 = .ok (.invokestatic 60, 3) := by decide +kernel
theorem dX9_read_111 : decode cX9_read 111 = .ok (.goto 50, 3) := by decide +kernel
theorem dX9_read_114 : decode cX9_read 114 = .ok (.aload_n 0, 1) := by decide +kernel
theorem dX9_read_115 : decode cX9_read 115 = .ok (.getstatic 63, 3) := by decide +kernel
theorem dX9_read_118 : decode cX9_read 118 = .ok (.invokevirtual 29, 3) := by decide +kernel
theorem dX9_read_121 : decode cX9_read 121 = .ok (.ifCond .eq 35, 3) := by decide +kernel
theorem dX9_read_124 : decode cX9_read 124 = .ok (.aload_n 1, 1) := by decide +kernel
theorem dX9_read_125 : decode cX9_read 125 = .ok (.getfield 66, 3) := by decide +kernel
theorem dX9_read_128 : decode cX9_read 128 = .ok (.getfield 70, 3) := by decide +kernel
theorem dX9_read_131 : decode cX9_read 131 = .ok (.ifCond .le 8, 3) := by decide +kernel
theorem dX9_read_134 : decode cX9_read 134 = .ok (.aload_n 0, 1) := by decide +kernel
theorem dX9_read_135 : decode cX9_read 135 = .ok (.iconst 3, 1) := by decide +kernel
theorem dX9_read_136 : decode cX9_read 136 = .ok (.invokevirtual 76, 3) := by decide +kernel
theorem dX9_read_139 : decode cX9_read 139 = .ok (.aload_n 0, 1) := by decide +kernel
theorem dX9_read_140 : decode cX9_read 140 = .ok (.invokevirtual 80, 3) := by decide +kernel
theorem dX9_read_143 : decode cX9_read 143 = .ok (.aload_n 0, 1) := by decide +kernel
theorem dX9_read_144 : decode cX9_read 144 = .ok (.aload_n 1, 1) := by decide +kernel
theorem dX9_read_145 : decode cX9_read 145 = .ok (.getfield 66, 3) := by decide +kernel
theorem dX9_read_148 : decode cX9_read 148 = .ok (.iconst 0, 1) := by decide +kernel
theorem dX9_read_149 : decode cX9_read 149 = .ok (.iconst 0, 1) := by decide +kernel
theorem dX9_read_150 : decode cX9_read 150 = .ok (.invokestatic 83, 3) := by decide +kernel
theorem dX9_read_153 : decode cX9_read 153 = .ok (.goto 8, 3) := by decide +kernel
theorem dX9_read_156 : decode cX9_read 156 = .ok (.aload_n 0, 1) := by decide +kernel
theorem dX9_read_157 : decode cX9_read 157 = .ok (.iconst 1, 1) := by decide +kernel
theorem dX9_read_158 : decode cX9_read 158 = .ok (.invokevirtual 76, 3) := by decide +kernel
theorem dX9_read_161 : decode cX9_read 161 = .ok (.aload_n 0, 1) := by decide +kernel
theorem dX9_read_162 : decode cX9_read 162 = .ok (.bipush 59, 2) := by decide +kernel
theorem dX9_read_164 : decode cX9_read 164 = .ok (.invokevirtual 87, 3) := by decide +kernel
theorem dX9_read_167 : decode cX9_read 167 = .ok (.iinc 2 1, 3) := by decide +kernel
theorem dX9_read_170 : decode cX9_read 170 = .ok (.goto (-160), 3) := by decide +kernel
theorem dX9_read_173 : decode cX9_read 173 = .ok (.aload_n 1, 1) := by decide +kernel
theorem dX9_read_174 : decode cX9_read 174 = .ok (.invokevirtual 90, 3) := by decide +kernel
theorem dX9_read_177 : decode cX9_read 177 = .ok (.aload_n 0, 1) := by decide +kernel
theorem dX9_read_178 : decode cX9_read 178 = .ok (.getfield 93, 3) := by decide +kernel
theorem dX9_read_181 : decode cX9_read 181 = .ok (.ireturn, 1) := by decide +kernel
theorem dX9_readShed_0 : decode cX9_readShed 0 = .ok (.aload_n 1, 1) := by decide +kernel
theorem dX9_readShed_1 : decode cX9_readShed 1 = .ok (.getfield 96, 3) := by decide +kernel
theorem dX9_readShed_4 : decode cX9_readShed 4 = .ok (.bipush 6, 2) := by decide +kernel
theorem dX9_readShed_6 : decode cX9_readShed 6 = .ok (.if_icmp .lt 8, 3) := by decide +kernel
theorem dX9_readShed_9 : decode cX9_readShed 9 = .ok (.aload_n 0, 1) := by decide +kernel
theorem dX9_readShed_10 : decode cX9_readShed 10 = .ok (.iconst 5, 1) := by decide +kernel
theorem dX9_readShed_11 : decode cX9_readShed 11 = .ok (.invokevirtual 76, 3) := by decide +kernel
theorem dX9_readShed_14 : decode cX9_readShed 14 = .ok (.aload_n 0, 1) := by decide +kernel
theorem dX9_readShed_15 : decode cX9_readShed 15 = .ok (.invokevirtual 80, 3) := by decide +kernel
theorem dX9_readShed_18 : decode cX9_readShed 18 = .ok (.aload_n 0, 1) := by decide +kernel
theorem dX9_readShed_19 : decode cX9_readShed 19 = .ok (.aload_n 1, 1) := by decide +kernel
theorem dX9_readShed_20 : decode cX9_readShed 20 = .ok (.invokevirtual 99, 3) := by decide +kernel
theorem dX9_readShed_23 : decode cX9_readShed 23 = .ok (.lstore_n 2, 1) := by decide +kernel
theorem dX9_readShed_24 : decode cX9_readShed 24 = .ok (.aload_n 0, 1) := by decide +kernel
theorem dX9_readShed_25 : decode cX9_readShed 25 = .ok (.invokestatic 103, 3) := by decide +kernel
theorem dX9_readShed_28 : decode cX9_readShed 28 = .ok (.istore 4, 2) := by decide +kernel
theorem dX9_readShed_30 : decode cX9_readShed 30 = .ok (.aload_n 0, 1) := by decide +kernel
theorem dX9_readShed_31 : decode cX9_readShed 31 = .ok (.getstatic 107, 3) := by decide +kernel
theorem dX9_readShed_34 : decode cX9_readShed 34 = .ok (.invokevirtual 110, 3) := by decide +kernel
theorem dX9_readShed_37 : decode cX9_readShed 37 = .ok (.aload_n 0, 1) := by decide +kernel
theorem dX9_readShed_38 : decode cX9_readShed 38 = .ok (.iconst 0, 1) := by decide +kernel
theorem dX9_readShed_39 : decode cX9_readShed 39 = .ok (.bipush 9, 2) := by decide +kernel
theorem dX9_readShed_41 : decode cX9_readShed 41 = .ok (.invokevirtual 114, 3) := by decide +kernel
theorem dX9_readShed_44 : decode cX9_readShed 44 = .ok (.istore 5, 2) := by decide +kernel
theorem dX9_readShed_46 : decode cX9_readShed 46 = .ok (.aload_n 0, 1) := by decide +kernel
theorem dX9_readShed_47 : decode cX9_readShed 47 = .ok (.getstatic 118, 3) := by decide +kernel
theorem dX9_readShed_50 : decode cX9_readShed 50 = .ok (.invokevirtual 110, 3) := by decide +kernel
theorem dX9_readShed_53 : decode cX9_readShed 53 = .ok (.aload_n 0, 1) := by decide +kernel
theorem dX9_readShed_54 : decode cX9_readShed 54 = .ok (.iconst 1, 1) := by decide +kernel
theorem dX9_readShed_55 : decode cX9_readShed 55 = .ok (.bipush 20, 2) := by decide +kernel
theorem dX9_readShed_57 : decode cX9_readShed 57 = .ok (.invokevirtual 114, 3) := by decide +kernel
theorem dX9_readShed_60 : decode cX9_readShed 60 = .ok (.istore 6, 2) := by decide +kernel
theorem dX9_readShed_62 : decode cX9_readShed 62 = .ok (.aload_n 0, 1) := by decide +kernel
theorem dX9_readShed_63 : decode cX9_readShed 63 = .ok (.getfield 93, 3) := by decide +kernel
theorem dX9_readShed_66 : decode cX9_readShed 66 = .ok (.ifCond .ne 14, 3) := by decide +kernel
theorem dX9_readShed_69 : decode cX9_readShed 69 = .ok (.aload_n 1, 1) := by decide +kernel
theorem dX9_readShed_70 : decode cX9_readShed 70 = .ok (.lload_n 2, 1) := by decide +kernel
theorem dX9_readShed_71 : decode cX9_readShed 71 = .ok (.iload 4, 2) := by decide +kernel
theorem dX9_readShed_73 : decode cX9_readShed 73 = .ok (.iload 5, 2) := by decide +kernel
theorem dX9_readShed_75 : decode cX9_readShed 75 = .ok (.iload 6, 2) := by decide +kernel
theorem dX9_readShed_77 : decode cX9_readShed 77 = .ok (.invokevirtual 121, 3) := by decide +kernel
theorem dX9_readShed_80 : decode cX9_readShed 80 = .ok (.return_, 1) := by decide +kernel
theorem dX9_takeKind_0 : decode cX9_takeKind 0 = .ok (.iconst (-1), 1) := by decide +kernel
theorem dX9_takeKind_1 : decode cX9_takeKind 1 = .ok (.istore_n 1, 1) := by decide +kernel
theorem dX9_takeKind_2 : decode cX9_takeKind 2 = .ok (.aload_n 0, 1) := by decide +kernel
theorem dX9_takeKind_3 : decode cX9_takeKind 3 = .ok (.getstatic 125, 3) := by decide +kernel
theorem dX9_takeKind_6 : decode cX9_takeKind 6 = .ok (.invokevirtual 29, 3) := by decide +kernel
theorem dX9_takeKind_9 : decode cX9_takeKind 9 = .ok (.ifCond .eq 8, 3) := by decide +kernel
theorem dX9_takeKind_12 : decode cX9_takeKind 12 = .ok (.iconst 0, 1) := by decide +kernel
theorem dX9_takeKind_13 : decode cX9_takeKind 13 = .ok (.istore_n 1, 1) := by decide +kernel
theorem dX9_takeKind_14 : decode cX9_takeKind 14 = .ok (.goto 53, 3) := by decide +kernel
theorem dX9_takeKind_17 : decode cX9_takeKind 17 = .ok (.aload_n 0, 1) := by decide +kernel
theorem dX9_takeKind_18 : decode cX9_takeKind 18 = .ok (.getstatic 128, 3) := by decide +kernel
theorem dX9_takeKind_21 : decode cX9_takeKind 21 = .ok (.invokevirtual 29, 3) := by decide +kernel
theorem dX9_takeKind_24 : decode cX9_takeKind 24 = .ok (.ifCond .eq 8, 3) := by decide +kernel
theorem dX9_takeKind_27 : decode cX9_takeKind 27 = .ok (.iconst 1, 1) := by decide +kernel
theorem dX9_takeKind_28 : decode cX9_takeKind 28 = .ok (.istore_n 1, 1) := by decide +kernel
theorem dX9_takeKind_29 : decode cX9_takeKind 29 = .ok (.goto 38, 3) := by decide +kernel
theorem dX9_takeKind_32 : decode cX9_takeKind 32 = .ok (.aload_n 0, 1) := by decide +kernel
theorem dX9_takeKind_33 : decode cX9_takeKind 33 = .ok (.getstatic 131, 3) := by decide +kernel
theorem dX9_takeKind_36 : decode cX9_takeKind 36 = .ok (.invokevirtual 29, 3) := by decide +kernel
theorem dX9_takeKind_39 : decode cX9_takeKind 39 = .ok (.ifCond .eq 8, 3) := by decide +kernel
theorem dX9_takeKind_42 : decode cX9_takeKind 42 = .ok (.iconst 2, 1) := by decide +kernel
theorem dX9_takeKind_43 : decode cX9_takeKind 43 = .ok (.istore_n 1, 1) := by decide +kernel
theorem dX9_takeKind_44 : decode cX9_takeKind 44 = .ok (.goto 23, 3) := by decide +kernel
theorem dX9_takeKind_47 : decode cX9_takeKind 47 = .ok (.aload_n 0, 1) := by decide +kernel
theorem dX9_takeKind_48 : decode cX9_takeKind 48 = .ok (.getstatic 134, 3) := by decide +kernel
theorem dX9_takeKind_51 : decode cX9_takeKind 51 = .ok (.invokevirtual 29, 3) := by decide +kernel
theorem dX9_takeKind_54 : decode cX9_takeKind 54 = .ok (.ifCond .eq 8, 3) := by decide +kernel
theorem dX9_takeKind_57 : decode cX9_takeKind 57 = .ok (.iconst 3, 1) := by decide +kernel
theorem dX9_takeKind_58 : decode cX9_takeKind 58 = .ok (.istore_n 1, 1) := by decide +kernel
theorem dX9_takeKind_59 : decode cX9_takeKind 59 = .ok (.goto 8, 3) := by decide +kernel
theorem dX9_takeKind_62 : decode cX9_takeKind 62 = .ok (.aload_n 0, 1) := by decide +kernel
theorem dX9_takeKind_63 : decode cX9_takeKind 63 = .ok (.iconst 1, 1) := by decide +kernel
theorem dX9_takeKind_64 : decode cX9_takeKind 64 = .ok (.invokevirtual 76, 3) := by decide +kernel
theorem dX9_takeKind_67 : decode cX9_takeKind 67 = .ok (.aload_n 0, 1) := by decide +kernel
theorem dX9_takeKind_68 : decode cX9_takeKind 68 = .ok (.invokevirtual 80, 3) := by decide +kernel
theorem dX9_takeKind_71 : decode cX9_takeKind 71 = .ok (.iload_n 1, 1) := by decide +kernel
theorem dX9_takeKind_72 : decode cX9_takeKind 72 = .ok (.ireturn, 1) := by decide +kernel
theorem dX9_readNear_0 : decode cX9_readNear 0 = .ok (.aload_n 0, 1) := by decide +kernel
theorem dX9_readNear_1 : decode cX9_readNear 1 = .ok (.invokevirtual 80, 3) := by decide +kernel
theorem dX9_readNear_4 : decode cX9_readNear 4 = .ok (.aload_n 0, 1) := by decide +kernel
theorem dX9_readNear_5 : decode cX9_readNear 5 = .ok (.aload_n 1, 1) := by decide +kernel
theorem dX9_readNear_6 : decode cX9_readNear 6 = .ok (.invokevirtual 137, 3) := by decide +kernel
theorem dX9_readNear_9 : decode cX9_readNear 9 = .ok (.istore_n 2, 1) := by decide +kernel
theorem dX9_readNear_10 : decode cX9_readNear 10 = .ok (.aload_n 0, 1) := by decide +kernel
theorem dX9_readNear_11 : decode cX9_readNear 11 = .ok (.invokevirtual 80, 3) := by decide +kernel
theorem dX9_readNear_14 : decode cX9_readNear 14 = .ok (.aload_n 0, 1) := by decide +kernel
theorem dX9_readNear_15 : decode cX9_readNear 15 = .ok (.aload_n 1, 1) := by decide +kernel
theorem dX9_readNear_16 : decode cX9_readNear 16 = .ok (.invokevirtual 137, 3) := by decide +kernel
theorem dX9_readNear_19 : decode cX9_readNear 19 = .ok (.istore_n 3, 1) := by decide +kernel
theorem dX9_readNear_20 : decode cX9_readNear 20 = .ok (.iload_n 2, 1) := by decide +kernel
theorem dX9_readNear_21 : decode cX9_readNear 21 = .ok (.iload_n 3, 1) := by decide +kernel
theorem dX9_readNear_22 : decode cX9_readNear 22 = .ok (.if_icmp .eq 12, 3) := by decide +kernel
theorem dX9_readNear_25 : decode cX9_readNear 25 = .ok (.aload_n 1, 1) := by decide +kernel
theorem dX9_readNear_26 : decode cX9_readNear 26 = .ok (.iload_n 2, 1) := by decide +kernel
theorem dX9_readNear_27 : decode cX9_readNear 27 = .ok (.iload_n 3, 1) := by decide +kernel
theorem dX9_readNear_28 : decode cX9_readNear 28 = .ok (.invokevirtual 141, 3) := by decide +kernel
theorem dX9_readNear_31 : decode cX9_readNear 31 = .ok (.ifCond .eq 8, 3) := by decide +kernel
theorem dX9_readNear_34 : decode cX9_readNear 34 = .ok (.aload_n 0, 1) := by decide +kernel
theorem dX9_readNear_35 : decode cX9_readNear 35 = .ok (.iconst 3, 1) := by decide +kernel
theorem dX9_readNear_36 : decode cX9_readNear 36 = .ok (.invokevirtual 76, 3) := by decide +kernel
theorem dX9_readNear_39 : decode cX9_readNear 39 = .ok (.aload_n 0, 1) := by decide +kernel
theorem dX9_readNear_40 : decode cX9_readNear 40 = .ok (.invokevirtual 80, 3) := by decide +kernel
theorem dX9_readNear_43 : decode cX9_readNear 43 = .ok (.aload_n 0, 1) := by decide +kernel
theorem dX9_readNear_44 : decode cX9_readNear 44 = .ok (.getfield 93, 3) := by decide +kernel
theorem dX9_readNear_47 : decode cX9_readNear 47 = .ok (.ifCond .ne 9, 3) := by decide +kernel
theorem dX9_readNear_50 : decode cX9_readNear 50 = .ok (.aload_n 1, 1) := by decide +kernel
theorem dX9_readNear_51 : decode cX9_readNear 51 = .ok (.iload_n 2, 1) := by decide +kernel
theorem dX9_readNear_52 : decode cX9_readNear 52 = .ok (.iload_n 3, 1) := by decide +kernel
theorem dX9_readNear_53 : decode cX9_readNear 53 = .ok (.invokevirtual 145, 3) := by decide +kernel
theorem dX9_readNear_56 : decode cX9_readNear 56 = .ok (.return_, 1) := by decide +kernel
theorem dX9_readStage_0 : decode cX9_readStage 0 = .ok (.aload_n 1, 1) := by decide +kernel
theorem dX9_readStage_1 : decode cX9_readStage 1 = .ok (.getfield 149, 3) := by decide +kernel
theorem dX9_readStage_4 : decode cX9_readStage 4 = .ok (.iconst 5, 1) := by decide +kernel
theorem dX9_readStage_5 : decode cX9_readStage 5 = .ok (.if_icmp .lt 8, 3) := by decide +kernel
theorem dX9_readStage_8 : decode cX9_readStage 8 = .ok (.aload_n 0, 1) := by decide +kernel
theorem dX9_readStage_9 : decode cX9_readStage 9 = .ok (.iconst 5, 1) := by decide +kernel
theorem dX9_readStage_10 : decode cX9_readStage 10 = .ok (.invokevirtual 76, 3) := by decide +kernel
theorem dX9_readStage_13 : decode cX9_readStage 13 = .ok (.aload_n 0, 1) := by decide +kernel
theorem dX9_readStage_14 : decode cX9_readStage 14 = .ok (.invokevirtual 80, 3) := by decide +kernel
theorem dX9_readStage_17 : decode cX9_readStage 17 = .ok (.aload_n 0, 1) := by decide +kernel
theorem dX9_readStage_18 : decode cX9_readStage 18 = .ok (.aload_n 1, 1) := by decide +kernel
theorem dX9_readStage_19 : decode cX9_readStage 19 = .ok (.invokevirtual 99, 3) := by decide +kernel
theorem dX9_readStage_22 : decode cX9_readStage 22 = .ok (.lstore_n 2, 1) := by decide +kernel
theorem dX9_readStage_23 : decode cX9_readStage 23 = .ok (.aload_n 0, 1) := by decide +kernel
theorem dX9_readStage_24 : decode cX9_readStage 24 = .ok (.getstatic 152, 3) := by decide +kernel
theorem dX9_readStage_27 : decode cX9_readStage 27 = .ok (.invokevirtual 110, 3) := by decide +kernel
theorem dX9_readStage_30 : decode cX9_readStage 30 = .ok (.aload_n 0, 1) := by decide +kernel
theorem dX9_readStage_31 : decode cX9_readStage 31 = .ok (.iconst 0, 1) := by decide +kernel
theorem dX9_readStage_32 : decode cX9_readStage 32 = .ok (.bipush 60, 2) := by decide +kernel
theorem dX9_readStage_34 : decode cX9_readStage 34 = .ok (.invokevirtual 114, 3) := by decide +kernel
theorem dX9_readStage_37 : decode cX9_readStage 37 = .ok (.istore 4, 2) := by decide +kernel
theorem dX9_readStage_39 : decode cX9_readStage 39 = .ok (.aload_n 0, 1) := by decide +kernel
theorem dX9_readStage_40 : decode cX9_readStage 40 = .ok (.getstatic 155, 3) := by decide +kernel
theorem dX9_readStage_43 : decode cX9_readStage 43 = .ok (.invokevirtual 110, 3) := by decide +kernel
theorem dX9_readStage_46 : decode cX9_readStage 46 = .ok (.aload_n 0, 1) := by decide +kernel
theorem dX9_readStage_47 : decode cX9_readStage 47 = .ok (.iload 4, 2) := by decide +kernel
theorem dX9_readStage_49 : decode cX9_readStage 49 = .ok (.bipush 99, 2) := by decide +kernel
theorem dX9_readStage_51 : decode cX9_readStage 51 = .ok (.invokevirtual 114, 3) := by decide +kernel
theorem dX9_readStage_54 : decode cX9_readStage 54 = .ok (.istore 5, 2) := by decide +kernel
theorem dX9_readStage_56 : decode cX9_readStage 56 = .ok (.aload_n 0, 1) := by decide +kernel
theorem dX9_readStage_57 : decode cX9_readStage 57 = .ok (.getfield 93, 3) := by decide +kernel
theorem dX9_readStage_60 : decode cX9_readStage 60 = .ok (.ifCond .ne 12, 3) := by decide +kernel
theorem dX9_readStage_63 : decode cX9_readStage 63 = .ok (.aload_n 1, 1) := by decide +kernel
theorem dX9_readStage_64 : decode cX9_readStage 64 = .ok (.lload_n 2, 1) := by decide +kernel
theorem dX9_readStage_65 : decode cX9_readStage 65 = .ok (.iload 4, 2) := by decide +kernel
theorem dX9_readStage_67 : decode cX9_readStage 67 = .ok (.iload 5, 2) := by decide +kernel
theorem dX9_readStage_69 : decode cX9_readStage 69 = .ok (.invokevirtual 158, 3) := by decide +kernel
theorem dX9_readStage_72 : decode cX9_readStage 72 = .ok (.return_, 1) := by decide +kernel
theorem dX9_readFrost_0 : decode cX9_readFrost 0 = .ok (.aload_n 1, 1) := by decide +kernel
theorem dX9_readFrost_1 : decode cX9_readFrost 1 = .ok (.getfield 162, 3) := by decide +kernel
theorem dX9_readFrost_4 : decode cX9_readFrost 4 = .ok (.ifCond .le 8, 3) := by decide +kernel
theorem dX9_readFrost_7 : decode cX9_readFrost 7 = .ok (.aload_n 0, 1) := by decide +kernel
theorem dX9_readFrost_8 : decode cX9_readFrost 8 = .ok (.iconst 3, 1) := by decide +kernel
theorem dX9_readFrost_9 : decode cX9_readFrost 9 = .ok (.invokevirtual 76, 3) := by decide +kernel
theorem dX9_readFrost_12 : decode cX9_readFrost 12 = .ok (.aload_n 0, 1) := by decide +kernel
theorem dX9_readFrost_13 : decode cX9_readFrost 13 = .ok (.invokevirtual 80, 3) := by decide +kernel
theorem dX9_readFrost_16 : decode cX9_readFrost 16 = .ok (.aload_n 1, 1) := by decide +kernel
theorem dX9_readFrost_17 : decode cX9_readFrost 17 = .ok (.aload_n 0, 1) := by decide +kernel
theorem dX9_readFrost_18 : decode cX9_readFrost 18 = .ok (.iconst 0, 1) := by decide +kernel
theorem dX9_readFrost_19 : decode cX9_readFrost 19 = .ok (.bipush 9, 2) := by decide +kernel
theorem dX9_readFrost_21 : decode cX9_readFrost 21 = .ok (.invokevirtual 114, 3) := by decide +kernel
theorem dX9_readFrost_24 : decode cX9_readFrost 24 = .ok (.invokevirtual 165, 3) := by decide +kernel
theorem dX9_readFrost_27 : decode cX9_readFrost 27 = .ok (.iconst 1, 1) := by decide +kernel
theorem dX9_readFrost_28 : decode cX9_readFrost 28 = .ok (.istore_n 2, 1) := by decide +kernel
theorem dX9_readFrost_29 : decode cX9_readFrost 29 = .ok (.iload_n 2, 1) := by decide +kernel
theorem dX9_readFrost_30 : decode cX9_readFrost 30 = .ok (.bipush 12, 2) := by decide +kernel
theorem dX9_readFrost_32 : decode cX9_readFrost 32 = .ok (.if_icmp .gt 51, 3) := by decide +kernel
theorem dX9_readFrost_35 : decode cX9_readFrost 35 = .ok (.aload_n 0, 1) := by decide +kernel
theorem dX9_readFrost_36 : decode cX9_readFrost 36 = .ok (.invokevirtual 168, 3) := by decide +kernel
theorem dX9_readFrost_39 : decode cX9_readFrost 39 = .ok (.ifCond .eq 44, 3) := by decide +kernel
theorem dX9_readFrost_42 : decode cX9_readFrost 42 = .ok (.iload_n 2, 1) := by decide +kernel
theorem dX9_readFrost_43 : decode cX9_readFrost 43 = .ok (.bipush 12, 2) := by decide +kernel
theorem dX9_readFrost_45 : decode cX9_readFrost 45 = .ok (.if_icmp .ne 21, 3) := by decide +kernel
theorem dX9_readFrost_48 : decode cX9_readFrost 48 = .ok (.aload_n 0, 1) := by decide +kernel
theorem dX9_readFrost_49 : decode cX9_readFrost 49 = .ok (.getfield 171, 3) := by decide +kernel
theorem dX9_readFrost_52 : decode cX9_readFrost 52 = .ok (.iconst 0, 1) := by decide +kernel
theorem dX9_readFrost_53 : decode cX9_readFrost 53 = .ok (.bipush 9, 2) := by decide +kernel
theorem dX9_readFrost_55 : decode cX9_readFrost 55 = .ok (.invokestatic 174, 3) := by decide +kernel
theorem dX9_readFrost_58 : decode cX9_readFrost 58 = .ok (.ifCond .eq 8, 3) := by decide +kernel
theorem dX9_readFrost_61 : decode cX9_readFrost 61 = .ok (.aload_n 0, 1) := by decide +kernel
theorem dX9_readFrost_62 : decode cX9_readFrost 62 = .ok (.iconst 5, 1) := by decide +kernel
theorem dX9_readFrost_63 : decode cX9_readFrost 63 = .ok (.invokevirtual 76, 3) := by decide +kernel
theorem dX9_readFrost_66 : decode cX9_readFrost 66 = .ok (.aload_n 1, 1) := by decide +kernel
theorem dX9_readFrost_67 : decode cX9_readFrost 67 = .ok (.aload_n 0, 1) := by decide +kernel
theorem dX9_readFrost_68 : decode cX9_readFrost 68 = .ok (.iconst 0, 1) := by decide +kernel
theorem dX9_readFrost_69 : decode cX9_readFrost 69 = .ok (.bipush 9, 2) := by decide +kernel
theorem dX9_readFrost_71 : decode cX9_readFrost 71 = .ok (.invokevirtual 114, 3) := by decide +kernel
theorem dX9_readFrost_74 : decode cX9_readFrost 74 = .ok (.invokevirtual 165, 3) := by decide +kernel
theorem dX9_readFrost_77 : decode cX9_readFrost 77 = .ok (.iinc 2 1, 3) := by decide +kernel
theorem dX9_readFrost_80 : decode cX9_readFrost 80 = .ok (.goto (-51), 3) := by decide +kernel
theorem dX9_readFrost_83 : decode cX9_readFrost 83 = .ok (.return_, 1) := by decide +kernel
theorem dX9_readRoof_0 : decode cX9_readRoof 0 = .ok (.aload_n 1, 1) := by decide +kernel
theorem dX9_readRoof_1 : decode cX9_readRoof 1 = .ok (.getfield 178, 3) := by decide +kernel
theorem dX9_readRoof_4 : decode cX9_readRoof 4 = .ok (.ifCond .le 8, 3) := by decide +kernel
theorem dX9_readRoof_7 : decode cX9_readRoof 7 = .ok (.aload_n 0, 1) := by decide +kernel
theorem dX9_readRoof_8 : decode cX9_readRoof 8 = .ok (.iconst 3, 1) := by decide +kernel
theorem dX9_readRoof_9 : decode cX9_readRoof 9 = .ok (.invokevirtual 76, 3) := by decide +kernel
theorem dX9_readRoof_12 : decode cX9_readRoof 12 = .ok (.aload_n 0, 1) := by decide +kernel
theorem dX9_readRoof_13 : decode cX9_readRoof 13 = .ok (.invokevirtual 80, 3) := by decide +kernel
theorem dX9_readRoof_16 : decode cX9_readRoof 16 = .ok (.aload_n 1, 1) := by decide +kernel
theorem dX9_readRoof_17 : decode cX9_readRoof 17 = .ok (.aload_n 0, 1) := by decide +kernel
theorem dX9_readRoof_18 : decode cX9_readRoof 18 = .ok (.iconst 5, 1) := by decide +kernel
theorem dX9_readRoof_19 : decode cX9_readRoof 19 = .ok (.bipush 60, 2) := by decide +kernel
theorem dX9_readRoof_21 : decode cX9_readRoof 21 = .ok (.invokevirtual 114, 3) := by decide +kernel
theorem dX9_readRoof_24 : decode cX9_readRoof 24 = .ok (.putfield 178, 3) := by decide +kernel
theorem dX9_readRoof_27 : decode cX9_readRoof 27 = .ok (.return_, 1) := by decide +kernel
theorem dX9_readLaw_0 : decode cX9_readLaw 0 = .ok (.iload_n 2, 1) := by decide +kernel
theorem dX9_readLaw_1 : decode cX9_readLaw 1 = .ok (.iconst 4, 1) := by decide +kernel
theorem dX9_readLaw_2 : decode cX9_readLaw 2 = .ok (.if_icmp .lt 10, 3) := by decide +kernel
theorem dX9_readLaw_5 : decode cX9_readLaw 5 = .ok (.aload_n 0, 1) := by decide +kernel
theorem dX9_readLaw_6 : decode cX9_readLaw 6 = .ok (.aload_n 1, 1) := by decide +kernel
theorem dX9_readLaw_7 : decode cX9_readLaw 7 = .ok (.iload_n 3, 1) := by decide +kernel
theorem dX9_readLaw_8 : decode cX9_readLaw 8 = .ok (.invokestatic 181, 3) := by decide +kernel
theorem dX9_readLaw_11 : decode cX9_readLaw 11 = .ok (.return_, 1) := by decide +kernel
theorem dX9_readLaw_12 : decode cX9_readLaw 12 = .ok (.aload_n 0, 1) := by decide +kernel
theorem dX9_readLaw_13 : decode cX9_readLaw 13 = .ok (.aload_n 1, 1) := by decide +kernel
theorem dX9_readLaw_14 : decode cX9_readLaw 14 = .ok (.iload_n 2, 1) := by decide +kernel
theorem dX9_readLaw_15 : decode cX9_readLaw 15 = .ok (.iconst 1, 1) := by decide +kernel
theorem dX9_readLaw_16 : decode cX9_readLaw 16 = .ok (.iadd, 1) := by decide +kernel
theorem dX9_readLaw_17 : decode cX9_readLaw 17 = .ok (.iload_n 3, 1) := by decide +kernel
theorem dX9_readLaw_18 : decode cX9_readLaw 18 = .ok (.invokestatic 83, 3) := by decide +kernel
theorem dX9_readLaw_21 : decode cX9_readLaw 21 = .ok (.iconst 0, 1) := by decide +kernel
theorem dX9_readLaw_22 : decode cX9_readLaw 22 = .ok (.istore 4, 2) := by decide +kernel
theorem dX9_readLaw_24 : decode cX9_readLaw 24 = .ok (.iload 4, 2) := by decide +kernel
theorem dX9_readLaw_26 : decode cX9_readLaw 26 = .ok (.sipush 1000, 3) := by decide +kernel
theorem dX9_readLaw_29 : decode cX9_readLaw 29 = .ok (.if_icmp .ge 51, 3) := by decide +kernel
theorem dX9_readLaw_32 : decode cX9_readLaw 32 = .ok (.aload_n 0, 1) := by decide +kernel
theorem dX9_readLaw_33 : decode cX9_readLaw 33 = .ok (.iload_n 2, 1) := by decide +kernel
theorem dX9_readLaw_34 : decode cX9_readLaw 34 = .ok (.invokestatic 185, 3) := by decide +kernel
theorem dX9_readLaw_37 : decode cX9_readLaw 37 = .ok (.bipush (-13), 2) := by decide +kernel
theorem dX9_readLaw_39 : decode cX9_readLaw 39 = .ok (.if_icmp .eq 41, 3) := by decide +kernel
theorem dX9_readLaw_42 : decode cX9_readLaw 42 = .ok (.aload_n 0, 1) := by decide +kernel
theorem dX9_readLaw_43 : decode cX9_readLaw 43 = .ok (.iload_n 2, 1) := by decide +kernel
theorem dX9_readLaw_44 : decode cX9_readLaw 44 = .ok (.invokestatic 185, 3) := by decide +kernel
theorem dX9_readLaw_47 : decode cX9_readLaw 47 = .ok (.istore 5, 2) := by decide +kernel
theorem dX9_readLaw_49 : decode cX9_readLaw 49 = .ok (.aload_n 0, 1) := by decide +kernel
theorem dX9_readLaw_50 : decode cX9_readLaw 50 = .ok (.invokevirtual 80, 3) := by decide +kernel
theorem dX9_readLaw_53 : decode cX9_readLaw 53 = .ok (.aload_n 0, 1) := by decide +kernel
theorem dX9_readLaw_54 : decode cX9_readLaw 54 = .ok (.aload_n 1, 1) := by decide +kernel
theorem dX9_readLaw_55 : decode cX9_readLaw 55 = .ok (.iload_n 2, 1) := by decide +kernel
theorem dX9_readLaw_56 : decode cX9_readLaw 56 = .ok (.iconst 1, 1) := by decide +kernel
theorem dX9_readLaw_57 : decode cX9_readLaw 57 = .ok (.iadd, 1) := by decide +kernel
theorem dX9_readLaw_58 : decode cX9_readLaw 58 = .ok (.iload_n 3, 1) := by decide +kernel
theorem dX9_readLaw_59 : decode cX9_readLaw 59 = .ok (.invokestatic 83, 3) := by decide +kernel
theorem dX9_readLaw_62 : decode cX9_readLaw 62 = .ok (.aload_n 1, 1) := by decide +kernel
theorem dX9_readLaw_63 : decode cX9_readLaw 63 = .ok (.iload 5, 2) := by decide +kernel
theorem dX9_readLaw_65 : decode cX9_readLaw 65 = .ok (.invokevirtual 189, 3) := by decide +kernel
theorem dX9_readLaw_68 : decode cX9_readLaw 68 = .ok (.iload_n 2, 1) := by decide +kernel
theorem dX9_readLaw_69 : decode cX9_readLaw 69 = .ok (.iconst 1, 1) := by decide +kernel
theorem dX9_readLaw_70 : decode cX9_readLaw 70 = .ok (.if_icmp .ne 4, 3) := by decide +kernel
theorem dX9_readLaw_73 : decode cX9_readLaw 73 = .ok (.return_, 1) := by decide +kernel
theorem dX9_readLaw_74 : decode cX9_readLaw 74 = .ok (.iinc 4 1, 3) := by decide +kernel
theorem dX9_readLaw_77 : decode cX9_readLaw 77 = .ok (.goto (-53), 3) := by decide +kernel
theorem dX9_readLaw_80 : decode cX9_readLaw 80 = .ok (.return_, 1) := by decide +kernel
theorem dX9_joinerHere_0 : decode cX9_joinerHere 0 = .ok (.iload_n 1, 1) := by decide +kernel
theorem dX9_joinerHere_1 : decode cX9_joinerHere 1 = .ok (.ifCond .ne 36, 3) := by decide +kernel
theorem dX9_joinerHere_4 : decode cX9_joinerHere 4 = .ok (.aload_n 0, 1) := by decide +kernel
theorem dX9_joinerHere_5 : decode cX9_joinerHere 5 = .ok (.getstatic 192, 3) := by decide +kernel
theorem dX9_joinerHere_8 : decode cX9_joinerHere 8 = .ok (.invokevirtual 29, 3) := by decide +kernel
theorem dX9_joinerHere_11 : decode cX9_joinerHere 11 = .ok (.ifCond .eq 8, 3) := by decide +kernel
theorem dX9_joinerHere_14 : decode cX9_joinerHere 14 = .ok (.bipush (-6), 2) := by decide +kernel
theorem dX9_joinerHere_16 : decode cX9_joinerHere 16 = .ok (.goto 20, 3) := by decide +kernel
theorem dX9_joinerHere_19 : decode cX9_joinerHere 19 = .ok (.aload_n 0, 1) := by decide +kernel
theorem dX9_joinerHere_20 : decode cX9_joinerHere 20 = .ok (.getstatic 195, 3) := by decide +kernel
theorem dX9_joinerHere_23 : decode cX9_joinerHere 23 = .ok (.invokevirtual 29, 3) := by decide +kernel
theorem dX9_joinerHere_26 : decode cX9_joinerHere 26 = .ok (.ifCond .eq 8, 3) := by decide +kernel
theorem dX9_joinerHere_29 : decode cX9_joinerHere 29 = .ok (.bipush (-7), 2) := by decide +kernel
theorem dX9_joinerHere_31 : decode cX9_joinerHere 31 = .ok (.goto 5, 3) := by decide +kernel
theorem dX9_joinerHere_34 : decode cX9_joinerHere 34 = .ok (.bipush (-13), 2) := by decide +kernel
theorem dX9_joinerHere_36 : decode cX9_joinerHere 36 = .ok (.ireturn, 1) := by decide +kernel
theorem dX9_joinerHere_37 : decode cX9_joinerHere 37 = .ok (.iload_n 1, 1) := by decide +kernel
theorem dX9_joinerHere_38 : decode cX9_joinerHere 38 = .ok (.iconst 1, 1) := by decide +kernel
theorem dX9_joinerHere_39 : decode cX9_joinerHere 39 = .ok (.if_icmp .ne 34, 3) := by decide +kernel
theorem dX9_joinerHere_42 : decode cX9_joinerHere 42 = .ok (.aload_n 0, 1) := by decide +kernel
theorem dX9_joinerHere_43 : decode cX9_joinerHere 43 = .ok (.bipush 60, 2) := by decide +kernel
theorem dX9_joinerHere_45 : decode cX9_joinerHere 45 = .ok (.invokevirtual 198, 3) := by decide +kernel
theorem dX9_joinerHere_48 : decode cX9_joinerHere 48 = .ok (.ifCond .eq 8, 3) := by decide +kernel
theorem dX9_joinerHere_51 : decode cX9_joinerHere 51 = .ok (.bipush (-8), 2) := by decide +kernel
theorem dX9_joinerHere_53 : decode cX9_joinerHere 53 = .ok (.goto 19, 3) := by decide +kernel
theorem dX9_joinerHere_56 : decode cX9_joinerHere 56 = .ok (.aload_n 0, 1) := by decide +kernel
theorem dX9_joinerHere_57 : decode cX9_joinerHere 57 = .ok (.bipush 61, 2) := by decide +kernel
theorem dX9_joinerHere_59 : decode cX9_joinerHere 59 = .ok (.invokevirtual 198, 3) := by decide +kernel
theorem dX9_joinerHere_62 : decode cX9_joinerHere 62 = .ok (.ifCond .eq 8, 3) := by decide +kernel
theorem dX9_joinerHere_65 : decode cX9_joinerHere 65 = .ok (.bipush (-9), 2) := by decide +kernel
theorem dX9_joinerHere_67 : decode cX9_joinerHere 67 = .ok (.goto 5, 3) := by decide +kernel
theorem dX9_joinerHere_70 : decode cX9_joinerHere 70 = .ok (.bipush (-13), 2) := by decide +kernel
theorem dX9_joinerHere_72 : decode cX9_joinerHere 72 = .ok (.ireturn, 1) := by decide +kernel
theorem dX9_joinerHere_73 : decode cX9_joinerHere 73 = .ok (.iload_n 1, 1) := by decide +kernel
theorem dX9_joinerHere_74 : decode cX9_joinerHere 74 = .ok (.iconst 2, 1) := by decide +kernel
theorem dX9_joinerHere_75 : decode cX9_joinerHere 75 = .ok (.if_icmp .ne 34, 3) := by decide +kernel
theorem dX9_joinerHere_78 : decode cX9_joinerHere 78 = .ok (.aload_n 0, 1) := by decide +kernel
theorem dX9_joinerHere_79 : decode cX9_joinerHere 79 = .ok (.bipush 43, 2) := by decide +kernel
theorem dX9_joinerHere_81 : decode cX9_joinerHere 81 = .ok (.invokevirtual 198, 3) := by decide +kernel
theorem dX9_joinerHere_84 : decode cX9_joinerHere 84 = .ok (.ifCond .eq 8, 3) := by decide +kernel
theorem dX9_joinerHere_87 : decode cX9_joinerHere 87 = .ok (.bipush (-10), 2) := by decide +kernel
theorem dX9_joinerHere_89 : decode cX9_joinerHere 89 = .ok (.goto 19, 3) := by decide +kernel
theorem dX9_joinerHere_92 : decode cX9_joinerHere 92 = .ok (.aload_n 0, 1) := by decide +kernel
theorem dX9_joinerHere_93 : decode cX9_joinerHere 93 = .ok (.bipush 45, 2) := by decide +kernel
theorem dX9_joinerHere_95 : decode cX9_joinerHere 95 = .ok (.invokevirtual 198, 3) := by decide +kernel
theorem dX9_joinerHere_98 : decode cX9_joinerHere 98 = .ok (.ifCond .eq 8, 3) := by decide +kernel
theorem dX9_joinerHere_101 : decode cX9_joinerHere 101 = .ok (.bipush (-11), 2) := by decide +kernel
theorem dX9_joinerHere_103 : decode cX9_joinerHere 103 = .ok (.goto 5, 3) := by decide +kernel
theorem dX9_joinerHere_106 : decode cX9_joinerHere 106 = .ok (.bipush (-13), 2) := by decide +kernel
theorem dX9_joinerHere_108 : decode cX9_joinerHere 108 = .ok (.ireturn, 1) := by decide +kernel
theorem dX9_joinerHere_109 : decode cX9_joinerHere 109 = .ok (.aload_n 0, 1) := by decide +kernel
theorem dX9_joinerHere_110 : decode cX9_joinerHere 110 = .ok (.bipush 42, 2) := by decide +kernel
theorem dX9_joinerHere_112 : decode cX9_joinerHere 112 = .ok (.invokevirtual 198, 3) := by decide +kernel
theorem dX9_joinerHere_115 : decode cX9_joinerHere 115 = .ok (.ifCond .eq 8, 3) := by decide +kernel
theorem dX9_joinerHere_118 : decode cX9_joinerHere 118 = .ok (.bipush (-12), 2) := by decide +kernel
theorem dX9_joinerHere_120 : decode cX9_joinerHere 120 = .ok (.goto 5, 3) := by decide +kernel
theorem dX9_joinerHere_123 : decode cX9_joinerHere 123 = .ok (.bipush (-13), 2) := by decide +kernel
theorem dX9_joinerHere_125 : decode cX9_joinerHere 125 = .ok (.ireturn, 1) := by decide +kernel
theorem dX9_readPart_0 : decode cX9_readPart 0 = .ok (.aload_n 0, 1) := by decide +kernel
theorem dX9_readPart_1 : decode cX9_readPart 1 = .ok (.invokestatic 202, 3) := by decide +kernel
theorem dX9_readPart_4 : decode cX9_readPart 4 = .ok (.istore_n 3, 1) := by decide +kernel
theorem dX9_readPart_5 : decode cX9_readPart 5 = .ok (.aload_n 0, 1) := by decide +kernel
theorem dX9_readPart_6 : decode cX9_readPart 6 = .ok (.getstatic 205, 3) := by decide +kernel
theorem dX9_readPart_9 : decode cX9_readPart 9 = .ok (.invokevirtual 29, 3) := by decide +kernel
theorem dX9_readPart_12 : decode cX9_readPart 12 = .ok (.istore 4, 2) := by decide +kernel
theorem dX9_readPart_14 : decode cX9_readPart 14 = .ok (.aload_n 0, 1) := by decide +kernel
theorem dX9_readPart_15 : decode cX9_readPart 15 = .ok (.bipush 40, 2) := by decide +kernel
theorem dX9_readPart_17 : decode cX9_readPart 17 = .ok (.invokevirtual 198, 3) := by decide +kernel
theorem dX9_readPart_20 : decode cX9_readPart 20 = .ok (.istore 5, 2) := by decide +kernel
theorem dX9_readPart_22 : decode cX9_readPart 22 = .ok (.iload_n 3, 1) := by decide +kernel
theorem dX9_readPart_23 : decode cX9_readPart 23 = .ok (.bipush (-13), 2) := by decide +kernel
theorem dX9_readPart_25 : decode cX9_readPart 25 = .ok (.if_icmp .ne 19, 3) := by decide +kernel
theorem dX9_readPart_28 : decode cX9_readPart 28 = .ok (.iload 4, 2) := by decide +kernel
theorem dX9_readPart_30 : decode cX9_readPart 30 = .ok (.ifCond .ne 14, 3) := by decide +kernel
theorem dX9_readPart_33 : decode cX9_readPart 33 = .ok (.iload 5, 2) := by decide +kernel
theorem dX9_readPart_35 : decode cX9_readPart 35 = .ok (.ifCond .ne 9, 3) := by decide +kernel
theorem dX9_readPart_38 : decode cX9_readPart 38 = .ok (.aload_n 0, 1) := by decide +kernel
theorem dX9_readPart_39 : decode cX9_readPart 39 = .ok (.iconst 1, 1) := by decide +kernel
theorem dX9_readPart_40 : decode cX9_readPart 40 = .ok (.invokevirtual 76, 3) := by decide +kernel
theorem dX9_readPart_43 : decode cX9_readPart 43 = .ok (.return_, 1) := by decide +kernel
theorem dX9_readPart_44 : decode cX9_readPart 44 = .ok (.iload_n 2, 1) := by decide +kernel
theorem dX9_readPart_45 : decode cX9_readPart 45 = .ok (.iconst 5, 1) := by decide +kernel
theorem dX9_readPart_46 : decode cX9_readPart 46 = .ok (.if_icmp .lt 9, 3) := by decide +kernel
theorem dX9_readPart_49 : decode cX9_readPart 49 = .ok (.aload_n 0, 1) := by decide +kernel
theorem dX9_readPart_50 : decode cX9_readPart 50 = .ok (.iconst 5, 1) := by decide +kernel
theorem dX9_readPart_51 : decode cX9_readPart 51 = .ok (.invokevirtual 76, 3) := by decide +kernel
theorem dX9_readPart_54 : decode cX9_readPart 54 = .ok (.return_, 1) := by decide +kernel
theorem dX9_readPart_55 : decode cX9_readPart 55 = .ok (.aload_n 0, 1) := by decide +kernel
theorem dX9_readPart_56 : decode cX9_readPart 56 = .ok (.invokevirtual 80, 3) := by decide +kernel
theorem dX9_readPart_59 : decode cX9_readPart 59 = .ok (.iload 4, 2) := by decide +kernel
theorem dX9_readPart_61 : decode cX9_readPart 61 = .ok (.ifCond .eq 20, 3) := by decide +kernel
theorem dX9_readPart_64 : decode cX9_readPart 64 = .ok (.aload_n 0, 1) := by decide +kernel
theorem dX9_readPart_65 : decode cX9_readPart 65 = .ok (.aload_n 1, 1) := by decide +kernel
theorem dX9_readPart_66 : decode cX9_readPart 66 = .ok (.iload_n 2, 1) := by decide +kernel
theorem dX9_readPart_67 : decode cX9_readPart 67 = .ok (.iconst 1, 1) := by decide +kernel
theorem dX9_readPart_68 : decode cX9_readPart 68 = .ok (.iadd, 1) := by decide +kernel
theorem dX9_readPart_69 : decode cX9_readPart 69 = .ok (.invokestatic 181, 3) := by decide +kernel
theorem dX9_readPart_72 : decode cX9_readPart 72 = .ok (.aload_n 1, 1) := by decide +kernel
theorem dX9_readPart_73 : decode cX9_readPart 73 = .ok (.bipush (-5), 2) := by decide +kernel
theorem dX9_readPart_75 : decode cX9_readPart 75 = .ok (.invokevirtual 189, 3) := by decide +kernel
theorem dX9_readPart_78 : decode cX9_readPart 78 = .ok (.goto 31, 3) := by decide +kernel
theorem dX9_readPart_81 : decode cX9_readPart 81 = .ok (.iload 5, 2) := by decide +kernel
theorem dX9_readPart_83 : decode cX9_readPart 83 = .ok (.ifCond .eq 21, 3) := by decide +kernel
theorem dX9_readPart_86 : decode cX9_readPart 86 = .ok (.aload_n 0, 1) := by decide +kernel
theorem dX9_readPart_87 : decode cX9_readPart 87 = .ok (.aload_n 1, 1) := by decide +kernel
theorem dX9_readPart_88 : decode cX9_readPart 88 = .ok (.iconst 0, 1) := by decide +kernel
theorem dX9_readPart_89 : decode cX9_readPart 89 = .ok (.iload_n 2, 1) := by decide +kernel
theorem dX9_readPart_90 : decode cX9_readPart 90 = .ok (.iconst 1, 1) := by decide +kernel
theorem dX9_readPart_91 : decode cX9_readPart 91 = .ok (.iadd, 1) := by decide +kernel
theorem dX9_readPart_92 : decode cX9_readPart 92 = .ok (.invokestatic 83, 3) := by decide +kernel
theorem dX9_readPart_95 : decode cX9_readPart 95 = .ok (.aload_n 0, 1) := by decide +kernel
theorem dX9_readPart_96 : decode cX9_readPart 96 = .ok (.bipush 41, 2) := by decide +kernel
theorem dX9_readPart_98 : decode cX9_readPart 98 = .ok (.invokevirtual 87, 3) := by decide +kernel
theorem dX9_readPart_101 : decode cX9_readPart 101 = .ok (.goto 8, 3) := by decide +kernel
theorem dX9_readPart_104 : decode cX9_readPart 104 = .ok (.aload_n 1, 1) := by decide +kernel
theorem dX9_readPart_105 : decode cX9_readPart 105 = .ok (.iload_n 3, 1) := by decide +kernel
