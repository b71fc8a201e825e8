theorem dX9_readPart_106 : decode cX9_readPart 106 = .ok (.invokevirtual 189, 3) := by decide +kernel
theorem dX9_readPart_109 : decode cX9_readPart 109 = .ok (.return_, 1) := by decide +kernel
theorem dX9_leafHere_0 : decode cX9_leafHere 0 = .ok (.aload_n 0, 1) := by decide +kernel
theorem dX9_leafHere_1 : decode cX9_leafHere 1 = .ok (.invokevirtual 168, 3) := by decide +kernel
theorem dX9_leafHere_4 : decode cX9_leafHere 4 = .ok (.ifCond .eq 8, 3) := by decide +kernel
theorem dX9_leafHere_7 : decode cX9_leafHere 7 = .ok (.aload_n 0, 1) := by decide +kernel
theorem dX9_leafHere_8 : decode cX9_leafHere 8 = .ok (.getfield 171, 3) := by decide +kernel
theorem dX9_leafHere_11 : decode cX9_leafHere 11 = .ok (.ireturn, 1) := by decide +kernel
theorem dX9_leafHere_12 : decode cX9_leafHere 12 = .ok (.aload_n 0, 1) := by decide +kernel
theorem dX9_leafHere_13 : decode cX9_leafHere 13 = .ok (.getstatic 208, 3) := by decide +kernel
theorem dX9_leafHere_16 : decode cX9_leafHere 16 = .ok (.invokevirtual 29, 3) := by decide +kernel
theorem dX9_leafHere_19 : decode cX9_leafHere 19 = .ok (.ifCond .eq 5, 3) := by decide +kernel
theorem dX9_leafHere_22 : decode cX9_leafHere 22 = .ok (.iconst (-1), 1) := by decide +kernel
theorem dX9_leafHere_23 : decode cX9_leafHere 23 = .ok (.ireturn, 1) := by decide +kernel
theorem dX9_leafHere_24 : decode cX9_leafHere 24 = .ok (.aload_n 0, 1) := by decide +kernel
theorem dX9_leafHere_25 : decode cX9_leafHere 25 = .ok (.getstatic 211, 3) := by decide +kernel
theorem dX9_leafHere_28 : decode cX9_leafHere 28 = .ok (.invokevirtual 29, 3) := by decide +kernel
theorem dX9_leafHere_31 : decode cX9_leafHere 31 = .ok (.ifCond .eq 6, 3) := by decide +kernel
theorem dX9_leafHere_34 : decode cX9_leafHere 34 = .ok (.bipush (-2), 2) := by decide +kernel
theorem dX9_leafHere_36 : decode cX9_leafHere 36 = .ok (.ireturn, 1) := by decide +kernel
theorem dX9_leafHere_37 : decode cX9_leafHere 37 = .ok (.aload_n 0, 1) := by decide +kernel
theorem dX9_leafHere_38 : decode cX9_leafHere 38 = .ok (.getstatic 214, 3) := by decide +kernel
theorem dX9_leafHere_41 : decode cX9_leafHere 41 = .ok (.invokevirtual 29, 3) := by decide +kernel
theorem dX9_leafHere_44 : decode cX9_leafHere 44 = .ok (.ifCond .eq 6, 3) := by decide +kernel
theorem dX9_leafHere_47 : decode cX9_leafHere 47 = .ok (.bipush (-3), 2) := by decide +kernel
theorem dX9_leafHere_49 : decode cX9_leafHere 49 = .ok (.ireturn, 1) := by decide +kernel
theorem dX9_leafHere_50 : decode cX9_leafHere 50 = .ok (.aload_n 0, 1) := by decide +kernel
theorem dX9_leafHere_51 : decode cX9_leafHere 51 = .ok (.getstatic 217, 3) := by decide +kernel
theorem dX9_leafHere_54 : decode cX9_leafHere 54 = .ok (.invokevirtual 29, 3) := by decide +kernel
theorem dX9_leafHere_57 : decode cX9_leafHere 57 = .ok (.ifCond .eq 8, 3) := by decide +kernel
theorem dX9_leafHere_60 : decode cX9_leafHere 60 = .ok (.bipush (-4), 2) := by decide +kernel
theorem dX9_leafHere_62 : decode cX9_leafHere 62 = .ok (.goto 5, 3) := by decide +kernel
theorem dX9_leafHere_65 : decode cX9_leafHere 65 = .ok (.bipush (-13), 2) := by decide +kernel
theorem dX9_leafHere_67 : decode cX9_leafHere 67 = .ok (.ireturn, 1) := by decide +kernel
theorem dX10_init_0 : decode cX10_init 0 = .ok (.aload_n 0, 1) := by decide +kernel
theorem dX10_init_1 : decode cX10_init 1 = .ok (.invokespecial 1, 3) := by decide +kernel
theorem dX10_init_4 : decode cX10_init 4 = .ok (.aload_n 0, 1) := by decide +kernel
theorem dX10_init_5 : decode cX10_init 5 = .ok (.new 7, 3) := by decide +kernel
theorem dX10_init_8 : decode cX10_init 8 = .ok (.dup, 1) := by decide +kernel
theorem dX10_init_9 : decode cX10_init 9 = .ok (.invokespecial 9, 3) := by decide +kernel
theorem dX10_init_12 : decode cX10_init 12 = .ok (.putfield 10, 3) := by decide +kernel
theorem dX10_init_15 : decode cX10_init 15 = .ok (.aload_n 0, 1) := by decide +kernel
theorem dX10_init_16 : decode cX10_init 16 = .ok (.new 16, 3) := by decide +kernel
theorem dX10_init_19 : decode cX10_init 19 = .ok (.dup, 1) := by decide +kernel
theorem dX10_init_20 : decode cX10_init 20 = .ok (.invokespecial 18, 3) := by decide +kernel
theorem dX10_init_23 : decode cX10_init 23 = .ok (.putfield 19, 3) := by decide +kernel
theorem dX10_init_26 : decode cX10_init 26 = .ok (.aload_n 0, 1) := by decide +kernel
theorem dX10_init_27 : decode cX10_init 27 = .ok (.new 16, 3) := by decide +kernel
theorem dX10_init_30 : decode cX10_init 30 = .ok (.dup, 1) := by decide +kernel
theorem dX10_init_31 : decode cX10_init 31 = .ok (.invokespecial 18, 3) := by decide +kernel
theorem dX10_init_34 : decode cX10_init 34 = .ok (.putfield 23, 3) := by decide +kernel
theorem dX10_init_37 : decode cX10_init 37 = .ok (.aload_n 0, 1) := by decide +kernel
theorem dX10_init_38 : decode cX10_init 38 = .ok (.new 26, 3) := by decide +kernel
theorem dX10_init_41 : decode cX10_init 41 = .ok (.dup, 1) := by decide +kernel
theorem dX10_init_42 : decode cX10_init 42 = .ok (.invokespecial 28, 3) := by decide +kernel
theorem dX10_init_45 : decode cX10_init 45 = .ok (.putfield 29, 3) := by decide +kernel
theorem dX10_init_48 : decode cX10_init 48 = .ok (.aload_n 0, 1) := by decide +kernel
theorem dX10_init_49 : decode cX10_init 49 = .ok (.new 26, 3) := by decide +kernel
theorem dX10_init_52 : decode cX10_init 52 = .ok (.dup, 1) := by decide +kernel
theorem dX10_init_53 : decode cX10_init 53 = .ok (.invokespecial 28, 3) := by decide +kernel
theorem dX10_init_56 : decode cX10_init 56 = .ok (.putfield 33, 3) := by decide +kernel
theorem dX10_init_59 : decode cX10_init 59 = .ok (.aload_n 0, 1) := by decide +kernel
theorem dX10_init_60 : decode cX10_init 60 = .ok (.new 36, 3) := by decide +kernel
theorem dX10_init_63 : decode cX10_init 63 = .ok (.dup, 1) := by decide +kernel
theorem dX10_init_64 : decode cX10_init 64 = .ok (.invokespecial 38, 3) := by decide +kernel
theorem dX10_init_67 : decode cX10_init 67 = .ok (.putfield 39, 3) := by decide +kernel
theorem dX10_init_70 : decode cX10_init 70 = .ok (.aload_n 0, 1) := by decide +kernel
theorem dX10_init_71 : decode cX10_init 71 = .ok (.new 36, 3) := by decide +kernel
theorem dX10_init_74 : decode cX10_init 74 = .ok (.dup, 1) := by decide +kernel
theorem dX10_init_75 : decode cX10_init 75 = .ok (.invokespecial 38, 3) := by decide +kernel
theorem dX10_init_78 : decode cX10_init 78 = .ok (.putfield 43, 3) := by decide +kernel
theorem dX10_init_81 : decode cX10_init 81 = .ok (.aload_n 0, 1) := by decide +kernel
theorem dX10_init_82 : decode cX10_init 82 = .ok (.new 46, 3) := by decide +kernel
theorem dX10_init_85 : decode cX10_init 85 = .ok (.dup, 1) := by decide +kernel
theorem dX10_init_86 : decode cX10_init 86 = .ok (.invokespecial 48, 3) := by decide +kernel
theorem dX10_init_89 : decode cX10_init 89 = .ok (.putfield 49, 3) := by decide +kernel
theorem dX10_init_92 : decode cX10_init 92 = .ok (.aload_n 0, 1) := by decide +kernel
theorem dX10_init_93 : decode cX10_init 93 = .ok (.iconst 4, 1) := by decide +kernel
theorem dX10_init_94 : decode cX10_init 94 = .ok (.anewarray 53, 3) := by decide +kernel
theorem dX10_init_97 : decode cX10_init 97 = .ok (.putfield 55, 3) := by decide +kernel
theorem dX10_init_100 : decode cX10_init 100 = .ok (.aload_n 0, 1) := by decide +kernel
theorem dX10_init_101 : decode cX10_init 101 = .ok (.bipush 16, 2) := by decide +kernel
theorem dX10_init_103 : decode cX10_init 103 = .ok (.anewarray 36, 3) := by decide +kernel
theorem dX10_init_106 : decode cX10_init 106 = .ok (.putfield 59, 3) := by decide +kernel
theorem dX10_init_109 : decode cX10_init 109 = .ok (.aload_n 0, 1) := by decide +kernel
theorem dX10_init_110 : decode cX10_init 110 = .ok (.bipush 120, 2) := by decide +kernel
theorem dX10_init_112 : decode cX10_init 112 = .ok (.newarray .int, 2) := by decide +kernel
theorem dX10_init_114 : decode cX10_init 114 = .ok (.putfield 63, 3) := by decide +kernel
theorem dX10_init_117 : decode cX10_init 117 = .ok (.aload_n 0, 1) := by decide +kernel
theorem dX10_init_118 : decode cX10_init 118 = .ok (.iconst 5, 1) := by decide +kernel
theorem dX10_init_119 : decode cX10_init 119 = .ok (.newarray .int, 2) := by decide +kernel
theorem dX10_init_121 : decode cX10_init 121 = .ok (.putfield 67, 3) := by decide +kernel
theorem dX10_init_124 : decode cX10_init 124 = .ok (.aload_n 0, 1) := by decide +kernel
theorem dX10_init_125 : decode cX10_init 125 = .ok (.iconst 5, 1) := by decide +kernel
theorem dX10_init_126 : decode cX10_init 126 = .ok (.newarray .int, 2) := by decide +kernel
theorem dX10_init_128 : decode cX10_init 128 = .ok (.putfield 70, 3) := by decide +kernel
theorem dX10_init_131 : decode cX10_init 131 = .ok (.iconst 0, 1) := by decide +kernel
theorem dX10_init_132 : decode cX10_init 132 = .ok (.istore_n 1, 1) := by decide +kernel
theorem dX10_init_133 : decode cX10_init 133 = .ok (.iload_n 1, 1) := by decide +kernel
theorem dX10_init_134 : decode cX10_init 134 = .ok (.aload_n 0, 1) := by decide +kernel
theorem dX10_init_135 : decode cX10_init 135 = .ok (.getfield 55, 3) := by decide +kernel
theorem dX10_init_138 : decode cX10_init 138 = .ok (.arraylength, 1) := by decide +kernel
theorem dX10_init_139 : decode cX10_init 139 = .ok (.if_icmp .ge 22, 3) := by decide +kernel
theorem dX10_init_142 : decode cX10_init 142 = .ok (.aload_n 0, 1) := by decide +kernel
theorem dX10_init_143 : decode cX10_init 143 = .ok (.getfield 55, 3) := by decide +kernel
theorem dX10_init_146 : decode cX10_init 146 = .ok (.iload_n 1, 1) := by decide +kernel
theorem dX10_init_147 : decode cX10_init 147 = .ok (.new 53, 3) := by decide +kernel
theorem dX10_init_150 : decode cX10_init 150 = .ok (.dup, 1) := by decide +kernel
theorem dX10_init_151 : decode cX10_init 151 = .ok (.invokespecial 73, 3) := by decide +kernel
theorem dX10_init_154 : decode cX10_init 154 = .ok (.aastore, 1) := by decide +kernel
theorem dX10_init_155 : decode cX10_init 155 = .ok (.iinc 1 1, 3) := by decide +kernel
theorem dX10_init_158 : decode cX10_init 158 = .ok (.goto (-25), 3) := by decide +kernel
theorem dX10_init_161 : decode cX10_init 161 = .ok (.iconst 0, 1) := by decide +kernel
theorem dX10_init_162 : decode cX10_init 162 = .ok (.istore_n 1, 1) := by decide +kernel
theorem dX10_init_163 : decode cX10_init 163 = .ok (.iload_n 1, 1) := by decide +kernel
theorem dX10_init_164 : decode cX10_init 164 = .ok (.aload_n 0, 1) := by decide +kernel
theorem dX10_init_165 : decode cX10_init 165 = .ok (.getfield 59, 3) := by decide +kernel
theorem dX10_init_168 : decode cX10_init 168 = .ok (.arraylength, 1) := by decide +kernel
theorem dX10_init_169 : decode cX10_init 169 = .ok (.if_icmp .ge 22, 3) := by decide +kernel
theorem dX10_init_172 : decode cX10_init 172 = .ok (.aload_n 0, 1) := by decide +kernel
theorem dX10_init_173 : decode cX10_init 173 = .ok (.getfield 59, 3) := by decide +kernel
theorem dX10_init_176 : decode cX10_init 176 = .ok (.iload_n 1, 1) := by decide +kernel
theorem dX10_init_177 : decode cX10_init 177 = .ok (.new 36, 3) := by decide +kernel
theorem dX10_init_180 : decode cX10_init 180 = .ok (.dup, 1) := by decide +kernel
theorem dX10_init_181 : decode cX10_init 181 = .ok (.invokespecial 38, 3) := by decide +kernel
theorem dX10_init_184 : decode cX10_init 184 = .ok (.aastore, 1) := by decide +kernel
theorem dX10_init_185 : decode cX10_init 185 = .ok (.iinc 1 1, 3) := by decide +kernel
theorem dX10_init_188 : decode cX10_init 188 = .ok (.goto (-25), 3) := by decide +kernel
theorem dX10_init_191 : decode cX10_init 191 = .ok (.return_, 1) := by decide +kernel
theorem dX10_at_0 : decode cX10_at 0 = .ok (.iload_n 1, 1) := by decide +kernel
theorem dX10_at_1 : decode cX10_at 1 = .ok (.ifCond .lt 15, 3) := by decide +kernel
theorem dX10_at_4 : decode cX10_at 4 = .ok (.iload_n 1, 1) := by decide +kernel
theorem dX10_at_5 : decode cX10_at 5 = .ok (.aload_n 0, 1) := by decide +kernel
theorem dX10_at_6 : decode cX10_at 6 = .ok (.arraylength, 1) := by decide +kernel
theorem dX10_at_7 : decode cX10_at 7 = .ok (.if_icmp .ge 9, 3) := by decide +kernel
theorem dX10_at_10 : decode cX10_at 10 = .ok (.aload_n 0, 1) := by decide +kernel
theorem dX10_at_11 : decode cX10_at 11 = .ok (.iload_n 1, 1) := by decide +kernel
theorem dX10_at_12 : decode cX10_at 12 = .ok (.iaload, 1) := by decide +kernel
theorem dX10_at_13 : decode cX10_at 13 = .ok (.goto 4, 3) := by decide +kernel
theorem dX10_at_16 : decode cX10_at 16 = .ok (.iconst 0, 1) := by decide +kernel
theorem dX10_at_17 : decode cX10_at 17 = .ok (.ireturn, 1) := by decide +kernel
theorem dX10_put_0 : decode cX10_put 0 = .ok (.iload_n 1, 1) := by decide +kernel
theorem dX10_put_1 : decode cX10_put 1 = .ok (.ifCond .lt 13, 3) := by decide +kernel
theorem dX10_put_4 : decode cX10_put 4 = .ok (.iload_n 1, 1) := by decide +kernel
theorem dX10_put_5 : decode cX10_put 5 = .ok (.aload_n 0, 1) := by decide +kernel
theorem dX10_put_6 : decode cX10_put 6 = .ok (.arraylength, 1) := by decide +kernel
theorem dX10_put_7 : decode cX10_put 7 = .ok (.if_icmp .ge 7, 3) := by decide +kernel
theorem dX10_put_10 : decode cX10_put 10 = .ok (.aload_n 0, 1) := by decide +kernel
theorem dX10_put_11 : decode cX10_put 11 = .ok (.iload_n 1, 1) := by decide +kernel
theorem dX10_put_12 : decode cX10_put 12 = .ok (.iload_n 2, 1) := by decide +kernel
theorem dX10_put_13 : decode cX10_put 13 = .ok (.iastore, 1) := by decide +kernel
theorem dX10_put_14 : decode cX10_put 14 = .ok (.return_, 1) := by decide +kernel
theorem dX10_at__0 : decode cX10_at_ 0 = .ok (.iload_n 1, 1) := by decide +kernel
theorem dX10_at__1 : decode cX10_at_ 1 = .ok (.ifCond .lt 15, 3) := by decide +kernel
theorem dX10_at__4 : decode cX10_at_ 4 = .ok (.iload_n 1, 1) := by decide +kernel
theorem dX10_at__5 : decode cX10_at_ 5 = .ok (.aload_n 0, 1) := by decide +kernel
theorem dX10_at__6 : decode cX10_at_ 6 = .ok (.arraylength, 1) := by decide +kernel
theorem dX10_at__7 : decode cX10_at_ 7 = .ok (.if_icmp .ge 9, 3) := by decide +kernel
theorem dX10_at__10 : decode cX10_at_ 10 = .ok (.aload_n 0, 1) := by decide +kernel
theorem dX10_at__11 : decode cX10_at_ 11 = .ok (.iload_n 1, 1) := by decide +kernel
theorem dX10_at__12 : decode cX10_at_ 12 = .ok (.laload, 1) := by decide +kernel
theorem dX10_at__13 : decode cX10_at_ 13 = .ok (.goto 4, 3) := by decide +kernel
theorem dX10_at__16 : decode cX10_at_ 16 = .ok (.lconst 0, 1) := by decide +kernel
theorem dX10_at__17 : decode cX10_at_ 17 = .ok (.lreturn, 1) := by decide +kernel
theorem dX10_put__0 : decode cX10_put_ 0 = .ok (.iload_n 1, 1) := by decide +kernel
theorem dX10_put__1 : decode cX10_put_ 1 = .ok (.ifCond .lt 13, 3) := by decide +kernel
theorem dX10_put__4 : decode cX10_put_ 4 = .ok (.iload_n 1, 1) := by decide +kernel
theorem dX10_put__5 : decode cX10_put_ 5 = .ok (.aload_n 0, 1) := by decide +kernel
theorem dX10_put__6 : decode cX10_put_ 6 = .ok (.arraylength, 1) := by decide +kernel
theorem dX10_put__7 : decode cX10_put_ 7 = .ok (.if_icmp .ge 7, 3) := by decide +kernel
theorem dX10_put__10 : decode cX10_put_ 10 = .ok (.aload_n 0, 1) := by decide +kernel
theorem dX10_put__11 : decode cX10_put_ 11 = .ok (.iload_n 1, 1) := by decide +kernel
theorem dX10_put__12 : decode cX10_put_ 12 = .ok (.lload_n 2, 1) := by decide +kernel
theorem dX10_put__13 : decode cX10_put_ 13 = .ok (.lastore, 1) := by decide +kernel
theorem dX10_put__14 : decode cX10_put_ 14 = .ok (.return_, 1) := by decide +kernel
theorem dX10_copyRow_0 : decode cX10_copyRow 0 = .ok (.iconst 0, 1) := by decide +kernel
theorem dX10_copyRow_1 : decode cX10_copyRow 1 = .ok (.istore_n 2, 1) := by decide +kernel
theorem dX10_copyRow_2 : decode cX10_copyRow 2 = .ok (.iload_n 2, 1) := by decide +kernel
theorem dX10_copyRow_3 : decode cX10_copyRow 3 = .ok (.aload_n 0, 1) := by decide +kernel
theorem dX10_copyRow_4 : decode cX10_copyRow 4 = .ok (.arraylength, 1) := by decide +kernel
theorem dX10_copyRow_5 : decode cX10_copyRow 5 = .ok (.if_icmp .ge 21, 3) := by decide +kernel
theorem dX10_copyRow_8 : decode cX10_copyRow 8 = .ok (.iload_n 2, 1) := by decide +kernel
theorem dX10_copyRow_9 : decode cX10_copyRow 9 = .ok (.aload_n 1, 1) := by decide +kernel
theorem dX10_copyRow_10 : decode cX10_copyRow 10 = .ok (.arraylength, 1) := by decide +kernel
theorem dX10_copyRow_11 : decode cX10_copyRow 11 = .ok (.if_icmp .ge 15, 3) := by decide +kernel
theorem dX10_copyRow_14 : decode cX10_copyRow 14 = .ok (.aload_n 1, 1) := by decide +kernel
theorem dX10_copyRow_15 : decode cX10_copyRow 15 = .ok (.iload_n 2, 1) := by decide +kernel
theorem dX10_copyRow_16 : decode cX10_copyRow 16 = .ok (.aload_n 0, 1) := by decide +kernel
theorem dX10_copyRow_17 : decode cX10_copyRow 17 = .ok (.iload_n 2, 1) := by decide +kernel
theorem dX10_copyRow_18 : decode cX10_copyRow 18 = .ok (.iaload, 1) := by decide +kernel
theorem dX10_copyRow_19 : decode cX10_copyRow 19 = .ok (.iastore, 1) := by decide +kernel
theorem dX10_copyRow_20 : decode cX10_copyRow 20 = .ok (.iinc 2 1, 3) := by decide +kernel
theorem dX10_copyRow_23 : decode cX10_copyRow 23 = .ok (.goto (-21), 3) := by decide +kernel
theorem dX10_copyRow_26 : decode cX10_copyRow 26 = .ok (.return_, 1) := by decide +kernel
theorem dX10_within_0 : decode cX10_within 0 = .ok (.iload_n 0, 1) := by decide +kernel
theorem dX10_within_1 : decode cX10_within 1 = .ok (.iload_n 1, 1) := by decide +kernel
theorem dX10_within_2 : decode cX10_within 2 = .ok (.if_icmp .lt 12, 3) := by decide +kernel
theorem dX10_within_5 : decode cX10_within 5 = .ok (.iload_n 0, 1) := by decide +kernel
theorem dX10_within_6 : decode cX10_within 6 = .ok (.iload_n 2, 1) := by decide +kernel
theorem dX10_within_7 : decode cX10_within 7 = .ok (.if_icmp .gt 7, 3) := by decide +kernel
theorem dX10_within_10 : decode cX10_within 10 = .ok (.iconst 1, 1) := by decide +kernel
theorem dX10_within_11 : decode cX10_within 11 = .ok (.goto 4, 3) := by decide +kernel
theorem dX10_within_14 : decode cX10_within 14 = .ok (.iconst 0, 1) := by decide +kernel
theorem dX10_within_15 : decode cX10_within 15 = .ok (.ireturn, 1) := by decide +kernel
theorem dX10_isShed_0 : decode cX10_isShed 0 = .ok (.iload_n 1, 1) := by decide +kernel
theorem dX10_isShed_1 : decode cX10_isShed 1 = .ok (.ifCond .lt 18, 3) := by decide +kernel
theorem dX10_isShed_4 : decode cX10_isShed 4 = .ok (.iload_n 1, 1) := by decide +kernel
theorem dX10_isShed_5 : decode cX10_isShed 5 = .ok (.aload_n 0, 1) := by decide +kernel
theorem dX10_isShed_6 : decode cX10_isShed 6 = .ok (.getfield 19, 3) := by decide +kernel
theorem dX10_isShed_9 : decode cX10_isShed 9 = .ok (.getfield 74, 3) := by decide +kernel
theorem dX10_isShed_12 : decode cX10_isShed 12 = .ok (.if_icmp .ge 7, 3) := by decide +kernel
theorem dX10_isShed_15 : decode cX10_isShed 15 = .ok (.iconst 1, 1) := by decide +kernel
theorem dX10_isShed_16 : decode cX10_isShed 16 = .ok (.goto 4, 3) := by decide +kernel
theorem dX10_isShed_19 : decode cX10_isShed 19 = .ok (.iconst 0, 1) := by decide +kernel
theorem dX10_isShed_20 : decode cX10_isShed 20 = .ok (.ireturn, 1) := by decide +kernel
theorem dX10_isStage_0 : decode cX10_isStage 0 = .ok (.iload_n 1, 1) := by decide +kernel
theorem dX10_isStage_1 : decode cX10_isStage 1 = .ok (.ifCond .lt 18, 3) := by decide +kernel
theorem dX10_isStage_4 : decode cX10_isStage 4 = .ok (.iload_n 1, 1) := by decide +kernel
theorem dX10_isStage_5 : decode cX10_isStage 5 = .ok (.aload_n 0, 1) := by decide +kernel
theorem dX10_isStage_6 : decode cX10_isStage 6 = .ok (.getfield 19, 3) := by decide +kernel
theorem dX10_isStage_9 : decode cX10_isStage 9 = .ok (.getfield 78, 3) := by decide +kernel
theorem dX10_isStage_12 : decode cX10_isStage 12 = .ok (.if_icmp .ge 7, 3) := by decide +kernel
theorem dX10_isStage_15 : decode cX10_isStage 15 = .ok (.iconst 1, 1) := by decide +kernel
theorem dX10_isStage_16 : decode cX10_isStage 16 = .ok (.goto 4, 3) := by decide +kernel
theorem dX10_isStage_19 : decode cX10_isStage 19 = .ok (.iconst 0, 1) := by decide +kernel
theorem dX10_isStage_20 : decode cX10_isStage 20 = .ok (.ireturn, 1) := by decide +kernel
theorem dX10_feed_0 : decode cX10_feed 0 = .ok (.aload_n 0, 1) := by decide +kernel
theorem dX10_feed_1 : decode cX10_feed 1 = .ok (.lload_n 1, 1) := by decide +kernel
theorem dX10_feed_2 : decode cX10_feed 2 = .ok (.invokevirtual 81, 3) := by decide +kernel
theorem dX10_feed_5 : decode cX10_feed 5 = .ok (.aload_n 0, 1) := by decide +kernel
theorem dX10_feed_6 : decode cX10_feed 6 = .ok (.lload_n 3, 1) := by decide +kernel
theorem dX10_feed_7 : decode cX10_feed 7 = .ok (.invokevirtual 81, 3) := by decide +kernel
theorem dX10_feed_10 : decode cX10_feed 10 = .ok (.aload_n 0, 1) := by decide +kernel
theorem dX10_feed_11 : decode cX10_feed 11 = .ok (.lload 5, 2) := by decide +kernel
theorem dX10_feed_13 : decode cX10_feed 13 = .ok (.invokevirtual 81, 3) := by decide +kernel
theorem dX10_feed_16 : decode cX10_feed 16 = .ok (.aload_n 0, 1) := by decide +kernel
theorem dX10_feed_17 : decode cX10_feed 17 = .ok (.getfield 10, 3) := by decide +kernel
theorem dX10_feed_20 : decode cX10_feed 20 = .ok (.getfield 85, 3) := by decide +kernel
theorem dX10_feed_23 : decode cX10_feed 23 = .ok (.ireturn, 1) := by decide +kernel
theorem dX10_feedWord_0 : decode cX10_feedWord 0 = .ok (.bipush 56, 2) := by decide +kernel
theorem dX10_feedWord_2 : decode cX10_feedWord 2 = .ok (.istore_n 3, 1) := by decide +kernel
theorem dX10_feedWord_3 : decode cX10_feedWord 3 = .ok (.iload_n 3, 1) := by decide +kernel
theorem dX10_feedWord_4 : decode cX10_feedWord 4 = .ok (.ifCond .lt 24, 3) := by decide +kernel
theorem dX10_feedWord_7 : decode cX10_feedWord 7 = .ok (.aload_n 0, 1) := by decide +kernel
theorem dX10_feedWord_8 : decode cX10_feedWord 8 = .ok (.getfield 10, 3) := by decide +kernel
theorem dX10_feedWord_11 : decode cX10_feedWord 11 = .ok (.lload_n 1, 1) := by decide +kernel
theorem dX10_feedWord_12 : decode cX10_feedWord 12 = .ok (.iload_n 3, 1) := by decide +kernel
theorem dX10_feedWord_13 : decode cX10_feedWord 13 = .ok (.lshr, 1) := by decide +kernel
theorem dX10_feedWord_14 : decode cX10_feedWord 14 = .ok (.ldc2_w 88, 3) := by decide +kernel
theorem dX10_feedWord_17 : decode cX10_feedWord 17 = .ok (.land, 1) := by decide +kernel
theorem dX10_feedWord_18 : decode cX10_feedWord 18 = .ok (.l2i, 1) := by decide +kernel
theorem dX10_feedWord_19 : decode cX10_feedWord 19 = .ok (.invokevirtual 90, 3) := by decide +kernel
theorem dX10_feedWord_22 : decode cX10_feedWord 22 = .ok (.iinc 3 (-8), 3) := by decide +kernel
theorem dX10_feedWord_25 : decode cX10_feedWord 25 = .ok (.goto (-22), 3) := by decide +kernel
theorem dX10_feedWord_28 : decode cX10_feedWord 28 = .ok (.return_, 1) := by decide +kernel
theorem dX10_yard_0 : decode cX10_yard 0 = .ok (.aload_n 0, 1) := by decide +kernel
theorem dX10_yard_1 : decode cX10_yard 1 = .ok (.getfield 10, 3) := by decide +kernel
theorem dX10_yard_4 : decode cX10_yard 4 = .ok (.aload_n 0, 1) := by decide +kernel
theorem dX10_yard_5 : decode cX10_yard 5 = .ok (.getfield 23, 3) := by decide +kernel
theorem dX10_yard_8 : decode cX10_yard 8 = .ok (.invokestatic 94, 3) := by decide +kernel
theorem dX10_yard_11 : decode cX10_yard 11 = .ok (.istore_n 1, 1) := by decide +kernel
theorem dX10_yard_12 : decode cX10_yard 12 = .ok (.aload_n 0, 1) := by decide +kernel
theorem dX10_yard_13 : decode cX10_yard 13 = .ok (.getfield 10, 3) := by decide +kernel
theorem dX10_yard_16 : decode cX10_yard 16 = .ok (.invokevirtual 100, 3) := by decide +kernel
theorem dX10_yard_19 : decode cX10_yard 19 = .ok (.iload_n 1, 1) := by decide +kernel
theorem dX10_yard_20 : decode cX10_yard 20 = .ok (.ifCond .ne 25, 3) := by decide +kernel
theorem dX10_yard_23 : decode cX10_yard 23 = .ok (.aload_n 0, 1) := by decide +kernel
theorem dX10_yard_24 : decode cX10_yard 24 = .ok (.getfield 23, 3) := by decide +kernel
theorem dX10_yard_27 : decode cX10_yard 27 = .ok (.astore_n 2, 1) := by decide +kernel
theorem dX10_yard_28 : decode cX10_yard 28 = .ok (.aload_n 0, 1) := by decide +kernel
theorem dX10_yard_29 : decode cX10_yard 29 = .ok (.aload_n 0, 1) := by decide +kernel
theorem dX10_yard_30 : decode cX10_yard 30 = .ok (.getfield 19, 3) := by decide +kernel
theorem dX10_yard_33 : decode cX10_yard 33 = .ok (.putfield 23, 3) := by decide +kernel
theorem dX10_yard_36 : decode cX10_yard 36 = .ok (.aload_n 0, 1) := by decide +kernel
theorem dX10_yard_37 : decode cX10_yard 37 = .ok (.aload_n 2, 1) := by decide +kernel
theorem dX10_yard_38 : decode cX10_yard 38 = .ok (.putfield 19, 3) := by decide +kernel
theorem dX10_yard_41 : decode cX10_yard 41 = .ok (.aload_n 0, 1) := by decide +kernel
theorem dX10_yard_42 : decode cX10_yard 42 = .ok (.invokevirtual 103, 3) := by decide +kernel
theorem dX10_yard_45 : decode cX10_yard 45 = .ok (.iload_n 1, 1) := by decide +kernel
theorem dX10_yard_46 : decode cX10_yard 46 = .ok (.ireturn, 1) := by decide +kernel
theorem dX10_beginYard_0 : decode cX10_beginYard 0 = .ok (.aload_n 0, 1) := by decide +kernel
theorem dX10_beginYard_1 : decode cX10_beginYard 1 = .ok (.getfield 39, 3) := by decide +kernel
theorem dX10_beginYard_4 : decode cX10_beginYard 4 = .ok (.aload_n 0, 1) := by decide +kernel
theorem dX10_beginYard_5 : decode cX10_beginYard 5 = .ok (.getfield 19, 3) := by decide +kernel
theorem dX10_beginYard_8 : decode cX10_beginYard 8 = .ok (.invokevirtual 106, 3) := by decide +kernel
theorem dX10_beginYard_11 : decode cX10_beginYard 11 = .ok (.aload_n 0, 1) := by decide +kernel
theorem dX10_beginYard_12 : decode cX10_beginYard 12 = .ok (.getfield 29, 3) := by decide +kernel
theorem dX10_beginYard_15 : decode cX10_beginYard 15 = .ok (.invokevirtual 110, 3) := by decide +kernel
theorem dX10_beginYard_18 : decode cX10_beginYard 18 = .ok (.aload_n 0, 1) := by decide +kernel
theorem dX10_beginYard_19 : decode cX10_beginYard 19 = .ok (.getfield 49, 3) := by decide +kernel
theorem dX10_beginYard_22 : decode cX10_beginYard 22 = .ok (.invokevirtual 113, 3) := by decide +kernel
theorem dX10_beginYard_25 : decode cX10_beginYard 25 = .ok (.aload_n 0, 1) := by decide +kernel
theorem dX10_beginYard_26 : decode cX10_beginYard 26 = .ok (.iconst 0, 1) := by decide +kernel
theorem dX10_beginYard_27 : decode cX10_beginYard 27 = .ok (.putfield 114, 3) := by decide +kernel
theorem dX10_beginYard_30 : decode cX10_beginYard 30 = .ok (.iconst 0, 1) := by decide +kernel
theorem dX10_beginYard_31 : decode cX10_beginYard 31 = .ok (.istore_n 1, 1) := by decide +kernel
theorem dX10_beginYard_32 : decode cX10_beginYard 32 = .ok (.iload_n 1, 1) := by decide +kernel
theorem dX10_beginYard_33 : decode cX10_beginYard 33 = .ok (.iconst 4, 1) := by decide +kernel
theorem dX10_beginYard_34 : decode cX10_beginYard 34 = .ok (.if_icmp .ge 24, 3) := by decide +kernel
theorem dX10_beginYard_37 : decode cX10_beginYard 37 = .ok (.aload_n 0, 1) := by decide +kernel
theorem dX10_beginYard_38 : decode cX10_beginYard 38 = .ok (.iload_n 1, 1) := by decide +kernel
theorem dX10_beginYard_39 : decode cX10_beginYard 39 = .ok (.invokevirtual 117, 3) := by decide +kernel
theorem dX10_beginYard_42 : decode cX10_beginYard 42 = .ok (.astore_n 2, 1) := by decide +kernel
theorem dX10_beginYard_43 : decode cX10_beginYard 43 = .ok (.aload_n 2, 1) := by decide +kernel
theorem dX10_beginYard_44 : decode cX10_beginYard 44 = .ok (.ifnull 8, 3) := by decide +kernel
theorem dX10_beginYard_47 : decode cX10_beginYard 47 = .ok (.aload_n 2, 1) := by decide +kernel
theorem dX10_beginYard_48 : decode cX10_beginYard 48 = .ok (.iconst 0, 1) := by decide +kernel
theorem dX10_beginYard_49 : decode cX10_beginYard 49 = .ok (.putfield 121, 3) := by decide +kernel
theorem dX10_beginYard_52 : decode cX10_beginYard 52 = .ok (.iinc 1 1, 3) := by decide +kernel
theorem dX10_beginYard_55 : decode cX10_beginYard 55 = .ok (.goto (-23), 3) := by decide +kernel
theorem dX10_beginYard_58 : decode cX10_beginYard 58 = .ok (.return_, 1) := by decide +kernel
theorem dX10_week_0 : decode cX10_week 0 = .ok (.aload_n 0, 1) := by decide +kernel
theorem dX10_week_1 : decode cX10_week 1 = .ok (.getfield 10, 3) := by decide +kernel
theorem dX10_week_4 : decode cX10_week 4 = .ok (.aload_n 0, 1) := by decide +kernel
theorem dX10_week_5 : decode cX10_week 5 = .ok (.getfield 33, 3) := by decide +kernel
theorem dX10_week_8 : decode cX10_week 8 = .ok (.aload_n 0, 1) := by decide +kernel
theorem dX10_week_9 : decode cX10_week 9 = .ok (.getfield 19, 3) := by decide +kernel
theorem dX10_week_12 : decode cX10_week 12 = .ok (.invokestatic 125, 3) := by decide +kernel
theorem dX10_week_15 : decode cX10_week 15 = .ok (.istore_n 1, 1) := by decide +kernel
theorem dX10_week_16 : decode cX10_week 16 = .ok (.aload_n 0, 1) := by decide +kernel
theorem dX10_week_17 : decode cX10_week 17 = .ok (.getfield 10, 3) := by decide +kernel
theorem dX10_week_20 : decode cX10_week 20 = .ok (.invokevirtual 100, 3) := by decide +kernel
theorem dX10_week_23 : decode cX10_week 23 = .ok (.iload_n 1, 1) := by decide +kernel
theorem dX10_week_24 : decode cX10_week 24 = .ok (.ifCond .ne 21, 3) := by decide +kernel
theorem dX10_week_27 : decode cX10_week 27 = .ok (.aload_n 0, 1) := by decide +kernel
theorem dX10_week_28 : decode cX10_week 28 = .ok (.getfield 33, 3) := by decide +kernel
theorem dX10_week_31 : decode cX10_week 31 = .ok (.astore_n 2, 1) := by decide +kernel
theorem dX10_week_32 : decode cX10_week 32 = .ok (.aload_n 0, 1) := by decide +kernel
theorem dX10_week_33 : decode cX10_week 33 = .ok (.aload_n 0, 1) := by decide +kernel
theorem dX10_week_34 : decode cX10_week 34 = .ok (.getfield 29, 3) := by decide +kernel
theorem dX10_week_37 : decode cX10_week 37 = .ok (.putfield 33, 3) := by decide +kernel
theorem dX10_week_40 : decode cX10_week 40 = .ok (.aload_n 0, 1) := by decide +kernel
theorem dX10_week_41 : decode cX10_week 41 = .ok (.aload_n 2, 1) := by decide +kernel
theorem dX10_week_42 : decode cX10_week 42 = .ok (.putfield 29, 3) := by decide +kernel
theorem dX10_week_45 : decode cX10_week 45 = .ok (.iload_n 1, 1) := by decide +kernel
theorem dX10_week_46 : decode cX10_week 46 = .ok (.ireturn, 1) := by decide +kernel
theorem dX10_shed_0 : decode cX10_shed 0 = .ok (.aload_n 0, 1) := by decide +kernel
theorem dX10_shed_1 : decode cX10_shed 1 = .ok (.iload_n 1, 1) := by decide +kernel
theorem dX10_shed_2 : decode cX10_shed 2 = .ok (.invokevirtual 130, 3) := by decide +kernel
theorem dX10_shed_5 : decode cX10_shed 5 = .ok (.ifCond .ne 6, 3) := by decide +kernel
theorem dX10_shed_8 : decode cX10_shed 8 = .ok (.bipush (-2), 2) := by decide +kernel
theorem dX10_shed_10 : decode cX10_shed 10 = .ok (.ireturn, 1) := by decide +kernel
theorem dX10_shed_11 : decode cX10_shed 11 = .ok (.iload_n 2, 1) := by decide +kernel
theorem dX10_shed_12 : decode cX10_shed 12 = .ok (.tableswitch 130 0 6 #[44, 56, 68, 80, 92, 109, 121], 44) := by decide +kernel
theorem dX10_shed_56 : decode cX10_shed 56 = .ok (.aload_n 0, 1) := by decide +kernel
theorem dX10_shed_57 : decode cX10_shed 57 = .ok (.getfield 19, 3) := by decide +kernel
theorem dX10_shed_60 : decode cX10_shed 60 = .ok (.getfield 134, 3) := by decide +kernel
theorem dX10_shed_63 : decode cX10_shed 63 = .ok (.iload_n 1, 1) := by decide +kernel
theorem dX10_shed_64 : decode cX10_shed 64 = .ok (.invokestatic 137, 3) := by decide +kernel
theorem dX10_shed_67 : decode cX10_shed 67 = .ok (.ireturn, 1) := by decide +kernel
theorem dX10_shed_68 : decode cX10_shed 68 = .ok (.aload_n 0, 1) := by decide +kernel
theorem dX10_shed_69 : decode cX10_shed 69 = .ok (.getfield 39, 3) := by decide +kernel
theorem dX10_shed_72 : decode cX10_shed 72 = .ok (.getfield 141, 3) := by decide +kernel
theorem dX10_shed_75 : decode cX10_shed 75 = .ok (.iload_n 1, 1) := by decide +kernel
theorem dX10_shed_76 : decode cX10_shed 76 = .ok (.invokestatic 137, 3) := by decide +kernel
theorem dX10_shed_79 : decode cX10_shed 79 = .ok (.ireturn, 1) := by decide +kernel
theorem dX10_shed_80 : decode cX10_shed 80 = .ok (.aload_n 0, 1) := by decide +kernel
theorem dX10_shed_81 : decode cX10_shed 81 = .ok (.getfield 39, 3) := by decide +kernel
theorem dX10_shed_84 : decode cX10_shed 84 = .ok (.getfield 144, 3) := by decide +kernel
theorem dX10_shed_87 : decode cX10_shed 87 = .ok (.iload_n 1, 1) := by decide +kernel
theorem dX10_shed_88 : decode cX10_shed 88 = .ok (.invokestatic 137, 3) := by decide +kernel
theorem dX10_shed_91 : decode cX10_shed 91 = .ok (.ireturn, 1) := by decide +kernel
theorem dX10_shed_92 : decode cX10_shed 92 = .ok (.aload_n 0, 1) := by decide +kernel
theorem dX10_shed_93 : decode cX10_shed 93 = .ok (.getfield 39, 3) := by decide +kernel
theorem dX10_shed_96 : decode cX10_shed 96 = .ok (.getfield 147, 3) := by decide +kernel
theorem dX10_shed_99 : decode cX10_shed 99 = .ok (.iload_n 1, 1) := by decide +kernel
theorem dX10_shed_100 : decode cX10_shed 100 = .ok (.invokestatic 137, 3) := by decide +kernel
theorem dX10_shed_103 : decode cX10_shed 103 = .ok (.ireturn, 1) := by decide +kernel
theorem dX10_shed_104 : decode cX10_shed 104 = .ok (.aload_n 0, 1) := by decide +kernel
theorem dX10_shed_105 : decode cX10_shed 105 = .ok (.getfield 39, 3) := by decide +kernel
theorem dX10_shed_108 : decode cX10_shed 108 = .ok (.iload_n 1, 1) := by decide +kernel
theorem dX10_shed_109 : decode cX10_shed 109 = .ok (.invokevirtual 150, 3) := by decide +kernel
theorem dX10_shed_112 : decode cX10_shed 112 = .ok (.ifCond .eq 7, 3) := by decide +kernel
theorem dX10_shed_115 : decode cX10_shed 115 = .ok (.iconst 1, 1) := by decide +kernel
theorem dX10_shed_116 : decode cX10_shed 116 = .ok (.goto 4, 3) := by decide +kernel
theorem dX10_shed_119 : decode cX10_shed 119 = .ok (.iconst 0, 1) := by decide +kernel
theorem dX10_shed_120 : decode cX10_shed 120 = .ok (.ireturn, 1) := by decide +kernel
theorem dX10_shed_121 : decode cX10_shed 121 = .ok (.aload_n 0, 1) := by decide +kernel
theorem dX10_shed_122 : decode cX10_shed 122 = .ok (.getfield 19, 3) := by decide +kernel
theorem dX10_shed_125 : decode cX10_shed 125 = .ok (.getfield 153, 3) := by decide +kernel
theorem dX10_shed_128 : decode cX10_shed 128 = .ok (.iload_n 1, 1) := by decide +kernel
theorem dX10_shed_129 : decode cX10_shed 129 = .ok (.invokestatic 137, 3) := by decide +kernel
theorem dX10_shed_132 : decode cX10_shed 132 = .ok (.ireturn, 1) := by decide +kernel
theorem dX10_shed_133 : decode cX10_shed 133 = .ok (.aload_n 0, 1) := by decide +kernel
theorem dX10_shed_134 : decode cX10_shed 134 = .ok (.getfield 39, 3) := by decide +kernel
theorem dX10_shed_137 : decode cX10_shed 137 = .ok (.iload_n 1, 1) := by decide +kernel
theorem dX10_shed_138 : decode cX10_shed 138 = .ok (.invokevirtual 156, 3) := by decide +kernel
theorem dX10_shed_141 : decode cX10_shed 141 = .ok (.ireturn, 1) := by decide +kernel
theorem dX10_shed_142 : decode cX10_shed 142 = .ok (.bipush (-2), 2) := by decide +kernel
theorem dX10_shed_144 : decode cX10_shed 144 = .ok (.ireturn, 1) := by decide +kernel
theorem dX10_stage_0 : decode cX10_stage 0 = .ok (.aload_n 0, 1) := by decide +kernel
theorem dX10_stage_1 : decode cX10_stage 1 = .ok (.iload_n 1, 1) := by decide +kernel
theorem dX10_stage_2 : decode cX10_stage 2 = .ok (.invokevirtual 160, 3) := by decide +kernel
theorem dX10_stage_5 : decode cX10_stage 5 = .ok (.ifCond .ne 5, 3) := by decide +kernel
theorem dX10_stage_8 : decode cX10_stage 8 = .ok (.iconst (-1), 1) := by decide +kernel
theorem dX10_stage_9 : decode cX10_stage 9 = .ok (.ireturn, 1) := by decide +kernel
theorem dX10_stage_10 : decode cX10_stage 10 = .ok (.iload_n 2, 1) := by decide +kernel
theorem dX10_stage_11 : decode cX10_stage 11 = .ok (.ifCond .ne 15, 3) := by decide +kernel
theorem dX10_stage_14 : decode cX10_stage 14 = .ok (.aload_n 0, 1) := by decide +kernel
theorem dX10_stage_15 : decode cX10_stage 15 = .ok (.getfield 19, 3) := by decide +kernel
theorem dX10_stage_18 : decode cX10_stage 18 = .ok (.getfield 163, 3) := by decide +kernel
theorem dX10_stage_21 : decode cX10_stage 21 = .ok (.iload_n 1, 1) := by decide +kernel
theorem dX10_stage_22 : decode cX10_stage 22 = .ok (.invokestatic 137, 3) := by decide +kernel
theorem dX10_stage_25 : decode cX10_stage 25 = .ok (.ireturn, 1) := by decide +kernel
theorem dX10_stage_26 : decode cX10_stage 26 = .ok (.iload_n 2, 1) := by decide +kernel
theorem dX10_stage_27 : decode cX10_stage 27 = .ok (.iconst 1, 1) := by decide +kernel
theorem dX10_stage_28 : decode cX10_stage 28 = .ok (.if_icmp .ne 17, 3) := by decide +kernel
theorem dX10_stage_31 : decode cX10_stage 31 = .ok (.aload_n 0, 1) := by decide +kernel
theorem dX10_stage_32 : decode cX10_stage 32 = .ok (.getfield 19, 3) := by decide +kernel
theorem dX10_stage_35 : decode cX10_stage 35 = .ok (.getfield 166, 3) := by decide +kernel
theorem dX10_stage_38 : decode cX10_stage 38 = .ok (.iload_n 1, 1) := by decide +kernel
theorem dX10_stage_39 : decode cX10_stage 39 = .ok (.invokestatic 137, 3) := by decide +kernel
theorem dX10_stage_42 : decode cX10_stage 42 = .ok (.goto 4, 3) := by decide +kernel
theorem dX10_stage_45 : decode cX10_stage 45 = .ok (.iconst (-1), 1) := by decide +kernel
theorem dX10_stage_46 : decode cX10_stage 46 = .ok (.ireturn, 1) := by decide +kernel
theorem dX10_count_0 : decode cX10_count 0 = .ok (.iload_n 1, 1) := by decide +kernel
theorem dX10_count_1 : decode cX10_count 1 = .ok (.tableswitch 160 0 11 #[63, 71, 79, 87, 102, 110, 118, 126, 131, 139, 147, 152], 63) := by decide +kernel
theorem dX10_count_64 : decode cX10_count 64 = .ok (.aload_n 0, 1) := by decide +kernel
theorem dX10_count_65 : decode cX10_count 65 = .ok (.getfield 19, 3) := by decide +kernel
theorem dX10_count_68 : decode cX10_count 68 = .ok (.getfield 74, 3) := by decide +kernel
theorem dX10_count_71 : decode cX10_count 71 = .ok (.ireturn, 1) := by decide +kernel
theorem dX10_count_72 : decode cX10_count 72 = .ok (.aload_n 0, 1) := by decide +kernel
theorem dX10_count_73 : decode cX10_count 73 = .ok (.getfield 19, 3) := by decide +kernel
theorem dX10_count_76 : decode cX10_count 76 = .ok (.getfield 78, 3) := by decide +kernel
theorem dX10_count_79 : decode cX10_count 79 = .ok (.ireturn, 1) := by decide +kernel
theorem dX10_count_80 : decode cX10_count 80 = .ok (.aload_n 0, 1) := by decide +kernel
theorem dX10_count_81 : decode cX10_count 81 = .ok (.getfield 39, 3) := by decide +kernel
theorem dX10_count_84 : decode cX10_count 84 = .ok (.getfield 169, 3) := by decide +kernel
theorem dX10_count_87 : decode cX10_count 87 = .ok (.ireturn, 1) := by decide +kernel
theorem dX10_count_88 : decode cX10_count 88 = .ok (.aload_n 0, 1) := by decide +kernel
theorem dX10_count_89 : decode cX10_count 89 = .ok (.getfield 19, 3) := by decide +kernel
theorem dX10_count_92 : decode cX10_count 92 = .ok (.aload_n 0, 1) := by decide +kernel
theorem dX10_count_93 : decode cX10_count 93 = .ok (.getfield 39, 3) := by decide +kernel
theorem dX10_count_96 : decode cX10_count 96 = .ok (.getfield 169, 3) := by decide +kernel
theorem dX10_count_99 : decode cX10_count 99 = .ok (.invokevirtual 172, 3) := by decide +kernel
theorem dX10_count_102 : decode cX10_count 102 = .ok (.ireturn, 1) := by decide +kernel
theorem dX10_count_103 : decode cX10_count 103 = .ok (.aload_n 0, 1) := by decide +kernel
theorem dX10_count_104 : decode cX10_count 104 = .ok (.getfield 19, 3) := by decide +kernel
theorem dX10_count_107 : decode cX10_count 107 = .ok (.getfield 175, 3) := by decide +kernel
theorem dX10_count_110 : decode cX10_count 110 = .ok (.ireturn, 1) := by decide +kernel
theorem dX10_count_111 : decode cX10_count 111 = .ok (.aload_n 0, 1) := by decide +kernel
theorem dX10_count_112 : decode cX10_count 112 = .ok (.getfield 39, 3) := by decide +kernel
theorem dX10_count_115 : decode cX10_count 115 = .ok (.invokevirtual 178, 3) := by decide +kernel
theorem dX10_count_118 : decode cX10_count 118 = .ok (.ireturn, 1) := by decide +kernel
theorem dX10_count_119 : decode cX10_count 119 = .ok (.aload_n 0, 1) := by decide +kernel
theorem dX10_count_120 : decode cX10_count 120 = .ok (.getfield 39, 3) := by decide +kernel
theorem dX10_count_123 : decode cX10_count 123 = .ok (.getfield 182, 3) := by decide +kernel
theorem dX10_count_126 : decode cX10_count 126 = .ok (.ireturn, 1) := by decide +kernel
theorem dX10_count_127 : decode cX10_count 127 = .ok (.aload_n 0, 1) := by decide +kernel
theorem dX10_count_128 : decode cX10_count 128 = .ok (.invokevirtual 185, 3) := by decide +kernel
theorem dX10_count_131 : decode cX10_count 131 = .ok (.ireturn, 1) := by decide +kernel
theorem dX10_count_132 : decode cX10_count 132 = .ok (.aload_n 0, 1) := by decide +kernel
theorem dX10_count_133 : decode cX10_count 133 = .ok (.getfield 29, 3) := by decide +kernel
theorem dX10_count_136 : decode cX10_count 136 = .ok (.getfield 188, 3) := by decide +kernel
theorem dX10_count_139 : decode cX10_count 139 = .ok (.ireturn, 1) := by decide +kernel
theorem dX10_count_140 : decode cX10_count 140 = .ok (.aload_n 0, 1) := by decide +kernel
theorem dX10_count_141 : decode cX10_count 141 = .ok (.getfield 49, 3) := by decide +kernel
theorem dX10_count_144 : decode cX10_count 144 = .ok (.getfield 191, 3) := by decide +kernel
theorem dX10_count_147 : decode cX10_count 147 = .ok (.ireturn, 1) := by decide +kernel
theorem dX10_count_148 : decode cX10_count 148 = .ok (.aload_n 0, 1) := by decide +kernel
theorem dX10_count_149 : decode cX10_count 149 = .ok (.getfield 114, 3) := by decide +kernel
theorem dX10_count_152 : decode cX10_count 152 = .ok (.ireturn, 1) := by decide +kernel
theorem dX10_count_153 : decode cX10_count 153 = .ok (.aload_n 0, 1) := by decide +kernel
theorem dX10_count_154 : decode cX10_count 154 = .ok (.getfield 10, 3) := by decide +kernel
theorem dX10_count_157 : decode cX10_count 157 = .ok (.getfield 85, 3) := by decide +kernel
theorem dX10_count_160 : decode cX10_count 160 = .ok (.ireturn, 1) := by decide +kernel
theorem dX10_count_161 : decode cX10_count 161 = .ok (.iconst (-1), 1) := by decide +kernel
theorem dX10_count_162 : decode cX10_count 162 = .ok (.ireturn, 1) := by decide +kernel
theorem dX10_riots_0 : decode cX10_riots 0 = .ok (.iconst 0, 1) := by decide +kernel
theorem dX10_riots_1 : decode cX10_riots 1 = .ok (.istore_n 1, 1) := by decide +kernel
theorem dX10_riots_2 : decode cX10_riots 2 = .ok (.iconst 0, 1) := by decide +kernel
theorem dX10_riots_3 : decode cX10_riots 3 = .ok (.istore_n 2, 1) := by decide +kernel
theorem dX10_riots_4 : decode cX10_riots 4 = .ok (.iload_n 2, 1) := by decide +kernel
theorem dX10_riots_5 : decode cX10_riots 5 = .ok (.aload_n 0, 1) := by decide +kernel
theorem dX10_riots_6 : decode cX10_riots 6 = .ok (.getfield 19, 3) := by decide +kernel
theorem dX10_riots_9 : decode cX10_riots 9 = .ok (.getfield 74, 3) := by decide +kernel
theorem dX10_riots_12 : decode cX10_riots 12 = .ok (.if_icmp .ge 28, 3) := by decide +kernel
theorem dX10_riots_15 : decode cX10_riots 15 = .ok (.aload_n 0, 1) := by decide +kernel
theorem dX10_riots_16 : decode cX10_riots 16 = .ok (.getfield 39, 3) := by decide +kernel
theorem dX10_riots_19 : decode cX10_riots 19 = .ok (.iload_n 2, 1) := by decide +kernel
theorem dX10_riots_20 : decode cX10_riots 20 = .ok (.invokevirtual 156, 3) := by decide +kernel
theorem dX10_riots_23 : decode cX10_riots 23 = .ok (.bipush 60, 2) := by decide +kernel
theorem dX10_riots_25 : decode cX10_riots 25 = .ok (.if_icmp .lt 9, 3) := by decide +kernel
theorem dX10_riots_28 : decode cX10_riots 28 = .ok (.iload_n 1, 1) := by decide +kernel
theorem dX10_riots_29 : decode cX10_riots 29 = .ok (.iconst 1, 1) := by decide +kernel
theorem dX10_riots_30 : decode cX10_riots 30 = .ok (.iload_n 2, 1) := by decide +kernel
theorem dX10_riots_31 : decode cX10_riots 31 = .ok (.ishl, 1) := by decide +kernel
theorem dX10_riots_32 : decode cX10_riots 32 = .ok (.ior, 1) := by decide +kernel
theorem dX10_riots_33 : decode cX10_riots 33 = .ok (.istore_n 1, 1) := by decide +kernel
theorem dX10_riots_34 : decode cX10_riots 34 = .ok (.iinc 2 1, 3) := by decide +kernel
theorem dX10_riots_37 : decode cX10_riots 37 = .ok (.goto (-33), 3) := by decide +kernel
theorem dX10_riots_40 : decode cX10_riots 40 = .ok (.iload_n 1, 1) := by decide +kernel
theorem dX10_riots_41 : decode cX10_riots 41 = .ok (.ireturn, 1) := by decide +kernel
theorem dX10_night_0 : decode cX10_night 0 = .ok (.aload_n 0, 1) := by decide +kernel
theorem dX10_night_1 : decode cX10_night 1 = .ok (.invokevirtual 192, 3) := by decide +kernel
theorem dX10_night_4 : decode cX10_night 4 = .ok (.aload_n 0, 1) := by decide +kernel
theorem dX10_night_5 : decode cX10_night 5 = .ok (.getfield 39, 3) := by decide +kernel
theorem dX10_night_8 : decode cX10_night 8 = .ok (.aload_n 0, 1) := by decide +kernel
theorem dX10_night_9 : decode cX10_night 9 = .ok (.getfield 19, 3) := by decide +kernel
theorem dX10_night_12 : decode cX10_night 12 = .ok (.aload_n 0, 1) := by decide +kernel
theorem dX10_night_13 : decode cX10_night 13 = .ok (.getfield 19, 3) := by decide +kernel
theorem dX10_night_16 : decode cX10_night 16 = .ok (.aload_n 0, 1) := by decide +kernel
theorem dX10_night_17 : decode cX10_night 17 = .ok (.getfield 39, 3) := by decide +kernel
theorem dX10_night_20 : decode cX10_night 20 = .ok (.getfield 169, 3) := by decide +kernel
theorem dX10_night_23 : decode cX10_night 23 = .ok (.invokevirtual 172, 3) := by decide +kernel
theorem dX10_night_26 : decode cX10_night 26 = .ok (.invokevirtual 195, 3) := by decide +kernel
theorem dX10_night_29 : decode cX10_night 29 = .ok (.ireturn, 1) := by decide +kernel
theorem dX10_heat_0 : decode cX10_heat 0 = .ok (.aload_n 0, 1) := by decide +kernel
theorem dX10_heat_1 : decode cX10_heat 1 = .ok (.iload_n 1, 1) := by decide +kernel
theorem dX10_heat_2 : decode cX10_heat 2 = .ok (.invokevirtual 130, 3) := by decide +kernel
theorem dX10_heat_5 : decode cX10_heat 5 = .ok (.ifCond .eq 13, 3) := by decide +kernel
theorem dX10_heat_8 : decode cX10_heat 8 = .ok (.iload_n 2, 1) := by decide +kernel
theorem dX10_heat_9 : decode cX10_heat 9 = .ok (.iconst 0, 1) := by decide +kernel
theorem dX10_heat_10 : decode cX10_heat 10 = .ok (.bipush 9, 2) := by decide +kernel
theorem dX10_heat_12 : decode cX10_heat 12 = .ok (.invokestatic 199, 3) := by decide +kernel
theorem dX10_heat_15 : decode cX10_heat 15 = .ok (.ifCond .ne 5, 3) := by decide +kernel
theorem dX10_heat_18 : decode cX10_heat 18 = .ok (.iconst (-1), 1) := by decide +kernel
theorem dX10_heat_19 : decode cX10_heat 19 = .ok (.ireturn, 1) := by decide +kernel
theorem dX10_heat_20 : decode cX10_heat 20 = .ok (.aload_n 0, 1) := by decide +kernel
theorem dX10_heat_21 : decode cX10_heat 21 = .ok (.getfield 39, 3) := by decide +kernel
theorem dX10_heat_24 : decode cX10_heat 24 = .ok (.getfield 141, 3) := by decide +kernel
theorem dX10_heat_27 : decode cX10_heat 27 = .ok (.iload_n 1, 1) := by decide +kernel
theorem dX10_heat_28 : decode cX10_heat 28 = .ok (.invokestatic 137, 3) := by decide +kernel
theorem dX10_heat_31 : decode cX10_heat 31 = .ok (.istore_n 3, 1) := by decide +kernel
theorem dX10_heat_32 : decode cX10_heat 32 = .ok (.aload_n 0, 1) := by decide +kernel
theorem dX10_heat_33 : decode cX10_heat 33 = .ok (.invokevirtual 192, 3) := by decide +kernel
theorem dX10_heat_36 : decode cX10_heat 36 = .ok (.aload_n 0, 1) := by decide +kernel
theorem dX10_heat_37 : decode cX10_heat 37 = .ok (.getfield 39, 3) := by decide +kernel
theorem dX10_heat_40 : decode cX10_heat 40 = .ok (.iload_n 1, 1) := by decide +kernel
theorem dX10_heat_41 : decode cX10_heat 41 = .ok (.iload_n 2, 1) := by decide +kernel
theorem dX10_heat_42 : decode cX10_heat 42 = .ok (.invokevirtual 203, 3) := by decide +kernel
theorem dX10_heat_45 : decode cX10_heat 45 = .ok (.iload_n 3, 1) := by decide +kernel
theorem dX10_heat_46 : decode cX10_heat 46 = .ok (.ireturn, 1) := by decide +kernel
theorem dX10_light_0 : decode cX10_light 0 = .ok (.aload_n 0, 1) := by decide +kernel
theorem dX10_light_1 : decode cX10_light 1 = .ok (.iload_n 1, 1) := by decide +kernel
theorem dX10_light_2 : decode cX10_light 2 = .ok (.invokevirtual 130, 3) := by decide +kernel
theorem dX10_light_5 : decode cX10_light 5 = .ok (.ifCond .eq 14, 3) := by decide +kernel
theorem dX10_light_8 : decode cX10_light 8 = .ok (.aload_n 0, 1) := by decide +kernel
theorem dX10_light_9 : decode cX10_light 9 = .ok (.getfield 39, 3) := by decide +kernel
theorem dX10_light_12 : decode cX10_light 12 = .ok (.iload_n 1, 1) := by decide +kernel
theorem dX10_light_13 : decode cX10_light 13 = .ok (.invokevirtual 150, 3) := by decide +kernel
theorem dX10_light_16 : decode cX10_light 16 = .ok (.ifCond .eq 5, 3) := by decide +kernel
theorem dX10_light_19 : decode cX10_light 19 = .ok (.iconst 0, 1) := by decide +kernel
theorem dX10_light_20 : decode cX10_light 20 = .ok (.ireturn, 1) := by decide +kernel
theorem dX10_light_21 : decode cX10_light 21 = .ok (.aload_n 0, 1) := by decide +kernel
theorem dX10_light_22 : decode cX10_light 22 = .ok (.invokevirtual 192, 3) := by decide +kernel
theorem dX10_light_25 : decode cX10_light 25 = .ok (.aload_n 0, 1) := by decide +kernel
theorem dX10_light_26 : decode cX10_light 26 = .ok (.getfield 39, 3) := by decide +kernel
theorem dX10_light_29 : decode cX10_light 29 = .ok (.iload_n 1, 1) := by decide +kernel
theorem dX10_light_30 : decode cX10_light 30 = .ok (.invokevirtual 207, 3) := by decide +kernel
theorem dX10_light_33 : decode cX10_light 33 = .ok (.ireturn, 1) := by decide +kernel
theorem dX10_pull_0 : decode cX10_pull 0 = .ok (.aload_n 0, 1) := by decide +kernel
theorem dX10_pull_1 : decode cX10_pull 1 = .ok (.iload_n 1, 1) := by decide +kernel
theorem dX10_pull_2 : decode cX10_pull 2 = .ok (.invokevirtual 130, 3) := by decide +kernel
theorem dX10_pull_5 : decode cX10_pull 5 = .ok (.ifCond .eq 25, 3) := by decide +kernel
theorem dX10_pull_8 : decode cX10_pull 8 = .ok (.iload_n 2, 1) := by decide +kernel
theorem dX10_pull_9 : decode cX10_pull 9 = .ok (.iconst 1, 1) := by decide +kernel
theorem dX10_pull_10 : decode cX10_pull 10 = .ok (.bipush 20, 2) := by decide +kernel
theorem dX10_pull_12 : decode cX10_pull 12 = .ok (.invokestatic 199, 3) := by decide +kernel
theorem dX10_pull_15 : decode cX10_pull 15 = .ok (.ifCond .eq 15, 3) := by decide +kernel
theorem dX10_pull_18 : decode cX10_pull 18 = .ok (.aload_n 0, 1) := by decide +kernel
theorem dX10_pull_19 : decode cX10_pull 19 = .ok (.getfield 39, 3) := by decide +kernel
theorem dX10_pull_22 : decode cX10_pull 22 = .ok (.iload_n 1, 1) := by decide +kernel
theorem dX10_pull_23 : decode cX10_pull 23 = .ok (.iload_n 2, 1) := by decide +kernel
theorem dX10_pull_24 : decode cX10_pull 24 = .ok (.invokevirtual 210, 3) := by decide +kernel
theorem dX10_pull_27 : decode cX10_pull 27 = .ok (.ifCond .ne 5, 3) := by decide +kernel
theorem dX10_pull_30 : decode cX10_pull 30 = .ok (.iconst (-1), 1) := by decide +kernel
theorem dX10_pull_31 : decode cX10_pull 31 = .ok (.ireturn, 1) := by decide +kernel
theorem dX10_pull_32 : decode cX10_pull 32 = .ok (.aload_n 0, 1) := by decide +kernel
theorem dX10_pull_33 : decode cX10_pull 33 = .ok (.invokevirtual 192, 3) := by decide +kernel
theorem dX10_pull_36 : decode cX10_pull 36 = .ok (.aload_n 0, 1) := by decide +kernel
theorem dX10_pull_37 : decode cX10_pull 37 = .ok (.getfield 39, 3) := by decide +kernel
theorem dX10_pull_40 : decode cX10_pull 40 = .ok (.iload_n 1, 1) := by decide +kernel
theorem dX10_pull_41 : decode cX10_pull 41 = .ok (.iload_n 2, 1) := by decide +kernel
theorem dX10_pull_42 : decode cX10_pull 42 = .ok (.invokevirtual 214, 3) := by decide +kernel
theorem dX10_pull_45 : decode cX10_pull 45 = .ok (.aload_n 0, 1) := by decide +kernel
theorem dX10_pull_46 : decode cX10_pull 46 = .ok (.getfield 39, 3) := by decide +kernel
theorem dX10_pull_49 : decode cX10_pull 49 = .ok (.getfield 144, 3) := by decide +kernel
theorem dX10_pull_52 : decode cX10_pull 52 = .ok (.iload_n 1, 1) := by decide +kernel
theorem dX10_pull_53 : decode cX10_pull 53 = .ok (.invokestatic 137, 3) := by decide +kernel
theorem dX10_pull_56 : decode cX10_pull 56 = .ok (.ireturn, 1) := by decide +kernel
theorem dX10_undo_0 : decode cX10_undo 0 = .ok (.aload_n 0, 1) := by decide +kernel
theorem dX10_undo_1 : decode cX10_undo 1 = .ok (.getfield 114, 3) := by decide +kernel
theorem dX10_undo_4 : decode cX10_undo 4 = .ok (.ifCond .gt 5, 3) := by decide +kernel
theorem dX10_undo_7 : decode cX10_undo 7 = .ok (.iconst 0, 1) := by decide +kernel
theorem dX10_undo_8 : decode cX10_undo 8 = .ok (.ireturn, 1) := by decide +kernel
theorem dX10_undo_9 : decode cX10_undo 9 = .ok (.aload_n 0, 1) := by decide +kernel
theorem dX10_undo_10 : decode cX10_undo 10 = .ok (.aload_n 0, 1) := by decide +kernel
theorem dX10_undo_11 : decode cX10_undo 11 = .ok (.getfield 217, 3) := by decide +kernel
theorem dX10_undo_14 : decode cX10_undo 14 = .ok (.bipush 16, 2) := by decide +kernel
theorem dX10_undo_16 : decode cX10_undo 16 = .ok (.iadd, 1) := by decide +kernel
theorem dX10_undo_17 : decode cX10_undo 17 = .ok (.iconst 1, 1) := by decide +kernel
theorem dX10_undo_18 : decode cX10_undo 18 = .ok (.isub, 1) := by decide +kernel
theorem dX10_undo_19 : decode cX10_undo 19 = .ok (.bipush 16, 2) := by decide +kernel
theorem dX10_undo_21 : decode cX10_undo 21 = .ok (.irem, 1) := by decide +kernel
theorem dX10_undo_22 : decode cX10_undo 22 = .ok (.putfield 217, 3) := by decide +kernel
theorem dX10_undo_25 : decode cX10_undo 25 = .ok (.aload_n 0, 1) := by decide +kernel
theorem dX10_undo_26 : decode cX10_undo 26 = .ok (.dup, 1) := by decide +kernel
theorem dX10_undo_27 : decode cX10_undo 27 = .ok (.getfield 114, 3) := by decide +kernel
theorem dX10_undo_30 : decode cX10_undo 30 = .ok (.iconst 1, 1) := by decide +kernel
theorem dX10_undo_31 : decode cX10_undo 31 = .ok (.isub, 1) := by decide +kernel
theorem dX10_undo_32 : decode cX10_undo 32 = .ok (.putfield 114, 3) := by decide +kernel
theorem dX10_undo_35 : decode cX10_undo 35 = .ok (.aload_n 0, 1) := by decide +kernel
theorem dX10_undo_36 : decode cX10_undo 36 = .ok (.aload_n 0, 1) := by decide +kernel
theorem dX10_undo_37 : decode cX10_undo 37 = .ok (.getfield 217, 3) := by decide +kernel
theorem dX10_undo_40 : decode cX10_undo 40 = .ok (.invokevirtual 220, 3) := by decide +kernel
theorem dX10_undo_43 : decode cX10_undo 43 = .ok (.astore_n 1, 1) := by decide +kernel
theorem dX10_undo_44 : decode cX10_undo 44 = .ok (.aload_n 1, 1) := by decide +kernel
theorem dX10_undo_45 : decode cX10_undo 45 = .ok (.ifnull 11, 3) := by decide +kernel
theorem dX10_undo_48 : decode cX10_undo 48 = .ok (.aload_n 0, 1) := by decide +kernel
theorem dX10_undo_49 : decode cX10_undo 49 = .ok (.getfield 39, 3) := by decide +kernel
theorem dX10_undo_52 : decode cX10_undo 52 = .ok (.aload_n 1, 1) := by decide +kernel
theorem dX10_undo_53 : decode cX10_undo 53 = .ok (.invokevirtual 224, 3) := by decide +kernel
theorem dX10_undo_56 : decode cX10_undo 56 = .ok (.iconst 1, 1) := by decide +kernel
theorem dX10_undo_57 : decode cX10_undo 57 = .ok (.ireturn, 1) := by decide +kernel
theorem dX10_remember_0 : decode cX10_remember 0 = .ok (.aload_n 0, 1) := by decide +kernel
theorem dX10_remember_1 : decode cX10_remember 1 = .ok (.aload_n 0, 1) := by decide +kernel
theorem dX10_remember_2 : decode cX10_remember 2 = .ok (.getfield 217, 3) := by decide +kernel
theorem dX10_remember_5 : decode cX10_remember 5 = .ok (.invokevirtual 220, 3) := by decide +kernel
theorem dX10_remember_8 : decode cX10_remember 8 = .ok (.astore_n 1, 1) := by decide +kernel
theorem dX10_remember_9 : decode cX10_remember 9 = .ok (.aload_n 1, 1) := by decide +kernel
theorem dX10_remember_10 : decode cX10_remember 10 = .ok (.ifnull 11, 3) := by decide +kernel
theorem dX10_remember_13 : decode cX10_remember 13 = .ok (.aload_n 1, 1) := by decide +kernel
theorem dX10_remember_14 : decode cX10_remember 14 = .ok (.aload_n 0, 1) := by decide +kernel
theorem dX10_remember_15 : decode cX10_remember 15 = .ok (.getfield 39, 3) := by decide +kernel
theorem dX10_remember_18 : decode cX10_remember 18 = .ok (.invokevirtual 224, 3) := by decide +kernel
theorem dX10_remember_21 : decode cX10_remember 21 = .ok (.aload_n 0, 1) := by decide +kernel
theorem dX10_remember_22 : decode cX10_remember 22 = .ok (.aload_n 0, 1) := by decide +kernel
theorem dX10_remember_23 : decode cX10_remember 23 = .ok (.getfield 217, 3) := by decide +kernel
theorem dX10_remember_26 : decode cX10_remember 26 = .ok (.iconst 1, 1) := by decide +kernel
theorem dX10_remember_27 : decode cX10_remember 27 = .ok (.iadd, 1) := by decide +kernel
theorem dX10_remember_28 : decode cX10_remember 28 = .ok (.bipush 16, 2) := by decide +kernel
theorem dX10_remember_30 : decode cX10_remember 30 = .ok (.irem, 1) := by decide +kernel
theorem dX10_remember_31 : decode cX10_remember 31 = .ok (.putfield 217, 3) := by decide +kernel
theorem dX10_remember_34 : decode cX10_remember 34 = .ok (.aload_n 0, 1) := by decide +kernel
theorem dX10_remember_35 : decode cX10_remember 35 = .ok (.aload_n 0, 1) := by decide +kernel
theorem dX10_remember_36 : decode cX10_remember 36 = .ok (.getfield 114, 3) := by decide +kernel
theorem dX10_remember_39 : decode cX10_remember 39 = .ok (.iconst 1, 1) := by decide +kernel
theorem dX10_remember_40 : decode cX10_remember 40 = .ok (.iadd, 1) := by decide +kernel
theorem dX10_remember_41 : decode cX10_remember 41 = .ok (.bipush 16, 2) := by decide +kernel
theorem dX10_remember_43 : decode cX10_remember 43 = .ok (.invokestatic 228, 3) := by decide +kernel
theorem dX10_remember_46 : decode cX10_remember 46 = .ok (.putfield 114, 3) := by decide +kernel
theorem dX10_remember_49 : decode cX10_remember 49 = .ok (.return_, 1) := by decide +kernel
theorem dX10_pastAt_0 : decode cX10_pastAt 0 = .ok (.iload_n 1, 1) := by decide +kernel
theorem dX10_pastAt_1 : decode cX10_pastAt 1 = .ok (.ifCond .lt 21, 3) := by decide +kernel
theorem dX10_pastAt_4 : decode cX10_pastAt 4 = .ok (.iload_n 1, 1) := by decide +kernel
theorem dX10_pastAt_5 : decode cX10_pastAt 5 = .ok (.aload_n 0, 1) := by decide +kernel
theorem dX10_pastAt_6 : decode cX10_pastAt 6 = .ok (.getfield 59, 3) := by decide +kernel
theorem dX10_pastAt_9 : decode cX10_pastAt 9 = .ok (.arraylength, 1) := by decide +kernel
theorem dX10_pastAt_10 : decode cX10_pastAt 10 = .ok (.if_icmp .ge 12, 3) := by decide +kernel
theorem dX10_pastAt_13 : decode cX10_pastAt 13 = .ok (.aload_n 0, 1) := by decide +kernel
theorem dX10_pastAt_14 : decode cX10_pastAt 14 = .ok (.getfield 59, 3) := by decide +kernel
theorem dX10_pastAt_17 : decode cX10_pastAt 17 = .ok (.iload_n 1, 1) := by decide +kernel
theorem dX10_pastAt_18 : decode cX10_pastAt 18 = .ok (.aaload, 1) := by decide +kernel
theorem dX10_pastAt_19 : decode cX10_pastAt 19 = .ok (.goto 4, 3) := by decide +kernel
theorem dX10_pastAt_22 : decode cX10_pastAt 22 = .ok (.aconst_null, 1) := by decide +kernel
theorem dX10_pastAt_23 : decode cX10_pastAt 23 = .ok (.areturn, 1) := by decide +kernel
theorem dX10_mark_0 : decode cX10_mark 0 = .ok (.aload_n 0, 1) := by decide +kernel
theorem dX10_mark_1 : decode cX10_mark 1 = .ok (.iload_n 1, 1) := by decide +kernel
theorem dX10_mark_2 : decode cX10_mark 2 = .ok (.invokevirtual 117, 3) := by decide +kernel
theorem dX10_mark_5 : decode cX10_mark 5 = .ok (.astore_n 3, 1) := by decide +kernel
theorem dX10_mark_6 : decode cX10_mark 6 = .ok (.aload_n 3, 1) := by decide +kernel
theorem dX10_mark_7 : decode cX10_mark 7 = .ok (.ifnull 14, 3) := by decide +kernel
theorem dX10_mark_10 : decode cX10_mark 10 = .ok (.iload_n 2, 1) := by decide +kernel
theorem dX10_mark_11 : decode cX10_mark 11 = .ok (.ifCond .eq 12, 3) := by decide +kernel
theorem dX10_mark_14 : decode cX10_mark 14 = .ok (.aload_n 3, 1) := by decide +kernel
theorem dX10_mark_15 : decode cX10_mark 15 = .ok (.getfield 121, 3) := by decide +kernel
theorem dX10_mark_18 : decode cX10_mark 18 = .ok (.ifCond .ne 5, 3) := by decide +kernel
theorem dX10_mark_21 : decode cX10_mark 21 = .ok (.iconst 0, 1) := by decide +kernel
theorem dX10_mark_22 : decode cX10_mark 22 = .ok (.ireturn, 1) := by decide +kernel
theorem dX10_mark_23 : decode cX10_mark 23 = .ok (.iload_n 2, 1) := by decide +kernel
theorem dX10_mark_24 : decode cX10_mark 24 = .ok (.ifCond .eq 44, 3) := by decide +kernel
theorem dX10_mark_27 : decode cX10_mark 27 = .ok (.aload_n 0, 1) := by decide +kernel
theorem dX10_mark_28 : decode cX10_mark 28 = .ok (.getfield 39, 3) := by decide +kernel
theorem dX10_mark_31 : decode cX10_mark 31 = .ok (.aload_n 3, 1) := by decide +kernel
theorem dX10_mark_32 : decode cX10_mark 32 = .ok (.getfield 234, 3) := by decide +kernel
theorem dX10_mark_35 : decode cX10_mark 35 = .ok (.invokevirtual 224, 3) := by decide +kernel
theorem dX10_mark_38 : decode cX10_mark 38 = .ok (.aload_n 0, 1) := by decide +kernel
theorem dX10_mark_39 : decode cX10_mark 39 = .ok (.getfield 29, 3) := by decide +kernel
theorem dX10_mark_42 : decode cX10_mark 42 = .ok (.aload_n 3, 1) := by decide +kernel
theorem dX10_mark_43 : decode cX10_mark 43 = .ok (.getfield 237, 3) := by decide +kernel
theorem dX10_mark_46 : decode cX10_mark 46 = .ok (.invokevirtual 238, 3) := by decide +kernel
theorem dX10_mark_49 : decode cX10_mark 49 = .ok (.aload_n 0, 1) := by decide +kernel
theorem dX10_mark_50 : decode cX10_mark 50 = .ok (.getfield 49, 3) := by decide +kernel
theorem dX10_mark_53 : decode cX10_mark 53 = .ok (.aload_n 3, 1) := by decide +kernel
theorem dX10_mark_54 : decode cX10_mark 54 = .ok (.getfield 241, 3) := by decide +kernel
theorem dX10_mark_57 : decode cX10_mark 57 = .ok (.invokevirtual 242, 3) := by decide +kernel
theorem dX10_mark_60 : decode cX10_mark 60 = .ok (.aload_n 0, 1) := by decide +kernel
theorem dX10_mark_61 : decode cX10_mark 61 = .ok (.iconst 0, 1) := by decide +kernel
theorem dX10_mark_62 : decode cX10_mark 62 = .ok (.putfield 114, 3) := by decide +kernel
theorem dX10_mark_65 : decode cX10_mark 65 = .ok (.goto 41, 3) := by decide +kernel
theorem dX10_mark_68 : decode cX10_mark 68 = .ok (.aload_n 3, 1) := by decide +kernel
theorem dX10_mark_69 : decode cX10_mark 69 = .ok (.getfield 234, 3) := by decide +kernel
theorem dX10_mark_72 : decode cX10_mark 72 = .ok (.aload_n 0, 1) := by decide +kernel
theorem dX10_mark_73 : decode cX10_mark 73 = .ok (.getfield 39, 3) := by decide +kernel
theorem dX10_mark_76 : decode cX10_mark 76 = .ok (.invokevirtual 224, 3) := by decide +kernel
theorem dX10_mark_79 : decode cX10_mark 79 = .ok (.aload_n 3, 1) := by decide +kernel
theorem dX10_mark_80 : decode cX10_mark 80 = .ok (.getfield 237, 3) := by decide +kernel
theorem dX10_mark_83 : decode cX10_mark 83 = .ok (.aload_n 0, 1) := by decide +kernel
theorem dX10_mark_84 : decode cX10_mark 84 = .ok (.getfield 29, 3) := by decide +kernel
theorem dX10_mark_87 : decode cX10_mark 87 = .ok (.invokevirtual 238, 3) := by decide +kernel
theorem dX10_mark_90 : decode cX10_mark 90 = .ok (.aload_n 3, 1) := by decide +kernel
theorem dX10_mark_91 : decode cX10_mark 91 = .ok (.getfield 241, 3) := by decide +kernel
theorem dX10_mark_94 : decode cX10_mark 94 = .ok (.aload_n 0, 1) := by decide +kernel
theorem dX10_mark_95 : decode cX10_mark 95 = .ok (.getfield 49, 3) := by decide +kernel
theorem dX10_mark_98 : decode cX10_mark 98 = .ok (.invokevirtual 242, 3) := by decide +kernel
theorem dX10_mark_101 : decode cX10_mark 101 = .ok (.aload_n 3, 1) := by decide +kernel
theorem dX10_mark_102 : decode cX10_mark 102 = .ok (.iconst 1, 1) := by decide +kernel
theorem dX10_mark_103 : decode cX10_mark 103 = .ok (.putfield 121, 3) := by decide +kernel
theorem dX10_mark_106 : decode cX10_mark 106 = .ok (.iconst 1, 1) := by decide +kernel
theorem dX10_mark_107 : decode cX10_mark 107 = .ok (.ireturn, 1) := by decide +kernel
theorem dX10_markAt_0 : decode cX10_markAt 0 = .ok (.iload_n 1, 1) := by decide +kernel
theorem dX10_markAt_1 : decode cX10_markAt 1 = .ok (.ifCond .lt 21, 3) := by decide +kernel
theorem dX10_markAt_4 : decode cX10_markAt 4 = .ok (.iload_n 1, 1) := by decide +kernel
theorem dX10_markAt_5 : decode cX10_markAt 5 = .ok (.aload_n 0, 1) := by decide +kernel
theorem dX10_markAt_6 : decode cX10_markAt 6 = .ok (.getfield 55, 3) := by decide +kernel
theorem dX10_markAt_9 : decode cX10_markAt 9 = .ok (.arraylength, 1) := by decide +kernel
theorem dX10_markAt_10 : decode cX10_markAt 10 = .ok (.if_icmp .ge 12, 3) := by decide +kernel
theorem dX10_markAt_13 : decode cX10_markAt 13 = .ok (.aload_n 0, 1) := by decide +kernel
theorem dX10_markAt_14 : decode cX10_markAt 14 = .ok (.getfield 55, 3) := by decide +kernel
theorem dX10_markAt_17 : decode cX10_markAt 17 = .ok (.iload_n 1, 1) := by decide +kernel
theorem dX10_markAt_18 : decode cX10_markAt 18 = .ok (.aaload, 1) := by decide +kernel
theorem dX10_markAt_19 : decode cX10_markAt 19 = .ok (.goto 4, 3) := by decide +kernel
theorem dX10_markAt_22 : decode cX10_markAt 22 = .ok (.aconst_null, 1) := by decide +kernel
theorem dX10_markAt_23 : decode cX10_markAt 23 = .ok (.areturn, 1) := by decide +kernel
theorem dX10_judged_0 : decode cX10_judged 0 = .ok (.iload_n 1, 1) := by decide +kernel
theorem dX10_judged_1 : decode cX10_judged 1 = .ok (.iconst 0, 1) := by decide +kernel
theorem dX10_judged_2 : decode cX10_judged 2 = .ok (.iconst 2, 1) := by decide +kernel
theorem dX10_judged_3 : decode cX10_judged 3 = .ok (.invokestatic 199, 3) := by decide +kernel
theorem dX10_judged_6 : decode cX10_judged 6 = .ok (.ifCond .ne 6, 3) := by decide +kernel
theorem dX10_judged_9 : decode cX10_judged 9 = .ok (.bipush (-2), 2) := by decide +kernel
theorem dX10_judged_11 : decode cX10_judged 11 = .ok (.ireturn, 1) := by decide +kernel
theorem dX10_judged_12 : decode cX10_judged 12 = .ok (.iconst (-1), 1) := by decide +kernel
theorem dX10_judged_13 : decode cX10_judged 13 = .ok (.istore_n 2, 1) := by decide +kernel
theorem dX10_judged_14 : decode cX10_judged 14 = .ok (.iconst (-1), 1) := by decide +kernel
theorem dX10_judged_15 : decode cX10_judged 15 = .ok (.istore_n 3, 1) := by decide +kernel
theorem dX10_judged_16 : decode cX10_judged 16 = .ok (.aload_n 0, 1) := by decide +kernel
theorem dX10_judged_17 : decode cX10_judged 17 = .ok (.getfield 43, 3) := by decide +kernel
theorem dX10_judged_20 : decode cX10_judged 20 = .ok (.aload_n 0, 1) := by decide +kernel
theorem dX10_judged_21 : decode cX10_judged 21 = .ok (.getfield 19, 3) := by decide +kernel
theorem dX10_judged_24 : decode cX10_judged 24 = .ok (.invokevirtual 106, 3) := by decide +kernel
theorem dX10_judged_27 : decode cX10_judged 27 = .ok (.iconst 0, 1) := by decide +kernel
theorem dX10_judged_28 : decode cX10_judged 28 = .ok (.istore 4, 2) := by decide +kernel
theorem dX10_judged_30 : decode cX10_judged 30 = .ok (.iload 4, 2) := by decide +kernel
theorem dX10_judged_32 : decode cX10_judged 32 = .ok (.aload_n 0, 1) := by decide +kernel
theorem dX10_judged_33 : decode cX10_judged 33 = .ok (.getfield 29, 3) := by decide +kernel
theorem dX10_judged_36 : decode cX10_judged 36 = .ok (.getfield 188, 3) := by decide +kernel
theorem dX10_judged_39 : decode cX10_judged 39 = .ok (.if_icmp .ge 55, 3) := by decide +kernel
theorem dX10_judged_42 : decode cX10_judged 42 = .ok (.aload_n 0, 1) := by decide +kernel
theorem dX10_judged_43 : decode cX10_judged 43 = .ok (.getfield 29, 3) := by decide +kernel
theorem dX10_judged_46 : decode cX10_judged 46 = .ok (.iload 4, 2) := by decide +kernel
theorem dX10_judged_48 : decode cX10_judged 48 = .ok (.aload_n 0, 1) := by decide +kernel
theorem dX10_judged_49 : decode cX10_judged 49 = .ok (.getfield 43, 3) := by decide +kernel
theorem dX10_judged_52 : decode cX10_judged 52 = .ok (.aload_n 0, 1) := by decide +kernel
theorem dX10_judged_53 : decode cX10_judged 53 = .ok (.getfield 19, 3) := by decide +kernel
theorem dX10_judged_56 : decode cX10_judged 56 = .ok (.invokevirtual 245, 3) := by decide +kernel
theorem dX10_judged_59 : decode cX10_judged 59 = .ok (.istore 5, 2) := by decide +kernel
theorem dX10_judged_61 : decode cX10_judged 61 = .ok (.iload 5, 2) := by decide +kernel
theorem dX10_judged_63 : decode cX10_judged 63 = .ok (.iconst (-1), 1) := by decide +kernel
theorem dX10_judged_64 : decode cX10_judged 64 = .ok (.if_icmp .ne 11, 3) := by decide +kernel
theorem dX10_judged_67 : decode cX10_judged 67 = .ok (.iload_n 2, 1) := by decide +kernel
theorem dX10_judged_68 : decode cX10_judged 68 = .ok (.iconst (-1), 1) := by decide +kernel
theorem dX10_judged_69 : decode cX10_judged 69 = .ok (.if_icmp .ne 6, 3) := by decide +kernel
theorem dX10_judged_72 : decode cX10_judged 72 = .ok (.iload 4, 2) := by decide +kernel
theorem dX10_judged_74 : decode cX10_judged 74 = .ok (.istore_n 2, 1) := by decide +kernel
theorem dX10_judged_75 : decode cX10_judged 75 = .ok (.iload 5, 2) := by decide +kernel
theorem dX10_judged_77 : decode cX10_judged 77 = .ok (.ifCond .le 11, 3) := by decide +kernel
theorem dX10_judged_80 : decode cX10_judged 80 = .ok (.iload_n 3, 1) := by decide +kernel
theorem dX10_judged_81 : decode cX10_judged 81 = .ok (.iconst (-1), 1) := by decide +kernel
theorem dX10_judged_82 : decode cX10_judged 82 = .ok (.if_icmp .ne 6, 3) := by decide +kernel
theorem dX10_judged_85 : decode cX10_judged 85 = .ok (.iload 4, 2) := by decide +kernel
theorem dX10_judged_87 : decode cX10_judged 87 = .ok (.istore_n 3, 1) := by decide +kernel
theorem dX10_judged_88 : decode cX10_judged 88 = .ok (.iinc 4 1, 3) := by decide +kernel
theorem dX10_judged_91 : decode cX10_judged 91 = .ok (.goto (-61), 3) := by decide +kernel
theorem dX10_judged_94 : decode cX10_judged 94 = .ok (.iload_n 1, 1) := by decide +kernel
theorem dX10_judged_95 : decode cX10_judged 95 = .ok (.ifCond .ne 5, 3) := by decide +kernel
theorem dX10_judged_98 : decode cX10_judged 98 = .ok (.iload_n 2, 1) := by decide +kernel
theorem dX10_judged_99 : decode cX10_judged 99 = .ok (.ireturn, 1) := by decide +kernel
theorem dX10_judged_100 : decode cX10_judged 100 = .ok (.iload_n 1, 1) := by decide +kernel
theorem dX10_judged_101 : decode cX10_judged 101 = .ok (.iconst 1, 1) := by decide +kernel
theorem dX10_judged_102 : decode cX10_judged 102 = .ok (.if_icmp .ne 7, 3) := by decide +kernel
theorem dX10_judged_105 : decode cX10_judged 105 = .ok (.iload_n 3, 1) := by decide +kernel
theorem dX10_judged_106 : decode cX10_judged 106 = .ok (.goto 10, 3) := by decide +kernel
theorem dX10_judged_109 : decode cX10_judged 109 = .ok (.aload_n 0, 1) := by decide +kernel
theorem dX10_judged_110 : decode cX10_judged 110 = .ok (.getfield 43, 3) := by decide +kernel
theorem dX10_judged_113 : decode cX10_judged 113 = .ok (.invokevirtual 178, 3) := by decide +kernel
theorem dX10_judged_116 : decode cX10_judged 116 = .ok (.ireturn, 1) := by decide +kernel
theorem dX10_beginTrial_0 : decode cX10_beginTrial 0 = .ok (.aload_n 0, 1) := by decide +kernel
theorem dX10_beginTrial_1 : decode cX10_beginTrial 1 = .ok (.getfield 43, 3) := by decide +kernel
theorem dX10_beginTrial_4 : decode cX10_beginTrial 4 = .ok (.aload_n 0, 1) := by decide +kernel
theorem dX10_beginTrial_5 : decode cX10_beginTrial 5 = .ok (.getfield 39, 3) := by decide +kernel
theorem dX10_beginTrial_8 : decode cX10_beginTrial 8 = .ok (.invokevirtual 224, 3) := by decide +kernel
theorem dX10_beginTrial_11 : decode cX10_beginTrial 11 = .ok (.return_, 1) := by decide +kernel
theorem dX10_passTrial_0 : decode cX10_passTrial 0 = .ok (.aload_n 0, 1) := by decide +kernel
theorem dX10_passTrial_1 : decode cX10_passTrial 1 = .ok (.getfield 43, 3) := by decide +kernel
theorem dX10_passTrial_4 : decode cX10_passTrial 4 = .ok (.aload_n 0, 1) := by decide +kernel
theorem dX10_passTrial_5 : decode cX10_passTrial 5 = .ok (.getfield 19, 3) := by decide +kernel
theorem dX10_passTrial_8 : decode cX10_passTrial 8 = .ok (.aload_n 0, 1) := by decide +kernel
theorem dX10_passTrial_9 : decode cX10_passTrial 9 = .ok (.getfield 19, 3) := by decide +kernel
theorem dX10_passTrial_12 : decode cX10_passTrial 12 = .ok (.aload_n 0, 1) := by decide +kernel
theorem dX10_passTrial_13 : decode cX10_passTrial 13 = .ok (.getfield 43, 3) := by decide +kernel
theorem dX10_passTrial_16 : decode cX10_passTrial 16 = .ok (.getfield 169, 3) := by decide +kernel
theorem dX10_passTrial_19 : decode cX10_passTrial 19 = .ok (.invokevirtual 172, 3) := by decide +kernel
theorem dX10_passTrial_22 : decode cX10_passTrial 22 = .ok (.invokevirtual 195, 3) := by decide +kernel
theorem dX10_passTrial_25 : decode cX10_passTrial 25 = .ok (.ireturn, 1) := by decide +kernel
theorem dX10_tryNights_0 : decode cX10_tryNights 0 = .ok (.aload_n 0, 1) := by decide +kernel
theorem dX10_tryNights_1 : decode cX10_tryNights 1 = .ok (.invokevirtual 249, 3) := by decide +kernel
theorem dX10_tryNights_4 : decode cX10_tryNights 4 = .ok (.iconst 0, 1) := by decide +kernel
theorem dX10_tryNights_5 : decode cX10_tryNights 5 = .ok (.istore_n 2, 1) := by decide +kernel
theorem dX10_tryNights_6 : decode cX10_tryNights 6 = .ok (.iload_n 2, 1) := by decide +kernel
theorem dX10_tryNights_7 : decode cX10_tryNights 7 = .ok (.iload_n 1, 1) := by decide +kernel
theorem dX10_tryNights_8 : decode cX10_tryNights 8 = .ok (.if_icmp .ge 14, 3) := by decide +kernel
theorem dX10_tryNights_11 : decode cX10_tryNights 11 = .ok (.aload_n 0, 1) := by decide +kernel
theorem dX10_tryNights_12 : decode cX10_tryNights 12 = .ok (.invokevirtual 252, 3) := by decide +kernel
theorem dX10_tryNights_15 : decode cX10_tryNights 15 = .ok (.pop, 1) := by decide +kernel
theorem dX10_tryNights_16 : decode cX10_tryNights 16 = .ok (.iinc 2 1, 3) := by decide +kernel
theorem dX10_tryNights_19 : decode cX10_tryNights 19 = .ok (.goto (-13), 3) := by decide +kernel
theorem dX10_tryNights_22 : decode cX10_tryNights 22 = .ok (.return_, 1) := by decide +kernel
theorem dX10_later_0 : decode cX10_later 0 = .ok (.aload_n 0, 1) := by decide +kernel
theorem dX10_later_1 : decode cX10_later 1 = .ok (.iload_n 1, 1) := by decide +kernel
theorem dX10_later_2 : decode cX10_later 2 = .ok (.invokevirtual 130, 3) := by decide +kernel
theorem dX10_later_5 : decode cX10_later 5 = .ok (.ifCond .eq 13, 3) := by decide +kernel
theorem dX10_later_8 : decode cX10_later 8 = .ok (.iload_n 2, 1) := by decide +kernel
theorem dX10_later_9 : decode cX10_later 9 = .ok (.iconst 0, 1) := by decide +kernel
theorem dX10_later_10 : decode cX10_later 10 = .ok (.bipush 60, 2) := by decide +kernel
theorem dX10_later_12 : decode cX10_later 12 = .ok (.invokestatic 199, 3) := by decide +kernel
theorem dX10_later_15 : decode cX10_later 15 = .ok (.ifCond .ne 5, 3) := by decide +kernel
theorem dX10_later_18 : decode cX10_later 18 = .ok (.iconst (-1), 1) := by decide +kernel
theorem dX10_later_19 : decode cX10_later 19 = .ok (.ireturn, 1) := by decide +kernel
theorem dX10_later_20 : decode cX10_later 20 = .ok (.aload_n 0, 1) := by decide +kernel
theorem dX10_later_21 : decode cX10_later 21 = .ok (.iload_n 2, 1) := by decide +kernel
theorem dX10_later_22 : decode cX10_later 22 = .ok (.invokevirtual 255, 3) := by decide +kernel
theorem dX10_later_25 : decode cX10_later 25 = .ok (.aload_n 0, 1) := by decide +kernel
theorem dX10_later_26 : decode cX10_later 26 = .ok (.getfield 43, 3) := by decide +kernel
theorem dX10_later_29 : decode cX10_later 29 = .ok (.getfield 147, 3) := by decide +kernel
theorem dX10_later_32 : decode cX10_later 32 = .ok (.iload_n 1, 1) := by decide +kernel
theorem dX10_later_33 : decode cX10_later 33 = .ok (.invokestatic 137, 3) := by decide +kernel
theorem dX10_later_36 : decode cX10_later 36 = .ok (.ireturn, 1) := by decide +kernel
theorem dX10_creak_0 : decode cX10_creak 0 = .ok (.aload_n 0, 1) := by decide +kernel
theorem dX10_creak_1 : decode cX10_creak 1 = .ok (.iload_n 1, 1) := by decide +kernel
theorem dX10_creak_2 : decode cX10_creak 2 = .ok (.invokevirtual 130, 3) := by decide +kernel
theorem dX10_creak_5 : decode cX10_creak 5 = .ok (.ifCond .eq 13, 3) := by decide +kernel
theorem dX10_creak_8 : decode cX10_creak 8 = .ok (.iload_n 2, 1) := by decide +kernel
theorem dX10_creak_9 : decode cX10_creak 9 = .ok (.iconst 1, 1) := by decide +kernel
theorem dX10_creak_10 : decode cX10_creak 10 = .ok (.bipush 60, 2) := by decide +kernel
theorem dX10_creak_12 : decode cX10_creak 12 = .ok (.invokestatic 199, 3) := by decide +kernel
theorem dX10_creak_15 : decode cX10_creak 15 = .ok (.ifCond .ne 5, 3) := by decide +kernel
theorem dX10_creak_18 : decode cX10_creak 18 = .ok (.iconst (-1), 1) := by decide +kernel
theorem dX10_creak_19 : decode cX10_creak 19 = .ok (.ireturn, 1) := by decide +kernel
theorem dX10_creak_20 : decode cX10_creak 20 = .ok (.aload_n 0, 1) := by decide +kernel
theorem dX10_creak_21 : decode cX10_creak 21 = .ok (.iload_n 2, 1) := by decide +kernel
theorem dX10_creak_22 : decode cX10_creak 22 = .ok (.invokevirtual 255, 3) := by decide +kernel
theorem dX10_creak_25 : decode cX10_creak 25 = .ok (.aload_n 0, 1) := by decide +kernel
theorem dX10_creak_26 : decode cX10_creak 26 = .ok (.getfield 43, 3) := by decide +kernel
theorem dX10_creak_29 : decode cX10_creak 29 = .ok (.getfield 258, 3) := by decide +kernel
theorem dX10_creak_32 : decode cX10_creak 32 = .ok (.iload_n 1, 1) := by decide +kernel
theorem dX10_creak_33 : decode cX10_creak 33 = .ok (.invokestatic 137, 3) := by decide +kernel
theorem dX10_creak_36 : decode cX10_creak 36 = .ok (.ireturn, 1) := by decide +kernel
theorem dX10_pops_0 : decode cX10_pops 0 = .ok (.aload_n 0, 1) := by decide +kernel
theorem dX10_pops_1 : decode cX10_pops 1 = .ok (.iload_n 1, 1) := by decide +kernel
theorem dX10_pops_2 : decode cX10_pops 2 = .ok (.invokevirtual 130, 3) := by decide +kernel
theorem dX10_pops_5 : decode cX10_pops 5 = .ok (.ifCond .ne 5, 3) := by decide +kernel
theorem dX10_pops_8 : decode cX10_pops 8 = .ok (.iconst (-1), 1) := by decide +kernel
theorem dX10_pops_9 : decode cX10_pops 9 = .ok (.ireturn, 1) := by decide +kernel
theorem dX10_pops_10 : decode cX10_pops 10 = .ok (.aload_n 0, 1) := by decide +kernel
theorem dX10_pops_11 : decode cX10_pops 11 = .ok (.invokevirtual 249, 3) := by decide +kernel
theorem dX10_pops_14 : decode cX10_pops 14 = .ok (.iconst 1, 1) := by decide +kernel
theorem dX10_pops_15 : decode cX10_pops 15 = .ok (.istore_n 2, 1) := by decide +kernel
theorem dX10_pops_16 : decode cX10_pops 16 = .ok (.iload_n 2, 1) := by decide +kernel
theorem dX10_pops_17 : decode cX10_pops 17 = .ok (.bipush 60, 2) := by decide +kernel
theorem dX10_pops_19 : decode cX10_pops 19 = .ok (.if_icmp .gt 23, 3) := by decide +kernel
theorem dX10_pops_22 : decode cX10_pops 22 = .ok (.aload_n 0, 1) := by decide +kernel
theorem dX10_pops_23 : decode cX10_pops 23 = .ok (.invokevirtual 252, 3) := by decide +kernel
theorem dX10_pops_26 : decode cX10_pops 26 = .ok (.iload_n 1, 1) := by decide +kernel
theorem dX10_pops_27 : decode cX10_pops 27 = .ok (.ishr, 1) := by decide +kernel
theorem dX10_pops_28 : decode cX10_pops 28 = .ok (.iconst 1, 1) := by decide +kernel
theorem dX10_pops_29 : decode cX10_pops 29 = .ok (.iand, 1) := by decide +kernel
theorem dX10_pops_30 : decode cX10_pops 30 = .ok (.iconst 1, 1) := by decide +kernel
theorem dX10_pops_31 : decode cX10_pops 31 = .ok (.if_icmp .ne 5, 3) := by decide +kernel
theorem dX10_pops_34 : decode cX10_pops 34 = .ok (.iload_n 2, 1) := by decide +kernel
theorem dX10_pops_35 : decode cX10_pops 35 = .ok (.ireturn, 1) := by decide +kernel
theorem dX10_pops_36 : decode cX10_pops 36 = .ok (.iinc 2 1, 3) := by decide +kernel
theorem dX10_pops_39 : decode cX10_pops 39 = .ok (.goto (-23), 3) := by decide +kernel
theorem dX10_pops_42 : decode cX10_pops 42 = .ok (.iconst (-1), 1) := by decide +kernel
theorem dX10_pops_43 : decode cX10_pops 43 = .ok (.ireturn, 1) := by decide +kernel
theorem dX10_first_0 : decode cX10_first 0 = .ok (.aload_n 0, 1) := by decide +kernel
theorem dX10_first_1 : decode cX10_first 1 = .ok (.invokevirtual 249, 3) := by decide +kernel
theorem dX10_first_4 : decode cX10_first 4 = .ok (.iconst 1, 1) := by decide +kernel
theorem dX10_first_5 : decode cX10_first 5 = .ok (.istore_n 1, 1) := by decide +kernel
theorem dX10_first_6 : decode cX10_first 6 = .ok (.iload_n 1, 1) := by decide +kernel
theorem dX10_first_7 : decode cX10_first 7 = .ok (.bipush 60, 2) := by decide +kernel
theorem dX10_first_9 : decode cX10_first 9 = .ok (.if_icmp .gt 23, 3) := by decide +kernel
theorem dX10_first_12 : decode cX10_first 12 = .ok (.aload_n 0, 1) := by decide +kernel
theorem dX10_first_13 : decode cX10_first 13 = .ok (.invokevirtual 252, 3) := by decide +kernel
theorem dX10_first_16 : decode cX10_first 16 = .ok (.istore_n 2, 1) := by decide +kernel
theorem dX10_first_17 : decode cX10_first 17 = .ok (.iload_n 2, 1) := by decide +kernel
theorem dX10_first_18 : decode cX10_first 18 = .ok (.ifCond .eq 8, 3) := by decide +kernel
theorem dX10_first_21 : decode cX10_first 21 = .ok (.iload_n 2, 1) := by decide +kernel
theorem dX10_first_22 : decode cX10_first 22 = .ok (.invokestatic 261, 3) := by decide +kernel
theorem dX10_first_25 : decode cX10_first 25 = .ok (.ireturn, 1) := by decide +kernel
theorem dX10_first_26 : decode cX10_first 26 = .ok (.iinc 1 1, 3) := by decide +kernel
theorem dX10_first_29 : decode cX10_first 29 = .ok (.goto (-23), 3) := by decide +kernel
theorem dX10_first_32 : decode cX10_first 32 = .ok (.iconst (-1), 1) := by decide +kernel
theorem dX10_first_33 : decode cX10_first 33 = .ok (.ireturn, 1) := by decide +kernel
theorem dX10_lowest_0 : decode cX10_lowest 0 = .ok (.iconst 0, 1) := by decide +kernel
theorem dX10_lowest_1 : decode cX10_lowest 1 = .ok (.istore_n 1, 1) := by decide +kernel
theorem dX10_lowest_2 : decode cX10_lowest 2 = .ok (.iload_n 1, 1) := by decide +kernel
theorem dX10_lowest_3 : decode cX10_lowest 3 = .ok (.bipush 6, 2) := by decide +kernel
theorem dX10_lowest_5 : decode cX10_lowest 5 = .ok (.if_icmp .ge 20, 3) := by decide +kernel
theorem dX10_lowest_8 : decode cX10_lowest 8 = .ok (.iload_n 0, 1) := by decide +kernel
theorem dX10_lowest_9 : decode cX10_lowest 9 = .ok (.iload_n 1, 1) := by decide +kernel
theorem dX10_lowest_10 : decode cX10_lowest 10 = .ok (.ishr, 1) := by decide +kernel
theorem dX10_lowest_11 : decode cX10_lowest 11 = .ok (.iconst 1, 1) := by decide +kernel
theorem dX10_lowest_12 : decode cX10_lowest 12 = .ok (.iand, 1) := by decide +kernel
theorem dX10_lowest_13 : decode cX10_lowest 13 = .ok (.iconst 1, 1) := by decide +kernel
theorem dX10_lowest_14 : decode cX10_lowest 14 = .ok (.if_icmp .ne 5, 3) := by decide +kernel
theorem dX10_lowest_17 : decode cX10_lowest 17 = .ok (.iload_n 1, 1) := by decide +kernel
theorem dX10_lowest_18 : decode cX10_lowest 18 = .ok (.ireturn, 1) := by decide +kernel
theorem dX10_lowest_19 : decode cX10_lowest 19 = .ok (.iinc 1 1, 3) := by decide +kernel
theorem dX10_lowest_22 : decode cX10_lowest 22 = .ok (.goto (-20), 3) := by decide +kernel
theorem dX10_lowest_25 : decode cX10_lowest 25 = .ok (.iconst (-1), 1) := by decide +kernel
theorem dX10_lowest_26 : decode cX10_lowest 26 = .ok (.ireturn, 1) := by decide +kernel
theorem dX10_riot_0 : decode cX10_riot 0 = .ok (.aload_n 0, 1) := by decide +kernel
theorem dX10_riot_1 : decode cX10_riot 1 = .ok (.iload_n 1, 1) := by decide +kernel
theorem dX10_riot_2 : decode cX10_riot 2 = .ok (.invokevirtual 130, 3) := by decide +kernel
theorem dX10_riot_5 : decode cX10_riot 5 = .ok (.ifCond .ne 5, 3) := by decide +kernel
theorem dX10_riot_8 : decode cX10_riot 8 = .ok (.iconst (-1), 1) := by decide +kernel
theorem dX10_riot_9 : decode cX10_riot 9 = .ok (.ireturn, 1) := by decide +kernel
theorem dX10_riot_10 : decode cX10_riot 10 = .ok (.aload_n 0, 1) := by decide +kernel
theorem dX10_riot_11 : decode cX10_riot 11 = .ok (.invokevirtual 249, 3) := by decide +kernel
theorem dX10_riot_14 : decode cX10_riot 14 = .ok (.iconst 0, 1) := by decide +kernel
theorem dX10_riot_15 : decode cX10_riot 15 = .ok (.istore_n 2, 1) := by decide +kernel
theorem dX10_riot_16 : decode cX10_riot 16 = .ok (.iload_n 2, 1) := by decide +kernel
theorem dX10_riot_17 : decode cX10_riot 17 = .ok (.bipush 60, 2) := by decide +kernel
theorem dX10_riot_19 : decode cX10_riot 19 = .ok (.if_icmp .gt 29, 3) := by decide +kernel
theorem dX10_riot_22 : decode cX10_riot 22 = .ok (.aload_n 0, 1) := by decide +kernel
theorem dX10_riot_23 : decode cX10_riot 23 = .ok (.getfield 43, 3) := by decide +kernel
theorem dX10_riot_26 : decode cX10_riot 26 = .ok (.iload_n 1, 1) := by decide +kernel
theorem dX10_riot_27 : decode cX10_riot 27 = .ok (.invokevirtual 156, 3) := by decide +kernel
theorem dX10_riot_30 : decode cX10_riot 30 = .ok (.bipush 60, 2) := by decide +kernel
theorem dX10_riot_32 : decode cX10_riot 32 = .ok (.if_icmp .lt 5, 3) := by decide +kernel
theorem dX10_riot_35 : decode cX10_riot 35 = .ok (.iload_n 2, 1) := by decide +kernel
theorem dX10_riot_36 : decode cX10_riot 36 = .ok (.ireturn, 1) := by decide +kernel
theorem dX10_riot_37 : decode cX10_riot 37 = .ok (.aload_n 0, 1) := by decide +kernel
theorem dX10_riot_38 : decode cX10_riot 38 = .ok (.invokevirtual 252, 3) := by decide +kernel
theorem dX10_riot_41 : decode cX10_riot 41 = .ok (.pop, 1) := by decide +kernel
theorem dX10_riot_42 : decode cX10_riot 42 = .ok (.iinc 2 1, 3) := by decide +kernel
theorem dX10_riot_45 : decode cX10_riot 45 = .ok (.goto (-29), 3) := by decide +kernel
theorem dX10_riot_48 : decode cX10_riot 48 = .ok (.iconst (-1), 1) := by decide +kernel
theorem dX10_riot_49 : decode cX10_riot 49 = .ok (.ireturn, 1) := by decide +kernel
theorem dX10_calm_0 : decode cX10_calm 0 = .ok (.aload_n 0, 1) := by decide +kernel
theorem dX10_calm_1 : decode cX10_calm 1 = .ok (.iload_n 1, 1) := by decide +kernel
theorem dX10_calm_2 : decode cX10_calm 2 = .ok (.invokevirtual 130, 3) := by decide +kernel
theorem dX10_calm_5 : decode cX10_calm 5 = .ok (.ifCond .ne 5, 3) := by decide +kernel
theorem dX10_calm_8 : decode cX10_calm 8 = .ok (.iconst (-1), 1) := by decide +kernel
theorem dX10_calm_9 : decode cX10_calm 9 = .ok (.ireturn, 1) := by decide +kernel
theorem dX10_calm_10 : decode cX10_calm 10 = .ok (.aload_n 0, 1) := by decide +kernel
theorem dX10_calm_11 : decode cX10_calm 11 = .ok (.getfield 39, 3) := by decide +kernel
theorem dX10_calm_14 : decode cX10_calm 14 = .ok (.getfield 144, 3) := by decide +kernel
theorem dX10_calm_17 : decode cX10_calm 17 = .ok (.iload_n 1, 1) := by decide +kernel
theorem dX10_calm_18 : decode cX10_calm 18 = .ok (.invokestatic 137, 3) := by decide +kernel
theorem dX10_calm_21 : decode cX10_calm 21 = .ok (.istore_n 2, 1) := by decide +kernel
theorem dX10_calm_22 : decode cX10_calm 22 = .ok (.aload_n 0, 1) := by decide +kernel
theorem dX10_calm_23 : decode cX10_calm 23 = .ok (.getfield 39, 3) := by decide +kernel
theorem dX10_calm_26 : decode cX10_calm 26 = .ok (.getfield 147, 3) := by decide +kernel
theorem dX10_calm_29 : decode cX10_calm 29 = .ok (.iload_n 1, 1) := by decide +kernel
theorem dX10_calm_30 : decode cX10_calm 30 = .ok (.invokestatic 137, 3) := by decide +kernel
theorem dX10_calm_33 : decode cX10_calm 33 = .ok (.istore_n 3, 1) := by decide +kernel
theorem dX10_calm_34 : decode cX10_calm 34 = .ok (.iconst 0, 1) := by decide +kernel
theorem dX10_calm_35 : decode cX10_calm 35 = .ok (.istore 4, 2) := by decide +kernel
theorem dX10_calm_37 : decode cX10_calm 37 = .ok (.iload 4, 2) := by decide +kernel
theorem dX10_calm_39 : decode cX10_calm 39 = .ok (.iload_n 2, 1) := by decide +kernel
theorem dX10_calm_40 : decode cX10_calm 40 = .ok (.if_icmp .ge 25, 3) := by decide +kernel
theorem dX10_calm_43 : decode cX10_calm 43 = .ok (.iload_n 3, 1) := by decide +kernel
theorem dX10_calm_44 : decode cX10_calm 44 = .ok (.iload_n 2, 1) := by decide +kernel
theorem dX10_calm_45 : decode cX10_calm 45 = .ok (.iload 4, 2) := by decide +kernel
theorem dX10_calm_47 : decode cX10_calm 47 = .ok (.isub, 1) := by decide +kernel
theorem dX10_calm_48 : decode cX10_calm 48 = .ok (.invokestatic 264, 3) := by decide +kernel
theorem dX10_calm_51 : decode cX10_calm 51 = .ok (.bipush 60, 2) := by decide +kernel
theorem dX10_calm_53 : decode cX10_calm 53 = .ok (.if_icmp .ge 6, 3) := by decide +kernel
theorem dX10_calm_56 : decode cX10_calm 56 = .ok (.iload 4, 2) := by decide +kernel
theorem dX10_calm_58 : decode cX10_calm 58 = .ok (.ireturn, 1) := by decide +kernel
theorem dX10_calm_59 : decode cX10_calm 59 = .ok (.iinc 4 1, 3) := by decide +kernel
theorem dX10_calm_62 : decode cX10_calm 62 = .ok (.goto (-25), 3) := by decide +kernel
theorem dX10_calm_65 : decode cX10_calm 65 = .ok (.iload_n 2, 1) := by decide +kernel
theorem dX10_calm_66 : decode cX10_calm 66 = .ok (.ireturn, 1) := by decide +kernel
theorem dX10_roofed_0 : decode cX10_roofed 0 = .ok (.aload_n 0, 1) := by decide +kernel
theorem dX10_roofed_1 : decode cX10_roofed 1 = .ok (.invokevirtual 249, 3) := by decide +kernel
theorem dX10_roofed_4 : decode cX10_roofed 4 = .ok (.iconst 0, 1) := by decide +kernel
theorem dX10_roofed_5 : decode cX10_roofed 5 = .ok (.istore_n 1, 1) := by decide +kernel
theorem dX10_roofed_6 : decode cX10_roofed 6 = .ok (.iload_n 1, 1) := by decide +kernel
theorem dX10_roofed_7 : decode cX10_roofed 7 = .ok (.bipush 60, 2) := by decide +kernel
theorem dX10_roofed_9 : decode cX10_roofed 9 = .ok (.if_icmp .gt 33, 3) := by decide +kernel
theorem dX10_roofed_12 : decode cX10_roofed 12 = .ok (.aload_n 0, 1) := by decide +kernel
theorem dX10_roofed_13 : decode cX10_roofed 13 = .ok (.getfield 43, 3) := by decide +kernel
theorem dX10_roofed_16 : decode cX10_roofed 16 = .ok (.aload_n 0, 1) := by decide +kernel
theorem dX10_roofed_17 : decode cX10_roofed 17 = .ok (.getfield 19, 3) := by decide +kernel
theorem dX10_roofed_20 : decode cX10_roofed 20 = .ok (.getfield 175, 3) := by decide +kernel
theorem dX10_roofed_23 : decode cX10_roofed 23 = .ok (.invokevirtual 267, 3) := by decide +kernel
theorem dX10_roofed_26 : decode cX10_roofed 26 = .ok (.ifCond .eq 5, 3) := by decide +kernel
theorem dX10_roofed_29 : decode cX10_roofed 29 = .ok (.iload_n 1, 1) := by decide +kernel
theorem dX10_roofed_30 : decode cX10_roofed 30 = .ok (.ireturn, 1) := by decide +kernel
theorem dX10_roofed_31 : decode cX10_roofed 31 = .ok (.aload_n 0, 1) := by decide +kernel
theorem dX10_roofed_32 : decode cX10_roofed 32 = .ok (.invokevirtual 252, 3) := by decide +kernel
theorem dX10_roofed_35 : decode cX10_roofed 35 = .ok (.pop, 1) := by decide +kernel
theorem dX10_roofed_36 : decode cX10_roofed 36 = .ok (.iinc 1 1, 3) := by decide +kernel
theorem dX10_roofed_39 : decode cX10_roofed 39 = .ok (.goto (-33), 3) := by decide +kernel
theorem dX10_roofed_42 : decode cX10_roofed 42 = .ok (.iconst (-1), 1) := by decide +kernel
theorem dX10_roofed_43 : decode cX10_roofed 43 = .ok (.ireturn, 1) := by decide +kernel
theorem dX10_yields_0 : decode cX10_yields 0 = .ok (.iload_n 1, 1) := by decide +kernel
theorem dX10_yields_1 : decode cX10_yields 1 = .ok (.iconst 0, 1) := by decide +kernel
theorem dX10_yields_2 : decode cX10_yields 2 = .ok (.bipush 60, 2) := by decide +kernel
theorem dX10_yields_4 : decode cX10_yields 4 = .ok (.invokestatic 199, 3) := by decide +kernel
theorem dX10_yields_7 : decode cX10_yields 7 = .ok (.ifCond .ne 5, 3) := by decide +kernel
theorem dX10_yields_10 : decode cX10_yields 10 = .ok (.iconst (-1), 1) := by decide +kernel
theorem dX10_yields_11 : decode cX10_yields 11 = .ok (.ireturn, 1) := by decide +kernel
theorem dX10_yields_12 : decode cX10_yields 12 = .ok (.aload_n 0, 1) := by decide +kernel
theorem dX10_yields_13 : decode cX10_yields 13 = .ok (.iload_n 1, 1) := by decide +kernel
theorem dX10_yields_14 : decode cX10_yields 14 = .ok (.invokevirtual 255, 3) := by decide +kernel
theorem dX10_yields_17 : decode cX10_yields 17 = .ok (.aload_n 0, 1) := by decide +kernel
theorem dX10_yields_18 : decode cX10_yields 18 = .ok (.getfield 43, 3) := by decide +kernel
theorem dX10_yields_21 : decode cX10_yields 21 = .ok (.invokevirtual 270, 3) := by decide +kernel
theorem dX10_yields_24 : decode cX10_yields 24 = .ok (.ireturn, 1) := by decide +kernel
theorem dX10_loud_0 : decode cX10_loud 0 = .ok (.iconst (-1), 1) := by decide +kernel
theorem dX10_loud_1 : decode cX10_loud 1 = .ok (.istore_n 1, 1) := by decide +kernel
theorem dX10_loud_2 : decode cX10_loud 2 = .ok (.iconst 0, 1) := by decide +kernel
theorem dX10_loud_3 : decode cX10_loud 3 = .ok (.istore_n 2, 1) := by decide +kernel
theorem dX10_loud_4 : decode cX10_loud 4 = .ok (.iload_n 2, 1) := by decide +kernel
theorem dX10_loud_5 : decode cX10_loud 5 = .ok (.aload_n 0, 1) := by decide +kernel
theorem dX10_loud_6 : decode cX10_loud 6 = .ok (.getfield 19, 3) := by decide +kernel
theorem dX10_loud_9 : decode cX10_loud 9 = .ok (.getfield 74, 3) := by decide +kernel
theorem dX10_loud_12 : decode cX10_loud 12 = .ok (.if_icmp .ge 35, 3) := by decide +kernel
theorem dX10_loud_15 : decode cX10_loud 15 = .ok (.iload_n 1, 1) := by decide +kernel
theorem dX10_loud_16 : decode cX10_loud 16 = .ok (.iconst (-1), 1) := by decide +kernel
theorem dX10_loud_17 : decode cX10_loud 17 = .ok (.if_icmp .eq 22, 3) := by decide +kernel
theorem dX10_loud_20 : decode cX10_loud 20 = .ok (.aload_n 0, 1) := by decide +kernel
theorem dX10_loud_21 : decode cX10_loud 21 = .ok (.getfield 39, 3) := by decide +kernel
theorem dX10_loud_24 : decode cX10_loud 24 = .ok (.iload_n 2, 1) := by decide +kernel
theorem dX10_loud_25 : decode cX10_loud 25 = .ok (.invokevirtual 156, 3) := by decide +kernel
theorem dX10_loud_28 : decode cX10_loud 28 = .ok (.aload_n 0, 1) := by decide +kernel
theorem dX10_loud_29 : decode cX10_loud 29 = .ok (.getfield 39, 3) := by decide +kernel
theorem dX10_loud_32 : decode cX10_loud 32 = .ok (.iload_n 1, 1) := by decide +kernel
theorem dX10_loud_33 : decode cX10_loud 33 = .ok (.invokevirtual 156, 3) := by decide +kernel
theorem dX10_loud_36 : decode cX10_loud 36 = .ok (.if_icmp .le 5, 3) := by decide +kernel
theorem dX10_loud_39 : decode cX10_loud 39 = .ok (.iload_n 2, 1) := by decide +kernel
theorem dX10_loud_40 : decode cX10_loud 40 = .ok (.istore_n 1, 1) := by decide +kernel
theorem dX10_loud_41 : decode cX10_loud 41 = .ok (.iinc 2 1, 3) := by decide +kernel
theorem dX10_loud_44 : decode cX10_loud 44 = .ok (.goto (-40), 3) := by decide +kernel
theorem dX10_loud_47 : decode cX10_loud 47 = .ok (.iload_n 1, 1) := by decide +kernel
theorem dX10_loud_48 : decode cX10_loud 48 = .ok (.ireturn, 1) := by decide +kernel
theorem dX10_tall_0 : decode cX10_tall 0 = .ok (.iconst (-1), 1) := by decide +kernel
theorem dX10_tall_1 : decode cX10_tall 1 = .ok (.istore_n 1, 1) := by decide +kernel
theorem dX10_tall_2 : decode cX10_tall 2 = .ok (.iconst 0, 1) := by decide +kernel
theorem dX10_tall_3 : decode cX10_tall 3 = .ok (.istore_n 2, 1) := by decide +kernel
theorem dX10_tall_4 : decode cX10_tall 4 = .ok (.iload_n 2, 1) := by decide +kernel
theorem dX10_tall_5 : decode cX10_tall 5 = .ok (.aload_n 0, 1) := by decide +kernel
theorem dX10_tall_6 : decode cX10_tall 6 = .ok (.getfield 19, 3) := by decide +kernel
theorem dX10_tall_9 : decode cX10_tall 9 = .ok (.getfield 74, 3) := by decide +kernel
theorem dX10_tall_12 : decode cX10_tall 12 = .ok (.if_icmp .ge 41, 3) := by decide +kernel
theorem dX10_tall_15 : decode cX10_tall 15 = .ok (.iload_n 1, 1) := by decide +kernel
theorem dX10_tall_16 : decode cX10_tall 16 = .ok (.iconst (-1), 1) := by decide +kernel
theorem dX10_tall_17 : decode cX10_tall 17 = .ok (.if_icmp .eq 28, 3) := by decide +kernel
theorem dX10_tall_20 : decode cX10_tall 20 = .ok (.aload_n 0, 1) := by decide +kernel
theorem dX10_tall_21 : decode cX10_tall 21 = .ok (.getfield 39, 3) := by decide +kernel
theorem dX10_tall_24 : decode cX10_tall 24 = .ok (.getfield 147, 3) := by decide +kernel
theorem dX10_tall_27 : decode cX10_tall 27 = .ok (.iload_n 2, 1) := by decide +kernel
theorem dX10_tall_28 : decode cX10_tall 28 = .ok (.invokestatic 137, 3) := by decide +kernel
theorem dX10_tall_31 : decode cX10_tall 31 = .ok (.aload_n 0, 1) := by decide +kernel
theorem dX10_tall_32 : decode cX10_tall 32 = .ok (.getfield 39, 3) := by decide +kernel
theorem dX10_tall_35 : decode cX10_tall 35 = .ok (.getfield 147, 3) := by decide +kernel
theorem dX10_tall_38 : decode cX10_tall 38 = .ok (.iload_n 1, 1) := by decide +kernel
theorem dX10_tall_39 : decode cX10_tall 39 = .ok (.invokestatic 137, 3) := by decide +kernel
theorem dX10_tall_42 : decode cX10_tall 42 = .ok (.if_icmp .le 5, 3) := by decide +kernel
theorem dX10_tall_45 : decode cX10_tall 45 = .ok (.iload_n 2, 1) := by decide +kernel
theorem dX10_tall_46 : decode cX10_tall 46 = .ok (.istore_n 1, 1) := by decide +kernel
theorem dX10_tall_47 : decode cX10_tall 47 = .ok (.iinc 2 1, 3) := by decide +kernel
theorem dX10_tall_50 : decode cX10_tall 50 = .ok (.goto (-46), 3) := by decide +kernel
theorem dX10_tall_53 : decode cX10_tall 53 = .ok (.iload_n 1, 1) := by decide +kernel
theorem dX10_tall_54 : decode cX10_tall 54 = .ok (.ireturn, 1) := by decide +kernel
theorem dX10_hadIn_0 : decode cX10_hadIn 0 = .ok (.iconst 0, 1) := by decide +kernel
theorem dX10_hadIn_1 : decode cX10_hadIn 1 = .ok (.istore_n 3, 1) := by decide +kernel
theorem dX10_hadIn_2 : decode cX10_hadIn 2 = .ok (.iconst 0, 1) := by decide +kernel
theorem dX10_hadIn_3 : decode cX10_hadIn 3 = .ok (.istore 4, 2) := by decide +kernel
theorem dX10_hadIn_5 : decode cX10_hadIn 5 = .ok (.iload 4, 2) := by decide +kernel
theorem dX10_hadIn_7 : decode cX10_hadIn 7 = .ok (.aload_n 0, 1) := by decide +kernel
theorem dX10_hadIn_8 : decode cX10_hadIn 8 = .ok (.getfield 19, 3) := by decide +kernel
theorem dX10_hadIn_11 : decode cX10_hadIn 11 = .ok (.getfield 74, 3) := by decide +kernel
theorem dX10_hadIn_14 : decode cX10_hadIn 14 = .ok (.if_icmp .ge 33, 3) := by decide +kernel
theorem dX10_hadIn_17 : decode cX10_hadIn 17 = .ok (.aload_n 0, 1) := by decide +kernel
theorem dX10_hadIn_18 : decode cX10_hadIn 18 = .ok (.getfield 19, 3) := by decide +kernel
theorem dX10_hadIn_21 : decode cX10_hadIn 21 = .ok (.iload_n 2, 1) := by decide +kernel
theorem dX10_hadIn_22 : decode cX10_hadIn 22 = .ok (.aload_n 1, 1) := by decide +kernel
theorem dX10_hadIn_23 : decode cX10_hadIn 23 = .ok (.iload 4, 2) := by decide +kernel
theorem dX10_hadIn_25 : decode cX10_hadIn 25 = .ok (.invokevirtual 156, 3) := by decide +kernel
theorem dX10_hadIn_28 : decode cX10_hadIn 28 = .ok (.invokevirtual 273, 3) := by decide +kernel
theorem dX10_hadIn_31 : decode cX10_hadIn 31 = .ok (.ifCond .eq 10, 3) := by decide +kernel
theorem dX10_hadIn_34 : decode cX10_hadIn 34 = .ok (.iload_n 3, 1) := by decide +kernel
theorem dX10_hadIn_35 : decode cX10_hadIn 35 = .ok (.iconst 1, 1) := by decide +kernel
theorem dX10_hadIn_36 : decode cX10_hadIn 36 = .ok (.iload 4, 2) := by decide +kernel
theorem dX10_hadIn_38 : decode cX10_hadIn 38 = .ok (.ishl, 1) := by decide +kernel
theorem dX10_hadIn_39 : decode cX10_hadIn 39 = .ok (.ior, 1) := by decide +kernel
theorem dX10_hadIn_40 : decode cX10_hadIn 40 = .ok (.istore_n 3, 1) := by decide +kernel
theorem dX10_hadIn_41 : decode cX10_hadIn 41 = .ok (.iinc 4 1, 3) := by decide +kernel
theorem dX10_hadIn_44 : decode cX10_hadIn 44 = .ok (.goto (-39), 3) := by decide +kernel
theorem dX10_hadIn_47 : decode cX10_hadIn 47 = .ok (.iload_n 3, 1) := by decide +kernel
theorem dX10_hadIn_48 : decode cX10_hadIn 48 = .ok (.ireturn, 1) := by decide +kernel
theorem dX10_had_0 : decode cX10_had 0 = .ok (.aload_n 0, 1) := by decide +kernel
theorem dX10_had_1 : decode cX10_had 1 = .ok (.iload_n 1, 1) := by decide +kernel
theorem dX10_had_2 : decode cX10_had 2 = .ok (.invokevirtual 160, 3) := by decide +kernel
theorem dX10_had_5 : decode cX10_had 5 = .ok (.ifCond .eq 15, 3) := by decide +kernel
theorem dX10_had_8 : decode cX10_had 8 = .ok (.aload_n 0, 1) := by decide +kernel
theorem dX10_had_9 : decode cX10_had 9 = .ok (.aload_n 0, 1) := by decide +kernel
theorem dX10_had_10 : decode cX10_had 10 = .ok (.getfield 39, 3) := by decide +kernel
theorem dX10_had_13 : decode cX10_had 13 = .ok (.iload_n 1, 1) := by decide +kernel
theorem dX10_had_14 : decode cX10_had 14 = .ok (.invokevirtual 276, 3) := by decide +kernel
theorem dX10_had_17 : decode cX10_had 17 = .ok (.goto 4, 3) := by decide +kernel
theorem dX10_had_20 : decode cX10_had 20 = .ok (.iconst (-1), 1) := by decide +kernel
theorem dX10_had_21 : decode cX10_had 21 = .ok (.ireturn, 1) := by decide +kernel
theorem dX10_waits_0 : decode cX10_waits 0 = .ok (.aload_n 0, 1) := by decide +kernel
theorem dX10_waits_1 : decode cX10_waits 1 = .ok (.iload_n 1, 1) := by decide +kernel
theorem dX10_waits_2 : decode cX10_waits 2 = .ok (.invokevirtual 160, 3) := by decide +kernel
theorem dX10_waits_5 : decode cX10_waits 5 = .ok (.ifCond .ne 5, 3) := by decide +kernel
theorem dX10_waits_8 : decode cX10_waits 8 = .ok (.iconst (-1), 1) := by decide +kernel
theorem dX10_waits_9 : decode cX10_waits 9 = .ok (.ireturn, 1) := by decide +kernel
theorem dX10_waits_10 : decode cX10_waits 10 = .ok (.aload_n 0, 1) := by decide +kernel
theorem dX10_waits_11 : decode cX10_waits 11 = .ok (.invokevirtual 249, 3) := by decide +kernel
theorem dX10_waits_14 : decode cX10_waits 14 = .ok (.iconst 0, 1) := by decide +kernel
theorem dX10_waits_15 : decode cX10_waits 15 = .ok (.istore_n 2, 1) := by decide +kernel
theorem dX10_waits_16 : decode cX10_waits 16 = .ok (.iload_n 2, 1) := by decide +kernel
theorem dX10_waits_17 : decode cX10_waits 17 = .ok (.bipush 60, 2) := by decide +kernel
theorem dX10_waits_19 : decode cX10_waits 19 = .ok (.if_icmp .gt 28, 3) := by decide +kernel
theorem dX10_waits_22 : decode cX10_waits 22 = .ok (.aload_n 0, 1) := by decide +kernel
theorem dX10_waits_23 : decode cX10_waits 23 = .ok (.aload_n 0, 1) := by decide +kernel
theorem dX10_waits_24 : decode cX10_waits 24 = .ok (.getfield 43, 3) := by decide +kernel
theorem dX10_waits_27 : decode cX10_waits 27 = .ok (.iload_n 1, 1) := by decide +kernel
theorem dX10_waits_28 : decode cX10_waits 28 = .ok (.invokevirtual 276, 3) := by decide +kernel
theorem dX10_waits_31 : decode cX10_waits 31 = .ok (.ifCond .eq 5, 3) := by decide +kernel
theorem dX10_waits_34 : decode cX10_waits 34 = .ok (.iload_n 2, 1) := by decide +kernel
theorem dX10_waits_35 : decode cX10_waits 35 = .ok (.ireturn, 1) := by decide +kernel
theorem dX10_waits_36 : decode cX10_waits 36 = .ok (.aload_n 0, 1) := by decide +kernel
theorem dX10_waits_37 : decode cX10_waits 37 = .ok (.invokevirtual 252, 3) := by decide +kernel
theorem dX10_waits_40 : decode cX10_waits 40 = .ok (.pop, 1) := by decide +kernel
theorem dX10_waits_41 : decode cX10_waits 41 = .ok (.iinc 2 1, 3) := by decide +kernel
theorem dX10_waits_44 : decode cX10_waits 44 = .ok (.goto (-28), 3) := by decide +kernel
theorem dX10_waits_47 : decode cX10_waits 47 = .ok (.iconst (-1), 1) := by decide +kernel
theorem dX10_waits_48 : decode cX10_waits 48 = .ok (.ireturn, 1) := by decide +kernel
theorem dX10_plays_0 : decode cX10_plays 0 = .ok (.iload_n 1, 1) := by decide +kernel
theorem dX10_plays_1 : decode cX10_plays 1 = .ok (.iconst (-1), 1) := by decide +kernel
theorem dX10_plays_2 : decode cX10_plays 2 = .ok (.if_icmp .eq 14, 3) := by decide +kernel
theorem dX10_plays_5 : decode cX10_plays 5 = .ok (.aload_n 0, 1) := by decide +kernel
theorem dX10_plays_6 : decode cX10_plays 6 = .ok (.iload_n 1, 1) := by decide +kernel
theorem dX10_plays_7 : decode cX10_plays 7 = .ok (.invokevirtual 160, 3) := by decide +kernel
theorem dX10_plays_10 : decode cX10_plays 10 = .ok (.ifCond .ne 6, 3) := by decide +kernel
theorem dX10_plays_13 : decode cX10_plays 13 = .ok (.bipush (-2), 2) := by decide +kernel
theorem dX10_plays_15 : decode cX10_plays 15 = .ok (.ireturn, 1) := by decide +kernel
theorem dX10_plays_16 : decode cX10_plays 16 = .ok (.aload_n 0, 1) := by decide +kernel
theorem dX10_plays_17 : decode cX10_plays 17 = .ok (.iconst (-1), 1) := by decide +kernel
theorem dX10_plays_18 : decode cX10_plays 18 = .ok (.putfield 280, 3) := by decide +kernel
theorem dX10_plays_21 : decode cX10_plays 21 = .ok (.aload_n 0, 1) := by decide +kernel
theorem dX10_plays_22 : decode cX10_plays 22 = .ok (.iconst 0, 1) := by decide +kernel
theorem dX10_plays_23 : decode cX10_plays 23 = .ok (.iconst 0, 1) := by decide +kernel
theorem dX10_plays_24 : decode cX10_plays 24 = .ok (.iconst 0, 1) := by decide +kernel
theorem dX10_plays_25 : decode cX10_plays 25 = .ok (.invokevirtual 283, 3) := by decide +kernel
theorem dX10_plays_28 : decode cX10_plays 28 = .ok (.iload_n 1, 1) := by decide +kernel
theorem dX10_plays_29 : decode cX10_plays 29 = .ok (.iconst (-1), 1) := by decide +kernel
theorem dX10_plays_30 : decode cX10_plays 30 = .ok (.if_icmp .ne 10, 3) := by decide +kernel
theorem dX10_plays_33 : decode cX10_plays 33 = .ok (.aload_n 0, 1) := by decide +kernel
theorem dX10_plays_34 : decode cX10_plays 34 = .ok (.getfield 280, 3) := by decide +kernel
theorem dX10_plays_37 : decode cX10_plays 37 = .ok (.goto 11, 3) := by decide +kernel
theorem dX10_plays_40 : decode cX10_plays 40 = .ok (.aload_n 0, 1) := by decide +kernel
theorem dX10_plays_41 : decode cX10_plays 41 = .ok (.getfield 70, 3) := by decide +kernel
theorem dX10_plays_44 : decode cX10_plays 44 = .ok (.iload_n 1, 1) := by decide +kernel
theorem dX10_plays_45 : decode cX10_plays 45 = .ok (.invokestatic 137, 3) := by decide +kernel
theorem dX10_plays_48 : decode cX10_plays 48 = .ok (.ireturn, 1) := by decide +kernel
theorem dX10_giveFrom_0 : decode cX10_giveFrom 0 = .ok (.iload_n 3, 1) := by decide +kernel
theorem dX10_giveFrom_1 : decode cX10_giveFrom 1 = .ok (.aload_n 0, 1) := by decide +kernel
theorem dX10_giveFrom_2 : decode cX10_giveFrom 2 = .ok (.getfield 19, 3) := by decide +kernel
theorem dX10_giveFrom_5 : decode cX10_giveFrom 5 = .ok (.getfield 78, 3) := by decide +kernel
theorem dX10_giveFrom_8 : decode cX10_giveFrom 8 = .ok (.iadd, 1) := by decide +kernel
theorem dX10_giveFrom_9 : decode cX10_giveFrom 9 = .ok (.iload_n 1, 1) := by decide +kernel
theorem dX10_giveFrom_10 : decode cX10_giveFrom 10 = .ok (.isub, 1) := by decide +kernel
theorem dX10_giveFrom_11 : decode cX10_giveFrom 11 = .ok (.aload_n 0, 1) := by decide +kernel
theorem dX10_giveFrom_12 : decode cX10_giveFrom 12 = .ok (.getfield 280, 3) := by decide +kernel
theorem dX10_giveFrom_15 : decode cX10_giveFrom 15 = .ok (.if_icmp .gt 4, 3) := by decide +kernel
theorem dX10_giveFrom_18 : decode cX10_giveFrom 18 = .ok (.return_, 1) := by decide +kernel
theorem dX10_giveFrom_19 : decode cX10_giveFrom 19 = .ok (.iload_n 1, 1) := by decide +kernel
theorem dX10_giveFrom_20 : decode cX10_giveFrom 20 = .ok (.aload_n 0, 1) := by decide +kernel
theorem dX10_giveFrom_21 : decode cX10_giveFrom 21 = .ok (.getfield 19, 3) := by decide +kernel
theorem dX10_giveFrom_24 : decode cX10_giveFrom 24 = .ok (.getfield 78, 3) := by decide +kernel
theorem dX10_giveFrom_27 : decode cX10_giveFrom 27 = .ok (.if_icmp .lt 20, 3) := by decide +kernel
theorem dX10_giveFrom_30 : decode cX10_giveFrom 30 = .ok (.aload_n 0, 1) := by decide +kernel
theorem dX10_giveFrom_31 : decode cX10_giveFrom 31 = .ok (.iload_n 3, 1) := by decide +kernel
theorem dX10_giveFrom_32 : decode cX10_giveFrom 32 = .ok (.putfield 280, 3) := by decide +kernel
theorem dX10_giveFrom_35 : decode cX10_giveFrom 35 = .ok (.aload_n 0, 1) := by decide +kernel
theorem dX10_giveFrom_36 : decode cX10_giveFrom 36 = .ok (.getfield 67, 3) := by decide +kernel
theorem dX10_giveFrom_39 : decode cX10_giveFrom 39 = .ok (.aload_n 0, 1) := by decide +kernel
theorem dX10_giveFrom_40 : decode cX10_giveFrom 40 = .ok (.getfield 70, 3) := by decide +kernel
theorem dX10_giveFrom_43 : decode cX10_giveFrom 43 = .ok (.invokestatic 287, 3) := by decide +kernel
theorem dX10_giveFrom_46 : decode cX10_giveFrom 46 = .ok (.return_, 1) := by decide +kernel
theorem dX10_giveFrom_47 : decode cX10_giveFrom 47 = .ok (.aload_n 0, 1) := by decide +kernel
theorem dX10_giveFrom_48 : decode cX10_giveFrom 48 = .ok (.iload_n 1, 1) := by decide +kernel
theorem dX10_giveFrom_49 : decode cX10_giveFrom 49 = .ok (.iload_n 2, 1) := by decide +kernel
theorem dX10_giveFrom_50 : decode cX10_giveFrom 50 = .ok (.iload_n 3, 1) := by decide +kernel
theorem dX10_giveFrom_51 : decode cX10_giveFrom 51 = .ok (.invokevirtual 291, 3) := by decide +kernel
theorem dX10_giveFrom_54 : decode cX10_giveFrom 54 = .ok (.return_, 1) := by decide +kernel
theorem dX10_giveEach_0 : decode cX10_giveEach 0 = .ok (.aload_n 0, 1) := by decide +kernel
theorem dX10_giveEach_1 : decode cX10_giveEach 1 = .ok (.aload_n 0, 1) := by decide +kernel
theorem dX10_giveEach_2 : decode cX10_giveEach 2 = .ok (.getfield 39, 3) := by decide +kernel
theorem dX10_giveEach_5 : decode cX10_giveEach 5 = .ok (.iload_n 1, 1) := by decide +kernel
theorem dX10_giveEach_6 : decode cX10_giveEach 6 = .ok (.invokevirtual 276, 3) := by decide +kernel
theorem dX10_giveEach_9 : decode cX10_giveEach 9 = .ok (.iload_n 2, 1) := by decide +kernel
theorem dX10_giveEach_10 : decode cX10_giveEach 10 = .ok (.iconst (-1), 1) := by decide +kernel
theorem dX10_giveEach_11 : decode cX10_giveEach 11 = .ok (.ixor, 1) := by decide +kernel
theorem dX10_giveEach_12 : decode cX10_giveEach 12 = .ok (.iand, 1) := by decide +kernel
theorem dX10_giveEach_13 : decode cX10_giveEach 13 = .ok (.istore 4, 2) := by decide +kernel
theorem dX10_giveEach_15 : decode cX10_giveEach 15 = .ok (.iconst 0, 1) := by decide +kernel
theorem dX10_giveEach_16 : decode cX10_giveEach 16 = .ok (.istore 5, 2) := by decide +kernel
theorem dX10_giveEach_18 : decode cX10_giveEach 18 = .ok (.iload 5, 2) := by decide +kernel
theorem dX10_giveEach_20 : decode cX10_giveEach 20 = .ok (.aload_n 0, 1) := by decide +kernel
theorem dX10_giveEach_21 : decode cX10_giveEach 21 = .ok (.getfield 19, 3) := by decide +kernel
theorem dX10_giveEach_24 : decode cX10_giveEach 24 = .ok (.getfield 74, 3) := by decide +kernel
theorem dX10_giveEach_27 : decode cX10_giveEach 27 = .ok (.if_icmp .ge 46, 3) := by decide +kernel
theorem dX10_giveEach_30 : decode cX10_giveEach 30 = .ok (.iload 4, 2) := by decide +kernel
theorem dX10_giveEach_32 : decode cX10_giveEach 32 = .ok (.iload 5, 2) := by decide +kernel
theorem dX10_giveEach_34 : decode cX10_giveEach 34 = .ok (.ishr, 1) := by decide +kernel
theorem dX10_giveEach_35 : decode cX10_giveEach 35 = .ok (.iconst 1, 1) := by decide +kernel
theorem dX10_giveEach_36 : decode cX10_giveEach 36 = .ok (.iand, 1) := by decide +kernel
theorem dX10_giveEach_37 : decode cX10_giveEach 37 = .ok (.iconst 1, 1) := by decide +kernel
theorem dX10_giveEach_38 : decode cX10_giveEach 38 = .ok (.if_icmp .ne 29, 3) := by decide +kernel
theorem dX10_giveEach_41 : decode cX10_giveEach 41 = .ok (.aload_n 0, 1) := by decide +kernel
theorem dX10_giveEach_42 : decode cX10_giveEach 42 = .ok (.getfield 67, 3) := by decide +kernel
theorem dX10_giveEach_45 : decode cX10_giveEach 45 = .ok (.iload_n 1, 1) := by decide +kernel
theorem dX10_giveEach_46 : decode cX10_giveEach 46 = .ok (.iload 5, 2) := by decide +kernel
theorem dX10_giveEach_48 : decode cX10_giveEach 48 = .ok (.invokestatic 294, 3) := by decide +kernel
theorem dX10_giveEach_51 : decode cX10_giveEach 51 = .ok (.aload_n 0, 1) := by decide +kernel
theorem dX10_giveEach_52 : decode cX10_giveEach 52 = .ok (.iload_n 1, 1) := by decide +kernel
theorem dX10_giveEach_53 : decode cX10_giveEach 53 = .ok (.iconst 1, 1) := by decide +kernel
theorem dX10_giveEach_54 : decode cX10_giveEach 54 = .ok (.iadd, 1) := by decide +kernel
theorem dX10_giveEach_55 : decode cX10_giveEach 55 = .ok (.iload_n 2, 1) := by decide +kernel
theorem dX10_giveEach_56 : decode cX10_giveEach 56 = .ok (.iconst 1, 1) := by decide +kernel
theorem dX10_giveEach_57 : decode cX10_giveEach 57 = .ok (.iload 5, 2) := by decide +kernel
theorem dX10_giveEach_59 : decode cX10_giveEach 59 = .ok (.ishl, 1) := by decide +kernel
theorem dX10_giveEach_60 : decode cX10_giveEach 60 = .ok (.ior, 1) := by decide +kernel
theorem dX10_giveEach_61 : decode cX10_giveEach 61 = .ok (.iload_n 3, 1) := by decide +kernel
theorem dX10_giveEach_62 : decode cX10_giveEach 62 = .ok (.iconst 1, 1) := by decide +kernel
theorem dX10_giveEach_63 : decode cX10_giveEach 63 = .ok (.iadd, 1) := by decide +kernel
theorem dX10_giveEach_64 : decode cX10_giveEach 64 = .ok (.invokevirtual 283, 3) := by decide +kernel
theorem dX10_giveEach_67 : decode cX10_giveEach 67 = .ok (.iinc 5 1, 3) := by decide +kernel
theorem dX10_giveEach_70 : decode cX10_giveEach 70 = .ok (.goto (-52), 3) := by decide +kernel
theorem dX10_giveEach_73 : decode cX10_giveEach 73 = .ok (.aload_n 0, 1) := by decide +kernel
theorem dX10_giveEach_74 : decode cX10_giveEach 74 = .ok (.getfield 67, 3) := by decide +kernel
theorem dX10_giveEach_77 : decode cX10_giveEach 77 = .ok (.iload_n 1, 1) := by decide +kernel
theorem dX10_giveEach_78 : decode cX10_giveEach 78 = .ok (.iconst (-1), 1) := by decide +kernel
theorem dX10_giveEach_79 : decode cX10_giveEach 79 = .ok (.invokestatic 294, 3) := by decide +kernel
theorem dX10_giveEach_82 : decode cX10_giveEach 82 = .ok (.aload_n 0, 1) := by decide +kernel
theorem dX10_giveEach_83 : decode cX10_giveEach 83 = .ok (.iload_n 1, 1) := by decide +kernel
theorem dX10_giveEach_84 : decode cX10_giveEach 84 = .ok (.iconst 1, 1) := by decide +kernel
theorem dX10_giveEach_85 : decode cX10_giveEach 85 = .ok (.iadd, 1) := by decide +kernel
theorem dX10_giveEach_86 : decode cX10_giveEach 86 = .ok (.iload_n 2, 1) := by decide +kernel
theorem dX10_giveEach_87 : decode cX10_giveEach 87 = .ok (.iload_n 3, 1) := by decide +kernel
theorem dX10_giveEach_88 : decode cX10_giveEach 88 = .ok (.invokevirtual 283, 3) := by decide +kernel
theorem dX10_giveEach_91 : decode cX10_giveEach 91 = .ok (.return_, 1) := by decide +kernel
theorem dX10_blend_0 : decode cX10_blend 0 = .ok (.aload_n 0, 1) := by decide +kernel
theorem dX10_blend_1 : decode cX10_blend 1 = .ok (.iload_n 1, 1) := by decide +kernel
theorem dX10_blend_2 : decode cX10_blend 2 = .ok (.invokevirtual 160, 3) := by decide +kernel
theorem dX10_blend_5 : decode cX10_blend 5 = .ok (.ifCond .ne 5, 3) := by decide +kernel
theorem dX10_blend_8 : decode cX10_blend 8 = .ok (.iconst (-1), 1) := by decide +kernel
theorem dX10_blend_9 : decode cX10_blend 9 = .ok (.ireturn, 1) := by decide +kernel
theorem dX10_blend_10 : decode cX10_blend 10 = .ok (.iconst (-1), 1) := by decide +kernel
theorem dX10_blend_11 : decode cX10_blend 11 = .ok (.istore_n 2, 1) := by decide +kernel
theorem dX10_blend_12 : decode cX10_blend 12 = .ok (.bipush 7, 2) := by decide +kernel
theorem dX10_blend_14 : decode cX10_blend 14 = .ok (.istore_n 3, 1) := by decide +kernel
theorem dX10_blend_15 : decode cX10_blend 15 = .ok (.iconst 1, 1) := by decide +kernel
theorem dX10_blend_16 : decode cX10_blend 16 = .ok (.istore 4, 2) := by decide +kernel
theorem dX10_blend_18 : decode cX10_blend 18 = .ok (.iload 4, 2) := by decide +kernel
theorem dX10_blend_20 : decode cX10_blend 20 = .ok (.iconst 1, 1) := by decide +kernel
theorem dX10_blend_21 : decode cX10_blend 21 = .ok (.aload_n 0, 1) := by decide +kernel
theorem dX10_blend_22 : decode cX10_blend 22 = .ok (.getfield 19, 3) := by decide +kernel
theorem dX10_blend_25 : decode cX10_blend 25 = .ok (.getfield 74, 3) := by decide +kernel
theorem dX10_blend_28 : decode cX10_blend 28 = .ok (.ishl, 1) := by decide +kernel
theorem dX10_blend_29 : decode cX10_blend 29 = .ok (.if_icmp .ge 37, 3) := by decide +kernel
theorem dX10_blend_32 : decode cX10_blend 32 = .ok (.iload 4, 2) := by decide +kernel
theorem dX10_blend_34 : decode cX10_blend 34 = .ok (.invokestatic 298, 3) := by decide +kernel
theorem dX10_blend_37 : decode cX10_blend 37 = .ok (.iload_n 3, 1) := by decide +kernel
theorem dX10_blend_38 : decode cX10_blend 38 = .ok (.if_icmp .ge 22, 3) := by decide +kernel
theorem dX10_blend_41 : decode cX10_blend 41 = .ok (.aload_n 0, 1) := by decide +kernel
theorem dX10_blend_42 : decode cX10_blend 42 = .ok (.iload 4, 2) := by decide +kernel
theorem dX10_blend_44 : decode cX10_blend 44 = .ok (.iload_n 1, 1) := by decide +kernel
theorem dX10_blend_45 : decode cX10_blend 45 = .ok (.invokevirtual 303, 3) := by decide +kernel
theorem dX10_blend_48 : decode cX10_blend 48 = .ok (.ifCond .eq 12, 3) := by decide +kernel
theorem dX10_blend_51 : decode cX10_blend 51 = .ok (.iload 4, 2) := by decide +kernel
theorem dX10_blend_53 : decode cX10_blend 53 = .ok (.istore_n 2, 1) := by decide +kernel
theorem dX10_blend_54 : decode cX10_blend 54 = .ok (.iload 4, 2) := by decide +kernel
theorem dX10_blend_56 : decode cX10_blend 56 = .ok (.invokestatic 298, 3) := by decide +kernel
theorem dX10_blend_59 : decode cX10_blend 59 = .ok (.istore_n 3, 1) := by decide +kernel
theorem dX10_blend_60 : decode cX10_blend 60 = .ok (.iinc 4 1, 3) := by decide +kernel
theorem dX10_blend_63 : decode cX10_blend 63 = .ok (.goto (-45), 3) := by decide +kernel
theorem dX10_blend_66 : decode cX10_blend 66 = .ok (.iload_n 2, 1) := by decide +kernel
theorem dX10_blend_67 : decode cX10_blend 67 = .ok (.ireturn, 1) := by decide +kernel
theorem dX10_blends_0 : decode cX10_blends 0 = .ok (.iconst 0, 1) := by decide +kernel
theorem dX10_blends_1 : decode cX10_blends 1 = .ok (.istore_n 3, 1) := by decide +kernel
theorem dX10_blends_2 : decode cX10_blends 2 = .ok (.iconst 0, 1) := by decide +kernel
theorem dX10_blends_3 : decode cX10_blends 3 = .ok (.istore 4, 2) := by decide +kernel
theorem dX10_blends_5 : decode cX10_blends 5 = .ok (.iload 4, 2) := by decide +kernel
theorem dX10_blends_7 : decode cX10_blends 7 = .ok (.aload_n 0, 1) := by decide +kernel
theorem dX10_blends_8 : decode cX10_blends 8 = .ok (.getfield 19, 3) := by decide +kernel
theorem dX10_blends_11 : decode cX10_blends 11 = .ok (.getfield 74, 3) := by decide +kernel
theorem dX10_blends_14 : decode cX10_blends 14 = .ok (.if_icmp .ge 48, 3) := by decide +kernel
theorem dX10_blends_17 : decode cX10_blends 17 = .ok (.iload_n 1, 1) := by decide +kernel
theorem dX10_blends_18 : decode cX10_blends 18 = .ok (.iload 4, 2) := by decide +kernel
theorem dX10_blends_20 : decode cX10_blends 20 = .ok (.ishr, 1) := by decide +kernel
theorem dX10_blends_21 : decode cX10_blends 21 = .ok (.iconst 1, 1) := by decide +kernel
theorem dX10_blends_22 : decode cX10_blends 22 = .ok (.iand, 1) := by decide +kernel
theorem dX10_blends_23 : decode cX10_blends 23 = .ok (.iconst 1, 1) := by decide +kernel
theorem dX10_blends_24 : decode cX10_blends 24 = .ok (.if_icmp .ne 32, 3) := by decide +kernel
theorem dX10_blends_27 : decode cX10_blends 27 = .ok (.aload_n 0, 1) := by decide +kernel
theorem dX10_blends_28 : decode cX10_blends 28 = .ok (.getfield 39, 3) := by decide +kernel
theorem dX10_blends_31 : decode cX10_blends 31 = .ok (.getfield 144, 3) := by decide +kernel
theorem dX10_blends_34 : decode cX10_blends 34 = .ok (.iload 4, 2) := by decide +kernel
theorem dX10_blends_36 : decode cX10_blends 36 = .ok (.invokestatic 137, 3) := by decide +kernel
theorem dX10_blends_39 : decode cX10_blends 39 = .ok (.ifCond .ne 5, 3) := by decide +kernel
theorem dX10_blends_42 : decode cX10_blends 42 = .ok (.iconst 0, 1) := by decide +kernel
theorem dX10_blends_43 : decode cX10_blends 43 = .ok (.ireturn, 1) := by decide +kernel
theorem dX10_blends_44 : decode cX10_blends 44 = .ok (.iload_n 3, 1) := by decide +kernel
theorem dX10_blends_45 : decode cX10_blends 45 = .ok (.aload_n 0, 1) := by decide +kernel
theorem dX10_blends_46 : decode cX10_blends 46 = .ok (.getfield 39, 3) := by decide +kernel
theorem dX10_blends_49 : decode cX10_blends 49 = .ok (.iload 4, 2) := by decide +kernel
theorem dX10_blends_51 : decode cX10_blends 51 = .ok (.invokevirtual 156, 3) := by decide +kernel
theorem dX10_blends_54 : decode cX10_blends 54 = .ok (.iadd, 1) := by decide +kernel
theorem dX10_blends_55 : decode cX10_blends 55 = .ok (.istore_n 3, 1) := by decide +kernel
theorem dX10_blends_56 : decode cX10_blends 56 = .ok (.iinc 4 1, 3) := by decide +kernel
theorem dX10_blends_59 : decode cX10_blends 59 = .ok (.goto (-54), 3) := by decide +kernel
theorem dX10_blends_62 : decode cX10_blends 62 = .ok (.aload_n 0, 1) := by decide +kernel
theorem dX10_blends_63 : decode cX10_blends 63 = .ok (.getfield 19, 3) := by decide +kernel
theorem dX10_blends_66 : decode cX10_blends 66 = .ok (.iload_n 2, 1) := by decide +kernel
theorem dX10_blends_67 : decode cX10_blends 67 = .ok (.iload_n 3, 1) := by decide +kernel
theorem dX10_blends_68 : decode cX10_blends 68 = .ok (.invokevirtual 273, 3) := by decide +kernel
theorem dX10_blends_71 : decode cX10_blends 71 = .ok (.ireturn, 1) := by decide +kernel
theorem dX10_aim_0 : decode cX10_aim 0 = .ok (.aload_n 0, 1) := by decide +kernel
theorem dX10_aim_1 : decode cX10_aim 1 = .ok (.iload_n 1, 1) := by decide +kernel
theorem dX10_aim_2 : decode cX10_aim 2 = .ok (.invokevirtual 160, 3) := by decide +kernel
theorem dX10_aim_5 : decode cX10_aim 5 = .ok (.ifCond .eq 22, 3) := by decide +kernel
theorem dX10_aim_8 : decode cX10_aim 8 = .ok (.iload_n 2, 1) := by decide +kernel
theorem dX10_aim_9 : decode cX10_aim 9 = .ok (.iconst 1, 1) := by decide +kernel
theorem dX10_aim_10 : decode cX10_aim 10 = .ok (.bipush 20, 2) := by decide +kernel
theorem dX10_aim_12 : decode cX10_aim 12 = .ok (.invokestatic 199, 3) := by decide +kernel
theorem dX10_aim_15 : decode cX10_aim 15 = .ok (.ifCond .eq 12, 3) := by decide +kernel
theorem dX10_aim_18 : decode cX10_aim 18 = .ok (.iload_n 3, 1) := by decide +kernel
theorem dX10_aim_19 : decode cX10_aim 19 = .ok (.iconst 0, 1) := by decide +kernel
theorem dX10_aim_20 : decode cX10_aim 20 = .ok (.iconst 1, 1) := by decide +kernel
theorem dX10_aim_21 : decode cX10_aim 21 = .ok (.invokestatic 199, 3) := by decide +kernel
theorem dX10_aim_24 : decode cX10_aim 24 = .ok (.ifCond .ne 5, 3) := by decide +kernel
theorem dX10_aim_27 : decode cX10_aim 27 = .ok (.iconst (-1), 1) := by decide +kernel
theorem dX10_aim_28 : decode cX10_aim 28 = .ok (.ireturn, 1) := by decide +kernel
theorem dX10_aim_29 : decode cX10_aim 29 = .ok (.iconst 0, 1) := by decide +kernel
theorem dX10_aim_30 : decode cX10_aim 30 = .ok (.istore 4, 2) := by decide +kernel
theorem dX10_aim_32 : decode cX10_aim 32 = .ok (.iload 4, 2) := by decide +kernel
theorem dX10_aim_34 : decode cX10_aim 34 = .ok (.bipush 9, 2) := by decide +kernel
theorem dX10_aim_36 : decode cX10_aim 36 = .ok (.if_icmp .gt 55, 3) := by decide +kernel
theorem dX10_aim_39 : decode cX10_aim 39 = .ok (.iconst 0, 1) := by decide +kernel
theorem dX10_aim_40 : decode cX10_aim 40 = .ok (.istore 5, 2) := by decide +kernel
theorem dX10_aim_42 : decode cX10_aim 42 = .ok (.iload 5, 2) := by decide +kernel
theorem dX10_aim_44 : decode cX10_aim 44 = .ok (.aload_n 0, 1) := by decide +kernel
theorem dX10_aim_45 : decode cX10_aim 45 = .ok (.getfield 19, 3) := by decide +kernel
theorem dX10_aim_48 : decode cX10_aim 48 = .ok (.getfield 74, 3) := by decide +kernel
theorem dX10_aim_51 : decode cX10_aim 51 = .ok (.if_icmp .ge 34, 3) := by decide +kernel
theorem dX10_aim_54 : decode cX10_aim 54 = .ok (.aload_n 0, 1) := by decide +kernel
theorem dX10_aim_55 : decode cX10_aim 55 = .ok (.iload_n 1, 1) := by decide +kernel
theorem dX10_aim_56 : decode cX10_aim 56 = .ok (.iload_n 2, 1) := by decide +kernel
theorem dX10_aim_57 : decode cX10_aim 57 = .ok (.iload 5, 2) := by decide +kernel
theorem dX10_aim_59 : decode cX10_aim 59 = .ok (.iload 4, 2) := by decide +kernel
theorem dX10_aim_61 : decode cX10_aim 61 = .ok (.invokevirtual 306, 3) := by decide +kernel
theorem dX10_aim_64 : decode cX10_aim 64 = .ok (.ifCond .eq 15, 3) := by decide +kernel
theorem dX10_aim_67 : decode cX10_aim 67 = .ok (.iload_n 3, 1) := by decide +kernel
theorem dX10_aim_68 : decode cX10_aim 68 = .ok (.ifCond .ne 8, 3) := by decide +kernel
theorem dX10_aim_71 : decode cX10_aim 71 = .ok (.iload 4, 2) := by decide +kernel
theorem dX10_aim_73 : decode cX10_aim 73 = .ok (.goto 5, 3) := by decide +kernel
theorem dX10_aim_76 : decode cX10_aim 76 = .ok (.iload 5, 2) := by decide +kernel
theorem dX10_aim_78 : decode cX10_aim 78 = .ok (.ireturn, 1) := by decide +kernel
theorem dX10_aim_79 : decode cX10_aim 79 = .ok (.iinc 5 1, 3) := by decide +kernel
theorem dX10_aim_82 : decode cX10_aim 82 = .ok (.goto (-40), 3) := by decide +kernel
theorem dX10_aim_85 : decode cX10_aim 85 = .ok (.iinc 4 1, 3) := by decide +kernel
theorem dX10_aim_88 : decode cX10_aim 88 = .ok (.goto (-56), 3) := by decide +kernel
theorem dX10_aim_91 : decode cX10_aim 91 = .ok (.iconst (-1), 1) := by decide +kernel
theorem dX10_aim_92 : decode cX10_aim 92 = .ok (.ireturn, 1) := by decide +kernel
theorem dX10_comesInTime_0 : decode cX10_comesInTime 0 = .ok (.aload_n 0, 1) := by decide +kernel
theorem dX10_comesInTime_1 : decode cX10_comesInTime 1 = .ok (.invokevirtual 249, 3) := by decide +kernel
theorem dX10_comesInTime_4 : decode cX10_comesInTime 4 = .ok (.aload_n 0, 1) := by decide +kernel
theorem dX10_comesInTime_5 : decode cX10_comesInTime 5 = .ok (.getfield 43, 3) := by decide +kernel
theorem dX10_comesInTime_8 : decode cX10_comesInTime 8 = .ok (.iload_n 3, 1) := by decide +kernel
theorem dX10_comesInTime_9 : decode cX10_comesInTime 9 = .ok (.iload 4, 2) := by decide +kernel
theorem dX10_comesInTime_11 : decode cX10_comesInTime 11 = .ok (.invokevirtual 203, 3) := by decide +kernel
theorem dX10_comesInTime_14 : decode cX10_comesInTime 14 = .ok (.iconst 0, 1) := by decide +kernel
theorem dX10_comesInTime_15 : decode cX10_comesInTime 15 = .ok (.istore 5, 2) := by decide +kernel
theorem dX10_comesInTime_17 : decode cX10_comesInTime 17 = .ok (.iload 5, 2) := by decide +kernel
theorem dX10_comesInTime_19 : decode cX10_comesInTime 19 = .ok (.iload_n 2, 1) := by decide +kernel
theorem dX10_comesInTime_20 : decode cX10_comesInTime 20 = .ok (.if_icmp .ge 14, 3) := by decide +kernel
theorem dX10_comesInTime_23 : decode cX10_comesInTime 23 = .ok (.aload_n 0, 1) := by decide +kernel
theorem dX10_comesInTime_24 : decode cX10_comesInTime 24 = .ok (.invokevirtual 252, 3) := by decide +kernel
theorem dX10_comesInTime_27 : decode cX10_comesInTime 27 = .ok (.pop, 1) := by decide +kernel
theorem dX10_comesInTime_28 : decode cX10_comesInTime 28 = .ok (.iinc 5 1, 3) := by decide +kernel
theorem dX10_comesInTime_31 : decode cX10_comesInTime 31 = .ok (.goto (-14), 3) := by decide +kernel
theorem dX10_comesInTime_34 : decode cX10_comesInTime 34 = .ok (.aload_n 0, 1) := by decide +kernel
theorem dX10_comesInTime_35 : decode cX10_comesInTime 35 = .ok (.getfield 19, 3) := by decide +kernel
theorem dX10_comesInTime_38 : decode cX10_comesInTime 38 = .ok (.iload_n 1, 1) := by decide +kernel
theorem dX10_comesInTime_39 : decode cX10_comesInTime 39 = .ok (.aload_n 0, 1) := by decide +kernel
theorem dX10_comesInTime_40 : decode cX10_comesInTime 40 = .ok (.getfield 43, 3) := by decide +kernel
theorem dX10_comesInTime_43 : decode cX10_comesInTime 43 = .ok (.iload_n 3, 1) := by decide +kernel
theorem dX10_comesInTime_44 : decode cX10_comesInTime 44 = .ok (.invokevirtual 156, 3) := by decide +kernel
theorem dX10_comesInTime_47 : decode cX10_comesInTime 47 = .ok (.invokevirtual 273, 3) := by decide +kernel
theorem dX10_comesInTime_50 : decode cX10_comesInTime 50 = .ok (.ireturn, 1) := by decide +kernel
theorem dX10_reachOf_0 : decode cX10_reachOf 0 = .ok (.iconst 1, 1) := by decide +kernel
theorem dX10_reachOf_1 : decode cX10_reachOf 1 = .ok (.iload_n 1, 1) := by decide +kernel
theorem dX10_reachOf_2 : decode cX10_reachOf 2 = .ok (.ishl, 1) := by decide +kernel
theorem dX10_reachOf_3 : decode cX10_reachOf 3 = .ok (.istore_n 2, 1) := by decide +kernel
theorem dX10_reachOf_4 : decode cX10_reachOf 4 = .ok (.iconst 0, 1) := by decide +kernel
theorem dX10_reachOf_5 : decode cX10_reachOf 5 = .ok (.istore_n 3, 1) := by decide +kernel
theorem dX10_reachOf_6 : decode cX10_reachOf 6 = .ok (.iload_n 3, 1) := by decide +kernel
theorem dX10_reachOf_7 : decode cX10_reachOf 7 = .ok (.bipush 6, 2) := by decide +kernel
theorem dX10_reachOf_9 : decode cX10_reachOf 9 = .ok (.if_icmp .ge 18, 3) := by decide +kernel
theorem dX10_reachOf_12 : decode cX10_reachOf 12 = .ok (.aload_n 0, 1) := by decide +kernel
theorem dX10_reachOf_13 : decode cX10_reachOf 13 = .ok (.getfield 19, 3) := by decide +kernel
theorem dX10_reachOf_16 : decode cX10_reachOf 16 = .ok (.iload_n 2, 1) := by decide +kernel
theorem dX10_reachOf_17 : decode cX10_reachOf 17 = .ok (.invokevirtual 310, 3) := by decide +kernel
theorem dX10_reachOf_20 : decode cX10_reachOf 20 = .ok (.istore_n 2, 1) := by decide +kernel
theorem dX10_reachOf_21 : decode cX10_reachOf 21 = .ok (.iinc 3 1, 3) := by decide +kernel
theorem dX10_reachOf_24 : decode cX10_reachOf 24 = .ok (.goto (-18), 3) := by decide +kernel
theorem dX10_reachOf_27 : decode cX10_reachOf 27 = .ok (.iload_n 2, 1) := by decide +kernel
theorem dX10_reachOf_28 : decode cX10_reachOf 28 = .ok (.ireturn, 1) := by decide +kernel
theorem dX10_reach_0 : decode cX10_reach 0 = .ok (.aload_n 0, 1) := by decide +kernel
theorem dX10_reach_1 : decode cX10_reach 1 = .ok (.iload_n 1, 1) := by decide +kernel
theorem dX10_reach_2 : decode cX10_reach 2 = .ok (.invokevirtual 130, 3) := by decide +kernel
theorem dX10_reach_5 : decode cX10_reach 5 = .ok (.ifCond .eq 11, 3) := by decide +kernel
theorem dX10_reach_8 : decode cX10_reach 8 = .ok (.aload_n 0, 1) := by decide +kernel
theorem dX10_reach_9 : decode cX10_reach 9 = .ok (.iload_n 1, 1) := by decide +kernel
theorem dX10_reach_10 : decode cX10_reach 10 = .ok (.invokevirtual 313, 3) := by decide +kernel
theorem dX10_reach_13 : decode cX10_reach 13 = .ok (.goto 4, 3) := by decide +kernel
theorem dX10_reach_16 : decode cX10_reach 16 = .ok (.iconst (-1), 1) := by decide +kernel
theorem dX10_reach_17 : decode cX10_reach 17 = .ok (.ireturn, 1) := by decide +kernel
theorem dX10_far_0 : decode cX10_far 0 = .ok (.aload_n 0, 1) := by decide +kernel
theorem dX10_far_1 : decode cX10_far 1 = .ok (.iload_n 1, 1) := by decide +kernel
theorem dX10_far_2 : decode cX10_far 2 = .ok (.invokevirtual 130, 3) := by decide +kernel
theorem dX10_far_5 : decode cX10_far 5 = .ok (.ifCond .eq 11, 3) := by decide +kernel
theorem dX10_far_8 : decode cX10_far 8 = .ok (.aload_n 0, 1) := by decide +kernel
theorem dX10_far_9 : decode cX10_far 9 = .ok (.iload_n 2, 1) := by decide +kernel
theorem dX10_far_10 : decode cX10_far 10 = .ok (.invokevirtual 130, 3) := by decide +kernel
theorem dX10_far_13 : decode cX10_far 13 = .ok (.ifCond .ne 5, 3) := by decide +kernel
theorem dX10_far_16 : decode cX10_far 16 = .ok (.iconst (-1), 1) := by decide +kernel
theorem dX10_far_17 : decode cX10_far 17 = .ok (.ireturn, 1) := by decide +kernel
theorem dX10_far_18 : decode cX10_far 18 = .ok (.iconst 1, 1) := by decide +kernel
theorem dX10_far_19 : decode cX10_far 19 = .ok (.iload_n 1, 1) := by decide +kernel
theorem dX10_far_20 : decode cX10_far 20 = .ok (.ishl, 1) := by decide +kernel
theorem dX10_far_21 : decode cX10_far 21 = .ok (.istore_n 3, 1) := by decide +kernel
theorem dX10_far_22 : decode cX10_far 22 = .ok (.iconst 0, 1) := by decide +kernel
theorem dX10_far_23 : decode cX10_far 23 = .ok (.istore 4, 2) := by decide +kernel
theorem dX10_far_25 : decode cX10_far 25 = .ok (.iload 4, 2) := by decide +kernel
theorem dX10_far_27 : decode cX10_far 27 = .ok (.bipush 6, 2) := by decide +kernel
theorem dX10_far_29 : decode cX10_far 29 = .ok (.if_icmp .ge 30, 3) := by decide +kernel
theorem dX10_far_32 : decode cX10_far 32 = .ok (.iload_n 3, 1) := by decide +kernel
theorem dX10_far_33 : decode cX10_far 33 = .ok (.iload_n 2, 1) := by decide +kernel
theorem dX10_far_34 : decode cX10_far 34 = .ok (.ishr, 1) := by decide +kernel
theorem dX10_far_35 : decode cX10_far 35 = .ok (.iconst 1, 1) := by decide +kernel
theorem dX10_far_36 : decode cX10_far 36 = .ok (.iand, 1) := by decide +kernel
theorem dX10_far_37 : decode cX10_far 37 = .ok (.iconst 1, 1) := by decide +kernel
theorem dX10_far_38 : decode cX10_far 38 = .ok (.if_icmp .ne 6, 3) := by decide +kernel
theorem dX10_far_41 : decode cX10_far 41 = .ok (.iload 4, 2) := by decide +kernel
theorem dX10_far_43 : decode cX10_far 43 = .ok (.ireturn, 1) := by decide +kernel
theorem dX10_far_44 : decode cX10_far 44 = .ok (.aload_n 0, 1) := by decide +kernel
theorem dX10_far_45 : decode cX10_far 45 = .ok (.getfield 19, 3) := by decide +kernel
theorem dX10_far_48 : decode cX10_far 48 = .ok (.iload_n 3, 1) := by decide +kernel
theorem dX10_far_49 : decode cX10_far 49 = .ok (.invokevirtual 310, 3) := by decide +kernel
theorem dX10_far_52 : decode cX10_far 52 = .ok (.istore_n 3, 1) := by decide +kernel
theorem dX10_far_53 : decode cX10_far 53 = .ok (.iinc 4 1, 3) := by decide +kernel
theorem dX10_far_56 : decode cX10_far 56 = .ok (.goto (-31), 3) := by decide +kernel
theorem dX10_far_59 : decode cX10_far 59 = .ok (.iconst (-1), 1) := by decide +kernel
theorem dX10_far_60 : decode cX10_far 60 = .ok (.ireturn, 1) := by decide +kernel
theorem dX10_parts_0 : decode cX10_parts 0 = .ok (.iconst 0, 1) := by decide +kernel
theorem dX10_parts_1 : decode cX10_parts 1 = .ok (.istore_n 1, 1) := by decide +kernel
theorem dX10_parts_2 : decode cX10_parts 2 = .ok (.iconst 0, 1) := by decide +kernel
theorem dX10_parts_3 : decode cX10_parts 3 = .ok (.istore_n 2, 1) := by decide +kernel
theorem dX10_parts_4 : decode cX10_parts 4 = .ok (.iload_n 2, 1) := by decide +kernel
theorem dX10_parts_5 : decode cX10_parts 5 = .ok (.aload_n 0, 1) := by decide +kernel
theorem dX10_parts_6 : decode cX10_parts 6 = .ok (.getfield 19, 3) := by decide +kernel
theorem dX10_parts_9 : decode cX10_parts 9 = .ok (.getfield 74, 3) := by decide +kernel
theorem dX10_parts_12 : decode cX10_parts 12 = .ok (.if_icmp .ge 24, 3) := by decide +kernel
theorem dX10_parts_15 : decode cX10_parts 15 = .ok (.aload_n 0, 1) := by decide +kernel
theorem dX10_parts_16 : decode cX10_parts 16 = .ok (.iload_n 2, 1) := by decide +kernel
theorem dX10_parts_17 : decode cX10_parts 17 = .ok (.invokevirtual 313, 3) := by decide +kernel
theorem dX10_parts_20 : decode cX10_parts 20 = .ok (.invokestatic 261, 3) := by decide +kernel
theorem dX10_parts_23 : decode cX10_parts 23 = .ok (.iload_n 2, 1) := by decide +kernel
theorem dX10_parts_24 : decode cX10_parts 24 = .ok (.if_icmp .ne 6, 3) := by decide +kernel
theorem dX10_parts_27 : decode cX10_parts 27 = .ok (.iinc 1 1, 3) := by decide +kernel
theorem dX10_parts_30 : decode cX10_parts 30 = .ok (.iinc 2 1, 3) := by decide +kernel
theorem dX10_parts_33 : decode cX10_parts 33 = .ok (.goto (-29), 3) := by decide +kernel
theorem dX10_parts_36 : decode cX10_parts 36 = .ok (.iload_n 1, 1) := by decide +kernel
theorem dX10_parts_37 : decode cX10_parts 37 = .ok (.ireturn, 1) := by decide +kernel
theorem dX10_heard_0 : decode cX10_heard 0 = .ok (.aload_n 0, 1) := by decide +kernel
theorem dX10_heard_1 : decode cX10_heard 1 = .ok (.iload_n 1, 1) := by decide +kernel
theorem dX10_heard_2 : decode cX10_heard 2 = .ok (.invokevirtual 130, 3) := by decide +kernel
theorem dX10_heard_5 : decode cX10_heard 5 = .ok (.ifCond .eq 17, 3) := by decide +kernel
theorem dX10_heard_8 : decode cX10_heard 8 = .ok (.aload_n 0, 1) := by decide +kernel
theorem dX10_heard_9 : decode cX10_heard 9 = .ok (.getfield 39, 3) := by decide +kernel
theorem dX10_heard_12 : decode cX10_heard 12 = .ok (.getfield 316, 3) := by decide +kernel
theorem dX10_heard_15 : decode cX10_heard 15 = .ok (.iload_n 1, 1) := by decide +kernel
theorem dX10_heard_16 : decode cX10_heard 16 = .ok (.invokestatic 137, 3) := by decide +kernel
theorem dX10_heard_19 : decode cX10_heard 19 = .ok (.goto 4, 3) := by decide +kernel
theorem dX10_heard_22 : decode cX10_heard 22 = .ok (.iconst (-1), 1) := by decide +kernel
theorem dX10_heard_23 : decode cX10_heard 23 = .ok (.ireturn, 1) := by decide +kernel
theorem dX10_news_0 : decode cX10_news 0 = .ok (.aload_n 0, 1) := by decide +kernel
theorem dX10_news_1 : decode cX10_news 1 = .ok (.invokevirtual 249, 3) := by decide +kernel
theorem dX10_news_4 : decode cX10_news 4 = .ok (.iconst 0, 1) := by decide +kernel
theorem dX10_news_5 : decode cX10_news 5 = .ok (.istore_n 1, 1) := by decide +kernel
theorem dX10_news_6 : decode cX10_news 6 = .ok (.iload_n 1, 1) := by decide +kernel
theorem dX10_news_7 : decode cX10_news 7 = .ok (.bipush 60, 2) := by decide +kernel
theorem dX10_news_9 : decode cX10_news 9 = .ok (.if_icmp .gt 23, 3) := by decide +kernel
theorem dX10_news_12 : decode cX10_news 12 = .ok (.aload_n 0, 1) := by decide +kernel
theorem dX10_news_13 : decode cX10_news 13 = .ok (.invokevirtual 319, 3) := by decide +kernel
theorem dX10_news_16 : decode cX10_news 16 = .ok (.ifCond .eq 5, 3) := by decide +kernel
theorem dX10_news_19 : decode cX10_news 19 = .ok (.iload_n 1, 1) := by decide +kernel
theorem dX10_news_20 : decode cX10_news 20 = .ok (.ireturn, 1) := by decide +kernel
theorem dX10_news_21 : decode cX10_news 21 = .ok (.aload_n 0, 1) := by decide +kernel
theorem dX10_news_22 : decode cX10_news 22 = .ok (.invokevirtual 252, 3) := by decide +kernel
theorem dX10_news_25 : decode cX10_news 25 = .ok (.pop, 1) := by decide +kernel
theorem dX10_news_26 : decode cX10_news 26 = .ok (.iinc 1 1, 3) := by decide +kernel
theorem dX10_news_29 : decode cX10_news 29 = .ok (.goto (-23), 3) := by decide +kernel
theorem dX10_news_32 : decode cX10_news 32 = .ok (.iconst (-1), 1) := by decide +kernel
theorem dX10_news_33 : decode cX10_news 33 = .ok (.ireturn, 1) := by decide +kernel
theorem dX10_allHaveHeard_0 : decode cX10_allHaveHeard 0 = .ok (.iconst 0, 1) := by decide +kernel
theorem dX10_allHaveHeard_1 : decode cX10_allHaveHeard 1 = .ok (.istore_n 1, 1) := by decide +kernel
theorem dX10_allHaveHeard_2 : decode cX10_allHaveHeard 2 = .ok (.iload_n 1, 1) := by decide +kernel
theorem dX10_allHaveHeard_3 : decode cX10_allHaveHeard 3 = .ok (.aload_n 0, 1) := by decide +kernel
theorem dX10_allHaveHeard_4 : decode cX10_allHaveHeard 4 = .ok (.getfield 19, 3) := by decide +kernel
theorem dX10_allHaveHeard_7 : decode cX10_allHaveHeard 7 = .ok (.getfield 74, 3) := by decide +kernel
theorem dX10_allHaveHeard_10 : decode cX10_allHaveHeard 10 = .ok (.if_icmp .ge 33, 3) := by decide +kernel
theorem dX10_allHaveHeard_13 : decode cX10_allHaveHeard 13 = .ok (.aload_n 0, 1) := by decide +kernel
theorem dX10_allHaveHeard_14 : decode cX10_allHaveHeard 14 = .ok (.iload_n 1, 1) := by decide +kernel
theorem dX10_allHaveHeard_15 : decode cX10_allHaveHeard 15 = .ok (.invokevirtual 313, 3) := by decide +kernel
theorem dX10_allHaveHeard_18 : decode cX10_allHaveHeard 18 = .ok (.aload_n 0, 1) := by decide +kernel
theorem dX10_allHaveHeard_19 : decode cX10_allHaveHeard 19 = .ok (.getfield 43, 3) := by decide +kernel
theorem dX10_allHaveHeard_22 : decode cX10_allHaveHeard 22 = .ok (.getfield 316, 3) := by decide +kernel
theorem dX10_allHaveHeard_25 : decode cX10_allHaveHeard 25 = .ok (.iload_n 1, 1) := by decide +kernel
theorem dX10_allHaveHeard_26 : decode cX10_allHaveHeard 26 = .ok (.invokestatic 137, 3) := by decide +kernel
theorem dX10_allHaveHeard_29 : decode cX10_allHaveHeard 29 = .ok (.iconst (-1), 1) := by decide +kernel
theorem dX10_allHaveHeard_30 : decode cX10_allHaveHeard 30 = .ok (.ixor, 1) := by decide +kernel
theorem dX10_allHaveHeard_31 : decode cX10_allHaveHeard 31 = .ok (.iand, 1) := by decide +kernel
theorem dX10_allHaveHeard_32 : decode cX10_allHaveHeard 32 = .ok (.ifCond .eq 5, 3) := by decide +kernel
theorem dX10_allHaveHeard_35 : decode cX10_allHaveHeard 35 = .ok (.iconst 0, 1) := by decide +kernel
theorem dX10_allHaveHeard_36 : decode cX10_allHaveHeard 36 = .ok (.ireturn, 1) := by decide +kernel
theorem dX10_allHaveHeard_37 : decode cX10_allHaveHeard 37 = .ok (.iinc 1 1, 3) := by decide +kernel
theorem dX10_allHaveHeard_40 : decode cX10_allHaveHeard 40 = .ok (.goto (-38), 3) := by decide +kernel
theorem dX10_allHaveHeard_43 : decode cX10_allHaveHeard 43 = .ok (.iconst 1, 1) := by decide +kernel
theorem dX10_allHaveHeard_44 : decode cX10_allHaveHeard 44 = .ok (.ireturn, 1) := by decide +kernel
theorem dX10_see_0 : decode cX10_see 0 = .ok (.iload_n 1, 1) := by decide +kernel
theorem dX10_see_1 : decode cX10_see 1 = .ok (.iconst 1, 1) := by decide +kernel
theorem dX10_see_2 : decode cX10_see 2 = .ok (.bipush 20, 2) := by decide +kernel
theorem dX10_see_4 : decode cX10_see 4 = .ok (.invokestatic 199, 3) := by decide +kernel
theorem dX10_see_7 : decode cX10_see 7 = .ok (.ifCond .eq 14, 3) := by decide +kernel
theorem dX10_see_10 : decode cX10_see 10 = .ok (.iload_n 2, 1) := by decide +kernel
theorem dX10_see_11 : decode cX10_see 11 = .ok (.iconst 1, 1) := by decide +kernel
theorem dX10_see_12 : decode cX10_see 12 = .ok (.sipush 400, 3) := by decide +kernel
theorem dX10_see_15 : decode cX10_see 15 = .ok (.invokestatic 199, 3) := by decide +kernel
theorem dX10_see_18 : decode cX10_see 18 = .ok (.ifCond .ne 5, 3) := by decide +kernel
theorem dX10_see_21 : decode cX10_see 21 = .ok (.iconst 0, 1) := by decide +kernel
theorem dX10_see_22 : decode cX10_see 22 = .ok (.ireturn, 1) := by decide +kernel
theorem dX10_see_23 : decode cX10_see 23 = .ok (.aload_n 0, 1) := by decide +kernel
theorem dX10_see_24 : decode cX10_see 24 = .ok (.getfield 49, 3) := by decide +kernel
theorem dX10_see_27 : decode cX10_see 27 = .ok (.iload_n 1, 1) := by decide +kernel
theorem dX10_see_28 : decode cX10_see 28 = .ok (.iload_n 2, 1) := by decide +kernel
theorem dX10_see_29 : decode cX10_see 29 = .ok (.iload_n 3, 1) := by decide +kernel
theorem dX10_see_30 : decode cX10_see 30 = .ok (.invokevirtual 323, 3) := by decide +kernel
theorem dX10_see_33 : decode cX10_see 33 = .ok (.ireturn, 1) := by decide +kernel
theorem dX10_who_0 : decode cX10_who 0 = .ok (.aload_n 0, 1) := by decide +kernel
theorem dX10_who_1 : decode cX10_who 1 = .ok (.invokevirtual 327, 3) := by decide +kernel
theorem dX10_who_4 : decode cX10_who 4 = .ok (.aload_n 0, 1) := by decide +kernel
theorem dX10_who_5 : decode cX10_who 5 = .ok (.invokevirtual 330, 3) := by decide +kernel
theorem dX10_who_8 : decode cX10_who 8 = .ok (.ireturn, 1) := by decide +kernel
theorem dX10_listen_0 : decode cX10_listen 0 = .ok (.aload_n 0, 1) := by decide +kernel
theorem dX10_listen_1 : decode cX10_listen 1 = .ok (.invokevirtual 249, 3) := by decide +kernel
theorem dX10_listen_4 : decode cX10_listen 4 = .ok (.iconst 0, 1) := by decide +kernel
theorem dX10_listen_5 : decode cX10_listen 5 = .ok (.istore_n 1, 1) := by decide +kernel
theorem dX10_listen_6 : decode cX10_listen 6 = .ok (.iload_n 1, 1) := by decide +kernel
theorem dX10_listen_7 : decode cX10_listen 7 = .ok (.bipush 20, 2) := by decide +kernel
theorem dX10_listen_9 : decode cX10_listen 9 = .ok (.if_icmp .ge 57, 3) := by decide +kernel
theorem dX10_listen_12 : decode cX10_listen 12 = .ok (.aload_n 0, 1) := by decide +kernel
theorem dX10_listen_13 : decode cX10_listen 13 = .ok (.invokevirtual 252, 3) := by decide +kernel
theorem dX10_listen_16 : decode cX10_listen 16 = .ok (.pop, 1) := by decide +kernel
theorem dX10_listen_17 : decode cX10_listen 17 = .ok (.iconst 0, 1) := by decide +kernel
theorem dX10_listen_18 : decode cX10_listen 18 = .ok (.istore_n 2, 1) := by decide +kernel
theorem dX10_listen_19 : decode cX10_listen 19 = .ok (.iload_n 2, 1) := by decide +kernel
theorem dX10_listen_20 : decode cX10_listen 20 = .ok (.aload_n 0, 1) := by decide +kernel
theorem dX10_listen_21 : decode cX10_listen 21 = .ok (.getfield 19, 3) := by decide +kernel
theorem dX10_listen_24 : decode cX10_listen 24 = .ok (.getfield 74, 3) := by decide +kernel
theorem dX10_listen_27 : decode cX10_listen 27 = .ok (.if_icmp .ge 33, 3) := by decide +kernel
theorem dX10_listen_30 : decode cX10_listen 30 = .ok (.aload_n 0, 1) := by decide +kernel
theorem dX10_listen_31 : decode cX10_listen 31 = .ok (.getfield 63, 3) := by decide +kernel
theorem dX10_listen_34 : decode cX10_listen 34 = .ok (.iload_n 1, 1) := by decide +kernel
theorem dX10_listen_35 : decode cX10_listen 35 = .ok (.bipush 6, 2) := by decide +kernel
theorem dX10_listen_37 : decode cX10_listen 37 = .ok (.imul, 1) := by decide +kernel
theorem dX10_listen_38 : decode cX10_listen 38 = .ok (.iload_n 2, 1) := by decide +kernel
theorem dX10_listen_39 : decode cX10_listen 39 = .ok (.iadd, 1) := by decide +kernel
theorem dX10_listen_40 : decode cX10_listen 40 = .ok (.aload_n 0, 1) := by decide +kernel
theorem dX10_listen_41 : decode cX10_listen 41 = .ok (.getfield 43, 3) := by decide +kernel
theorem dX10_listen_44 : decode cX10_listen 44 = .ok (.getfield 258, 3) := by decide +kernel
theorem dX10_listen_47 : decode cX10_listen 47 = .ok (.iload_n 2, 1) := by decide +kernel
theorem dX10_listen_48 : decode cX10_listen 48 = .ok (.invokestatic 137, 3) := by decide +kernel
theorem dX10_listen_51 : decode cX10_listen 51 = .ok (.invokestatic 294, 3) := by decide +kernel
theorem dX10_listen_54 : decode cX10_listen 54 = .ok (.iinc 2 1, 3) := by decide +kernel
theorem dX10_listen_57 : decode cX10_listen 57 = .ok (.goto (-38), 3) := by decide +kernel
theorem dX10_listen_60 : decode cX10_listen 60 = .ok (.iinc 1 1, 3) := by decide +kernel
theorem dX10_listen_63 : decode cX10_listen 63 = .ok (.goto (-57), 3) := by decide +kernel
theorem dX10_listen_66 : decode cX10_listen 66 = .ok (.return_, 1) := by decide +kernel
theorem dX10_creakAhead_0 : decode cX10_creakAhead 0 = .ok (.aload_n 0, 1) := by decide +kernel
theorem dX10_creakAhead_1 : decode cX10_creakAhead 1 = .ok (.getfield 63, 3) := by decide +kernel
theorem dX10_creakAhead_4 : decode cX10_creakAhead 4 = .ok (.iload_n 1, 1) := by decide +kernel
theorem dX10_creakAhead_5 : decode cX10_creakAhead 5 = .ok (.iconst 1, 1) := by decide +kernel
theorem dX10_creakAhead_6 : decode cX10_creakAhead 6 = .ok (.isub, 1) := by decide +kernel
theorem dX10_creakAhead_7 : decode cX10_creakAhead 7 = .ok (.bipush 6, 2) := by decide +kernel
theorem dX10_creakAhead_9 : decode cX10_creakAhead 9 = .ok (.imul, 1) := by decide +kernel
theorem dX10_creakAhead_10 : decode cX10_creakAhead 10 = .ok (.iload_n 2, 1) := by decide +kernel
theorem dX10_creakAhead_11 : decode cX10_creakAhead 11 = .ok (.iadd, 1) := by decide +kernel
theorem dX10_creakAhead_12 : decode cX10_creakAhead 12 = .ok (.invokestatic 137, 3) := by decide +kernel
theorem dX10_creakAhead_15 : decode cX10_creakAhead 15 = .ok (.ireturn, 1) := by decide +kernel
theorem dX10_suspects_0 : decode cX10_suspects 0 = .ok (.iconst 0, 1) := by decide +kernel
theorem dX10_suspects_1 : decode cX10_suspects 1 = .ok (.istore_n 1, 1) := by decide +kernel
theorem dX10_suspects_2 : decode cX10_suspects 2 = .ok (.iconst 0, 1) := by decide +kernel
theorem dX10_suspects_3 : decode cX10_suspects 3 = .ok (.istore_n 2, 1) := by decide +kernel
theorem dX10_suspects_4 : decode cX10_suspects 4 = .ok (.iload_n 2, 1) := by decide +kernel
theorem dX10_suspects_5 : decode cX10_suspects 5 = .ok (.aload_n 0, 1) := by decide +kernel
theorem dX10_suspects_6 : decode cX10_suspects 6 = .ok (.getfield 19, 3) := by decide +kernel
theorem dX10_suspects_9 : decode cX10_suspects 9 = .ok (.getfield 74, 3) := by decide +kernel
theorem dX10_suspects_12 : decode cX10_suspects 12 = .ok (.if_icmp .ge 23, 3) := by decide +kernel
theorem dX10_suspects_15 : decode cX10_suspects 15 = .ok (.aload_n 0, 1) := by decide +kernel
theorem dX10_suspects_16 : decode cX10_suspects 16 = .ok (.iload_n 2, 1) := by decide +kernel
theorem dX10_suspects_17 : decode cX10_suspects 17 = .ok (.invokevirtual 333, 3) := by decide +kernel
theorem dX10_suspects_20 : decode cX10_suspects 20 = .ok (.ifCond .eq 9, 3) := by decide +kernel
theorem dX10_suspects_23 : decode cX10_suspects 23 = .ok (.iload_n 1, 1) := by decide +kernel
theorem dX10_suspects_24 : decode cX10_suspects 24 = .ok (.iconst 1, 1) := by decide +kernel
theorem dX10_suspects_25 : decode cX10_suspects 25 = .ok (.iload_n 2, 1) := by decide +kernel
theorem dX10_suspects_26 : decode cX10_suspects 26 = .ok (.ishl, 1) := by decide +kernel
theorem dX10_suspects_27 : decode cX10_suspects 27 = .ok (.ior, 1) := by decide +kernel
theorem dX10_suspects_28 : decode cX10_suspects 28 = .ok (.istore_n 1, 1) := by decide +kernel
theorem dX10_suspects_29 : decode cX10_suspects 29 = .ok (.iinc 2 1, 3) := by decide +kernel
theorem dX10_suspects_32 : decode cX10_suspects 32 = .ok (.goto (-28), 3) := by decide +kernel
theorem dX10_suspects_35 : decode cX10_suspects 35 = .ok (.iload_n 1, 1) := by decide +kernel
theorem dX10_suspects_36 : decode cX10_suspects 36 = .ok (.ireturn, 1) := by decide +kernel
theorem dX10_isSuspect_0 : decode cX10_isSuspect 0 = .ok (.iconst 0, 1) := by decide +kernel
theorem dX10_isSuspect_1 : decode cX10_isSuspect 1 = .ok (.istore_n 2, 1) := by decide +kernel
theorem dX10_isSuspect_2 : decode cX10_isSuspect 2 = .ok (.iload_n 2, 1) := by decide +kernel
theorem dX10_isSuspect_3 : decode cX10_isSuspect 3 = .ok (.aload_n 0, 1) := by decide +kernel
theorem dX10_isSuspect_4 : decode cX10_isSuspect 4 = .ok (.getfield 49, 3) := by decide +kernel
theorem dX10_isSuspect_7 : decode cX10_isSuspect 7 = .ok (.getfield 191, 3) := by decide +kernel
theorem dX10_isSuspect_10 : decode cX10_isSuspect 10 = .ok (.if_icmp .ge 71, 3) := by decide +kernel
theorem dX10_isSuspect_13 : decode cX10_isSuspect 13 = .ok (.aload_n 0, 1) := by decide +kernel
theorem dX10_isSuspect_14 : decode cX10_isSuspect 14 = .ok (.aload_n 0, 1) := by decide +kernel
theorem dX10_isSuspect_15 : decode cX10_isSuspect 15 = .ok (.getfield 49, 3) := by decide +kernel
theorem dX10_isSuspect_18 : decode cX10_isSuspect 18 = .ok (.getfield 336, 3) := by decide +kernel
theorem dX10_isSuspect_21 : decode cX10_isSuspect 21 = .ok (.iload_n 2, 1) := by decide +kernel
theorem dX10_isSuspect_22 : decode cX10_isSuspect 22 = .ok (.invokestatic 137, 3) := by decide +kernel
theorem dX10_isSuspect_25 : decode cX10_isSuspect 25 = .ok (.iload_n 1, 1) := by decide +kernel
theorem dX10_isSuspect_26 : decode cX10_isSuspect 26 = .ok (.invokevirtual 338, 3) := by decide +kernel
theorem dX10_isSuspect_29 : decode cX10_isSuspect 29 = .ok (.aload_n 0, 1) := by decide +kernel
theorem dX10_isSuspect_30 : decode cX10_isSuspect 30 = .ok (.getfield 49, 3) := by decide +kernel
theorem dX10_isSuspect_33 : decode cX10_isSuspect 33 = .ok (.getfield 341, 3) := by decide +kernel
theorem dX10_isSuspect_36 : decode cX10_isSuspect 36 = .ok (.iload_n 2, 1) := by decide +kernel
theorem dX10_isSuspect_37 : decode cX10_isSuspect 37 = .ok (.invokestatic 137, 3) := by decide +kernel
theorem dX10_isSuspect_40 : decode cX10_isSuspect 40 = .ok (.if_icmp .lt 7, 3) := by decide +kernel
theorem dX10_isSuspect_43 : decode cX10_isSuspect 43 = .ok (.iconst 1, 1) := by decide +kernel
theorem dX10_isSuspect_44 : decode cX10_isSuspect 44 = .ok (.goto 4, 3) := by decide +kernel
theorem dX10_isSuspect_47 : decode cX10_isSuspect 47 = .ok (.iconst 0, 1) := by decide +kernel
theorem dX10_isSuspect_48 : decode cX10_isSuspect 48 = .ok (.istore_n 3, 1) := by decide +kernel
theorem dX10_isSuspect_49 : decode cX10_isSuspect 49 = .ok (.iload_n 3, 1) := by decide +kernel
theorem dX10_isSuspect_50 : decode cX10_isSuspect 50 = .ok (.aload_n 0, 1) := by decide +kernel
theorem dX10_isSuspect_51 : decode cX10_isSuspect 51 = .ok (.getfield 49, 3) := by decide +kernel
theorem dX10_isSuspect_54 : decode cX10_isSuspect 54 = .ok (.getfield 344, 3) := by decide +kernel
theorem dX10_isSuspect_57 : decode cX10_isSuspect 57 = .ok (.iload_n 2, 1) := by decide +kernel
theorem dX10_isSuspect_58 : decode cX10_isSuspect 58 = .ok (.invokestatic 137, 3) := by decide +kernel
theorem dX10_isSuspect_61 : decode cX10_isSuspect 61 = .ok (.iconst 1, 1) := by decide +kernel
theorem dX10_isSuspect_62 : decode cX10_isSuspect 62 = .ok (.if_icmp .ne 7, 3) := by decide +kernel
theorem dX10_isSuspect_65 : decode cX10_isSuspect 65 = .ok (.iconst 1, 1) := by decide +kernel
theorem dX10_isSuspect_66 : decode cX10_isSuspect 66 = .ok (.goto 4, 3) := by decide +kernel
theorem dX10_isSuspect_69 : decode cX10_isSuspect 69 = .ok (.iconst 0, 1) := by decide +kernel
theorem dX10_isSuspect_70 : decode cX10_isSuspect 70 = .ok (.if_icmp .eq 5, 3) := by decide +kernel
theorem dX10_isSuspect_73 : decode cX10_isSuspect 73 = .ok (.iconst 0, 1) := by decide +kernel
theorem dX10_isSuspect_74 : decode cX10_isSuspect 74 = .ok (.ireturn, 1) := by decide +kernel
theorem dX10_isSuspect_75 : decode cX10_isSuspect 75 = .ok (.iinc 2 1, 3) := by decide +kernel
theorem dX10_isSuspect_78 : decode cX10_isSuspect 78 = .ok (.goto (-76), 3) := by decide +kernel
theorem dX10_isSuspect_81 : decode cX10_isSuspect 81 = .ok (.iconst 1, 1) := by decide +kernel
theorem dX10_isSuspect_82 : decode cX10_isSuspect 82 = .ok (.ireturn, 1) := by decide +kernel
theorem dX10_ask_0 : decode cX10_ask 0 = .ok (.aload_n 0, 1) := by decide +kernel
theorem dX10_ask_1 : decode cX10_ask 1 = .ok (.invokevirtual 327, 3) := by decide +kernel
theorem dX10_ask_4 : decode cX10_ask 4 = .ok (.aload_n 0, 1) := by decide +kernel
theorem dX10_ask_5 : decode cX10_ask 5 = .ok (.invokevirtual 330, 3) := by decide +kernel
theorem dX10_ask_8 : decode cX10_ask 8 = .ok (.istore_n 1, 1) := by decide +kernel
theorem dX10_ask_9 : decode cX10_ask 9 = .ok (.iload_n 1, 1) := by decide +kernel
theorem dX10_ask_10 : decode cX10_ask 10 = .ok (.invokestatic 298, 3) := by decide +kernel
theorem dX10_ask_13 : decode cX10_ask 13 = .ok (.istore_n 2, 1) := by decide +kernel
theorem dX10_ask_14 : decode cX10_ask 14 = .ok (.iload_n 2, 1) := by decide +kernel
theorem dX10_ask_15 : decode cX10_ask 15 = .ok (.istore_n 3, 1) := by decide +kernel
theorem dX10_ask_16 : decode cX10_ask 16 = .ok (.iconst (-1), 1) := by decide +kernel
theorem dX10_ask_17 : decode cX10_ask 17 = .ok (.istore 4, 2) := by decide +kernel
theorem dX10_ask_19 : decode cX10_ask 19 = .ok (.iconst 1, 1) := by decide +kernel
theorem dX10_ask_20 : decode cX10_ask 20 = .ok (.istore 5, 2) := by decide +kernel
theorem dX10_ask_22 : decode cX10_ask 22 = .ok (.iload 5, 2) := by decide +kernel
theorem dX10_ask_24 : decode cX10_ask 24 = .ok (.bipush 20, 2) := by decide +kernel
theorem dX10_ask_26 : decode cX10_ask 26 = .ok (.if_icmp .gt 68, 3) := by decide +kernel
theorem dX10_ask_29 : decode cX10_ask 29 = .ok (.iconst 1, 1) := by decide +kernel
theorem dX10_ask_30 : decode cX10_ask 30 = .ok (.istore 6, 2) := by decide +kernel
theorem dX10_ask_32 : decode cX10_ask 32 = .ok (.iload 6, 2) := by decide +kernel
theorem dX10_ask_34 : decode cX10_ask 34 = .ok (.sipush 400, 3) := by decide +kernel
theorem dX10_ask_37 : decode cX10_ask 37 = .ok (.if_icmp .gt 51, 3) := by decide +kernel
theorem dX10_ask_40 : decode cX10_ask 40 = .ok (.aload_n 0, 1) := by decide +kernel
theorem dX10_ask_41 : decode cX10_ask 41 = .ok (.iload_n 1, 1) := by decide +kernel
theorem dX10_ask_42 : decode cX10_ask 42 = .ok (.iload 5, 2) := by decide +kernel
theorem dX10_ask_44 : decode cX10_ask 44 = .ok (.iload 6, 2) := by decide +kernel
theorem dX10_ask_46 : decode cX10_ask 46 = .ok (.invokevirtual 347, 3) := by decide +kernel
theorem dX10_ask_49 : decode cX10_ask 49 = .ok (.istore 7, 2) := by decide +kernel
theorem dX10_ask_51 : decode cX10_ask 51 = .ok (.iload 7, 2) := by decide +kernel
theorem dX10_ask_53 : decode cX10_ask 53 = .ok (.iload_n 2, 1) := by decide +kernel
theorem dX10_ask_54 : decode cX10_ask 54 = .ok (.iload 7, 2) := by decide +kernel
theorem dX10_ask_56 : decode cX10_ask 56 = .ok (.isub, 1) := by decide +kernel
theorem dX10_ask_57 : decode cX10_ask 57 = .ok (.invokestatic 351, 3) := by decide +kernel
theorem dX10_ask_60 : decode cX10_ask 60 = .ok (.istore 8, 2) := by decide +kernel
theorem dX10_ask_62 : decode cX10_ask 62 = .ok (.iload 8, 2) := by decide +kernel
theorem dX10_ask_64 : decode cX10_ask 64 = .ok (.iload_n 3, 1) := by decide +kernel
theorem dX10_ask_65 : decode cX10_ask 65 = .ok (.if_icmp .ge 17, 3) := by decide +kernel
theorem dX10_ask_68 : decode cX10_ask 68 = .ok (.iload 8, 2) := by decide +kernel
theorem dX10_ask_70 : decode cX10_ask 70 = .ok (.istore_n 3, 1) := by decide +kernel
theorem dX10_ask_71 : decode cX10_ask 71 = .ok (.sipush 1000, 3) := by decide +kernel
theorem dX10_ask_74 : decode cX10_ask 74 = .ok (.iload 5, 2) := by decide +kernel
theorem dX10_ask_76 : decode cX10_ask 76 = .ok (.imul, 1) := by decide +kernel
theorem dX10_ask_77 : decode cX10_ask 77 = .ok (.iload 6, 2) := by decide +kernel
theorem dX10_ask_79 : decode cX10_ask 79 = .ok (.iadd, 1) := by decide +kernel
theorem dX10_ask_80 : decode cX10_ask 80 = .ok (.istore 4, 2) := by decide +kernel
theorem dX10_ask_82 : decode cX10_ask 82 = .ok (.iinc 6 1, 3) := by decide +kernel
theorem dX10_ask_85 : decode cX10_ask 85 = .ok (.goto (-53), 3) := by decide +kernel
theorem dX10_ask_88 : decode cX10_ask 88 = .ok (.iinc 5 1, 3) := by decide +kernel
theorem dX10_ask_91 : decode cX10_ask 91 = .ok (.goto (-69), 3) := by decide +kernel
theorem dX10_ask_94 : decode cX10_ask 94 = .ok (.iload 4, 2) := by decide +kernel
theorem dX10_ask_96 : decode cX10_ask 96 = .ok (.ireturn, 1) := by decide +kernel
theorem dX10_creaking_0 : decode cX10_creaking 0 = .ok (.iconst 0, 1) := by decide +kernel
theorem dX10_creaking_1 : decode cX10_creaking 1 = .ok (.istore 4, 2) := by decide +kernel
theorem dX10_creaking_3 : decode cX10_creaking 3 = .ok (.iconst 0, 1) := by decide +kernel
theorem dX10_creaking_4 : decode cX10_creaking 4 = .ok (.istore 5, 2) := by decide +kernel
theorem dX10_creaking_6 : decode cX10_creaking 6 = .ok (.iload 5, 2) := by decide +kernel
theorem dX10_creaking_8 : decode cX10_creaking 8 = .ok (.aload_n 0, 1) := by decide +kernel
theorem dX10_creaking_9 : decode cX10_creaking 9 = .ok (.getfield 19, 3) := by decide +kernel
theorem dX10_creaking_12 : decode cX10_creaking 12 = .ok (.getfield 74, 3) := by decide +kernel
theorem dX10_creaking_15 : decode cX10_creaking 15 = .ok (.if_icmp .ge 33, 3) := by decide +kernel
theorem dX10_creaking_18 : decode cX10_creaking 18 = .ok (.iload_n 1, 1) := by decide +kernel
theorem dX10_creaking_19 : decode cX10_creaking 19 = .ok (.iload 5, 2) := by decide +kernel
theorem dX10_creaking_21 : decode cX10_creaking 21 = .ok (.ishr, 1) := by decide +kernel
theorem dX10_creaking_22 : decode cX10_creaking 22 = .ok (.iconst 1, 1) := by decide +kernel
theorem dX10_creaking_23 : decode cX10_creaking 23 = .ok (.iand, 1) := by decide +kernel
theorem dX10_creaking_24 : decode cX10_creaking 24 = .ok (.iconst 1, 1) := by decide +kernel
theorem dX10_creaking_25 : decode cX10_creaking 25 = .ok (.if_icmp .ne 17, 3) := by decide +kernel
theorem dX10_creaking_28 : decode cX10_creaking 28 = .ok (.aload_n 0, 1) := by decide +kernel
theorem dX10_creaking_29 : decode cX10_creaking 29 = .ok (.iload_n 2, 1) := by decide +kernel
theorem dX10_creaking_30 : decode cX10_creaking 30 = .ok (.iload 5, 2) := by decide +kernel
theorem dX10_creaking_32 : decode cX10_creaking 32 = .ok (.invokevirtual 338, 3) := by decide +kernel
theorem dX10_creaking_35 : decode cX10_creaking 35 = .ok (.iload_n 3, 1) := by decide +kernel
theorem dX10_creaking_36 : decode cX10_creaking 36 = .ok (.if_icmp .lt 6, 3) := by decide +kernel
theorem dX10_creaking_39 : decode cX10_creaking 39 = .ok (.iinc 4 1, 3) := by decide +kernel
theorem dX10_creaking_42 : decode cX10_creaking 42 = .ok (.iinc 5 1, 3) := by decide +kernel
theorem dX10_creaking_45 : decode cX10_creaking 45 = .ok (.goto (-39), 3) := by decide +kernel
theorem dX10_creaking_48 : decode cX10_creaking 48 = .ok (.iload 4, 2) := by decide +kernel
theorem dX10_creaking_50 : decode cX10_creaking 50 = .ok (.ireturn, 1) := by decide +kernel
theorem dX10_stick_0 : decode cX10_stick 0 = .ok (.iconst 0, 1) := by decide +kernel
theorem dX10_stick_1 : decode cX10_stick 1 = .ok (.istore_n 1, 1) := by decide +kernel
theorem dX10_stick_2 : decode cX10_stick 2 = .ok (.iconst 0, 1) := by decide +kernel
theorem dX10_stick_3 : decode cX10_stick 3 = .ok (.istore_n 2, 1) := by decide +kernel
theorem dX10_stick_4 : decode cX10_stick 4 = .ok (.iload_n 2, 1) := by decide +kernel
theorem dX10_stick_5 : decode cX10_stick 5 = .ok (.aload_n 0, 1) := by decide +kernel
theorem dX10_stick_6 : decode cX10_stick 6 = .ok (.getfield 19, 3) := by decide +kernel
theorem dX10_stick_9 : decode cX10_stick 9 = .ok (.getfield 74, 3) := by decide +kernel
theorem dX10_stick_12 : decode cX10_stick 12 = .ok (.if_icmp .ge 25, 3) := by decide +kernel
theorem dX10_stick_15 : decode cX10_stick 15 = .ok (.iload_n 1, 1) := by decide +kernel
theorem dX10_stick_16 : decode cX10_stick 16 = .ok (.aload_n 0, 1) := by decide +kernel
theorem dX10_stick_17 : decode cX10_stick 17 = .ok (.getfield 39, 3) := by decide +kernel
theorem dX10_stick_20 : decode cX10_stick 20 = .ok (.getfield 144, 3) := by decide +kernel
theorem dX10_stick_23 : decode cX10_stick 23 = .ok (.iload_n 2, 1) := by decide +kernel
theorem dX10_stick_24 : decode cX10_stick 24 = .ok (.invokestatic 137, 3) := by decide +kernel
theorem dX10_stick_27 : decode cX10_stick 27 = .ok (.iconst 4, 1) := by decide +kernel
theorem dX10_stick_28 : decode cX10_stick 28 = .ok (.irem, 1) := by decide +kernel
theorem dX10_stick_29 : decode cX10_stick 29 = .ok (.ixor, 1) := by decide +kernel
theorem dX10_stick_30 : decode cX10_stick 30 = .ok (.istore_n 1, 1) := by decide +kernel
theorem dX10_stick_31 : decode cX10_stick 31 = .ok (.iinc 2 1, 3) := by decide +kernel
theorem dX10_stick_34 : decode cX10_stick 34 = .ok (.goto (-30), 3) := by decide +kernel
theorem dX10_stick_37 : decode cX10_stick 37 = .ok (.iload_n 1, 1) := by decide +kernel
theorem dX10_stick_38 : decode cX10_stick 38 = .ok (.ifCond .ne 5, 3) := by decide +kernel
theorem dX10_stick_41 : decode cX10_stick 41 = .ok (.iconst (-1), 1) := by decide +kernel
theorem dX10_stick_42 : decode cX10_stick 42 = .ok (.ireturn, 1) := by decide +kernel
theorem dX10_stick_43 : decode cX10_stick 43 = .ok (.iconst 0, 1) := by decide +kernel
theorem dX10_stick_44 : decode cX10_stick 44 = .ok (.istore_n 2, 1) := by decide +kernel
theorem dX10_stick_45 : decode cX10_stick 45 = .ok (.iload_n 2, 1) := by decide +kernel
theorem dX10_stick_46 : decode cX10_stick 46 = .ok (.aload_n 0, 1) := by decide +kernel
theorem dX10_stick_47 : decode cX10_stick 47 = .ok (.getfield 19, 3) := by decide +kernel
theorem dX10_stick_50 : decode cX10_stick 50 = .ok (.getfield 74, 3) := by decide +kernel
theorem dX10_stick_53 : decode cX10_stick 53 = .ok (.if_icmp .ge 64, 3) := by decide +kernel
theorem dX10_stick_56 : decode cX10_stick 56 = .ok (.aload_n 0, 1) := by decide +kernel
theorem dX10_stick_57 : decode cX10_stick 57 = .ok (.getfield 39, 3) := by decide +kernel
theorem dX10_stick_60 : decode cX10_stick 60 = .ok (.getfield 144, 3) := by decide +kernel
theorem dX10_stick_63 : decode cX10_stick 63 = .ok (.iload_n 2, 1) := by decide +kernel
theorem dX10_stick_64 : decode cX10_stick 64 = .ok (.invokestatic 137, 3) := by decide +kernel
theorem dX10_stick_67 : decode cX10_stick 67 = .ok (.istore_n 3, 1) := by decide +kernel
theorem dX10_stick_68 : decode cX10_stick 68 = .ok (.iconst 1, 1) := by decide +kernel
theorem dX10_stick_69 : decode cX10_stick 69 = .ok (.istore 4, 2) := by decide +kernel
theorem dX10_stick_71 : decode cX10_stick 71 = .ok (.iload 4, 2) := by decide +kernel
theorem dX10_stick_73 : decode cX10_stick 73 = .ok (.iconst 3, 1) := by decide +kernel
theorem dX10_stick_74 : decode cX10_stick 74 = .ok (.if_icmp .gt 37, 3) := by decide +kernel
theorem dX10_stick_77 : decode cX10_stick 77 = .ok (.iload 4, 2) := by decide +kernel
theorem dX10_stick_79 : decode cX10_stick 79 = .ok (.iload_n 3, 1) := by decide +kernel
theorem dX10_stick_80 : decode cX10_stick 80 = .ok (.if_icmp .gt 31, 3) := by decide +kernel
theorem dX10_stick_83 : decode cX10_stick 83 = .ok (.iload_n 1, 1) := by decide +kernel
theorem dX10_stick_84 : decode cX10_stick 84 = .ok (.iload_n 3, 1) := by decide +kernel
theorem dX10_stick_85 : decode cX10_stick 85 = .ok (.iconst 4, 1) := by decide +kernel
theorem dX10_stick_86 : decode cX10_stick 86 = .ok (.irem, 1) := by decide +kernel
theorem dX10_stick_87 : decode cX10_stick 87 = .ok (.ixor, 1) := by decide +kernel
theorem dX10_stick_88 : decode cX10_stick 88 = .ok (.iload_n 3, 1) := by decide +kernel
theorem dX10_stick_89 : decode cX10_stick 89 = .ok (.iload 4, 2) := by decide +kernel
theorem dX10_stick_91 : decode cX10_stick 91 = .ok (.isub, 1) := by decide +kernel
theorem dX10_stick_92 : decode cX10_stick 92 = .ok (.iconst 4, 1) := by decide +kernel
theorem dX10_stick_93 : decode cX10_stick 93 = .ok (.irem, 1) := by decide +kernel
theorem dX10_stick_94 : decode cX10_stick 94 = .ok (.ixor, 1) := by decide +kernel
theorem dX10_stick_95 : decode cX10_stick 95 = .ok (.ifCond .ne 10, 3) := by decide +kernel
theorem dX10_stick_98 : decode cX10_stick 98 = .ok (.iconst 4, 1) := by decide +kernel
theorem dX10_stick_99 : decode cX10_stick 99 = .ok (.iload_n 2, 1) := by decide +kernel
theorem dX10_stick_100 : decode cX10_stick 100 = .ok (.imul, 1) := by decide +kernel
theorem dX10_stick_101 : decode cX10_stick 101 = .ok (.iload 4, 2) := by decide +kernel
theorem dX10_stick_103 : decode cX10_stick 103 = .ok (.iadd, 1) := by decide +kernel
theorem dX10_stick_104 : decode cX10_stick 104 = .ok (.ireturn, 1) := by decide +kernel
theorem dX10_stick_105 : decode cX10_stick 105 = .ok (.iinc 4 1, 3) := by decide +kernel
theorem dX10_stick_108 : decode cX10_stick 108 = .ok (.goto (-37), 3) := by decide +kernel
theorem dX10_stick_111 : decode cX10_stick 111 = .ok (.iinc 2 1, 3) := by decide +kernel
theorem dX10_stick_114 : decode cX10_stick 114 = .ok (.goto (-69), 3) := by decide +kernel
theorem dX10_stick_117 : decode cX10_stick 117 = .ok (.iconst (-1), 1) := by decide +kernel
theorem dX10_stick_118 : decode cX10_stick 118 = .ok (.ireturn, 1) := by decide +kernel
theorem dX10_chance_0 : decode cX10_chance 0 = .ok (.aload_n 0, 1) := by decide +kernel
theorem dX10_chance_1 : decode cX10_chance 1 = .ok (.iload_n 1, 1) := by decide +kernel
theorem dX10_chance_2 : decode cX10_chance 2 = .ok (.invokevirtual 130, 3) := by decide +kernel
theorem dX10_chance_5 : decode cX10_chance 5 = .ok (.ifCond .eq 23, 3) := by decide +kernel
theorem dX10_chance_8 : decode cX10_chance 8 = .ok (.iload_n 2, 1) := by decide +kernel
theorem dX10_chance_9 : decode cX10_chance 9 = .ok (.iconst 1, 1) := by decide +kernel
theorem dX10_chance_10 : decode cX10_chance 10 = .ok (.bipush 6, 2) := by decide +kernel
theorem dX10_chance_12 : decode cX10_chance 12 = .ok (.invokestatic 199, 3) := by decide +kernel
theorem dX10_chance_15 : decode cX10_chance 15 = .ok (.ifCond .eq 13, 3) := by decide +kernel
theorem dX10_chance_18 : decode cX10_chance 18 = .ok (.iload_n 3, 1) := by decide +kernel
theorem dX10_chance_19 : decode cX10_chance 19 = .ok (.iconst 0, 1) := by decide +kernel
theorem dX10_chance_20 : decode cX10_chance 20 = .ok (.bipush 10, 2) := by decide +kernel
theorem dX10_chance_22 : decode cX10_chance 22 = .ok (.invokestatic 199, 3) := by decide +kernel
theorem dX10_chance_25 : decode cX10_chance 25 = .ok (.ifCond .ne 5, 3) := by decide +kernel
theorem dX10_chance_28 : decode cX10_chance 28 = .ok (.iconst (-1), 1) := by decide +kernel
theorem dX10_chance_29 : decode cX10_chance 29 = .ok (.ireturn, 1) := by decide +kernel
theorem dX10_chance_30 : decode cX10_chance 30 = .ok (.iconst 0, 1) := by decide +kernel
theorem dX10_chance_31 : decode cX10_chance 31 = .ok (.istore 4, 2) := by decide +kernel
theorem dX10_chance_33 : decode cX10_chance 33 = .ok (.iconst 0, 1) := by decide +kernel
theorem dX10_chance_34 : decode cX10_chance 34 = .ok (.istore 5, 2) := by decide +kernel
theorem dX10_chance_36 : decode cX10_chance 36 = .ok (.iload 5, 2) := by decide +kernel
theorem dX10_chance_38 : decode cX10_chance 38 = .ok (.iconst 1, 1) := by decide +kernel
theorem dX10_chance_39 : decode cX10_chance 39 = .ok (.iload_n 2, 1) := by decide +kernel
theorem dX10_chance_40 : decode cX10_chance 40 = .ok (.ishl, 1) := by decide +kernel
theorem dX10_chance_41 : decode cX10_chance 41 = .ok (.if_icmp .ge 23, 3) := by decide +kernel
theorem dX10_chance_44 : decode cX10_chance 44 = .ok (.iload 4, 2) := by decide +kernel
theorem dX10_chance_46 : decode cX10_chance 46 = .ok (.aload_n 0, 1) := by decide +kernel
theorem dX10_chance_47 : decode cX10_chance 47 = .ok (.iload_n 1, 1) := by decide +kernel
theorem dX10_chance_48 : decode cX10_chance 48 = .ok (.iload_n 2, 1) := by decide +kernel
theorem dX10_chance_49 : decode cX10_chance 49 = .ok (.iload_n 3, 1) := by decide +kernel
theorem dX10_chance_50 : decode cX10_chance 50 = .ok (.iload 5, 2) := by decide +kernel
theorem dX10_chance_52 : decode cX10_chance 52 = .ok (.invokevirtual 354, 3) := by decide +kernel
theorem dX10_chance_55 : decode cX10_chance 55 = .ok (.iadd, 1) := by decide +kernel
theorem dX10_chance_56 : decode cX10_chance 56 = .ok (.istore 4, 2) := by decide +kernel
theorem dX10_chance_58 : decode cX10_chance 58 = .ok (.iinc 5 1, 3) := by decide +kernel
theorem dX10_chance_61 : decode cX10_chance 61 = .ok (.goto (-25), 3) := by decide +kernel
theorem dX10_chance_64 : decode cX10_chance 64 = .ok (.iload_n 2, 1) := by decide +kernel
theorem dX10_chance_65 : decode cX10_chance 65 = .ok (.istore 5, 2) := by decide +kernel
theorem dX10_chance_67 : decode cX10_chance 67 = .ok (.iload 5, 2) := by decide +kernel
theorem dX10_chance_69 : decode cX10_chance 69 = .ok (.bipush 6, 2) := by decide +kernel
theorem dX10_chance_71 : decode cX10_chance 71 = .ok (.if_icmp .ge 16, 3) := by decide +kernel
theorem dX10_chance_74 : decode cX10_chance 74 = .ok (.iload 4, 2) := by decide +kernel
theorem dX10_chance_76 : decode cX10_chance 76 = .ok (.bipush 10, 2) := by decide +kernel
theorem dX10_chance_78 : decode cX10_chance 78 = .ok (.imul, 1) := by decide +kernel
theorem dX10_chance_79 : decode cX10_chance 79 = .ok (.istore 4, 2) := by decide +kernel
theorem dX10_chance_81 : decode cX10_chance 81 = .ok (.iinc 5 1, 3) := by decide +kernel
theorem dX10_chance_84 : decode cX10_chance 84 = .ok (.goto (-17), 3) := by decide +kernel
theorem dX10_chance_87 : decode cX10_chance 87 = .ok (.iload 4, 2) := by decide +kernel
theorem dX10_chance_89 : decode cX10_chance 89 = .ok (.ireturn, 1) := by decide +kernel
theorem dX10_likelihoodAtRoof_0 : decode cX10_likelihoodAtRoof 0 = .ok (.iconst 1, 1) := by decide +kernel
theorem dX10_likelihoodAtRoof_1 : decode cX10_likelihoodAtRoof 1 = .ok (.istore 5, 2) := by decide +kernel
theorem dX10_likelihoodAtRoof_3 : decode cX10_likelihoodAtRoof 3 = .ok (.aload_n 0, 1) := by decide +kernel
theorem dX10_likelihoodAtRoof_4 : decode cX10_likelihoodAtRoof 4 = .ok (.invokevirtual 249, 3) := by decide +kernel
theorem dX10_likelihoodAtRoof_7 : decode cX10_likelihoodAtRoof 7 = .ok (.iconst 0, 1) := by decide +kernel
theorem dX10_likelihoodAtRoof_8 : decode cX10_likelihoodAtRoof 8 = .ok (.istore 6, 2) := by decide +kernel
theorem dX10_likelihoodAtRoof_10 : decode cX10_likelihoodAtRoof 10 = .ok (.iload 6, 2) := by decide +kernel
theorem dX10_likelihoodAtRoof_12 : decode cX10_likelihoodAtRoof 12 = .ok (.iload_n 2, 1) := by decide +kernel
theorem dX10_likelihoodAtRoof_13 : decode cX10_likelihoodAtRoof 13 = .ok (.if_icmp .ge 68, 3) := by decide +kernel
theorem dX10_likelihoodAtRoof_16 : decode cX10_likelihoodAtRoof 16 = .ok (.iload 4, 2) := by decide +kernel
theorem dX10_likelihoodAtRoof_18 : decode cX10_likelihoodAtRoof 18 = .ok (.iload 6, 2) := by decide +kernel
theorem dX10_likelihoodAtRoof_20 : decode cX10_likelihoodAtRoof 20 = .ok (.ishr, 1) := by decide +kernel
theorem dX10_likelihoodAtRoof_21 : decode cX10_likelihoodAtRoof 21 = .ok (.iconst 1, 1) := by decide +kernel
theorem dX10_likelihoodAtRoof_22 : decode cX10_likelihoodAtRoof 22 = .ok (.iand, 1) := by decide +kernel
theorem dX10_likelihoodAtRoof_23 : decode cX10_likelihoodAtRoof 23 = .ok (.iconst 1, 1) := by decide +kernel
theorem dX10_likelihoodAtRoof_24 : decode cX10_likelihoodAtRoof 24 = .ok (.if_icmp .ne 7, 3) := by decide +kernel
theorem dX10_likelihoodAtRoof_27 : decode cX10_likelihoodAtRoof 27 = .ok (.iconst 1, 1) := by decide +kernel
theorem dX10_likelihoodAtRoof_28 : decode cX10_likelihoodAtRoof 28 = .ok (.goto 4, 3) := by decide +kernel
theorem dX10_likelihoodAtRoof_31 : decode cX10_likelihoodAtRoof 31 = .ok (.iconst 0, 1) := by decide +kernel
theorem dX10_likelihoodAtRoof_32 : decode cX10_likelihoodAtRoof 32 = .ok (.istore 7, 2) := by decide +kernel
theorem dX10_likelihoodAtRoof_34 : decode cX10_likelihoodAtRoof 34 = .ok (.iload 5, 2) := by decide +kernel
theorem dX10_likelihoodAtRoof_36 : decode cX10_likelihoodAtRoof 36 = .ok (.iload 7, 2) := by decide +kernel
theorem dX10_likelihoodAtRoof_38 : decode cX10_likelihoodAtRoof 38 = .ok (.ifCond .eq 7, 3) := by decide +kernel
theorem dX10_likelihoodAtRoof_41 : decode cX10_likelihoodAtRoof 41 = .ok (.iload_n 3, 1) := by decide +kernel
theorem dX10_likelihoodAtRoof_42 : decode cX10_likelihoodAtRoof 42 = .ok (.goto 7, 3) := by decide +kernel
theorem dX10_likelihoodAtRoof_45 : decode cX10_likelihoodAtRoof 45 = .ok (.bipush 10, 2) := by decide +kernel
theorem dX10_likelihoodAtRoof_47 : decode cX10_likelihoodAtRoof 47 = .ok (.iload_n 3, 1) := by decide +kernel
theorem dX10_likelihoodAtRoof_48 : decode cX10_likelihoodAtRoof 48 = .ok (.isub, 1) := by decide +kernel
theorem dX10_likelihoodAtRoof_49 : decode cX10_likelihoodAtRoof 49 = .ok (.imul, 1) := by decide +kernel
theorem dX10_likelihoodAtRoof_50 : decode cX10_likelihoodAtRoof 50 = .ok (.istore 5, 2) := by decide +kernel
theorem dX10_likelihoodAtRoof_52 : decode cX10_likelihoodAtRoof 52 = .ok (.aload_n 0, 1) := by decide +kernel
theorem dX10_likelihoodAtRoof_53 : decode cX10_likelihoodAtRoof 53 = .ok (.getfield 43, 3) := by decide +kernel
theorem dX10_likelihoodAtRoof_56 : decode cX10_likelihoodAtRoof 56 = .ok (.aload_n 0, 1) := by decide +kernel
theorem dX10_likelihoodAtRoof_57 : decode cX10_likelihoodAtRoof 57 = .ok (.getfield 19, 3) := by decide +kernel
theorem dX10_likelihoodAtRoof_60 : decode cX10_likelihoodAtRoof 60 = .ok (.iload 7, 2) := by decide +kernel
theorem dX10_likelihoodAtRoof_62 : decode cX10_likelihoodAtRoof 62 = .ok (.ifCond .eq 8, 3) := by decide +kernel
theorem dX10_likelihoodAtRoof_65 : decode cX10_likelihoodAtRoof 65 = .ok (.bipush 9, 2) := by decide +kernel
theorem dX10_likelihoodAtRoof_67 : decode cX10_likelihoodAtRoof 67 = .ok (.goto 4, 3) := by decide +kernel
theorem dX10_likelihoodAtRoof_70 : decode cX10_likelihoodAtRoof 70 = .ok (.iconst 0, 1) := by decide +kernel
theorem dX10_likelihoodAtRoof_71 : decode cX10_likelihoodAtRoof 71 = .ok (.invokevirtual 195, 3) := by decide +kernel
theorem dX10_likelihoodAtRoof_74 : decode cX10_likelihoodAtRoof 74 = .ok (.pop, 1) := by decide +kernel
theorem dX10_likelihoodAtRoof_75 : decode cX10_likelihoodAtRoof 75 = .ok (.iinc 6 1, 3) := by decide +kernel
theorem dX10_likelihoodAtRoof_78 : decode cX10_likelihoodAtRoof 78 = .ok (.goto (-68), 3) := by decide +kernel
theorem dX10_likelihoodAtRoof_81 : decode cX10_likelihoodAtRoof 81 = .ok (.aload_n 0, 1) := by decide +kernel
theorem dX10_likelihoodAtRoof_82 : decode cX10_likelihoodAtRoof 82 = .ok (.getfield 43, 3) := by decide +kernel
theorem dX10_likelihoodAtRoof_85 : decode cX10_likelihoodAtRoof 85 = .ok (.getfield 147, 3) := by decide +kernel
theorem dX10_likelihoodAtRoof_88 : decode cX10_likelihoodAtRoof 88 = .ok (.iload_n 1, 1) := by decide +kernel
theorem dX10_likelihoodAtRoof_89 : decode cX10_likelihoodAtRoof 89 = .ok (.invokestatic 137, 3) := by decide +kernel
theorem dX10_likelihoodAtRoof_92 : decode cX10_likelihoodAtRoof 92 = .ok (.aload_n 0, 1) := by decide +kernel
theorem dX10_likelihoodAtRoof_93 : decode cX10_likelihoodAtRoof 93 = .ok (.getfield 19, 3) := by decide +kernel
theorem dX10_likelihoodAtRoof_96 : decode cX10_likelihoodAtRoof 96 = .ok (.getfield 175, 3) := by decide +kernel
theorem dX10_likelihoodAtRoof_99 : decode cX10_likelihoodAtRoof 99 = .ok (.if_icmp .ne 8, 3) := by decide +kernel
theorem dX10_likelihoodAtRoof_102 : decode cX10_likelihoodAtRoof 102 = .ok (.iload 5, 2) := by decide +kernel
theorem dX10_likelihoodAtRoof_104 : decode cX10_likelihoodAtRoof 104 = .ok (.goto 4, 3) := by decide +kernel
theorem dX10_likelihoodAtRoof_107 : decode cX10_likelihoodAtRoof 107 = .ok (.iconst 0, 1) := by decide +kernel
theorem dX10_likelihoodAtRoof_108 : decode cX10_likelihoodAtRoof 108 = .ok (.ireturn, 1) := by decide +kernel
theorem dX10_rests_0 : decode cX10_rests 0 = .ok (.iload_n 1, 1) := by decide +kernel
theorem dX10_rests_1 : decode cX10_rests 1 = .ok (.iconst 0, 1) := by decide +kernel
theorem dX10_rests_2 : decode cX10_rests 2 = .ok (.bipush 9, 2) := by decide +kernel
theorem dX10_rests_4 : decode cX10_rests 4 = .ok (.invokestatic 199, 3) := by decide +kernel
theorem dX10_rests_7 : decode cX10_rests 7 = .ok (.ifCond .eq 23, 3) := by decide +kernel
theorem dX10_rests_10 : decode cX10_rests 10 = .ok (.iload_n 2, 1) := by decide +kernel
theorem dX10_rests_11 : decode cX10_rests 11 = .ok (.iconst 0, 1) := by decide +kernel
theorem dX10_rests_12 : decode cX10_rests 12 = .ok (.bipush 9, 2) := by decide +kernel
theorem dX10_rests_14 : decode cX10_rests 14 = .ok (.invokestatic 199, 3) := by decide +kernel
theorem dX10_rests_17 : decode cX10_rests 17 = .ok (.ifCond .eq 13, 3) := by decide +kernel
theorem dX10_rests_20 : decode cX10_rests 20 = .ok (.iload_n 3, 1) := by decide +kernel
theorem dX10_rests_21 : decode cX10_rests 21 = .ok (.iconst 0, 1) := by decide +kernel
theorem dX10_rests_22 : decode cX10_rests 22 = .ok (.bipush 9, 2) := by decide +kernel
theorem dX10_rests_24 : decode cX10_rests 24 = .ok (.invokestatic 199, 3) := by decide +kernel
theorem dX10_rests_27 : decode cX10_rests 27 = .ok (.ifCond .ne 14, 3) := by decide +kernel
theorem dX10_rests_30 : decode cX10_rests 30 = .ok (.new 358, 3) := by decide +kernel
theorem dX10_rests_33 : decode cX10_rests 33 = .ok (.dup, 1) := by decide +kernel
theorem dX10_rests_34 : decode cX10_rests 34 = .ok (.ldc_w 360, 3) := by decide +kernel
theorem dX10_rests_37 : decode cX10_rests 37 = .ok (.invokespecial 362, 3) := by decide +kernel
theorem dX10_rests_40 : decode cX10_rests 40 = .ok (.athrow, 1) := by decide +kernel
theorem dX10_rests_41 : decode cX10_rests 41 = .ok (.iconst 0, 1) := by decide +kernel
theorem dX10_rests_42 : decode cX10_rests 42 = .ok (.istore 5, 2) := by decide +kernel
theorem dX10_rests_44 : decode cX10_rests 44 = .ok (.iconst 0, 1) := by decide +kernel
theorem dX10_rests_45 : decode cX10_rests 45 = .ok (.istore 6, 2) := by decide +kernel
theorem dX10_rests_47 : decode cX10_rests 47 = .ok (.iload 6, 2) := by decide +kernel
theorem dX10_rests_49 : decode cX10_rests 49 = .ok (.iconst 4, 1) := by decide +kernel
theorem dX10_rests_50 : decode cX10_rests 50 = .ok (.if_icmp .ge 33, 3) := by decide +kernel
theorem dX10_rests_53 : decode cX10_rests 53 = .ok (.iload_n 1, 1) := by decide +kernel
theorem dX10_rests_54 : decode cX10_rests 54 = .ok (.iload_n 2, 1) := by decide +kernel
theorem dX10_rests_55 : decode cX10_rests 55 = .ok (.iload_n 3, 1) := by decide +kernel
theorem dX10_rests_56 : decode cX10_rests 56 = .ok (.iload 6, 2) := by decide +kernel
theorem dX10_rests_58 : decode cX10_rests 58 = .ok (.invokestatic 365, 3) := by decide +kernel
theorem dX10_rests_61 : decode cX10_rests 61 = .ok (.ifCond .eq 16, 3) := by decide +kernel
theorem dX10_rests_64 : decode cX10_rests 64 = .ok (.iload 5, 2) := by decide +kernel
theorem dX10_rests_66 : decode cX10_rests 66 = .ok (.iload 4, 2) := by decide +kernel
theorem dX10_rests_68 : decode cX10_rests 68 = .ok (.if_icmp .ne 6, 3) := by decide +kernel
theorem dX10_rests_71 : decode cX10_rests 71 = .ok (.iload 6, 2) := by decide +kernel
theorem dX10_rests_73 : decode cX10_rests 73 = .ok (.ireturn, 1) := by decide +kernel
theorem dX10_rests_74 : decode cX10_rests 74 = .ok (.iinc 5 1, 3) := by decide +kernel
theorem dX10_rests_77 : decode cX10_rests 77 = .ok (.iinc 6 1, 3) := by decide +kernel
theorem dX10_rests_80 : decode cX10_rests 80 = .ok (.goto (-33), 3) := by decide +kernel
theorem dX10_rests_83 : decode cX10_rests 83 = .ok (.iload 4, 2) := by decide +kernel
theorem dX10_rests_85 : decode cX10_rests 85 = .ok (.iconst (-1), 1) := by decide +kernel
theorem dX10_rests_86 : decode cX10_rests 86 = .ok (.if_icmp .eq 14, 3) := by decide +kernel
theorem dX10_rests_89 : decode cX10_rests 89 = .ok (.new 358, 3) := by decide +kernel
theorem dX10_rests_92 : decode cX10_rests 92 = .ok (.dup, 1) := by decide +kernel
theorem dX10_rests_93 : decode cX10_rests 93 = .ok (.ldc_w 368, 3) := by decide +kernel
theorem dX10_rests_96 : decode cX10_rests 96 = .ok (.invokespecial 362, 3) := by decide +kernel
theorem dX10_rests_99 : decode cX10_rests 99 = .ok (.athrow, 1) := by decide +kernel
theorem dX10_rests_100 : decode cX10_rests 100 = .ok (.iload 5, 2) := by decide +kernel
theorem dX10_rests_102 : decode cX10_rests 102 = .ok (.ireturn, 1) := by decide +kernel
theorem dX10_isAtRest_0 : decode cX10_isAtRest 0 = .ok (.iload_n 3, 1) := by decide +kernel
theorem dX10_isAtRest_1 : decode cX10_isAtRest 1 = .ok (.iconst 1, 1) := by decide +kernel
theorem dX10_isAtRest_2 : decode cX10_isAtRest 2 = .ok (.ishr, 1) := by decide +kernel
theorem dX10_isAtRest_3 : decode cX10_isAtRest 3 = .ok (.iconst 1, 1) := by decide +kernel
theorem dX10_isAtRest_4 : decode cX10_isAtRest 4 = .ok (.if_icmp .ne 7, 3) := by decide +kernel
theorem dX10_isAtRest_7 : decode cX10_isAtRest 7 = .ok (.iconst 1, 1) := by decide +kernel
theorem dX10_isAtRest_8 : decode cX10_isAtRest 8 = .ok (.goto 4, 3) := by decide +kernel
theorem dX10_isAtRest_11 : decode cX10_isAtRest 11 = .ok (.iconst 0, 1) := by decide +kernel
theorem dX10_isAtRest_12 : decode cX10_isAtRest 12 = .ok (.istore 4, 2) := by decide +kernel
theorem dX10_isAtRest_14 : decode cX10_isAtRest 14 = .ok (.iload_n 3, 1) := by decide +kernel
theorem dX10_isAtRest_15 : decode cX10_isAtRest 15 = .ok (.iconst 1, 1) := by decide +kernel
theorem dX10_isAtRest_16 : decode cX10_isAtRest 16 = .ok (.iand, 1) := by decide +kernel
theorem dX10_isAtRest_17 : decode cX10_isAtRest 17 = .ok (.iconst 1, 1) := by decide +kernel
theorem dX10_isAtRest_18 : decode cX10_isAtRest 18 = .ok (.if_icmp .ne 7, 3) := by decide +kernel
theorem dX10_isAtRest_21 : decode cX10_isAtRest 21 = .ok (.iconst 1, 1) := by decide +kernel
theorem dX10_isAtRest_22 : decode cX10_isAtRest 22 = .ok (.goto 4, 3) := by decide +kernel
theorem dX10_isAtRest_25 : decode cX10_isAtRest 25 = .ok (.iconst 0, 1) := by decide +kernel
theorem dX10_isAtRest_26 : decode cX10_isAtRest 26 = .ok (.istore 5, 2) := by decide +kernel
theorem dX10_isAtRest_28 : decode cX10_isAtRest 28 = .ok (.iload_n 0, 1) := by decide +kernel
theorem dX10_isAtRest_29 : decode cX10_isAtRest 29 = .ok (.iload_n 1, 1) := by decide +kernel
theorem dX10_isAtRest_30 : decode cX10_isAtRest 30 = .ok (.iload_n 2, 1) := by decide +kernel
theorem dX10_isAtRest_31 : decode cX10_isAtRest 31 = .ok (.iload 4, 2) := by decide +kernel
theorem dX10_isAtRest_33 : decode cX10_isAtRest 33 = .ok (.iload 5, 2) := by decide +kernel
theorem dX10_isAtRest_35 : decode cX10_isAtRest 35 = .ok (.invokestatic 370, 3) := by decide +kernel
theorem dX10_isAtRest_38 : decode cX10_isAtRest 38 = .ok (.ifCond .eq 20, 3) := by decide +kernel
theorem dX10_isAtRest_41 : decode cX10_isAtRest 41 = .ok (.iload_n 0, 1) := by decide +kernel
theorem dX10_isAtRest_42 : decode cX10_isAtRest 42 = .ok (.iload_n 1, 1) := by decide +kernel
theorem dX10_isAtRest_43 : decode cX10_isAtRest 43 = .ok (.iload_n 2, 1) := by decide +kernel
theorem dX10_isAtRest_44 : decode cX10_isAtRest 44 = .ok (.iload 5, 2) := by decide +kernel
theorem dX10_isAtRest_46 : decode cX10_isAtRest 46 = .ok (.iload 4, 2) := by decide +kernel
theorem dX10_isAtRest_48 : decode cX10_isAtRest 48 = .ok (.invokestatic 370, 3) := by decide +kernel
theorem dX10_isAtRest_51 : decode cX10_isAtRest 51 = .ok (.ifCond .eq 7, 3) := by decide +kernel
theorem dX10_isAtRest_54 : decode cX10_isAtRest 54 = .ok (.iconst 1, 1) := by decide +kernel
theorem dX10_isAtRest_55 : decode cX10_isAtRest 55 = .ok (.goto 4, 3) := by decide +kernel
theorem dX10_isAtRest_58 : decode cX10_isAtRest 58 = .ok (.iconst 0, 1) := by decide +kernel
theorem dX10_isAtRest_59 : decode cX10_isAtRest 59 = .ok (.ireturn, 1) := by decide +kernel
theorem dX10_keeps_0 : decode cX10_keeps 0 = .ok (.iload 4, 2) := by decide +kernel
theorem dX10_keeps_2 : decode cX10_keeps 2 = .ok (.ifCond .eq 8, 3) := by decide +kernel
theorem dX10_keeps_5 : decode cX10_keeps 5 = .ok (.iload_n 0, 1) := by decide +kernel
theorem dX10_keeps_6 : decode cX10_keeps 6 = .ok (.ineg, 1) := by decide +kernel
theorem dX10_keeps_7 : decode cX10_keeps 7 = .ok (.goto 4, 3) := by decide +kernel
theorem dX10_keeps_10 : decode cX10_keeps 10 = .ok (.iload_n 1, 1) := by decide +kernel
theorem dX10_keeps_11 : decode cX10_keeps 11 = .ok (.istore 5, 2) := by decide +kernel
theorem dX10_keeps_13 : decode cX10_keeps 13 = .ok (.iload 4, 2) := by decide +kernel
theorem dX10_keeps_15 : decode cX10_keeps 15 = .ok (.ifCond .eq 7, 3) := by decide +kernel
theorem dX10_keeps_18 : decode cX10_keeps 18 = .ok (.iload_n 2, 1) := by decide +kernel
theorem dX10_keeps_19 : decode cX10_keeps 19 = .ok (.goto 4, 3) := by decide +kernel
theorem dX10_keeps_22 : decode cX10_keeps 22 = .ok (.iconst 0, 1) := by decide +kernel
theorem dX10_keeps_23 : decode cX10_keeps 23 = .ok (.istore 6, 2) := by decide +kernel
theorem dX10_keeps_25 : decode cX10_keeps 25 = .ok (.iload_n 3, 1) := by decide +kernel
theorem dX10_keeps_26 : decode cX10_keeps 26 = .ok (.ifCond .eq 18, 3) := by decide +kernel
theorem dX10_keeps_29 : decode cX10_keeps 29 = .ok (.iload 5, 2) := by decide +kernel
theorem dX10_keeps_31 : decode cX10_keeps 31 = .ok (.iload 6, 2) := by decide +kernel
theorem dX10_keeps_33 : decode cX10_keeps 33 = .ok (.if_icmp .lt 7, 3) := by decide +kernel
theorem dX10_keeps_36 : decode cX10_keeps 36 = .ok (.iconst 1, 1) := by decide +kernel
theorem dX10_keeps_37 : decode cX10_keeps 37 = .ok (.goto 19, 3) := by decide +kernel
theorem dX10_keeps_40 : decode cX10_keeps 40 = .ok (.iconst 0, 1) := by decide +kernel
theorem dX10_keeps_41 : decode cX10_keeps 41 = .ok (.goto 15, 3) := by decide +kernel
theorem dX10_keeps_44 : decode cX10_keeps 44 = .ok (.iload 6, 2) := by decide +kernel
theorem dX10_keeps_46 : decode cX10_keeps 46 = .ok (.iload 5, 2) := by decide +kernel
theorem dX10_keeps_48 : decode cX10_keeps 48 = .ok (.if_icmp .lt 7, 3) := by decide +kernel
theorem dX10_keeps_51 : decode cX10_keeps 51 = .ok (.iconst 1, 1) := by decide +kernel
theorem dX10_keeps_52 : decode cX10_keeps 52 = .ok (.goto 4, 3) := by decide +kernel
theorem dX10_keeps_55 : decode cX10_keeps 55 = .ok (.iconst 0, 1) := by decide +kernel
theorem dX10_keeps_56 : decode cX10_keeps 56 = .ok (.ireturn, 1) := by decide +kernel
theorem dX10_weeks_0 : decode cX10_weeks 0 = .ok (.iload_n 1, 1) := by decide +kernel
theorem dX10_weeks_1 : decode cX10_weeks 1 = .ok (.iconst 0, 1) := by decide +kernel
theorem dX10_weeks_2 : decode cX10_weeks 2 = .ok (.sipush 9999, 3) := by decide +kernel
theorem dX10_weeks_5 : decode cX10_weeks 5 = .ok (.invokestatic 199, 3) := by decide +kernel
theorem dX10_weeks_8 : decode cX10_weeks 8 = .ok (.ifCond .eq 22, 3) := by decide +kernel
theorem dX10_weeks_11 : decode cX10_weeks 11 = .ok (.iload_n 2, 1) := by decide +kernel
theorem dX10_weeks_12 : decode cX10_weeks 12 = .ok (.iconst 1, 1) := by decide +kernel
theorem dX10_weeks_13 : decode cX10_weeks 13 = .ok (.bipush 99, 2) := by decide +kernel
theorem dX10_weeks_15 : decode cX10_weeks 15 = .ok (.invokestatic 199, 3) := by decide +kernel
theorem dX10_weeks_18 : decode cX10_weeks 18 = .ok (.ifCond .eq 12, 3) := by decide +kernel
theorem dX10_weeks_21 : decode cX10_weeks 21 = .ok (.iload_n 3, 1) := by decide +kernel
theorem dX10_weeks_22 : decode cX10_weeks 22 = .ok (.iconst 0, 1) := by decide +kernel
theorem dX10_weeks_23 : decode cX10_weeks 23 = .ok (.iconst 2, 1) := by decide +kernel
theorem dX10_weeks_24 : decode cX10_weeks 24 = .ok (.invokestatic 199, 3) := by decide +kernel
theorem dX10_weeks_27 : decode cX10_weeks 27 = .ok (.ifCond .ne 5, 3) := by decide +kernel
theorem dX10_weeks_30 : decode cX10_weeks 30 = .ok (.iconst (-1), 1) := by decide +kernel
theorem dX10_weeks_31 : decode cX10_weeks 31 = .ok (.ireturn, 1) := by decide +kernel
theorem dX10_weeks_32 : decode cX10_weeks 32 = .ok (.iconst 0, 1) := by decide +kernel
theorem dX10_weeks_33 : decode cX10_weeks 33 = .ok (.istore 4, 2) := by decide +kernel
theorem dX10_weeks_35 : decode cX10_weeks 35 = .ok (.aload_n 0, 1) := by decide +kernel
theorem dX10_weeks_36 : decode cX10_weeks 36 = .ok (.iload_n 1, 1) := by decide +kernel
theorem dX10_weeks_37 : decode cX10_weeks 37 = .ok (.i2l, 1) := by decide +kernel
theorem dX10_weeks_38 : decode cX10_weeks 38 = .ok (.putfield 374, 3) := by decide +kernel
theorem dX10_weeks_41 : decode cX10_weeks 41 = .ok (.aload_n 0, 1) := by decide +kernel
theorem dX10_weeks_42 : decode cX10_weeks 42 = .ok (.invokevirtual 249, 3) := by decide +kernel
theorem dX10_weeks_45 : decode cX10_weeks 45 = .ok (.iconst 0, 1) := by decide +kernel
theorem dX10_weeks_46 : decode cX10_weeks 46 = .ok (.istore 5, 2) := by decide +kernel
theorem dX10_weeks_48 : decode cX10_weeks 48 = .ok (.iload 5, 2) := by decide +kernel
theorem dX10_weeks_50 : decode cX10_weeks 50 = .ok (.iload_n 2, 1) := by decide +kernel
theorem dX10_weeks_51 : decode cX10_weeks 51 = .ok (.if_icmp .ge 35, 3) := by decide +kernel
theorem dX10_weeks_54 : decode cX10_weeks 54 = .ok (.aload_n 0, 1) := by decide +kernel
theorem dX10_weeks_55 : decode cX10_weeks 55 = .ok (.getfield 19, 3) := by decide +kernel
theorem dX10_weeks_58 : decode cX10_weeks 58 = .ok (.getfield 74, 3) := by decide +kernel
theorem dX10_weeks_61 : decode cX10_weeks 61 = .ok (.ifCond .le 7, 3) := by decide +kernel
theorem dX10_weeks_64 : decode cX10_weeks 64 = .ok (.aload_n 0, 1) := by decide +kernel
theorem dX10_weeks_65 : decode cX10_weeks 65 = .ok (.invokevirtual 378, 3) := by decide +kernel
theorem dX10_weeks_68 : decode cX10_weeks 68 = .ok (.iload 4, 2) := by decide +kernel
theorem dX10_weeks_70 : decode cX10_weeks 70 = .ok (.aload_n 0, 1) := by decide +kernel
theorem dX10_weeks_71 : decode cX10_weeks 71 = .ok (.invokevirtual 252, 3) := by decide +kernel
theorem dX10_weeks_74 : decode cX10_weeks 74 = .ok (.invokestatic 298, 3) := by decide +kernel
theorem dX10_weeks_77 : decode cX10_weeks 77 = .ok (.iadd, 1) := by decide +kernel
theorem dX10_weeks_78 : decode cX10_weeks 78 = .ok (.istore 4, 2) := by decide +kernel
theorem dX10_weeks_80 : decode cX10_weeks 80 = .ok (.iinc 5 1, 3) := by decide +kernel
theorem dX10_weeks_83 : decode cX10_weeks 83 = .ok (.goto (-35), 3) := by decide +kernel
theorem dX10_weeks_86 : decode cX10_weeks 86 = .ok (.iload_n 3, 1) := by decide +kernel
theorem dX10_weeks_87 : decode cX10_weeks 87 = .ok (.ifCond .ne 6, 3) := by decide +kernel
theorem dX10_weeks_90 : decode cX10_weeks 90 = .ok (.iload 4, 2) := by decide +kernel
theorem dX10_weeks_92 : decode cX10_weeks 92 = .ok (.ireturn, 1) := by decide +kernel
theorem dX10_weeks_93 : decode cX10_weeks 93 = .ok (.iload_n 3, 1) := by decide +kernel
theorem dX10_weeks_94 : decode cX10_weeks 94 = .ok (.iconst 1, 1) := by decide +kernel
theorem dX10_weeks_95 : decode cX10_weeks 95 = .ok (.if_icmp .ne 13, 3) := by decide +kernel
theorem dX10_weeks_98 : decode cX10_weeks 98 = .ok (.aload_n 0, 1) := by decide +kernel
theorem dX10_weeks_99 : decode cX10_weeks 99 = .ok (.getfield 43, 3) := by decide +kernel
theorem dX10_weeks_102 : decode cX10_weeks 102 = .ok (.invokevirtual 178, 3) := by decide +kernel
theorem dX10_weeks_105 : decode cX10_weeks 105 = .ok (.goto 10, 3) := by decide +kernel
theorem dX10_weeks_108 : decode cX10_weeks 108 = .ok (.aload_n 0, 1) := by decide +kernel
theorem dX10_weeks_109 : decode cX10_weeks 109 = .ok (.getfield 43, 3) := by decide +kernel
theorem dX10_weeks_112 : decode cX10_weeks 112 = .ok (.invokevirtual 270, 3) := by decide +kernel
theorem dX10_weeks_115 : decode cX10_weeks 115 = .ok (.ireturn, 1) := by decide +kernel
theorem dX10_meddle_0 : decode cX10_meddle 0 = .ok (.aload_n 0, 1) := by decide +kernel
theorem dX10_meddle_1 : decode cX10_meddle 1 = .ok (.aload_n 0, 1) := by decide +kernel
theorem dX10_meddle_2 : decode cX10_meddle 2 = .ok (.getfield 19, 3) := by decide +kernel
theorem dX10_meddle_5 : decode cX10_meddle 5 = .ok (.getfield 74, 3) := by decide +kernel
theorem dX10_meddle_8 : decode cX10_meddle 8 = .ok (.invokevirtual 381, 3) := by decide +kernel
theorem dX10_meddle_11 : decode cX10_meddle 11 = .ok (.istore_n 1, 1) := by decide +kernel
theorem dX10_meddle_12 : decode cX10_meddle 12 = .ok (.aload_n 0, 1) := by decide +kernel
theorem dX10_meddle_13 : decode cX10_meddle 13 = .ok (.iconst 5, 1) := by decide +kernel
theorem dX10_meddle_14 : decode cX10_meddle 14 = .ok (.invokevirtual 381, 3) := by decide +kernel
theorem dX10_meddle_17 : decode cX10_meddle 17 = .ok (.istore_n 2, 1) := by decide +kernel
theorem dX10_meddle_18 : decode cX10_meddle 18 = .ok (.iload_n 2, 1) := by decide +kernel
theorem dX10_meddle_19 : decode cX10_meddle 19 = .ok (.ifCond .ne 15, 3) := by decide +kernel
theorem dX10_meddle_22 : decode cX10_meddle 22 = .ok (.aload_n 0, 1) := by decide +kernel
theorem dX10_meddle_23 : decode cX10_meddle 23 = .ok (.getfield 43, 3) := by decide +kernel
theorem dX10_meddle_26 : decode cX10_meddle 26 = .ok (.iload_n 1, 1) := by decide +kernel
theorem dX10_meddle_27 : decode cX10_meddle 27 = .ok (.invokevirtual 207, 3) := by decide +kernel
theorem dX10_meddle_30 : decode cX10_meddle 30 = .ok (.pop, 1) := by decide +kernel
theorem dX10_meddle_31 : decode cX10_meddle 31 = .ok (.goto 59, 3) := by decide +kernel
theorem dX10_meddle_34 : decode cX10_meddle 34 = .ok (.iload_n 2, 1) := by decide +kernel
theorem dX10_meddle_35 : decode cX10_meddle 35 = .ok (.iconst 1, 1) := by decide +kernel
theorem dX10_meddle_36 : decode cX10_meddle 36 = .ok (.if_icmp .ne 20, 3) := by decide +kernel
theorem dX10_meddle_39 : decode cX10_meddle 39 = .ok (.aload_n 0, 1) := by decide +kernel
theorem dX10_meddle_40 : decode cX10_meddle 40 = .ok (.getfield 43, 3) := by decide +kernel
theorem dX10_meddle_43 : decode cX10_meddle 43 = .ok (.iload_n 1, 1) := by decide +kernel
theorem dX10_meddle_44 : decode cX10_meddle 44 = .ok (.aload_n 0, 1) := by decide +kernel
theorem dX10_meddle_45 : decode cX10_meddle 45 = .ok (.bipush 10, 2) := by decide +kernel
theorem dX10_meddle_47 : decode cX10_meddle 47 = .ok (.invokevirtual 381, 3) := by decide +kernel
theorem dX10_meddle_50 : decode cX10_meddle 50 = .ok (.invokevirtual 203, 3) := by decide +kernel
theorem dX10_meddle_53 : decode cX10_meddle 53 = .ok (.goto 37, 3) := by decide +kernel
theorem dX10_meddle_56 : decode cX10_meddle 56 = .ok (.iload_n 2, 1) := by decide +kernel
theorem dX10_meddle_57 : decode cX10_meddle 57 = .ok (.iconst 2, 1) := by decide +kernel
theorem dX10_meddle_58 : decode cX10_meddle 58 = .ok (.if_icmp .ne 32, 3) := by decide +kernel
theorem dX10_meddle_61 : decode cX10_meddle 61 = .ok (.aload_n 0, 1) := by decide +kernel
theorem dX10_meddle_62 : decode cX10_meddle 62 = .ok (.iconst 5, 1) := by decide +kernel
theorem dX10_meddle_63 : decode cX10_meddle 63 = .ok (.invokevirtual 381, 3) := by decide +kernel
theorem dX10_meddle_66 : decode cX10_meddle 66 = .ok (.iconst 1, 1) := by decide +kernel
theorem dX10_meddle_67 : decode cX10_meddle 67 = .ok (.iadd, 1) := by decide +kernel
theorem dX10_meddle_68 : decode cX10_meddle 68 = .ok (.istore_n 3, 1) := by decide +kernel
theorem dX10_meddle_69 : decode cX10_meddle 69 = .ok (.aload_n 0, 1) := by decide +kernel
theorem dX10_meddle_70 : decode cX10_meddle 70 = .ok (.getfield 43, 3) := by decide +kernel
theorem dX10_meddle_73 : decode cX10_meddle 73 = .ok (.iload_n 1, 1) := by decide +kernel
theorem dX10_meddle_74 : decode cX10_meddle 74 = .ok (.iload_n 3, 1) := by decide +kernel
theorem dX10_meddle_75 : decode cX10_meddle 75 = .ok (.invokevirtual 210, 3) := by decide +kernel
theorem dX10_meddle_78 : decode cX10_meddle 78 = .ok (.ifCond .eq 12, 3) := by decide +kernel
theorem dX10_meddle_81 : decode cX10_meddle 81 = .ok (.aload_n 0, 1) := by decide +kernel
theorem dX10_meddle_82 : decode cX10_meddle 82 = .ok (.getfield 43, 3) := by decide +kernel
theorem dX10_meddle_85 : decode cX10_meddle 85 = .ok (.iload_n 1, 1) := by decide +kernel
theorem dX10_meddle_86 : decode cX10_meddle 86 = .ok (.iload_n 3, 1) := by decide +kernel
theorem dX10_meddle_87 : decode cX10_meddle 87 = .ok (.invokevirtual 214, 3) := by decide +kernel
theorem dX10_meddle_90 : decode cX10_meddle 90 = .ok (.return_, 1) := by decide +kernel
theorem dX10_draw_0 : decode cX10_draw 0 = .ok (.aload_n 0, 1) := by decide +kernel
theorem dX10_draw_1 : decode cX10_draw 1 = .ok (.aload_n 0, 1) := by decide +kernel
theorem dX10_draw_2 : decode cX10_draw 2 = .ok (.getfield 374, 3) := by decide +kernel
theorem dX10_draw_5 : decode cX10_draw 5 = .ok (.ldc2_w 384, 3) := by decide +kernel
theorem dX10_draw_8 : decode cX10_draw 8 = .ok (.lmul, 1) := by decide +kernel
theorem dX10_draw_9 : decode cX10_draw 9 = .ok (.ldc2_w 386, 3) := by decide +kernel
theorem dX10_draw_12 : decode cX10_draw 12 = .ok (.ladd, 1) := by decide +kernel
theorem dX10_draw_13 : decode cX10_draw 13 = .ok (.ldc2_w 388, 3) := by decide +kernel
theorem dX10_draw_16 : decode cX10_draw 16 = .ok (.lrem, 1) := by decide +kernel
theorem dX10_draw_17 : decode cX10_draw 17 = .ok (.putfield 374, 3) := by decide +kernel
