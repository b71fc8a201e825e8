theorem dX11_readsLine_177 : decode cX11_readsLine 177 = .ok (.getfield 99, 3) := by decide +kernel
theorem dX11_readsLine_180 : decode cX11_readsLine 180 = .ok (.iload_n 2, 1) := by decide +kernel
theorem dX11_readsLine_181 : decode cX11_readsLine 181 = .ok (.aload_n 0, 1) := by decide +kernel
theorem dX11_readsLine_182 : decode cX11_readsLine 182 = .ok (.getfield 278, 3) := by decide +kernel
theorem dX11_readsLine_185 : decode cX11_readsLine 185 = .ok (.iastore, 1) := by decide +kernel
theorem dX11_readsLine_186 : decode cX11_readsLine 186 = .ok (.aload_n 0, 1) := by decide +kernel
theorem dX11_readsLine_187 : decode cX11_readsLine 187 = .ok (.getfield 90, 3) := by decide +kernel
theorem dX11_readsLine_190 : decode cX11_readsLine 190 = .ok (.iconst 5, 1) := by decide +kernel
theorem dX11_readsLine_191 : decode cX11_readsLine 191 = .ok (.dup2, 1) := by decide +kernel
theorem dX11_readsLine_192 : decode cX11_readsLine 192 = .ok (.iaload, 1) := by decide +kernel
theorem dX11_readsLine_193 : decode cX11_readsLine 193 = .ok (.iconst 1, 1) := by decide +kernel
theorem dX11_readsLine_194 : decode cX11_readsLine 194 = .ok (.iadd, 1) := by decide +kernel
theorem dX11_readsLine_195 : decode cX11_readsLine 195 = .ok (.iastore, 1) := by decide +kernel
theorem dX11_readsLine_196 : decode cX11_readsLine 196 = .ok (.aload_n 0, 1) := by decide +kernel
theorem dX11_readsLine_197 : decode cX11_readsLine 197 = .ok (.invokevirtual 305, 3) := by decide +kernel
theorem dX11_readsLine_200 : decode cX11_readsLine 200 = .ok (.ireturn, 1) := by decide +kernel
theorem dX11_laysLines_0 : decode cX11_laysLines 0 = .ok (.aload_n 0, 1) := by decide +kernel
theorem dX11_laysLines_1 : decode cX11_laysLines 1 = .ok (.getfield 90, 3) := by decide +kernel
theorem dX11_laysLines_4 : decode cX11_laysLines 4 = .ok (.iload_n 2, 1) := by decide +kernel
theorem dX11_laysLines_5 : decode cX11_laysLines 5 = .ok (.aload_n 0, 1) := by decide +kernel
theorem dX11_laysLines_6 : decode cX11_laysLines 6 = .ok (.getfield 90, 3) := by decide +kernel
theorem dX11_laysLines_9 : decode cX11_laysLines 9 = .ok (.iload_n 1, 1) := by decide +kernel
theorem dX11_laysLines_10 : decode cX11_laysLines 10 = .ok (.iaload, 1) := by decide +kernel
theorem dX11_laysLines_11 : decode cX11_laysLines 11 = .ok (.iastore, 1) := by decide +kernel
theorem dX11_laysLines_12 : decode cX11_laysLines 12 = .ok (.iconst 0, 1) := by decide +kernel
theorem dX11_laysLines_13 : decode cX11_laysLines 13 = .ok (.istore_n 3, 1) := by decide +kernel
theorem dX11_laysLines_14 : decode cX11_laysLines 14 = .ok (.iload_n 3, 1) := by decide +kernel
theorem dX11_laysLines_15 : decode cX11_laysLines 15 = .ok (.bipush 40, 2) := by decide +kernel
theorem dX11_laysLines_17 : decode cX11_laysLines 17 = .ok (.if_icmp .ge 75, 3) := by decide +kernel
theorem dX11_laysLines_20 : decode cX11_laysLines 20 = .ok (.aload_n 0, 1) := by decide +kernel
theorem dX11_laysLines_21 : decode cX11_laysLines 21 = .ok (.getfield 93, 3) := by decide +kernel
theorem dX11_laysLines_24 : decode cX11_laysLines 24 = .ok (.bipush 40, 2) := by decide +kernel
theorem dX11_laysLines_26 : decode cX11_laysLines 26 = .ok (.iload_n 2, 1) := by decide +kernel
theorem dX11_laysLines_27 : decode cX11_laysLines 27 = .ok (.imul, 1) := by decide +kernel
theorem dX11_laysLines_28 : decode cX11_laysLines 28 = .ok (.iload_n 3, 1) := by decide +kernel
theorem dX11_laysLines_29 : decode cX11_laysLines 29 = .ok (.iadd, 1) := by decide +kernel
theorem dX11_laysLines_30 : decode cX11_laysLines 30 = .ok (.aload_n 0, 1) := by decide +kernel
theorem dX11_laysLines_31 : decode cX11_laysLines 31 = .ok (.getfield 93, 3) := by decide +kernel
theorem dX11_laysLines_34 : decode cX11_laysLines 34 = .ok (.bipush 40, 2) := by decide +kernel
theorem dX11_laysLines_36 : decode cX11_laysLines 36 = .ok (.iload_n 1, 1) := by decide +kernel
theorem dX11_laysLines_37 : decode cX11_laysLines 37 = .ok (.imul, 1) := by decide +kernel
theorem dX11_laysLines_38 : decode cX11_laysLines 38 = .ok (.iload_n 3, 1) := by decide +kernel
theorem dX11_laysLines_39 : decode cX11_laysLines 39 = .ok (.iadd, 1) := by decide +kernel
theorem dX11_laysLines_40 : decode cX11_laysLines 40 = .ok (.iaload, 1) := by decide +kernel
theorem dX11_laysLines_41 : decode cX11_laysLines 41 = .ok (.iastore, 1) := by decide +kernel
theorem dX11_laysLines_42 : decode cX11_laysLines 42 = .ok (.aload_n 0, 1) := by decide +kernel
theorem dX11_laysLines_43 : decode cX11_laysLines 43 = .ok (.getfield 96, 3) := by decide +kernel
theorem dX11_laysLines_46 : decode cX11_laysLines 46 = .ok (.bipush 40, 2) := by decide +kernel
theorem dX11_laysLines_48 : decode cX11_laysLines 48 = .ok (.iload_n 2, 1) := by decide +kernel
theorem dX11_laysLines_49 : decode cX11_laysLines 49 = .ok (.imul, 1) := by decide +kernel
theorem dX11_laysLines_50 : decode cX11_laysLines 50 = .ok (.iload_n 3, 1) := by decide +kernel
theorem dX11_laysLines_51 : decode cX11_laysLines 51 = .ok (.iadd, 1) := by decide +kernel
theorem dX11_laysLines_52 : decode cX11_laysLines 52 = .ok (.aload_n 0, 1) := by decide +kernel
theorem dX11_laysLines_53 : decode cX11_laysLines 53 = .ok (.getfield 96, 3) := by decide +kernel
theorem dX11_laysLines_56 : decode cX11_laysLines 56 = .ok (.bipush 40, 2) := by decide +kernel
theorem dX11_laysLines_58 : decode cX11_laysLines 58 = .ok (.iload_n 1, 1) := by decide +kernel
theorem dX11_laysLines_59 : decode cX11_laysLines 59 = .ok (.imul, 1) := by decide +kernel
theorem dX11_laysLines_60 : decode cX11_laysLines 60 = .ok (.iload_n 3, 1) := by decide +kernel
theorem dX11_laysLines_61 : decode cX11_laysLines 61 = .ok (.iadd, 1) := by decide +kernel
theorem dX11_laysLines_62 : decode cX11_laysLines 62 = .ok (.iaload, 1) := by decide +kernel
theorem dX11_laysLines_63 : decode cX11_laysLines 63 = .ok (.iastore, 1) := by decide +kernel
theorem dX11_laysLines_64 : decode cX11_laysLines 64 = .ok (.aload_n 0, 1) := by decide +kernel
theorem dX11_laysLines_65 : decode cX11_laysLines 65 = .ok (.getfield 99, 3) := by decide +kernel
theorem dX11_laysLines_68 : decode cX11_laysLines 68 = .ok (.bipush 40, 2) := by decide +kernel
theorem dX11_laysLines_70 : decode cX11_laysLines 70 = .ok (.iload_n 2, 1) := by decide +kernel
theorem dX11_laysLines_71 : decode cX11_laysLines 71 = .ok (.imul, 1) := by decide +kernel
theorem dX11_laysLines_72 : decode cX11_laysLines 72 = .ok (.iload_n 3, 1) := by decide +kernel
theorem dX11_laysLines_73 : decode cX11_laysLines 73 = .ok (.iadd, 1) := by decide +kernel
theorem dX11_laysLines_74 : decode cX11_laysLines 74 = .ok (.aload_n 0, 1) := by decide +kernel
theorem dX11_laysLines_75 : decode cX11_laysLines 75 = .ok (.getfield 99, 3) := by decide +kernel
theorem dX11_laysLines_78 : decode cX11_laysLines 78 = .ok (.bipush 40, 2) := by decide +kernel
theorem dX11_laysLines_80 : decode cX11_laysLines 80 = .ok (.iload_n 1, 1) := by decide +kernel
theorem dX11_laysLines_81 : decode cX11_laysLines 81 = .ok (.imul, 1) := by decide +kernel
theorem dX11_laysLines_82 : decode cX11_laysLines 82 = .ok (.iload_n 3, 1) := by decide +kernel
theorem dX11_laysLines_83 : decode cX11_laysLines 83 = .ok (.iadd, 1) := by decide +kernel
theorem dX11_laysLines_84 : decode cX11_laysLines 84 = .ok (.iaload, 1) := by decide +kernel
theorem dX11_laysLines_85 : decode cX11_laysLines 85 = .ok (.iastore, 1) := by decide +kernel
theorem dX11_laysLines_86 : decode cX11_laysLines 86 = .ok (.iinc 3 1, 3) := by decide +kernel
theorem dX11_laysLines_89 : decode cX11_laysLines 89 = .ok (.goto (-75), 3) := by decide +kernel
theorem dX11_laysLines_92 : decode cX11_laysLines 92 = .ok (.return_, 1) := by decide +kernel
theorem dX11_laysSeen_0 : decode cX11_laysSeen 0 = .ok (.aload_n 0, 1) := by decide +kernel
theorem dX11_laysSeen_1 : decode cX11_laysSeen 1 = .ok (.getfield 102, 3) := by decide +kernel
theorem dX11_laysSeen_4 : decode cX11_laysSeen 4 = .ok (.iload_n 2, 1) := by decide +kernel
theorem dX11_laysSeen_5 : decode cX11_laysSeen 5 = .ok (.aload_n 0, 1) := by decide +kernel
theorem dX11_laysSeen_6 : decode cX11_laysSeen 6 = .ok (.getfield 102, 3) := by decide +kernel
theorem dX11_laysSeen_9 : decode cX11_laysSeen 9 = .ok (.iload_n 1, 1) := by decide +kernel
theorem dX11_laysSeen_10 : decode cX11_laysSeen 10 = .ok (.iaload, 1) := by decide +kernel
theorem dX11_laysSeen_11 : decode cX11_laysSeen 11 = .ok (.iastore, 1) := by decide +kernel
theorem dX11_laysSeen_12 : decode cX11_laysSeen 12 = .ok (.iconst 0, 1) := by decide +kernel
theorem dX11_laysSeen_13 : decode cX11_laysSeen 13 = .ok (.istore_n 3, 1) := by decide +kernel
theorem dX11_laysSeen_14 : decode cX11_laysSeen 14 = .ok (.iload_n 3, 1) := by decide +kernel
theorem dX11_laysSeen_15 : decode cX11_laysSeen 15 = .ok (.bipush 8, 2) := by decide +kernel
theorem dX11_laysSeen_17 : decode cX11_laysSeen 17 = .ok (.if_icmp .ge 75, 3) := by decide +kernel
theorem dX11_laysSeen_20 : decode cX11_laysSeen 20 = .ok (.aload_n 0, 1) := by decide +kernel
theorem dX11_laysSeen_21 : decode cX11_laysSeen 21 = .ok (.getfield 105, 3) := by decide +kernel
theorem dX11_laysSeen_24 : decode cX11_laysSeen 24 = .ok (.bipush 8, 2) := by decide +kernel
theorem dX11_laysSeen_26 : decode cX11_laysSeen 26 = .ok (.iload_n 2, 1) := by decide +kernel
theorem dX11_laysSeen_27 : decode cX11_laysSeen 27 = .ok (.imul, 1) := by decide +kernel
theorem dX11_laysSeen_28 : decode cX11_laysSeen 28 = .ok (.iload_n 3, 1) := by decide +kernel
theorem dX11_laysSeen_29 : decode cX11_laysSeen 29 = .ok (.iadd, 1) := by decide +kernel
theorem dX11_laysSeen_30 : decode cX11_laysSeen 30 = .ok (.aload_n 0, 1) := by decide +kernel
theorem dX11_laysSeen_31 : decode cX11_laysSeen 31 = .ok (.getfield 105, 3) := by decide +kernel
theorem dX11_laysSeen_34 : decode cX11_laysSeen 34 = .ok (.bipush 8, 2) := by decide +kernel
theorem dX11_laysSeen_36 : decode cX11_laysSeen 36 = .ok (.iload_n 1, 1) := by decide +kernel
theorem dX11_laysSeen_37 : decode cX11_laysSeen 37 = .ok (.imul, 1) := by decide +kernel
theorem dX11_laysSeen_38 : decode cX11_laysSeen 38 = .ok (.iload_n 3, 1) := by decide +kernel
theorem dX11_laysSeen_39 : decode cX11_laysSeen 39 = .ok (.iadd, 1) := by decide +kernel
theorem dX11_laysSeen_40 : decode cX11_laysSeen 40 = .ok (.iaload, 1) := by decide +kernel
theorem dX11_laysSeen_41 : decode cX11_laysSeen 41 = .ok (.iastore, 1) := by decide +kernel
theorem dX11_laysSeen_42 : decode cX11_laysSeen 42 = .ok (.aload_n 0, 1) := by decide +kernel
theorem dX11_laysSeen_43 : decode cX11_laysSeen 43 = .ok (.getfield 108, 3) := by decide +kernel
theorem dX11_laysSeen_46 : decode cX11_laysSeen 46 = .ok (.bipush 8, 2) := by decide +kernel
theorem dX11_laysSeen_48 : decode cX11_laysSeen 48 = .ok (.iload_n 2, 1) := by decide +kernel
theorem dX11_laysSeen_49 : decode cX11_laysSeen 49 = .ok (.imul, 1) := by decide +kernel
theorem dX11_laysSeen_50 : decode cX11_laysSeen 50 = .ok (.iload_n 3, 1) := by decide +kernel
theorem dX11_laysSeen_51 : decode cX11_laysSeen 51 = .ok (.iadd, 1) := by decide +kernel
theorem dX11_laysSeen_52 : decode cX11_laysSeen 52 = .ok (.aload_n 0, 1) := by decide +kernel
theorem dX11_laysSeen_53 : decode cX11_laysSeen 53 = .ok (.getfield 108, 3) := by decide +kernel
theorem dX11_laysSeen_56 : decode cX11_laysSeen 56 = .ok (.bipush 8, 2) := by decide +kernel
theorem dX11_laysSeen_58 : decode cX11_laysSeen 58 = .ok (.iload_n 1, 1) := by decide +kernel
theorem dX11_laysSeen_59 : decode cX11_laysSeen 59 = .ok (.imul, 1) := by decide +kernel
theorem dX11_laysSeen_60 : decode cX11_laysSeen 60 = .ok (.iload_n 3, 1) := by decide +kernel
theorem dX11_laysSeen_61 : decode cX11_laysSeen 61 = .ok (.iadd, 1) := by decide +kernel
theorem dX11_laysSeen_62 : decode cX11_laysSeen 62 = .ok (.iaload, 1) := by decide +kernel
theorem dX11_laysSeen_63 : decode cX11_laysSeen 63 = .ok (.iastore, 1) := by decide +kernel
theorem dX11_laysSeen_64 : decode cX11_laysSeen 64 = .ok (.aload_n 0, 1) := by decide +kernel
theorem dX11_laysSeen_65 : decode cX11_laysSeen 65 = .ok (.getfield 111, 3) := by decide +kernel
theorem dX11_laysSeen_68 : decode cX11_laysSeen 68 = .ok (.bipush 8, 2) := by decide +kernel
theorem dX11_laysSeen_70 : decode cX11_laysSeen 70 = .ok (.iload_n 2, 1) := by decide +kernel
theorem dX11_laysSeen_71 : decode cX11_laysSeen 71 = .ok (.imul, 1) := by decide +kernel
theorem dX11_laysSeen_72 : decode cX11_laysSeen 72 = .ok (.iload_n 3, 1) := by decide +kernel
theorem dX11_laysSeen_73 : decode cX11_laysSeen 73 = .ok (.iadd, 1) := by decide +kernel
theorem dX11_laysSeen_74 : decode cX11_laysSeen 74 = .ok (.aload_n 0, 1) := by decide +kernel
theorem dX11_laysSeen_75 : decode cX11_laysSeen 75 = .ok (.getfield 111, 3) := by decide +kernel
theorem dX11_laysSeen_78 : decode cX11_laysSeen 78 = .ok (.bipush 8, 2) := by decide +kernel
theorem dX11_laysSeen_80 : decode cX11_laysSeen 80 = .ok (.iload_n 1, 1) := by decide +kernel
theorem dX11_laysSeen_81 : decode cX11_laysSeen 81 = .ok (.imul, 1) := by decide +kernel
theorem dX11_laysSeen_82 : decode cX11_laysSeen 82 = .ok (.iload_n 3, 1) := by decide +kernel
theorem dX11_laysSeen_83 : decode cX11_laysSeen 83 = .ok (.iadd, 1) := by decide +kernel
theorem dX11_laysSeen_84 : decode cX11_laysSeen 84 = .ok (.baload, 1) := by decide +kernel
theorem dX11_laysSeen_85 : decode cX11_laysSeen 85 = .ok (.bastore, 1) := by decide +kernel
theorem dX11_laysSeen_86 : decode cX11_laysSeen 86 = .ok (.iinc 3 1, 3) := by decide +kernel
theorem dX11_laysSeen_89 : decode cX11_laysSeen 89 = .ok (.goto (-75), 3) := by decide +kernel
theorem dX11_laysSeen_92 : decode cX11_laysSeen 92 = .ok (.return_, 1) := by decide +kernel
theorem dX11_fresh0_0 : decode cX11_fresh0 0 = .ok (.iconst 0, 1) := by decide +kernel
theorem dX11_fresh0_1 : decode cX11_fresh0 1 = .ok (.istore_n 1, 1) := by decide +kernel
theorem dX11_fresh0_2 : decode cX11_fresh0 2 = .ok (.iload_n 1, 1) := by decide +kernel
theorem dX11_fresh0_3 : decode cX11_fresh0 3 = .ok (.bipush 26, 2) := by decide +kernel
theorem dX11_fresh0_5 : decode cX11_fresh0 5 = .ok (.if_icmp .ge 16, 3) := by decide +kernel
theorem dX11_fresh0_8 : decode cX11_fresh0 8 = .ok (.aload_n 0, 1) := by decide +kernel
theorem dX11_fresh0_9 : decode cX11_fresh0 9 = .ok (.getfield 114, 3) := by decide +kernel
theorem dX11_fresh0_12 : decode cX11_fresh0 12 = .ok (.iload_n 1, 1) := by decide +kernel
theorem dX11_fresh0_13 : decode cX11_fresh0 13 = .ok (.iconst 0, 1) := by decide +kernel
theorem dX11_fresh0_14 : decode cX11_fresh0 14 = .ok (.iastore, 1) := by decide +kernel
theorem dX11_fresh0_15 : decode cX11_fresh0 15 = .ok (.iinc 1 1, 3) := by decide +kernel
theorem dX11_fresh0_18 : decode cX11_fresh0 18 = .ok (.goto (-16), 3) := by decide +kernel
theorem dX11_fresh0_21 : decode cX11_fresh0 21 = .ok (.iconst 0, 1) := by decide +kernel
theorem dX11_fresh0_22 : decode cX11_fresh0 22 = .ok (.istore_n 1, 1) := by decide +kernel
theorem dX11_fresh0_23 : decode cX11_fresh0 23 = .ok (.iload_n 1, 1) := by decide +kernel
theorem dX11_fresh0_24 : decode cX11_fresh0 24 = .ok (.aload_n 0, 1) := by decide +kernel
theorem dX11_fresh0_25 : decode cX11_fresh0 25 = .ok (.getfield 13, 3) := by decide +kernel
theorem dX11_fresh0_28 : decode cX11_fresh0 28 = .ok (.iconst 0, 1) := by decide +kernel
theorem dX11_fresh0_29 : decode cX11_fresh0 29 = .ok (.iaload, 1) := by decide +kernel
theorem dX11_fresh0_30 : decode cX11_fresh0 30 = .ok (.if_icmp .ge 50, 3) := by decide +kernel
theorem dX11_fresh0_33 : decode cX11_fresh0 33 = .ok (.aload_n 0, 1) := by decide +kernel
theorem dX11_fresh0_34 : decode cX11_fresh0 34 = .ok (.getfield 114, 3) := by decide +kernel
theorem dX11_fresh0_37 : decode cX11_fresh0 37 = .ok (.iconst 2, 1) := by decide +kernel
theorem dX11_fresh0_38 : decode cX11_fresh0 38 = .ok (.iload_n 1, 1) := by decide +kernel
theorem dX11_fresh0_39 : decode cX11_fresh0 39 = .ok (.iadd, 1) := by decide +kernel
theorem dX11_fresh0_40 : decode cX11_fresh0 40 = .ok (.aload_n 0, 1) := by decide +kernel
theorem dX11_fresh0_41 : decode cX11_fresh0 41 = .ok (.getfield 26, 3) := by decide +kernel
theorem dX11_fresh0_44 : decode cX11_fresh0 44 = .ok (.iload_n 1, 1) := by decide +kernel
theorem dX11_fresh0_45 : decode cX11_fresh0 45 = .ok (.iaload, 1) := by decide +kernel
theorem dX11_fresh0_46 : decode cX11_fresh0 46 = .ok (.iastore, 1) := by decide +kernel
theorem dX11_fresh0_47 : decode cX11_fresh0 47 = .ok (.aload_n 0, 1) := by decide +kernel
theorem dX11_fresh0_48 : decode cX11_fresh0 48 = .ok (.getfield 114, 3) := by decide +kernel
theorem dX11_fresh0_51 : decode cX11_fresh0 51 = .ok (.bipush 8, 2) := by decide +kernel
theorem dX11_fresh0_53 : decode cX11_fresh0 53 = .ok (.iload_n 1, 1) := by decide +kernel
theorem dX11_fresh0_54 : decode cX11_fresh0 54 = .ok (.iadd, 1) := by decide +kernel
theorem dX11_fresh0_55 : decode cX11_fresh0 55 = .ok (.aload_n 0, 1) := by decide +kernel
theorem dX11_fresh0_56 : decode cX11_fresh0 56 = .ok (.getfield 29, 3) := by decide +kernel
theorem dX11_fresh0_59 : decode cX11_fresh0 59 = .ok (.iload_n 1, 1) := by decide +kernel
theorem dX11_fresh0_60 : decode cX11_fresh0 60 = .ok (.iaload, 1) := by decide +kernel
theorem dX11_fresh0_61 : decode cX11_fresh0 61 = .ok (.iastore, 1) := by decide +kernel
theorem dX11_fresh0_62 : decode cX11_fresh0 62 = .ok (.aload_n 0, 1) := by decide +kernel
theorem dX11_fresh0_63 : decode cX11_fresh0 63 = .ok (.getfield 114, 3) := by decide +kernel
theorem dX11_fresh0_66 : decode cX11_fresh0 66 = .ok (.bipush 20, 2) := by decide +kernel
theorem dX11_fresh0_68 : decode cX11_fresh0 68 = .ok (.iload_n 1, 1) := by decide +kernel
theorem dX11_fresh0_69 : decode cX11_fresh0 69 = .ok (.iadd, 1) := by decide +kernel
theorem dX11_fresh0_70 : decode cX11_fresh0 70 = .ok (.iconst 1, 1) := by decide +kernel
theorem dX11_fresh0_71 : decode cX11_fresh0 71 = .ok (.iload_n 1, 1) := by decide +kernel
theorem dX11_fresh0_72 : decode cX11_fresh0 72 = .ok (.ishl, 1) := by decide +kernel
theorem dX11_fresh0_73 : decode cX11_fresh0 73 = .ok (.iastore, 1) := by decide +kernel
theorem dX11_fresh0_74 : decode cX11_fresh0 74 = .ok (.iinc 1 1, 3) := by decide +kernel
theorem dX11_fresh0_77 : decode cX11_fresh0 77 = .ok (.goto (-54), 3) := by decide +kernel
theorem dX11_fresh0_80 : decode cX11_fresh0 80 = .ok (.return_, 1) := by decide +kernel
theorem dX11_yard_0 : decode cX11_yard 0 = .ok (.aload_n 0, 1) := by decide +kernel
theorem dX11_yard_1 : decode cX11_yard 1 = .ok (.iconst 0, 1) := by decide +kernel
theorem dX11_yard_2 : decode cX11_yard 2 = .ok (.putfield 153, 3) := by decide +kernel
theorem dX11_yard_5 : decode cX11_yard 5 = .ok (.aload_n 0, 1) := by decide +kernel
theorem dX11_yard_6 : decode cX11_yard 6 = .ok (.invokevirtual 347, 3) := by decide +kernel
theorem dX11_yard_9 : decode cX11_yard 9 = .ok (.ifCond .ne 8, 3) := by decide +kernel
theorem dX11_yard_12 : decode cX11_yard 12 = .ok (.aload_n 0, 1) := by decide +kernel
theorem dX11_yard_13 : decode cX11_yard 13 = .ok (.getfield 189, 3) := by decide +kernel
theorem dX11_yard_16 : decode cX11_yard 16 = .ok (.ireturn, 1) := by decide +kernel
theorem dX11_yard_17 : decode cX11_yard 17 = .ok (.aload_n 0, 1) := by decide +kernel
theorem dX11_yard_18 : decode cX11_yard 18 = .ok (.invokevirtual 350, 3) := by decide +kernel
theorem dX11_yard_21 : decode cX11_yard 21 = .ok (.aload_n 0, 1) := by decide +kernel
theorem dX11_yard_22 : decode cX11_yard 22 = .ok (.invokevirtual 150, 3) := by decide +kernel
theorem dX11_yard_25 : decode cX11_yard 25 = .ok (.aload_n 0, 1) := by decide +kernel
theorem dX11_yard_26 : decode cX11_yard 26 = .ok (.getfield 90, 3) := by decide +kernel
theorem dX11_yard_29 : decode cX11_yard 29 = .ok (.iconst 0, 1) := by decide +kernel
theorem dX11_yard_30 : decode cX11_yard 30 = .ok (.iconst 0, 1) := by decide +kernel
theorem dX11_yard_31 : decode cX11_yard 31 = .ok (.iastore, 1) := by decide +kernel
theorem dX11_yard_32 : decode cX11_yard 32 = .ok (.aload_n 0, 1) := by decide +kernel
theorem dX11_yard_33 : decode cX11_yard 33 = .ok (.getfield 102, 3) := by decide +kernel
theorem dX11_yard_36 : decode cX11_yard 36 = .ok (.iconst 0, 1) := by decide +kernel
theorem dX11_yard_37 : decode cX11_yard 37 = .ok (.iconst 0, 1) := by decide +kernel
theorem dX11_yard_38 : decode cX11_yard 38 = .ok (.iastore, 1) := by decide +kernel
theorem dX11_yard_39 : decode cX11_yard 39 = .ok (.aload_n 0, 1) := by decide +kernel
theorem dX11_yard_40 : decode cX11_yard 40 = .ok (.iconst 0, 1) := by decide +kernel
theorem dX11_yard_41 : decode cX11_yard 41 = .ok (.putfield 353, 3) := by decide +kernel
theorem dX11_yard_44 : decode cX11_yard 44 = .ok (.iconst 0, 1) := by decide +kernel
theorem dX11_yard_45 : decode cX11_yard 45 = .ok (.istore_n 1, 1) := by decide +kernel
theorem dX11_yard_46 : decode cX11_yard 46 = .ok (.iload_n 1, 1) := by decide +kernel
theorem dX11_yard_47 : decode cX11_yard 47 = .ok (.iconst 4, 1) := by decide +kernel
theorem dX11_yard_48 : decode cX11_yard 48 = .ok (.if_icmp .ge 16, 3) := by decide +kernel
theorem dX11_yard_51 : decode cX11_yard 51 = .ok (.aload_n 0, 1) := by decide +kernel
theorem dX11_yard_52 : decode cX11_yard 52 = .ok (.getfield 132, 3) := by decide +kernel
theorem dX11_yard_55 : decode cX11_yard 55 = .ok (.iload_n 1, 1) := by decide +kernel
theorem dX11_yard_56 : decode cX11_yard 56 = .ok (.iconst 0, 1) := by decide +kernel
theorem dX11_yard_57 : decode cX11_yard 57 = .ok (.bastore, 1) := by decide +kernel
theorem dX11_yard_58 : decode cX11_yard 58 = .ok (.iinc 1 1, 3) := by decide +kernel
theorem dX11_yard_61 : decode cX11_yard 61 = .ok (.goto (-15), 3) := by decide +kernel
theorem dX11_yard_64 : decode cX11_yard 64 = .ok (.iconst 0, 1) := by decide +kernel
theorem dX11_yard_65 : decode cX11_yard 65 = .ok (.ireturn, 1) := by decide +kernel
theorem dX11_week_0 : decode cX11_week 0 = .ok (.aload_n 0, 1) := by decide +kernel
theorem dX11_week_1 : decode cX11_week 1 = .ok (.iconst 0, 1) := by decide +kernel
theorem dX11_week_2 : decode cX11_week 2 = .ok (.putfield 153, 3) := by decide +kernel
theorem dX11_week_5 : decode cX11_week 5 = .ok (.aload_n 0, 1) := by decide +kernel
theorem dX11_week_6 : decode cX11_week 6 = .ok (.getfield 90, 3) := by decide +kernel
theorem dX11_week_9 : decode cX11_week 9 = .ok (.iconst 5, 1) := by decide +kernel
theorem dX11_week_10 : decode cX11_week 10 = .ok (.iconst 0, 1) := by decide +kernel
theorem dX11_week_11 : decode cX11_week 11 = .ok (.iastore, 1) := by decide +kernel
theorem dX11_week_12 : decode cX11_week 12 = .ok (.aload_n 0, 1) := by decide +kernel
theorem dX11_week_13 : decode cX11_week 13 = .ok (.invokevirtual 318, 3) := by decide +kernel
theorem dX11_week_16 : decode cX11_week 16 = .ok (.aload_n 0, 1) := by decide +kernel
theorem dX11_week_17 : decode cX11_week 17 = .ok (.getfield 178, 3) := by decide +kernel
theorem dX11_week_20 : decode cX11_week 20 = .ok (.ifCond .eq 15, 3) := by decide +kernel
theorem dX11_week_23 : decode cX11_week 23 = .ok (.aload_n 0, 1) := by decide +kernel
theorem dX11_week_24 : decode cX11_week 24 = .ok (.invokevirtual 356, 3) := by decide +kernel
theorem dX11_week_27 : decode cX11_week 27 = .ok (.ifCond .ne (-11), 3) := by decide +kernel
theorem dX11_week_30 : decode cX11_week 30 = .ok (.aload_n 0, 1) := by decide +kernel
theorem dX11_week_31 : decode cX11_week 31 = .ok (.getfield 189, 3) := by decide +kernel
theorem dX11_week_34 : decode cX11_week 34 = .ok (.ireturn, 1) := by decide +kernel
theorem dX11_week_35 : decode cX11_week 35 = .ok (.aload_n 0, 1) := by decide +kernel
theorem dX11_week_36 : decode cX11_week 36 = .ok (.iconst 5, 1) := by decide +kernel
theorem dX11_week_37 : decode cX11_week 37 = .ok (.iconst 0, 1) := by decide +kernel
theorem dX11_week_38 : decode cX11_week 38 = .ok (.invokevirtual 359, 3) := by decide +kernel
theorem dX11_week_41 : decode cX11_week 41 = .ok (.iconst 0, 1) := by decide +kernel
theorem dX11_week_42 : decode cX11_week 42 = .ok (.ireturn, 1) := by decide +kernel
theorem dX11_isShed_0 : decode cX11_isShed 0 = .ok (.iload_n 1, 1) := by decide +kernel
theorem dX11_isShed_1 : decode cX11_isShed 1 = .ok (.ifCond .lt 17, 3) := by decide +kernel
theorem dX11_isShed_4 : decode cX11_isShed 4 = .ok (.iload_n 1, 1) := by decide +kernel
theorem dX11_isShed_5 : decode cX11_isShed 5 = .ok (.aload_n 0, 1) := by decide +kernel
theorem dX11_isShed_6 : decode cX11_isShed 6 = .ok (.getfield 13, 3) := by decide +kernel
theorem dX11_isShed_9 : decode cX11_isShed 9 = .ok (.iconst 0, 1) := by decide +kernel
theorem dX11_isShed_10 : decode cX11_isShed 10 = .ok (.iaload, 1) := by decide +kernel
theorem dX11_isShed_11 : decode cX11_isShed 11 = .ok (.if_icmp .ge 7, 3) := by decide +kernel
theorem dX11_isShed_14 : decode cX11_isShed 14 = .ok (.iconst 1, 1) := by decide +kernel
theorem dX11_isShed_15 : decode cX11_isShed 15 = .ok (.goto 4, 3) := by decide +kernel
theorem dX11_isShed_18 : decode cX11_isShed 18 = .ok (.iconst 0, 1) := by decide +kernel
theorem dX11_isShed_19 : decode cX11_isShed 19 = .ok (.ireturn, 1) := by decide +kernel
theorem dX11_isStage_0 : decode cX11_isStage 0 = .ok (.iload_n 1, 1) := by decide +kernel
theorem dX11_isStage_1 : decode cX11_isStage 1 = .ok (.ifCond .lt 17, 3) := by decide +kernel
theorem dX11_isStage_4 : decode cX11_isStage 4 = .ok (.iload_n 1, 1) := by decide +kernel
theorem dX11_isStage_5 : decode cX11_isStage 5 = .ok (.aload_n 0, 1) := by decide +kernel
theorem dX11_isStage_6 : decode cX11_isStage 6 = .ok (.getfield 13, 3) := by decide +kernel
theorem dX11_isStage_9 : decode cX11_isStage 9 = .ok (.iconst 1, 1) := by decide +kernel
theorem dX11_isStage_10 : decode cX11_isStage 10 = .ok (.iaload, 1) := by decide +kernel
theorem dX11_isStage_11 : decode cX11_isStage 11 = .ok (.if_icmp .ge 7, 3) := by decide +kernel
theorem dX11_isStage_14 : decode cX11_isStage 14 = .ok (.iconst 1, 1) := by decide +kernel
theorem dX11_isStage_15 : decode cX11_isStage 15 = .ok (.goto 4, 3) := by decide +kernel
theorem dX11_isStage_18 : decode cX11_isStage 18 = .ok (.iconst 0, 1) := by decide +kernel
theorem dX11_isStage_19 : decode cX11_isStage 19 = .ok (.ireturn, 1) := by decide +kernel
theorem dX11_frostOf_0 : decode cX11_frostOf 0 = .ok (.aload_n 0, 1) := by decide +kernel
theorem dX11_frostOf_1 : decode cX11_frostOf 1 = .ok (.getfield 13, 3) := by decide +kernel
theorem dX11_frostOf_4 : decode cX11_frostOf 4 = .ok (.iconst 2, 1) := by decide +kernel
theorem dX11_frostOf_5 : decode cX11_frostOf 5 = .ok (.iaload, 1) := by decide +kernel
theorem dX11_frostOf_6 : decode cX11_frostOf 6 = .ok (.ifCond .ne 7, 3) := by decide +kernel
theorem dX11_frostOf_9 : decode cX11_frostOf 9 = .ok (.iconst 0, 1) := by decide +kernel
theorem dX11_frostOf_10 : decode cX11_frostOf 10 = .ok (.goto 16, 3) := by decide +kernel
theorem dX11_frostOf_13 : decode cX11_frostOf 13 = .ok (.aload_n 0, 1) := by decide +kernel
theorem dX11_frostOf_14 : decode cX11_frostOf 14 = .ok (.getfield 41, 3) := by decide +kernel
theorem dX11_frostOf_17 : decode cX11_frostOf 17 = .ok (.iload_n 1, 1) := by decide +kernel
theorem dX11_frostOf_18 : decode cX11_frostOf 18 = .ok (.aload_n 0, 1) := by decide +kernel
theorem dX11_frostOf_19 : decode cX11_frostOf 19 = .ok (.getfield 13, 3) := by decide +kernel
theorem dX11_frostOf_22 : decode cX11_frostOf 22 = .ok (.iconst 2, 1) := by decide +kernel
theorem dX11_frostOf_23 : decode cX11_frostOf 23 = .ok (.iaload, 1) := by decide +kernel
theorem dX11_frostOf_24 : decode cX11_frostOf 24 = .ok (.irem, 1) := by decide +kernel
theorem dX11_frostOf_25 : decode cX11_frostOf 25 = .ok (.iaload, 1) := by decide +kernel
theorem dX11_frostOf_26 : decode cX11_frostOf 26 = .ok (.ireturn, 1) := by decide +kernel
theorem dX11_isLit_0 : decode cX11_isLit 0 = .ok (.aload_n 0, 1) := by decide +kernel
theorem dX11_isLit_1 : decode cX11_isLit 1 = .ok (.getfield 114, 3) := by decide +kernel
theorem dX11_isLit_4 : decode cX11_isLit 4 = .ok (.iconst 1, 1) := by decide +kernel
theorem dX11_isLit_5 : decode cX11_isLit 5 = .ok (.iaload, 1) := by decide +kernel
theorem dX11_isLit_6 : decode cX11_isLit 6 = .ok (.iload_n 1, 1) := by decide +kernel
theorem dX11_isLit_7 : decode cX11_isLit 7 = .ok (.ishr, 1) := by decide +kernel
theorem dX11_isLit_8 : decode cX11_isLit 8 = .ok (.iconst 1, 1) := by decide +kernel
theorem dX11_isLit_9 : decode cX11_isLit 9 = .ok (.iand, 1) := by decide +kernel
theorem dX11_isLit_10 : decode cX11_isLit 10 = .ok (.iconst 1, 1) := by decide +kernel
theorem dX11_isLit_11 : decode cX11_isLit 11 = .ok (.if_icmp .ne 7, 3) := by decide +kernel
theorem dX11_isLit_14 : decode cX11_isLit 14 = .ok (.iconst 1, 1) := by decide +kernel
theorem dX11_isLit_15 : decode cX11_isLit 15 = .ok (.goto 4, 3) := by decide +kernel
theorem dX11_isLit_18 : decode cX11_isLit 18 = .ok (.iconst 0, 1) := by decide +kernel
theorem dX11_isLit_19 : decode cX11_isLit 19 = .ok (.ireturn, 1) := by decide +kernel
theorem dX11_moreNear_0 : decode cX11_moreNear 0 = .ok (.iconst 0, 1) := by decide +kernel
theorem dX11_moreNear_1 : decode cX11_moreNear 1 = .ok (.istore_n 2, 1) := by decide +kernel
theorem dX11_moreNear_2 : decode cX11_moreNear 2 = .ok (.iconst 0, 1) := by decide +kernel
theorem dX11_moreNear_3 : decode cX11_moreNear 3 = .ok (.istore_n 3, 1) := by decide +kernel
theorem dX11_moreNear_4 : decode cX11_moreNear 4 = .ok (.iload_n 3, 1) := by decide +kernel
theorem dX11_moreNear_5 : decode cX11_moreNear 5 = .ok (.aload_n 0, 1) := by decide +kernel
theorem dX11_moreNear_6 : decode cX11_moreNear 6 = .ok (.getfield 13, 3) := by decide +kernel
theorem dX11_moreNear_9 : decode cX11_moreNear 9 = .ok (.iconst 0, 1) := by decide +kernel
theorem dX11_moreNear_10 : decode cX11_moreNear 10 = .ok (.iaload, 1) := by decide +kernel
theorem dX11_moreNear_11 : decode cX11_moreNear 11 = .ok (.if_icmp .ge 52, 3) := by decide +kernel
theorem dX11_moreNear_14 : decode cX11_moreNear 14 = .ok (.iload_n 2, 1) := by decide +kernel
theorem dX11_moreNear_15 : decode cX11_moreNear 15 = .ok (.aload_n 0, 1) := by decide +kernel
theorem dX11_moreNear_16 : decode cX11_moreNear 16 = .ok (.getfield 32, 3) := by decide +kernel
theorem dX11_moreNear_19 : decode cX11_moreNear 19 = .ok (.iload_n 1, 1) := by decide +kernel
theorem dX11_moreNear_20 : decode cX11_moreNear 20 = .ok (.iaload, 1) := by decide +kernel
theorem dX11_moreNear_21 : decode cX11_moreNear 21 = .ok (.iload_n 3, 1) := by decide +kernel
theorem dX11_moreNear_22 : decode cX11_moreNear 22 = .ok (.ishr, 1) := by decide +kernel
theorem dX11_moreNear_23 : decode cX11_moreNear 23 = .ok (.iconst 1, 1) := by decide +kernel
theorem dX11_moreNear_24 : decode cX11_moreNear 24 = .ok (.iand, 1) := by decide +kernel
theorem dX11_moreNear_25 : decode cX11_moreNear 25 = .ok (.iconst 1, 1) := by decide +kernel
theorem dX11_moreNear_26 : decode cX11_moreNear 26 = .ok (.if_icmp .ne 28, 3) := by decide +kernel
theorem dX11_moreNear_29 : decode cX11_moreNear 29 = .ok (.aload_n 0, 1) := by decide +kernel
theorem dX11_moreNear_30 : decode cX11_moreNear 30 = .ok (.getfield 114, 3) := by decide +kernel
theorem dX11_moreNear_33 : decode cX11_moreNear 33 = .ok (.bipush 8, 2) := by decide +kernel
theorem dX11_moreNear_35 : decode cX11_moreNear 35 = .ok (.iload_n 3, 1) := by decide +kernel
theorem dX11_moreNear_36 : decode cX11_moreNear 36 = .ok (.iadd, 1) := by decide +kernel
theorem dX11_moreNear_37 : decode cX11_moreNear 37 = .ok (.iaload, 1) := by decide +kernel
theorem dX11_moreNear_38 : decode cX11_moreNear 38 = .ok (.aload_n 0, 1) := by decide +kernel
theorem dX11_moreNear_39 : decode cX11_moreNear 39 = .ok (.getfield 114, 3) := by decide +kernel
theorem dX11_moreNear_42 : decode cX11_moreNear 42 = .ok (.bipush 8, 2) := by decide +kernel
theorem dX11_moreNear_44 : decode cX11_moreNear 44 = .ok (.iload_n 1, 1) := by decide +kernel
theorem dX11_moreNear_45 : decode cX11_moreNear 45 = .ok (.iadd, 1) := by decide +kernel
theorem dX11_moreNear_46 : decode cX11_moreNear 46 = .ok (.iaload, 1) := by decide +kernel
theorem dX11_moreNear_47 : decode cX11_moreNear 47 = .ok (.if_icmp .le 7, 3) := by decide +kernel
theorem dX11_moreNear_50 : decode cX11_moreNear 50 = .ok (.iconst 1, 1) := by decide +kernel
theorem dX11_moreNear_51 : decode cX11_moreNear 51 = .ok (.goto 4, 3) := by decide +kernel
theorem dX11_moreNear_54 : decode cX11_moreNear 54 = .ok (.iconst 0, 1) := by decide +kernel
theorem dX11_moreNear_55 : decode cX11_moreNear 55 = .ok (.iadd, 1) := by decide +kernel
theorem dX11_moreNear_56 : decode cX11_moreNear 56 = .ok (.istore_n 2, 1) := by decide +kernel
theorem dX11_moreNear_57 : decode cX11_moreNear 57 = .ok (.iinc 3 1, 3) := by decide +kernel
theorem dX11_moreNear_60 : decode cX11_moreNear 60 = .ok (.goto (-56), 3) := by decide +kernel
theorem dX11_moreNear_63 : decode cX11_moreNear 63 = .ok (.iload_n 2, 1) := by decide +kernel
theorem dX11_moreNear_64 : decode cX11_moreNear 64 = .ok (.ireturn, 1) := by decide +kernel
theorem dX11_growth_0 : decode cX11_growth 0 = .ok (.aload_n 0, 1) := by decide +kernel
theorem dX11_growth_1 : decode cX11_growth 1 = .ok (.iload_n 1, 1) := by decide +kernel
theorem dX11_growth_2 : decode cX11_growth 2 = .ok (.invokevirtual 363, 3) := by decide +kernel
theorem dX11_growth_5 : decode cX11_growth 5 = .ok (.ifCond .ne 15, 3) := by decide +kernel
theorem dX11_growth_8 : decode cX11_growth 8 = .ok (.aload_n 0, 1) := by decide +kernel
theorem dX11_growth_9 : decode cX11_growth 9 = .ok (.getfield 114, 3) := by decide +kernel
theorem dX11_growth_12 : decode cX11_growth 12 = .ok (.bipush 8, 2) := by decide +kernel
theorem dX11_growth_14 : decode cX11_growth 14 = .ok (.iload_n 1, 1) := by decide +kernel
theorem dX11_growth_15 : decode cX11_growth 15 = .ok (.iadd, 1) := by decide +kernel
theorem dX11_growth_16 : decode cX11_growth 16 = .ok (.iaload, 1) := by decide +kernel
theorem dX11_growth_17 : decode cX11_growth 17 = .ok (.ifCond .ne 5, 3) := by decide +kernel
theorem dX11_growth_20 : decode cX11_growth 20 = .ok (.iconst 0, 1) := by decide +kernel
theorem dX11_growth_21 : decode cX11_growth 21 = .ok (.ireturn, 1) := by decide +kernel
theorem dX11_growth_22 : decode cX11_growth 22 = .ok (.iconst 0, 1) := by decide +kernel
theorem dX11_growth_23 : decode cX11_growth 23 = .ok (.aload_n 0, 1) := by decide +kernel
theorem dX11_growth_24 : decode cX11_growth 24 = .ok (.getfield 114, 3) := by decide +kernel
theorem dX11_growth_27 : decode cX11_growth 27 = .ok (.iconst 2, 1) := by decide +kernel
theorem dX11_growth_28 : decode cX11_growth 28 = .ok (.iload_n 1, 1) := by decide +kernel
theorem dX11_growth_29 : decode cX11_growth 29 = .ok (.iadd, 1) := by decide +kernel
theorem dX11_growth_30 : decode cX11_growth 30 = .ok (.iaload, 1) := by decide +kernel
theorem dX11_growth_31 : decode cX11_growth 31 = .ok (.iload_n 2, 1) := by decide +kernel
theorem dX11_growth_32 : decode cX11_growth 32 = .ok (.isub, 1) := by decide +kernel
theorem dX11_growth_33 : decode cX11_growth 33 = .ok (.invokestatic 366, 3) := by decide +kernel
theorem dX11_growth_36 : decode cX11_growth 36 = .ok (.istore_n 3, 1) := by decide +kernel
theorem dX11_growth_37 : decode cX11_growth 37 = .ok (.aload_n 0, 1) := by decide +kernel
theorem dX11_growth_38 : decode cX11_growth 38 = .ok (.getfield 47, 3) := by decide +kernel
theorem dX11_growth_41 : decode cX11_growth 41 = .ok (.iconst 0, 1) := by decide +kernel
theorem dX11_growth_42 : decode cX11_growth 42 = .ok (.iaload, 1) := by decide +kernel
theorem dX11_growth_43 : decode cX11_growth 43 = .ok (.aload_n 0, 1) := by decide +kernel
theorem dX11_growth_44 : decode cX11_growth 44 = .ok (.getfield 44, 3) := by decide +kernel
theorem dX11_growth_47 : decode cX11_growth 47 = .ok (.iconst 0, 1) := by decide +kernel
theorem dX11_growth_48 : decode cX11_growth 48 = .ok (.iaload, 1) := by decide +kernel
theorem dX11_growth_49 : decode cX11_growth 49 = .ok (.if_icmp .le 58, 3) := by decide +kernel
theorem dX11_growth_52 : decode cX11_growth 52 = .ok (.aload_n 0, 1) := by decide +kernel
theorem dX11_growth_53 : decode cX11_growth 53 = .ok (.getfield 87, 3) := by decide +kernel
theorem dX11_growth_56 : decode cX11_growth 56 = .ok (.iconst 1, 1) := by decide +kernel
theorem dX11_growth_57 : decode cX11_growth 57 = .ok (.iload_n 3, 1) := by decide +kernel
theorem dX11_growth_58 : decode cX11_growth 58 = .ok (.iastore, 1) := by decide +kernel
theorem dX11_growth_59 : decode cX11_growth 59 = .ok (.aload_n 0, 1) := by decide +kernel
theorem dX11_growth_60 : decode cX11_growth 60 = .ok (.getfield 87, 3) := by decide +kernel
theorem dX11_growth_63 : decode cX11_growth 63 = .ok (.iconst 2, 1) := by decide +kernel
theorem dX11_growth_64 : decode cX11_growth 64 = .ok (.aload_n 0, 1) := by decide +kernel
theorem dX11_growth_65 : decode cX11_growth 65 = .ok (.getfield 114, 3) := by decide +kernel
theorem dX11_growth_68 : decode cX11_growth 68 = .ok (.bipush 14, 2) := by decide +kernel
theorem dX11_growth_70 : decode cX11_growth 70 = .ok (.iload_n 1, 1) := by decide +kernel
theorem dX11_growth_71 : decode cX11_growth 71 = .ok (.iadd, 1) := by decide +kernel
theorem dX11_growth_72 : decode cX11_growth 72 = .ok (.iaload, 1) := by decide +kernel
theorem dX11_growth_73 : decode cX11_growth 73 = .ok (.iastore, 1) := by decide +kernel
theorem dX11_growth_74 : decode cX11_growth 74 = .ok (.aload_n 0, 1) := by decide +kernel
theorem dX11_growth_75 : decode cX11_growth 75 = .ok (.getfield 87, 3) := by decide +kernel
theorem dX11_growth_78 : decode cX11_growth 78 = .ok (.iconst 3, 1) := by decide +kernel
theorem dX11_growth_79 : decode cX11_growth 79 = .ok (.aload_n 0, 1) := by decide +kernel
theorem dX11_growth_80 : decode cX11_growth 80 = .ok (.getfield 114, 3) := by decide +kernel
theorem dX11_growth_83 : decode cX11_growth 83 = .ok (.bipush 8, 2) := by decide +kernel
theorem dX11_growth_85 : decode cX11_growth 85 = .ok (.iload_n 1, 1) := by decide +kernel
theorem dX11_growth_86 : decode cX11_growth 86 = .ok (.iadd, 1) := by decide +kernel
theorem dX11_growth_87 : decode cX11_growth 87 = .ok (.iaload, 1) := by decide +kernel
theorem dX11_growth_88 : decode cX11_growth 88 = .ok (.iastore, 1) := by decide +kernel
theorem dX11_growth_89 : decode cX11_growth 89 = .ok (.aload_n 0, 1) := by decide +kernel
theorem dX11_growth_90 : decode cX11_growth 90 = .ok (.getfield 87, 3) := by decide +kernel
theorem dX11_growth_93 : decode cX11_growth 93 = .ok (.iconst 4, 1) := by decide +kernel
theorem dX11_growth_94 : decode cX11_growth 94 = .ok (.aload_n 0, 1) := by decide +kernel
theorem dX11_growth_95 : decode cX11_growth 95 = .ok (.getfield 114, 3) := by decide +kernel
theorem dX11_growth_98 : decode cX11_growth 98 = .ok (.iconst 0, 1) := by decide +kernel
theorem dX11_growth_99 : decode cX11_growth 99 = .ok (.iaload, 1) := by decide +kernel
theorem dX11_growth_100 : decode cX11_growth 100 = .ok (.iastore, 1) := by decide +kernel
theorem dX11_growth_101 : decode cX11_growth 101 = .ok (.aload_n 0, 1) := by decide +kernel
theorem dX11_growth_102 : decode cX11_growth 102 = .ok (.iconst 0, 1) := by decide +kernel
theorem dX11_growth_103 : decode cX11_growth 103 = .ok (.invokevirtual 372, 3) := by decide +kernel
theorem dX11_growth_106 : decode cX11_growth 106 = .ok (.istore_n 3, 1) := by decide +kernel
theorem dX11_growth_107 : decode cX11_growth 107 = .ok (.iload_n 3, 1) := by decide +kernel
theorem dX11_growth_108 : decode cX11_growth 108 = .ok (.iconst 0, 1) := by decide +kernel
theorem dX11_growth_109 : decode cX11_growth 109 = .ok (.bipush 9, 2) := by decide +kernel
theorem dX11_growth_111 : decode cX11_growth 111 = .ok (.invokestatic 375, 3) := by decide +kernel
theorem dX11_growth_114 : decode cX11_growth 114 = .ok (.istore_n 3, 1) := by decide +kernel
theorem dX11_growth_115 : decode cX11_growth 115 = .ok (.aload_n 0, 1) := by decide +kernel
theorem dX11_growth_116 : decode cX11_growth 116 = .ok (.getfield 23, 3) := by decide +kernel
theorem dX11_growth_119 : decode cX11_growth 119 = .ok (.iload_n 1, 1) := by decide +kernel
theorem dX11_growth_120 : decode cX11_growth 120 = .ok (.iaload, 1) := by decide +kernel
theorem dX11_growth_121 : decode cX11_growth 121 = .ok (.iconst 1, 1) := by decide +kernel
theorem dX11_growth_122 : decode cX11_growth 122 = .ok (.if_icmp .ne 20, 3) := by decide +kernel
theorem dX11_growth_125 : decode cX11_growth 125 = .ok (.aload_n 0, 1) := by decide +kernel
theorem dX11_growth_126 : decode cX11_growth 126 = .ok (.getfield 114, 3) := by decide +kernel
theorem dX11_growth_129 : decode cX11_growth 129 = .ok (.bipush 14, 2) := by decide +kernel
theorem dX11_growth_131 : decode cX11_growth 131 = .ok (.iload_n 1, 1) := by decide +kernel
theorem dX11_growth_132 : decode cX11_growth 132 = .ok (.iadd, 1) := by decide +kernel
theorem dX11_growth_133 : decode cX11_growth 133 = .ok (.iaload, 1) := by decide +kernel
theorem dX11_growth_134 : decode cX11_growth 134 = .ok (.bipush 10, 2) := by decide +kernel
theorem dX11_growth_136 : decode cX11_growth 136 = .ok (.if_icmp .ge 6, 3) := by decide +kernel
theorem dX11_growth_139 : decode cX11_growth 139 = .ok (.iinc 3 1, 3) := by decide +kernel
theorem dX11_growth_142 : decode cX11_growth 142 = .ok (.aload_n 0, 1) := by decide +kernel
theorem dX11_growth_143 : decode cX11_growth 143 = .ok (.getfield 23, 3) := by decide +kernel
theorem dX11_growth_146 : decode cX11_growth 146 = .ok (.iload_n 1, 1) := by decide +kernel
theorem dX11_growth_147 : decode cX11_growth 147 = .ok (.iaload, 1) := by decide +kernel
theorem dX11_growth_148 : decode cX11_growth 148 = .ok (.iconst 2, 1) := by decide +kernel
theorem dX11_growth_149 : decode cX11_growth 149 = .ok (.if_icmp .ne 23, 3) := by decide +kernel
theorem dX11_growth_152 : decode cX11_growth 152 = .ok (.aload_n 0, 1) := by decide +kernel
theorem dX11_growth_153 : decode cX11_growth 153 = .ok (.getfield 32, 3) := by decide +kernel
theorem dX11_growth_156 : decode cX11_growth 156 = .ok (.iload_n 1, 1) := by decide +kernel
theorem dX11_growth_157 : decode cX11_growth 157 = .ok (.iaload, 1) := by decide +kernel
theorem dX11_growth_158 : decode cX11_growth 158 = .ok (.aload_n 0, 1) := by decide +kernel
theorem dX11_growth_159 : decode cX11_growth 159 = .ok (.getfield 114, 3) := by decide +kernel
theorem dX11_growth_162 : decode cX11_growth 162 = .ok (.iconst 1, 1) := by decide +kernel
theorem dX11_growth_163 : decode cX11_growth 163 = .ok (.iaload, 1) := by decide +kernel
theorem dX11_growth_164 : decode cX11_growth 164 = .ok (.iand, 1) := by decide +kernel
theorem dX11_growth_165 : decode cX11_growth 165 = .ok (.ifCond .eq 7, 3) := by decide +kernel
theorem dX11_growth_168 : decode cX11_growth 168 = .ok (.iload_n 3, 1) := by decide +kernel
theorem dX11_growth_169 : decode cX11_growth 169 = .ok (.iconst 2, 1) := by decide +kernel
theorem dX11_growth_170 : decode cX11_growth 170 = .ok (.idiv, 1) := by decide +kernel
theorem dX11_growth_171 : decode cX11_growth 171 = .ok (.istore_n 3, 1) := by decide +kernel
theorem dX11_growth_172 : decode cX11_growth 172 = .ok (.aload_n 0, 1) := by decide +kernel
theorem dX11_growth_173 : decode cX11_growth 173 = .ok (.getfield 23, 3) := by decide +kernel
theorem dX11_growth_176 : decode cX11_growth 176 = .ok (.iload_n 1, 1) := by decide +kernel
theorem dX11_growth_177 : decode cX11_growth 177 = .ok (.iaload, 1) := by decide +kernel
theorem dX11_growth_178 : decode cX11_growth 178 = .ok (.iconst 3, 1) := by decide +kernel
theorem dX11_growth_179 : decode cX11_growth 179 = .ok (.if_icmp .ne 11, 3) := by decide +kernel
theorem dX11_growth_182 : decode cX11_growth 182 = .ok (.iload_n 3, 1) := by decide +kernel
theorem dX11_growth_183 : decode cX11_growth 183 = .ok (.aload_n 0, 1) := by decide +kernel
theorem dX11_growth_184 : decode cX11_growth 184 = .ok (.iload_n 1, 1) := by decide +kernel
theorem dX11_growth_185 : decode cX11_growth 185 = .ok (.invokevirtual 379, 3) := by decide +kernel
theorem dX11_growth_188 : decode cX11_growth 188 = .ok (.iadd, 1) := by decide +kernel
theorem dX11_growth_189 : decode cX11_growth 189 = .ok (.istore_n 3, 1) := by decide +kernel
theorem dX11_growth_190 : decode cX11_growth 190 = .ok (.iload_n 3, 1) := by decide +kernel
theorem dX11_growth_191 : decode cX11_growth 191 = .ok (.aload_n 0, 1) := by decide +kernel
theorem dX11_growth_192 : decode cX11_growth 192 = .ok (.getfield 13, 3) := by decide +kernel
theorem dX11_growth_195 : decode cX11_growth 195 = .ok (.iconst 3, 1) := by decide +kernel
theorem dX11_growth_196 : decode cX11_growth 196 = .ok (.iaload, 1) := by decide +kernel
theorem dX11_growth_197 : decode cX11_growth 197 = .ok (.aload_n 0, 1) := by decide +kernel
theorem dX11_growth_198 : decode cX11_growth 198 = .ok (.getfield 114, 3) := by decide +kernel
theorem dX11_growth_201 : decode cX11_growth 201 = .ok (.bipush 14, 2) := by decide +kernel
theorem dX11_growth_203 : decode cX11_growth 203 = .ok (.iload_n 1, 1) := by decide +kernel
theorem dX11_growth_204 : decode cX11_growth 204 = .ok (.iadd, 1) := by decide +kernel
theorem dX11_growth_205 : decode cX11_growth 205 = .ok (.iaload, 1) := by decide +kernel
theorem dX11_growth_206 : decode cX11_growth 206 = .ok (.isub, 1) := by decide +kernel
theorem dX11_growth_207 : decode cX11_growth 207 = .ok (.invokestatic 382, 3) := by decide +kernel
theorem dX11_growth_210 : decode cX11_growth 210 = .ok (.ireturn, 1) := by decide +kernel
theorem dX11_passes_0 : decode cX11_passes 0 = .ok (.iconst 0, 1) := by decide +kernel
theorem dX11_passes_1 : decode cX11_passes 1 = .ok (.istore_n 2, 1) := by decide +kernel
theorem dX11_passes_2 : decode cX11_passes 2 = .ok (.iconst 0, 1) := by decide +kernel
theorem dX11_passes_3 : decode cX11_passes 3 = .ok (.istore_n 3, 1) := by decide +kernel
theorem dX11_passes_4 : decode cX11_passes 4 = .ok (.iload_n 3, 1) := by decide +kernel
theorem dX11_passes_5 : decode cX11_passes 5 = .ok (.aload_n 0, 1) := by decide +kernel
theorem dX11_passes_6 : decode cX11_passes 6 = .ok (.getfield 13, 3) := by decide +kernel
theorem dX11_passes_9 : decode cX11_passes 9 = .ok (.iconst 0, 1) := by decide +kernel
theorem dX11_passes_10 : decode cX11_passes 10 = .ok (.iaload, 1) := by decide +kernel
theorem dX11_passes_11 : decode cX11_passes 11 = .ok (.if_icmp .ge 36, 3) := by decide +kernel
theorem dX11_passes_14 : decode cX11_passes 14 = .ok (.aload_n 0, 1) := by decide +kernel
theorem dX11_passes_15 : decode cX11_passes 15 = .ok (.getfield 135, 3) := by decide +kernel
theorem dX11_passes_18 : decode cX11_passes 18 = .ok (.iload_n 3, 1) := by decide +kernel
theorem dX11_passes_19 : decode cX11_passes 19 = .ok (.aload_n 0, 1) := by decide +kernel
theorem dX11_passes_20 : decode cX11_passes 20 = .ok (.iload_n 3, 1) := by decide +kernel
theorem dX11_passes_21 : decode cX11_passes 21 = .ok (.iload_n 1, 1) := by decide +kernel
theorem dX11_passes_22 : decode cX11_passes 22 = .ok (.invokevirtual 385, 3) := by decide +kernel
theorem dX11_passes_25 : decode cX11_passes 25 = .ok (.iastore, 1) := by decide +kernel
theorem dX11_passes_26 : decode cX11_passes 26 = .ok (.aload_n 0, 1) := by decide +kernel
theorem dX11_passes_27 : decode cX11_passes 27 = .ok (.getfield 138, 3) := by decide +kernel
theorem dX11_passes_30 : decode cX11_passes 30 = .ok (.iload_n 3, 1) := by decide +kernel
theorem dX11_passes_31 : decode cX11_passes 31 = .ok (.aload_n 0, 1) := by decide +kernel
theorem dX11_passes_32 : decode cX11_passes 32 = .ok (.getfield 114, 3) := by decide +kernel
theorem dX11_passes_35 : decode cX11_passes 35 = .ok (.bipush 20, 2) := by decide +kernel
theorem dX11_passes_37 : decode cX11_passes 37 = .ok (.iload_n 3, 1) := by decide +kernel
theorem dX11_passes_38 : decode cX11_passes 38 = .ok (.iadd, 1) := by decide +kernel
theorem dX11_passes_39 : decode cX11_passes 39 = .ok (.iaload, 1) := by decide +kernel
theorem dX11_passes_40 : decode cX11_passes 40 = .ok (.iastore, 1) := by decide +kernel
theorem dX11_passes_41 : decode cX11_passes 41 = .ok (.iinc 3 1, 3) := by decide +kernel
theorem dX11_passes_44 : decode cX11_passes 44 = .ok (.goto (-40), 3) := by decide +kernel
theorem dX11_passes_47 : decode cX11_passes 47 = .ok (.iconst 0, 1) := by decide +kernel
theorem dX11_passes_48 : decode cX11_passes 48 = .ok (.istore_n 3, 1) := by decide +kernel
theorem dX11_passes_49 : decode cX11_passes 49 = .ok (.iload_n 3, 1) := by decide +kernel
theorem dX11_passes_50 : decode cX11_passes 50 = .ok (.aload_n 0, 1) := by decide +kernel
theorem dX11_passes_51 : decode cX11_passes 51 = .ok (.getfield 13, 3) := by decide +kernel
theorem dX11_passes_54 : decode cX11_passes 54 = .ok (.iconst 0, 1) := by decide +kernel
theorem dX11_passes_55 : decode cX11_passes 55 = .ok (.iaload, 1) := by decide +kernel
theorem dX11_passes_56 : decode cX11_passes 56 = .ok (.if_icmp .ge 136, 3) := by decide +kernel
theorem dX11_passes_59 : decode cX11_passes 59 = .ok (.iconst 0, 1) := by decide +kernel
theorem dX11_passes_60 : decode cX11_passes 60 = .ok (.istore 4, 2) := by decide +kernel
theorem dX11_passes_62 : decode cX11_passes 62 = .ok (.iload 4, 2) := by decide +kernel
theorem dX11_passes_64 : decode cX11_passes 64 = .ok (.aload_n 0, 1) := by decide +kernel
theorem dX11_passes_65 : decode cX11_passes 65 = .ok (.getfield 13, 3) := by decide +kernel
theorem dX11_passes_68 : decode cX11_passes 68 = .ok (.iconst 0, 1) := by decide +kernel
theorem dX11_passes_69 : decode cX11_passes 69 = .ok (.iaload, 1) := by decide +kernel
theorem dX11_passes_70 : decode cX11_passes 70 = .ok (.if_icmp .ge 53, 3) := by decide +kernel
theorem dX11_passes_73 : decode cX11_passes 73 = .ok (.aload_n 0, 1) := by decide +kernel
theorem dX11_passes_74 : decode cX11_passes 74 = .ok (.getfield 135, 3) := by decide +kernel
theorem dX11_passes_77 : decode cX11_passes 77 = .ok (.iload 4, 2) := by decide +kernel
theorem dX11_passes_79 : decode cX11_passes 79 = .ok (.iaload, 1) := by decide +kernel
theorem dX11_passes_80 : decode cX11_passes 80 = .ok (.ifCond .le 37, 3) := by decide +kernel
theorem dX11_passes_83 : decode cX11_passes 83 = .ok (.aload_n 0, 1) := by decide +kernel
theorem dX11_passes_84 : decode cX11_passes 84 = .ok (.getfield 32, 3) := by decide +kernel
theorem dX11_passes_87 : decode cX11_passes 87 = .ok (.iload_n 3, 1) := by decide +kernel
theorem dX11_passes_88 : decode cX11_passes 88 = .ok (.iaload, 1) := by decide +kernel
theorem dX11_passes_89 : decode cX11_passes 89 = .ok (.iload 4, 2) := by decide +kernel
theorem dX11_passes_91 : decode cX11_passes 91 = .ok (.ishr, 1) := by decide +kernel
theorem dX11_passes_92 : decode cX11_passes 92 = .ok (.iconst 1, 1) := by decide +kernel
theorem dX11_passes_93 : decode cX11_passes 93 = .ok (.iand, 1) := by decide +kernel
theorem dX11_passes_94 : decode cX11_passes 94 = .ok (.iconst 1, 1) := by decide +kernel
theorem dX11_passes_95 : decode cX11_passes 95 = .ok (.if_icmp .ne 22, 3) := by decide +kernel
theorem dX11_passes_98 : decode cX11_passes 98 = .ok (.aload_n 0, 1) := by decide +kernel
theorem dX11_passes_99 : decode cX11_passes 99 = .ok (.getfield 114, 3) := by decide +kernel
theorem dX11_passes_102 : decode cX11_passes 102 = .ok (.bipush 20, 2) := by decide +kernel
theorem dX11_passes_104 : decode cX11_passes 104 = .ok (.iload_n 3, 1) := by decide +kernel
theorem dX11_passes_105 : decode cX11_passes 105 = .ok (.iadd, 1) := by decide +kernel
theorem dX11_passes_106 : decode cX11_passes 106 = .ok (.dup2, 1) := by decide +kernel
theorem dX11_passes_107 : decode cX11_passes 107 = .ok (.iaload, 1) := by decide +kernel
theorem dX11_passes_108 : decode cX11_passes 108 = .ok (.aload_n 0, 1) := by decide +kernel
theorem dX11_passes_109 : decode cX11_passes 109 = .ok (.getfield 138, 3) := by decide +kernel
theorem dX11_passes_112 : decode cX11_passes 112 = .ok (.iload 4, 2) := by decide +kernel
theorem dX11_passes_114 : decode cX11_passes 114 = .ok (.iaload, 1) := by decide +kernel
theorem dX11_passes_115 : decode cX11_passes 115 = .ok (.ior, 1) := by decide +kernel
theorem dX11_passes_116 : decode cX11_passes 116 = .ok (.iastore, 1) := by decide +kernel
theorem dX11_passes_117 : decode cX11_passes 117 = .ok (.iinc 4 1, 3) := by decide +kernel
theorem dX11_passes_120 : decode cX11_passes 120 = .ok (.goto (-58), 3) := by decide +kernel
theorem dX11_passes_123 : decode cX11_passes 123 = .ok (.iload_n 2, 1) := by decide +kernel
theorem dX11_passes_124 : decode cX11_passes 124 = .ok (.aload_n 0, 1) := by decide +kernel
theorem dX11_passes_125 : decode cX11_passes 125 = .ok (.getfield 114, 3) := by decide +kernel
theorem dX11_passes_128 : decode cX11_passes 128 = .ok (.bipush 14, 2) := by decide +kernel
theorem dX11_passes_130 : decode cX11_passes 130 = .ok (.iload_n 3, 1) := by decide +kernel
theorem dX11_passes_131 : decode cX11_passes 131 = .ok (.iadd, 1) := by decide +kernel
theorem dX11_passes_132 : decode cX11_passes 132 = .ok (.iaload, 1) := by decide +kernel
theorem dX11_passes_133 : decode cX11_passes 133 = .ok (.bipush 10, 2) := by decide +kernel
theorem dX11_passes_135 : decode cX11_passes 135 = .ok (.if_icmp .ge 30, 3) := by decide +kernel
theorem dX11_passes_138 : decode cX11_passes 138 = .ok (.aload_n 0, 1) := by decide +kernel
theorem dX11_passes_139 : decode cX11_passes 139 = .ok (.getfield 114, 3) := by decide +kernel
theorem dX11_passes_142 : decode cX11_passes 142 = .ok (.bipush 14, 2) := by decide +kernel
theorem dX11_passes_144 : decode cX11_passes 144 = .ok (.iload_n 3, 1) := by decide +kernel
theorem dX11_passes_145 : decode cX11_passes 145 = .ok (.iadd, 1) := by decide +kernel
theorem dX11_passes_146 : decode cX11_passes 146 = .ok (.iaload, 1) := by decide +kernel
theorem dX11_passes_147 : decode cX11_passes 147 = .ok (.aload_n 0, 1) := by decide +kernel
theorem dX11_passes_148 : decode cX11_passes 148 = .ok (.getfield 135, 3) := by decide +kernel
theorem dX11_passes_151 : decode cX11_passes 151 = .ok (.iload_n 3, 1) := by decide +kernel
theorem dX11_passes_152 : decode cX11_passes 152 = .ok (.iaload, 1) := by decide +kernel
theorem dX11_passes_153 : decode cX11_passes 153 = .ok (.iadd, 1) := by decide +kernel
theorem dX11_passes_154 : decode cX11_passes 154 = .ok (.bipush 10, 2) := by decide +kernel
theorem dX11_passes_156 : decode cX11_passes 156 = .ok (.if_icmp .lt 9, 3) := by decide +kernel
theorem dX11_passes_159 : decode cX11_passes 159 = .ok (.iconst 1, 1) := by decide +kernel
theorem dX11_passes_160 : decode cX11_passes 160 = .ok (.iload_n 3, 1) := by decide +kernel
theorem dX11_passes_161 : decode cX11_passes 161 = .ok (.ishl, 1) := by decide +kernel
theorem dX11_passes_162 : decode cX11_passes 162 = .ok (.goto 4, 3) := by decide +kernel
theorem dX11_passes_165 : decode cX11_passes 165 = .ok (.iconst 0, 1) := by decide +kernel
theorem dX11_passes_166 : decode cX11_passes 166 = .ok (.ior, 1) := by decide +kernel
theorem dX11_passes_167 : decode cX11_passes 167 = .ok (.istore_n 2, 1) := by decide +kernel
theorem dX11_passes_168 : decode cX11_passes 168 = .ok (.aload_n 0, 1) := by decide +kernel
theorem dX11_passes_169 : decode cX11_passes 169 = .ok (.getfield 114, 3) := by decide +kernel
theorem dX11_passes_172 : decode cX11_passes 172 = .ok (.bipush 14, 2) := by decide +kernel
theorem dX11_passes_174 : decode cX11_passes 174 = .ok (.iload_n 3, 1) := by decide +kernel
theorem dX11_passes_175 : decode cX11_passes 175 = .ok (.iadd, 1) := by decide +kernel
theorem dX11_passes_176 : decode cX11_passes 176 = .ok (.dup2, 1) := by decide +kernel
theorem dX11_passes_177 : decode cX11_passes 177 = .ok (.iaload, 1) := by decide +kernel
theorem dX11_passes_178 : decode cX11_passes 178 = .ok (.aload_n 0, 1) := by decide +kernel
theorem dX11_passes_179 : decode cX11_passes 179 = .ok (.getfield 135, 3) := by decide +kernel
theorem dX11_passes_182 : decode cX11_passes 182 = .ok (.iload_n 3, 1) := by decide +kernel
theorem dX11_passes_183 : decode cX11_passes 183 = .ok (.iaload, 1) := by decide +kernel
theorem dX11_passes_184 : decode cX11_passes 184 = .ok (.iadd, 1) := by decide +kernel
theorem dX11_passes_185 : decode cX11_passes 185 = .ok (.iastore, 1) := by decide +kernel
theorem dX11_passes_186 : decode cX11_passes 186 = .ok (.iinc 3 1, 3) := by decide +kernel
theorem dX11_passes_189 : decode cX11_passes 189 = .ok (.goto (-140), 3) := by decide +kernel
theorem dX11_passes_192 : decode cX11_passes 192 = .ok (.aload_n 0, 1) := by decide +kernel
theorem dX11_passes_193 : decode cX11_passes 193 = .ok (.getfield 114, 3) := by decide +kernel
theorem dX11_passes_196 : decode cX11_passes 196 = .ok (.iconst 1, 1) := by decide +kernel
theorem dX11_passes_197 : decode cX11_passes 197 = .ok (.iconst 0, 1) := by decide +kernel
theorem dX11_passes_198 : decode cX11_passes 198 = .ok (.iastore, 1) := by decide +kernel
theorem dX11_passes_199 : decode cX11_passes 199 = .ok (.aload_n 0, 1) := by decide +kernel
theorem dX11_passes_200 : decode cX11_passes 200 = .ok (.getfield 114, 3) := by decide +kernel
theorem dX11_passes_203 : decode cX11_passes 203 = .ok (.iconst 0, 1) := by decide +kernel
theorem dX11_passes_204 : decode cX11_passes 204 = .ok (.dup2, 1) := by decide +kernel
theorem dX11_passes_205 : decode cX11_passes 205 = .ok (.iaload, 1) := by decide +kernel
theorem dX11_passes_206 : decode cX11_passes 206 = .ok (.iconst 1, 1) := by decide +kernel
theorem dX11_passes_207 : decode cX11_passes 207 = .ok (.iadd, 1) := by decide +kernel
theorem dX11_passes_208 : decode cX11_passes 208 = .ok (.iastore, 1) := by decide +kernel
theorem dX11_passes_209 : decode cX11_passes 209 = .ok (.iload_n 2, 1) := by decide +kernel
theorem dX11_passes_210 : decode cX11_passes 210 = .ok (.ireturn, 1) := by decide +kernel
theorem dX11_passesAsTold_0 : decode cX11_passesAsTold 0 = .ok (.aload_n 0, 1) := by decide +kernel
theorem dX11_passesAsTold_1 : decode cX11_passesAsTold 1 = .ok (.aload_n 0, 1) := by decide +kernel
theorem dX11_passesAsTold_2 : decode cX11_passesAsTold 2 = .ok (.aload_n 0, 1) := by decide +kernel
theorem dX11_passesAsTold_3 : decode cX11_passesAsTold 3 = .ok (.getfield 114, 3) := by decide +kernel
theorem dX11_passesAsTold_6 : decode cX11_passesAsTold 6 = .ok (.iconst 0, 1) := by decide +kernel
theorem dX11_passesAsTold_7 : decode cX11_passesAsTold 7 = .ok (.iaload, 1) := by decide +kernel
theorem dX11_passesAsTold_8 : decode cX11_passesAsTold 8 = .ok (.invokevirtual 388, 3) := by decide +kernel
theorem dX11_passesAsTold_11 : decode cX11_passesAsTold 11 = .ok (.invokevirtual 391, 3) := by decide +kernel
theorem dX11_passesAsTold_14 : decode cX11_passesAsTold 14 = .ok (.ireturn, 1) := by decide +kernel
theorem dX11_murmurOf_0 : decode cX11_murmurOf 0 = .ok (.sipush 999, 3) := by decide +kernel
theorem dX11_murmurOf_3 : decode cX11_murmurOf 3 = .ok (.aload_n 0, 1) := by decide +kernel
theorem dX11_murmurOf_4 : decode cX11_murmurOf 4 = .ok (.getfield 114, 3) := by decide +kernel
theorem dX11_murmurOf_7 : decode cX11_murmurOf 7 = .ok (.bipush 14, 2) := by decide +kernel
theorem dX11_murmurOf_9 : decode cX11_murmurOf 9 = .ok (.iload_n 1, 1) := by decide +kernel
theorem dX11_murmurOf_10 : decode cX11_murmurOf 10 = .ok (.iadd, 1) := by decide +kernel
theorem dX11_murmurOf_11 : decode cX11_murmurOf 11 = .ok (.iaload, 1) := by decide +kernel
theorem dX11_murmurOf_12 : decode cX11_murmurOf 12 = .ok (.aload_n 0, 1) := by decide +kernel
theorem dX11_murmurOf_13 : decode cX11_murmurOf 13 = .ok (.getfield 114, 3) := by decide +kernel
theorem dX11_murmurOf_16 : decode cX11_murmurOf 16 = .ok (.bipush 8, 2) := by decide +kernel
theorem dX11_murmurOf_18 : decode cX11_murmurOf 18 = .ok (.iload_n 1, 1) := by decide +kernel
theorem dX11_murmurOf_19 : decode cX11_murmurOf 19 = .ok (.iadd, 1) := by decide +kernel
theorem dX11_murmurOf_20 : decode cX11_murmurOf 20 = .ok (.iaload, 1) := by decide +kernel
theorem dX11_murmurOf_21 : decode cX11_murmurOf 21 = .ok (.imul, 1) := by decide +kernel
theorem dX11_murmurOf_22 : decode cX11_murmurOf 22 = .ok (.bipush 10, 2) := by decide +kernel
theorem dX11_murmurOf_24 : decode cX11_murmurOf 24 = .ok (.idiv, 1) := by decide +kernel
theorem dX11_murmurOf_25 : decode cX11_murmurOf 25 = .ok (.invokestatic 382, 3) := by decide +kernel
theorem dX11_murmurOf_28 : decode cX11_murmurOf 28 = .ok (.ireturn, 1) := by decide +kernel
theorem dX11_allMurmurs_0 : decode cX11_allMurmurs 0 = .ok (.iconst 0, 1) := by decide +kernel
theorem dX11_allMurmurs_1 : decode cX11_allMurmurs 1 = .ok (.istore_n 1, 1) := by decide +kernel
theorem dX11_allMurmurs_2 : decode cX11_allMurmurs 2 = .ok (.iconst 0, 1) := by decide +kernel
theorem dX11_allMurmurs_3 : decode cX11_allMurmurs 3 = .ok (.istore_n 2, 1) := by decide +kernel
theorem dX11_allMurmurs_4 : decode cX11_allMurmurs 4 = .ok (.iload_n 2, 1) := by decide +kernel
theorem dX11_allMurmurs_5 : decode cX11_allMurmurs 5 = .ok (.aload_n 0, 1) := by decide +kernel
theorem dX11_allMurmurs_6 : decode cX11_allMurmurs 6 = .ok (.getfield 13, 3) := by decide +kernel
theorem dX11_allMurmurs_9 : decode cX11_allMurmurs 9 = .ok (.iconst 0, 1) := by decide +kernel
theorem dX11_allMurmurs_10 : decode cX11_allMurmurs 10 = .ok (.iaload, 1) := by decide +kernel
theorem dX11_allMurmurs_11 : decode cX11_allMurmurs 11 = .ok (.if_icmp .ge 17, 3) := by decide +kernel
theorem dX11_allMurmurs_14 : decode cX11_allMurmurs 14 = .ok (.iload_n 1, 1) := by decide +kernel
theorem dX11_allMurmurs_15 : decode cX11_allMurmurs 15 = .ok (.aload_n 0, 1) := by decide +kernel
theorem dX11_allMurmurs_16 : decode cX11_allMurmurs 16 = .ok (.iload_n 2, 1) := by decide +kernel
theorem dX11_allMurmurs_17 : decode cX11_allMurmurs 17 = .ok (.invokevirtual 394, 3) := by decide +kernel
theorem dX11_allMurmurs_20 : decode cX11_allMurmurs 20 = .ok (.iadd, 1) := by decide +kernel
theorem dX11_allMurmurs_21 : decode cX11_allMurmurs 21 = .ok (.istore_n 1, 1) := by decide +kernel
theorem dX11_allMurmurs_22 : decode cX11_allMurmurs 22 = .ok (.iinc 2 1, 3) := by decide +kernel
theorem dX11_allMurmurs_25 : decode cX11_allMurmurs 25 = .ok (.goto (-21), 3) := by decide +kernel
theorem dX11_allMurmurs_28 : decode cX11_allMurmurs 28 = .ok (.iload_n 1, 1) := by decide +kernel
theorem dX11_allMurmurs_29 : decode cX11_allMurmurs 29 = .ok (.ireturn, 1) := by decide +kernel
theorem dX11_allCrowns_0 : decode cX11_allCrowns 0 = .ok (.iconst 0, 1) := by decide +kernel
theorem dX11_allCrowns_1 : decode cX11_allCrowns 1 = .ok (.istore_n 1, 1) := by decide +kernel
theorem dX11_allCrowns_2 : decode cX11_allCrowns 2 = .ok (.iconst 0, 1) := by decide +kernel
theorem dX11_allCrowns_3 : decode cX11_allCrowns 3 = .ok (.istore_n 2, 1) := by decide +kernel
theorem dX11_allCrowns_4 : decode cX11_allCrowns 4 = .ok (.iload_n 2, 1) := by decide +kernel
theorem dX11_allCrowns_5 : decode cX11_allCrowns 5 = .ok (.bipush 6, 2) := by decide +kernel
theorem dX11_allCrowns_7 : decode cX11_allCrowns 7 = .ok (.if_icmp .ge 21, 3) := by decide +kernel
theorem dX11_allCrowns_10 : decode cX11_allCrowns 10 = .ok (.iload_n 1, 1) := by decide +kernel
theorem dX11_allCrowns_11 : decode cX11_allCrowns 11 = .ok (.aload_n 0, 1) := by decide +kernel
theorem dX11_allCrowns_12 : decode cX11_allCrowns 12 = .ok (.getfield 114, 3) := by decide +kernel
theorem dX11_allCrowns_15 : decode cX11_allCrowns 15 = .ok (.bipush 8, 2) := by decide +kernel
theorem dX11_allCrowns_17 : decode cX11_allCrowns 17 = .ok (.iload_n 2, 1) := by decide +kernel
theorem dX11_allCrowns_18 : decode cX11_allCrowns 18 = .ok (.iadd, 1) := by decide +kernel
theorem dX11_allCrowns_19 : decode cX11_allCrowns 19 = .ok (.iaload, 1) := by decide +kernel
theorem dX11_allCrowns_20 : decode cX11_allCrowns 20 = .ok (.iadd, 1) := by decide +kernel
theorem dX11_allCrowns_21 : decode cX11_allCrowns 21 = .ok (.istore_n 1, 1) := by decide +kernel
theorem dX11_allCrowns_22 : decode cX11_allCrowns 22 = .ok (.iinc 2 1, 3) := by decide +kernel
theorem dX11_allCrowns_25 : decode cX11_allCrowns 25 = .ok (.goto (-21), 3) := by decide +kernel
theorem dX11_allCrowns_28 : decode cX11_allCrowns 28 = .ok (.iload_n 1, 1) := by decide +kernel
theorem dX11_allCrowns_29 : decode cX11_allCrowns 29 = .ok (.ireturn, 1) := by decide +kernel
theorem dX11_shed_0 : decode cX11_shed 0 = .ok (.aload_n 0, 1) := by decide +kernel
theorem dX11_shed_1 : decode cX11_shed 1 = .ok (.iconst 0, 1) := by decide +kernel
theorem dX11_shed_2 : decode cX11_shed 2 = .ok (.putfield 153, 3) := by decide +kernel
theorem dX11_shed_5 : decode cX11_shed 5 = .ok (.aload_n 0, 1) := by decide +kernel
theorem dX11_shed_6 : decode cX11_shed 6 = .ok (.iload_n 1, 1) := by decide +kernel
theorem dX11_shed_7 : decode cX11_shed 7 = .ok (.invokevirtual 397, 3) := by decide +kernel
theorem dX11_shed_10 : decode cX11_shed 10 = .ok (.ifCond .eq 13, 3) := by decide +kernel
theorem dX11_shed_13 : decode cX11_shed 13 = .ok (.iload_n 2, 1) := by decide +kernel
theorem dX11_shed_14 : decode cX11_shed 14 = .ok (.iconst 0, 1) := by decide +kernel
theorem dX11_shed_15 : decode cX11_shed 15 = .ok (.bipush 6, 2) := by decide +kernel
theorem dX11_shed_17 : decode cX11_shed 17 = .ok (.invokestatic 274, 3) := by decide +kernel
theorem dX11_shed_20 : decode cX11_shed 20 = .ok (.ifCond .ne 6, 3) := by decide +kernel
theorem dX11_shed_23 : decode cX11_shed 23 = .ok (.bipush (-2), 2) := by decide +kernel
theorem dX11_shed_25 : decode cX11_shed 25 = .ok (.ireturn, 1) := by decide +kernel
theorem dX11_shed_26 : decode cX11_shed 26 = .ok (.iload_n 2, 1) := by decide +kernel
theorem dX11_shed_27 : decode cX11_shed 27 = .ok (.iconst 4, 1) := by decide +kernel
theorem dX11_shed_28 : decode cX11_shed 28 = .ok (.if_icmp .ge 59, 3) := by decide +kernel
theorem dX11_shed_31 : decode cX11_shed 31 = .ok (.iload_n 2, 1) := by decide +kernel
theorem dX11_shed_32 : decode cX11_shed 32 = .ok (.ifCond .ne 12, 3) := by decide +kernel
theorem dX11_shed_35 : decode cX11_shed 35 = .ok (.aload_n 0, 1) := by decide +kernel
theorem dX11_shed_36 : decode cX11_shed 36 = .ok (.getfield 23, 3) := by decide +kernel
theorem dX11_shed_39 : decode cX11_shed 39 = .ok (.iload_n 1, 1) := by decide +kernel
theorem dX11_shed_40 : decode cX11_shed 40 = .ok (.iaload, 1) := by decide +kernel
theorem dX11_shed_41 : decode cX11_shed 41 = .ok (.goto 45, 3) := by decide +kernel
theorem dX11_shed_44 : decode cX11_shed 44 = .ok (.iload_n 2, 1) := by decide +kernel
theorem dX11_shed_45 : decode cX11_shed 45 = .ok (.iconst 1, 1) := by decide +kernel
theorem dX11_shed_46 : decode cX11_shed 46 = .ok (.if_icmp .ne 14, 3) := by decide +kernel
theorem dX11_shed_49 : decode cX11_shed 49 = .ok (.aload_n 0, 1) := by decide +kernel
theorem dX11_shed_50 : decode cX11_shed 50 = .ok (.getfield 114, 3) := by decide +kernel
theorem dX11_shed_53 : decode cX11_shed 53 = .ok (.iconst 2, 1) := by decide +kernel
theorem dX11_shed_54 : decode cX11_shed 54 = .ok (.iload_n 1, 1) := by decide +kernel
theorem dX11_shed_55 : decode cX11_shed 55 = .ok (.iadd, 1) := by decide +kernel
theorem dX11_shed_56 : decode cX11_shed 56 = .ok (.iaload, 1) := by decide +kernel
theorem dX11_shed_57 : decode cX11_shed 57 = .ok (.goto 29, 3) := by decide +kernel
theorem dX11_shed_60 : decode cX11_shed 60 = .ok (.iload_n 2, 1) := by decide +kernel
theorem dX11_shed_61 : decode cX11_shed 61 = .ok (.iconst 2, 1) := by decide +kernel
theorem dX11_shed_62 : decode cX11_shed 62 = .ok (.if_icmp .ne 15, 3) := by decide +kernel
theorem dX11_shed_65 : decode cX11_shed 65 = .ok (.aload_n 0, 1) := by decide +kernel
theorem dX11_shed_66 : decode cX11_shed 66 = .ok (.getfield 114, 3) := by decide +kernel
theorem dX11_shed_69 : decode cX11_shed 69 = .ok (.bipush 8, 2) := by decide +kernel
theorem dX11_shed_71 : decode cX11_shed 71 = .ok (.iload_n 1, 1) := by decide +kernel
theorem dX11_shed_72 : decode cX11_shed 72 = .ok (.iadd, 1) := by decide +kernel
theorem dX11_shed_73 : decode cX11_shed 73 = .ok (.iaload, 1) := by decide +kernel
theorem dX11_shed_74 : decode cX11_shed 74 = .ok (.goto 12, 3) := by decide +kernel
theorem dX11_shed_77 : decode cX11_shed 77 = .ok (.aload_n 0, 1) := by decide +kernel
theorem dX11_shed_78 : decode cX11_shed 78 = .ok (.getfield 114, 3) := by decide +kernel
theorem dX11_shed_81 : decode cX11_shed 81 = .ok (.bipush 14, 2) := by decide +kernel
theorem dX11_shed_83 : decode cX11_shed 83 = .ok (.iload_n 1, 1) := by decide +kernel
theorem dX11_shed_84 : decode cX11_shed 84 = .ok (.iadd, 1) := by decide +kernel
theorem dX11_shed_85 : decode cX11_shed 85 = .ok (.iaload, 1) := by decide +kernel
theorem dX11_shed_86 : decode cX11_shed 86 = .ok (.ireturn, 1) := by decide +kernel
theorem dX11_shed_87 : decode cX11_shed 87 = .ok (.iload_n 2, 1) := by decide +kernel
theorem dX11_shed_88 : decode cX11_shed 88 = .ok (.iconst 4, 1) := by decide +kernel
theorem dX11_shed_89 : decode cX11_shed 89 = .ok (.if_icmp .ne 16, 3) := by decide +kernel
theorem dX11_shed_92 : decode cX11_shed 92 = .ok (.aload_n 0, 1) := by decide +kernel
theorem dX11_shed_93 : decode cX11_shed 93 = .ok (.getfield 114, 3) := by decide +kernel
theorem dX11_shed_96 : decode cX11_shed 96 = .ok (.iconst 1, 1) := by decide +kernel
theorem dX11_shed_97 : decode cX11_shed 97 = .ok (.iaload, 1) := by decide +kernel
theorem dX11_shed_98 : decode cX11_shed 98 = .ok (.iload_n 1, 1) := by decide +kernel
theorem dX11_shed_99 : decode cX11_shed 99 = .ok (.ishr, 1) := by decide +kernel
theorem dX11_shed_100 : decode cX11_shed 100 = .ok (.iconst 1, 1) := by decide +kernel
theorem dX11_shed_101 : decode cX11_shed 101 = .ok (.iand, 1) := by decide +kernel
theorem dX11_shed_102 : decode cX11_shed 102 = .ok (.goto 22, 3) := by decide +kernel
theorem dX11_shed_105 : decode cX11_shed 105 = .ok (.iload_n 2, 1) := by decide +kernel
theorem dX11_shed_106 : decode cX11_shed 106 = .ok (.iconst 5, 1) := by decide +kernel
theorem dX11_shed_107 : decode cX11_shed 107 = .ok (.if_icmp .ne 12, 3) := by decide +kernel
theorem dX11_shed_110 : decode cX11_shed 110 = .ok (.aload_n 0, 1) := by decide +kernel
theorem dX11_shed_111 : decode cX11_shed 111 = .ok (.getfield 32, 3) := by decide +kernel
theorem dX11_shed_114 : decode cX11_shed 114 = .ok (.iload_n 1, 1) := by decide +kernel
theorem dX11_shed_115 : decode cX11_shed 115 = .ok (.iaload, 1) := by decide +kernel
theorem dX11_shed_116 : decode cX11_shed 116 = .ok (.goto 8, 3) := by decide +kernel
theorem dX11_shed_119 : decode cX11_shed 119 = .ok (.aload_n 0, 1) := by decide +kernel
theorem dX11_shed_120 : decode cX11_shed 120 = .ok (.iload_n 1, 1) := by decide +kernel
theorem dX11_shed_121 : decode cX11_shed 121 = .ok (.invokevirtual 394, 3) := by decide +kernel
theorem dX11_shed_124 : decode cX11_shed 124 = .ok (.ireturn, 1) := by decide +kernel
theorem dX11_stage_0 : decode cX11_stage 0 = .ok (.aload_n 0, 1) := by decide +kernel
theorem dX11_stage_1 : decode cX11_stage 1 = .ok (.iconst 0, 1) := by decide +kernel
theorem dX11_stage_2 : decode cX11_stage 2 = .ok (.putfield 153, 3) := by decide +kernel
theorem dX11_stage_5 : decode cX11_stage 5 = .ok (.aload_n 0, 1) := by decide +kernel
theorem dX11_stage_6 : decode cX11_stage 6 = .ok (.iload_n 1, 1) := by decide +kernel
theorem dX11_stage_7 : decode cX11_stage 7 = .ok (.invokevirtual 400, 3) := by decide +kernel
theorem dX11_stage_10 : decode cX11_stage 10 = .ok (.ifCond .eq 12, 3) := by decide +kernel
theorem dX11_stage_13 : decode cX11_stage 13 = .ok (.iload_n 2, 1) := by decide +kernel
theorem dX11_stage_14 : decode cX11_stage 14 = .ok (.iconst 0, 1) := by decide +kernel
theorem dX11_stage_15 : decode cX11_stage 15 = .ok (.iconst 1, 1) := by decide +kernel
theorem dX11_stage_16 : decode cX11_stage 16 = .ok (.invokestatic 274, 3) := by decide +kernel
theorem dX11_stage_19 : decode cX11_stage 19 = .ok (.ifCond .ne 5, 3) := by decide +kernel
theorem dX11_stage_22 : decode cX11_stage 22 = .ok (.iconst (-1), 1) := by decide +kernel
theorem dX11_stage_23 : decode cX11_stage 23 = .ok (.ireturn, 1) := by decide +kernel
theorem dX11_stage_24 : decode cX11_stage 24 = .ok (.iload_n 2, 1) := by decide +kernel
theorem dX11_stage_25 : decode cX11_stage 25 = .ok (.ifCond .ne 12, 3) := by decide +kernel
theorem dX11_stage_28 : decode cX11_stage 28 = .ok (.aload_n 0, 1) := by decide +kernel
theorem dX11_stage_29 : decode cX11_stage 29 = .ok (.getfield 35, 3) := by decide +kernel
theorem dX11_stage_32 : decode cX11_stage 32 = .ok (.iload_n 1, 1) := by decide +kernel
theorem dX11_stage_33 : decode cX11_stage 33 = .ok (.iaload, 1) := by decide +kernel
theorem dX11_stage_34 : decode cX11_stage 34 = .ok (.goto 9, 3) := by decide +kernel
theorem dX11_stage_37 : decode cX11_stage 37 = .ok (.aload_n 0, 1) := by decide +kernel
theorem dX11_stage_38 : decode cX11_stage 38 = .ok (.getfield 38, 3) := by decide +kernel
theorem dX11_stage_41 : decode cX11_stage 41 = .ok (.iload_n 1, 1) := by decide +kernel
theorem dX11_stage_42 : decode cX11_stage 42 = .ok (.iaload, 1) := by decide +kernel
theorem dX11_stage_43 : decode cX11_stage 43 = .ok (.ireturn, 1) := by decide +kernel
theorem dX11_keeps_0 : decode cX11_keeps 0 = .ok (.aload_n 0, 1) := by decide +kernel
theorem dX11_keeps_1 : decode cX11_keeps 1 = .ok (.getfield 353, 3) := by decide +kernel
theorem dX11_keeps_4 : decode cX11_keeps 4 = .ok (.bipush 16, 2) := by decide +kernel
theorem dX11_keeps_6 : decode cX11_keeps 6 = .ok (.if_icmp .ne 43, 3) := by decide +kernel
theorem dX11_keeps_9 : decode cX11_keeps 9 = .ok (.iconst 0, 1) := by decide +kernel
theorem dX11_keeps_10 : decode cX11_keeps 10 = .ok (.istore_n 1, 1) := by decide +kernel
theorem dX11_keeps_11 : decode cX11_keeps 11 = .ok (.iload_n 1, 1) := by decide +kernel
theorem dX11_keeps_12 : decode cX11_keeps 12 = .ok (.sipush 390, 3) := by decide +kernel
theorem dX11_keeps_15 : decode cX11_keeps 15 = .ok (.if_icmp .ge 24, 3) := by decide +kernel
theorem dX11_keeps_18 : decode cX11_keeps 18 = .ok (.aload_n 0, 1) := by decide +kernel
theorem dX11_keeps_19 : decode cX11_keeps 19 = .ok (.getfield 129, 3) := by decide +kernel
theorem dX11_keeps_22 : decode cX11_keeps 22 = .ok (.iload_n 1, 1) := by decide +kernel
theorem dX11_keeps_23 : decode cX11_keeps 23 = .ok (.aload_n 0, 1) := by decide +kernel
theorem dX11_keeps_24 : decode cX11_keeps 24 = .ok (.getfield 129, 3) := by decide +kernel
theorem dX11_keeps_27 : decode cX11_keeps 27 = .ok (.iload_n 1, 1) := by decide +kernel
theorem dX11_keeps_28 : decode cX11_keeps 28 = .ok (.bipush 26, 2) := by decide +kernel
theorem dX11_keeps_30 : decode cX11_keeps 30 = .ok (.iadd, 1) := by decide +kernel
theorem dX11_keeps_31 : decode cX11_keeps 31 = .ok (.iaload, 1) := by decide +kernel
theorem dX11_keeps_32 : decode cX11_keeps 32 = .ok (.iastore, 1) := by decide +kernel
theorem dX11_keeps_33 : decode cX11_keeps 33 = .ok (.iinc 1 1, 3) := by decide +kernel
theorem dX11_keeps_36 : decode cX11_keeps 36 = .ok (.goto (-25), 3) := by decide +kernel
theorem dX11_keeps_39 : decode cX11_keeps 39 = .ok (.aload_n 0, 1) := by decide +kernel
theorem dX11_keeps_40 : decode cX11_keeps 40 = .ok (.dup, 1) := by decide +kernel
theorem dX11_keeps_41 : decode cX11_keeps 41 = .ok (.getfield 353, 3) := by decide +kernel
theorem dX11_keeps_44 : decode cX11_keeps 44 = .ok (.iconst 1, 1) := by decide +kernel
theorem dX11_keeps_45 : decode cX11_keeps 45 = .ok (.isub, 1) := by decide +kernel
theorem dX11_keeps_46 : decode cX11_keeps 46 = .ok (.putfield 353, 3) := by decide +kernel
theorem dX11_keeps_49 : decode cX11_keeps 49 = .ok (.aload_n 0, 1) := by decide +kernel
theorem dX11_keeps_50 : decode cX11_keeps 50 = .ok (.getfield 114, 3) := by decide +kernel
theorem dX11_keeps_53 : decode cX11_keeps 53 = .ok (.iconst 0, 1) := by decide +kernel
theorem dX11_keeps_54 : decode cX11_keeps 54 = .ok (.aload_n 0, 1) := by decide +kernel
theorem dX11_keeps_55 : decode cX11_keeps 55 = .ok (.getfield 129, 3) := by decide +kernel
theorem dX11_keeps_58 : decode cX11_keeps 58 = .ok (.bipush 26, 2) := by decide +kernel
theorem dX11_keeps_60 : decode cX11_keeps 60 = .ok (.aload_n 0, 1) := by decide +kernel
theorem dX11_keeps_61 : decode cX11_keeps 61 = .ok (.getfield 353, 3) := by decide +kernel
theorem dX11_keeps_64 : decode cX11_keeps 64 = .ok (.imul, 1) := by decide +kernel
theorem dX11_keeps_65 : decode cX11_keeps 65 = .ok (.invokestatic 403, 3) := by decide +kernel
theorem dX11_keeps_68 : decode cX11_keeps 68 = .ok (.aload_n 0, 1) := by decide +kernel
theorem dX11_keeps_69 : decode cX11_keeps 69 = .ok (.dup, 1) := by decide +kernel
theorem dX11_keeps_70 : decode cX11_keeps 70 = .ok (.getfield 353, 3) := by decide +kernel
theorem dX11_keeps_73 : decode cX11_keeps 73 = .ok (.iconst 1, 1) := by decide +kernel
theorem dX11_keeps_74 : decode cX11_keeps 74 = .ok (.iadd, 1) := by decide +kernel
theorem dX11_keeps_75 : decode cX11_keeps 75 = .ok (.putfield 353, 3) := by decide +kernel
theorem dX11_keeps_78 : decode cX11_keeps 78 = .ok (.return_, 1) := by decide +kernel
theorem dX11_night_0 : decode cX11_night 0 = .ok (.aload_n 0, 1) := by decide +kernel
theorem dX11_night_1 : decode cX11_night 1 = .ok (.iconst 0, 1) := by decide +kernel
theorem dX11_night_2 : decode cX11_night 2 = .ok (.putfield 153, 3) := by decide +kernel
theorem dX11_night_5 : decode cX11_night 5 = .ok (.aload_n 0, 1) := by decide +kernel
theorem dX11_night_6 : decode cX11_night 6 = .ok (.invokevirtual 407, 3) := by decide +kernel
theorem dX11_night_9 : decode cX11_night 9 = .ok (.aload_n 0, 1) := by decide +kernel
theorem dX11_night_10 : decode cX11_night 10 = .ok (.invokevirtual 410, 3) := by decide +kernel
theorem dX11_night_13 : decode cX11_night 13 = .ok (.ireturn, 1) := by decide +kernel
theorem dX11_heat_0 : decode cX11_heat 0 = .ok (.aload_n 0, 1) := by decide +kernel
theorem dX11_heat_1 : decode cX11_heat 1 = .ok (.iconst 0, 1) := by decide +kernel
theorem dX11_heat_2 : decode cX11_heat 2 = .ok (.putfield 153, 3) := by decide +kernel
theorem dX11_heat_5 : decode cX11_heat 5 = .ok (.aload_n 0, 1) := by decide +kernel
theorem dX11_heat_6 : decode cX11_heat 6 = .ok (.iload_n 1, 1) := by decide +kernel
theorem dX11_heat_7 : decode cX11_heat 7 = .ok (.invokevirtual 397, 3) := by decide +kernel
theorem dX11_heat_10 : decode cX11_heat 10 = .ok (.ifCond .eq 13, 3) := by decide +kernel
theorem dX11_heat_13 : decode cX11_heat 13 = .ok (.iload_n 2, 1) := by decide +kernel
theorem dX11_heat_14 : decode cX11_heat 14 = .ok (.iconst 0, 1) := by decide +kernel
theorem dX11_heat_15 : decode cX11_heat 15 = .ok (.bipush 9, 2) := by decide +kernel
theorem dX11_heat_17 : decode cX11_heat 17 = .ok (.invokestatic 274, 3) := by decide +kernel
theorem dX11_heat_20 : decode cX11_heat 20 = .ok (.ifCond .ne 5, 3) := by decide +kernel
theorem dX11_heat_23 : decode cX11_heat 23 = .ok (.iconst (-1), 1) := by decide +kernel
theorem dX11_heat_24 : decode cX11_heat 24 = .ok (.ireturn, 1) := by decide +kernel
theorem dX11_heat_25 : decode cX11_heat 25 = .ok (.aload_n 0, 1) := by decide +kernel
theorem dX11_heat_26 : decode cX11_heat 26 = .ok (.invokevirtual 407, 3) := by decide +kernel
theorem dX11_heat_29 : decode cX11_heat 29 = .ok (.aload_n 0, 1) := by decide +kernel
theorem dX11_heat_30 : decode cX11_heat 30 = .ok (.getfield 114, 3) := by decide +kernel
theorem dX11_heat_33 : decode cX11_heat 33 = .ok (.iconst 2, 1) := by decide +kernel
theorem dX11_heat_34 : decode cX11_heat 34 = .ok (.iload_n 1, 1) := by decide +kernel
theorem dX11_heat_35 : decode cX11_heat 35 = .ok (.iadd, 1) := by decide +kernel
theorem dX11_heat_36 : decode cX11_heat 36 = .ok (.iaload, 1) := by decide +kernel
theorem dX11_heat_37 : decode cX11_heat 37 = .ok (.istore_n 3, 1) := by decide +kernel
theorem dX11_heat_38 : decode cX11_heat 38 = .ok (.aload_n 0, 1) := by decide +kernel
theorem dX11_heat_39 : decode cX11_heat 39 = .ok (.getfield 114, 3) := by decide +kernel
theorem dX11_heat_42 : decode cX11_heat 42 = .ok (.iconst 2, 1) := by decide +kernel
theorem dX11_heat_43 : decode cX11_heat 43 = .ok (.iload_n 1, 1) := by decide +kernel
theorem dX11_heat_44 : decode cX11_heat 44 = .ok (.iadd, 1) := by decide +kernel
theorem dX11_heat_45 : decode cX11_heat 45 = .ok (.iload_n 2, 1) := by decide +kernel
theorem dX11_heat_46 : decode cX11_heat 46 = .ok (.iastore, 1) := by decide +kernel
theorem dX11_heat_47 : decode cX11_heat 47 = .ok (.iload_n 3, 1) := by decide +kernel
theorem dX11_heat_48 : decode cX11_heat 48 = .ok (.ireturn, 1) := by decide +kernel
theorem dX11_light_0 : decode cX11_light 0 = .ok (.aload_n 0, 1) := by decide +kernel
theorem dX11_light_1 : decode cX11_light 1 = .ok (.iconst 0, 1) := by decide +kernel
theorem dX11_light_2 : decode cX11_light 2 = .ok (.putfield 153, 3) := by decide +kernel
theorem dX11_light_5 : decode cX11_light 5 = .ok (.aload_n 0, 1) := by decide +kernel
theorem dX11_light_6 : decode cX11_light 6 = .ok (.iload_n 1, 1) := by decide +kernel
theorem dX11_light_7 : decode cX11_light 7 = .ok (.invokevirtual 397, 3) := by decide +kernel
theorem dX11_light_10 : decode cX11_light 10 = .ok (.ifCond .eq 11, 3) := by decide +kernel
theorem dX11_light_13 : decode cX11_light 13 = .ok (.aload_n 0, 1) := by decide +kernel
theorem dX11_light_14 : decode cX11_light 14 = .ok (.iload_n 1, 1) := by decide +kernel
theorem dX11_light_15 : decode cX11_light 15 = .ok (.invokevirtual 363, 3) := by decide +kernel
theorem dX11_light_18 : decode cX11_light 18 = .ok (.ifCond .eq 5, 3) := by decide +kernel
theorem dX11_light_21 : decode cX11_light 21 = .ok (.iconst 0, 1) := by decide +kernel
theorem dX11_light_22 : decode cX11_light 22 = .ok (.ireturn, 1) := by decide +kernel
theorem dX11_light_23 : decode cX11_light 23 = .ok (.aload_n 0, 1) := by decide +kernel
theorem dX11_light_24 : decode cX11_light 24 = .ok (.invokevirtual 407, 3) := by decide +kernel
theorem dX11_light_27 : decode cX11_light 27 = .ok (.aload_n 0, 1) := by decide +kernel
theorem dX11_light_28 : decode cX11_light 28 = .ok (.getfield 114, 3) := by decide +kernel
theorem dX11_light_31 : decode cX11_light 31 = .ok (.iconst 1, 1) := by decide +kernel
theorem dX11_light_32 : decode cX11_light 32 = .ok (.dup2, 1) := by decide +kernel
theorem dX11_light_33 : decode cX11_light 33 = .ok (.iaload, 1) := by decide +kernel
theorem dX11_light_34 : decode cX11_light 34 = .ok (.iconst 1, 1) := by decide +kernel
theorem dX11_light_35 : decode cX11_light 35 = .ok (.iload_n 1, 1) := by decide +kernel
theorem dX11_light_36 : decode cX11_light 36 = .ok (.ishl, 1) := by decide +kernel
theorem dX11_light_37 : decode cX11_light 37 = .ok (.ior, 1) := by decide +kernel
theorem dX11_light_38 : decode cX11_light 38 = .ok (.iastore, 1) := by decide +kernel
theorem dX11_light_39 : decode cX11_light 39 = .ok (.iconst 1, 1) := by decide +kernel
theorem dX11_light_40 : decode cX11_light 40 = .ok (.ireturn, 1) := by decide +kernel
theorem dX11_canPull_0 : decode cX11_canPull 0 = .ok (.aload_n 0, 1) := by decide +kernel
theorem dX11_canPull_1 : decode cX11_canPull 1 = .ok (.getfield 114, 3) := by decide +kernel
theorem dX11_canPull_4 : decode cX11_canPull 4 = .ok (.bipush 14, 2) := by decide +kernel
theorem dX11_canPull_6 : decode cX11_canPull 6 = .ok (.iload_n 1, 1) := by decide +kernel
theorem dX11_canPull_7 : decode cX11_canPull 7 = .ok (.iadd, 1) := by decide +kernel
theorem dX11_canPull_8 : decode cX11_canPull 8 = .ok (.iaload, 1) := by decide +kernel
theorem dX11_canPull_9 : decode cX11_canPull 9 = .ok (.bipush 10, 2) := by decide +kernel
theorem dX11_canPull_11 : decode cX11_canPull 11 = .ok (.if_icmp .lt 20, 3) := by decide +kernel
theorem dX11_canPull_14 : decode cX11_canPull 14 = .ok (.aload_n 0, 1) := by decide +kernel
theorem dX11_canPull_15 : decode cX11_canPull 15 = .ok (.getfield 114, 3) := by decide +kernel
theorem dX11_canPull_18 : decode cX11_canPull 18 = .ok (.bipush 8, 2) := by decide +kernel
theorem dX11_canPull_20 : decode cX11_canPull 20 = .ok (.iload_n 1, 1) := by decide +kernel
theorem dX11_canPull_21 : decode cX11_canPull 21 = .ok (.iadd, 1) := by decide +kernel
theorem dX11_canPull_22 : decode cX11_canPull 22 = .ok (.iaload, 1) := by decide +kernel
theorem dX11_canPull_23 : decode cX11_canPull 23 = .ok (.iload_n 2, 1) := by decide +kernel
theorem dX11_canPull_24 : decode cX11_canPull 24 = .ok (.if_icmp .lt 7, 3) := by decide +kernel
theorem dX11_canPull_27 : decode cX11_canPull 27 = .ok (.iconst 1, 1) := by decide +kernel
theorem dX11_canPull_28 : decode cX11_canPull 28 = .ok (.goto 4, 3) := by decide +kernel
theorem dX11_canPull_31 : decode cX11_canPull 31 = .ok (.iconst 0, 1) := by decide +kernel
theorem dX11_canPull_32 : decode cX11_canPull 32 = .ok (.ireturn, 1) := by decide +kernel
theorem dX11_pulls_0 : decode cX11_pulls 0 = .ok (.aload_n 0, 1) := by decide +kernel
theorem dX11_pulls_1 : decode cX11_pulls 1 = .ok (.getfield 114, 3) := by decide +kernel
theorem dX11_pulls_4 : decode cX11_pulls 4 = .ok (.bipush 8, 2) := by decide +kernel
theorem dX11_pulls_6 : decode cX11_pulls 6 = .ok (.iload_n 1, 1) := by decide +kernel
theorem dX11_pulls_7 : decode cX11_pulls 7 = .ok (.iadd, 1) := by decide +kernel
theorem dX11_pulls_8 : decode cX11_pulls 8 = .ok (.dup2, 1) := by decide +kernel
theorem dX11_pulls_9 : decode cX11_pulls 9 = .ok (.iaload, 1) := by decide +kernel
theorem dX11_pulls_10 : decode cX11_pulls 10 = .ok (.iload_n 2, 1) := by decide +kernel
theorem dX11_pulls_11 : decode cX11_pulls 11 = .ok (.isub, 1) := by decide +kernel
theorem dX11_pulls_12 : decode cX11_pulls 12 = .ok (.iastore, 1) := by decide +kernel
theorem dX11_pulls_13 : decode cX11_pulls 13 = .ok (.aload_n 0, 1) := by decide +kernel
theorem dX11_pulls_14 : decode cX11_pulls 14 = .ok (.getfield 114, 3) := by decide +kernel
theorem dX11_pulls_17 : decode cX11_pulls 17 = .ok (.bipush 8, 2) := by decide +kernel
theorem dX11_pulls_19 : decode cX11_pulls 19 = .ok (.iload_n 1, 1) := by decide +kernel
theorem dX11_pulls_20 : decode cX11_pulls 20 = .ok (.iadd, 1) := by decide +kernel
theorem dX11_pulls_21 : decode cX11_pulls 21 = .ok (.iaload, 1) := by decide +kernel
theorem dX11_pulls_22 : decode cX11_pulls 22 = .ok (.ifCond .ne 13, 3) := by decide +kernel
theorem dX11_pulls_25 : decode cX11_pulls 25 = .ok (.aload_n 0, 1) := by decide +kernel
theorem dX11_pulls_26 : decode cX11_pulls 26 = .ok (.getfield 114, 3) := by decide +kernel
theorem dX11_pulls_29 : decode cX11_pulls 29 = .ok (.bipush 14, 2) := by decide +kernel
theorem dX11_pulls_31 : decode cX11_pulls 31 = .ok (.iload_n 1, 1) := by decide +kernel
theorem dX11_pulls_32 : decode cX11_pulls 32 = .ok (.iadd, 1) := by decide +kernel
theorem dX11_pulls_33 : decode cX11_pulls 33 = .ok (.iconst 0, 1) := by decide +kernel
theorem dX11_pulls_34 : decode cX11_pulls 34 = .ok (.iastore, 1) := by decide +kernel
theorem dX11_pulls_35 : decode cX11_pulls 35 = .ok (.return_, 1) := by decide +kernel
theorem dX11_pull_0 : decode cX11_pull 0 = .ok (.aload_n 0, 1) := by decide +kernel
theorem dX11_pull_1 : decode cX11_pull 1 = .ok (.iconst 0, 1) := by decide +kernel
theorem dX11_pull_2 : decode cX11_pull 2 = .ok (.putfield 153, 3) := by decide +kernel
theorem dX11_pull_5 : decode cX11_pull 5 = .ok (.aload_n 0, 1) := by decide +kernel
theorem dX11_pull_6 : decode cX11_pull 6 = .ok (.iload_n 1, 1) := by decide +kernel
theorem dX11_pull_7 : decode cX11_pull 7 = .ok (.invokevirtual 397, 3) := by decide +kernel
theorem dX11_pull_10 : decode cX11_pull 10 = .ok (.ifCond .eq 22, 3) := by decide +kernel
theorem dX11_pull_13 : decode cX11_pull 13 = .ok (.iload_n 2, 1) := by decide +kernel
theorem dX11_pull_14 : decode cX11_pull 14 = .ok (.iconst 1, 1) := by decide +kernel
theorem dX11_pull_15 : decode cX11_pull 15 = .ok (.bipush 20, 2) := by decide +kernel
theorem dX11_pull_17 : decode cX11_pull 17 = .ok (.invokestatic 274, 3) := by decide +kernel
theorem dX11_pull_20 : decode cX11_pull 20 = .ok (.ifCond .eq 12, 3) := by decide +kernel
theorem dX11_pull_23 : decode cX11_pull 23 = .ok (.aload_n 0, 1) := by decide +kernel
theorem dX11_pull_24 : decode cX11_pull 24 = .ok (.iload_n 1, 1) := by decide +kernel
theorem dX11_pull_25 : decode cX11_pull 25 = .ok (.iload_n 2, 1) := by decide +kernel
theorem dX11_pull_26 : decode cX11_pull 26 = .ok (.invokevirtual 413, 3) := by decide +kernel
theorem dX11_pull_29 : decode cX11_pull 29 = .ok (.ifCond .ne 5, 3) := by decide +kernel
theorem dX11_pull_32 : decode cX11_pull 32 = .ok (.iconst (-1), 1) := by decide +kernel
theorem dX11_pull_33 : decode cX11_pull 33 = .ok (.ireturn, 1) := by decide +kernel
theorem dX11_pull_34 : decode cX11_pull 34 = .ok (.aload_n 0, 1) := by decide +kernel
theorem dX11_pull_35 : decode cX11_pull 35 = .ok (.invokevirtual 407, 3) := by decide +kernel
theorem dX11_pull_38 : decode cX11_pull 38 = .ok (.aload_n 0, 1) := by decide +kernel
theorem dX11_pull_39 : decode cX11_pull 39 = .ok (.iload_n 1, 1) := by decide +kernel
theorem dX11_pull_40 : decode cX11_pull 40 = .ok (.iload_n 2, 1) := by decide +kernel
theorem dX11_pull_41 : decode cX11_pull 41 = .ok (.invokevirtual 416, 3) := by decide +kernel
theorem dX11_pull_44 : decode cX11_pull 44 = .ok (.aload_n 0, 1) := by decide +kernel
theorem dX11_pull_45 : decode cX11_pull 45 = .ok (.getfield 114, 3) := by decide +kernel
theorem dX11_pull_48 : decode cX11_pull 48 = .ok (.bipush 8, 2) := by decide +kernel
theorem dX11_pull_50 : decode cX11_pull 50 = .ok (.iload_n 1, 1) := by decide +kernel
theorem dX11_pull_51 : decode cX11_pull 51 = .ok (.iadd, 1) := by decide +kernel
theorem dX11_pull_52 : decode cX11_pull 52 = .ok (.iaload, 1) := by decide +kernel
theorem dX11_pull_53 : decode cX11_pull 53 = .ok (.ireturn, 1) := by decide +kernel
theorem dX11_undo_0 : decode cX11_undo 0 = .ok (.aload_n 0, 1) := by decide +kernel
theorem dX11_undo_1 : decode cX11_undo 1 = .ok (.iconst 0, 1) := by decide +kernel
theorem dX11_undo_2 : decode cX11_undo 2 = .ok (.putfield 153, 3) := by decide +kernel
theorem dX11_undo_5 : decode cX11_undo 5 = .ok (.aload_n 0, 1) := by decide +kernel
theorem dX11_undo_6 : decode cX11_undo 6 = .ok (.getfield 353, 3) := by decide +kernel
theorem dX11_undo_9 : decode cX11_undo 9 = .ok (.ifCond .ne 5, 3) := by decide +kernel
theorem dX11_undo_12 : decode cX11_undo 12 = .ok (.iconst 0, 1) := by decide +kernel
theorem dX11_undo_13 : decode cX11_undo 13 = .ok (.ireturn, 1) := by decide +kernel
theorem dX11_undo_14 : decode cX11_undo 14 = .ok (.aload_n 0, 1) := by decide +kernel
theorem dX11_undo_15 : decode cX11_undo 15 = .ok (.dup, 1) := by decide +kernel
theorem dX11_undo_16 : decode cX11_undo 16 = .ok (.getfield 353, 3) := by decide +kernel
theorem dX11_undo_19 : decode cX11_undo 19 = .ok (.iconst 1, 1) := by decide +kernel
theorem dX11_undo_20 : decode cX11_undo 20 = .ok (.isub, 1) := by decide +kernel
theorem dX11_undo_21 : decode cX11_undo 21 = .ok (.putfield 353, 3) := by decide +kernel
theorem dX11_undo_24 : decode cX11_undo 24 = .ok (.aload_n 0, 1) := by decide +kernel
theorem dX11_undo_25 : decode cX11_undo 25 = .ok (.getfield 129, 3) := by decide +kernel
theorem dX11_undo_28 : decode cX11_undo 28 = .ok (.bipush 26, 2) := by decide +kernel
theorem dX11_undo_30 : decode cX11_undo 30 = .ok (.aload_n 0, 1) := by decide +kernel
theorem dX11_undo_31 : decode cX11_undo 31 = .ok (.getfield 353, 3) := by decide +kernel
theorem dX11_undo_34 : decode cX11_undo 34 = .ok (.imul, 1) := by decide +kernel
theorem dX11_undo_35 : decode cX11_undo 35 = .ok (.aload_n 0, 1) := by decide +kernel
theorem dX11_undo_36 : decode cX11_undo 36 = .ok (.getfield 114, 3) := by decide +kernel
theorem dX11_undo_39 : decode cX11_undo 39 = .ok (.iconst 0, 1) := by decide +kernel
theorem dX11_undo_40 : decode cX11_undo 40 = .ok (.invokestatic 403, 3) := by decide +kernel
theorem dX11_undo_43 : decode cX11_undo 43 = .ok (.iconst 1, 1) := by decide +kernel
theorem dX11_undo_44 : decode cX11_undo 44 = .ok (.ireturn, 1) := by decide +kernel
theorem dX11_judged_0 : decode cX11_judged 0 = .ok (.aload_n 0, 1) := by decide +kernel
theorem dX11_judged_1 : decode cX11_judged 1 = .ok (.iconst 0, 1) := by decide +kernel
theorem dX11_judged_2 : decode cX11_judged 2 = .ok (.putfield 153, 3) := by decide +kernel
theorem dX11_judged_5 : decode cX11_judged 5 = .ok (.iload_n 1, 1) := by decide +kernel
theorem dX11_judged_6 : decode cX11_judged 6 = .ok (.iconst 0, 1) := by decide +kernel
theorem dX11_judged_7 : decode cX11_judged 7 = .ok (.iconst 2, 1) := by decide +kernel
theorem dX11_judged_8 : decode cX11_judged 8 = .ok (.invokestatic 274, 3) := by decide +kernel
theorem dX11_judged_11 : decode cX11_judged 11 = .ok (.ifCond .ne 6, 3) := by decide +kernel
theorem dX11_judged_14 : decode cX11_judged 14 = .ok (.bipush (-2), 2) := by decide +kernel
theorem dX11_judged_16 : decode cX11_judged 16 = .ok (.ireturn, 1) := by decide +kernel
theorem dX11_judged_17 : decode cX11_judged 17 = .ok (.aload_n 0, 1) := by decide +kernel
theorem dX11_judged_18 : decode cX11_judged 18 = .ok (.getfield 114, 3) := by decide +kernel
theorem dX11_judged_21 : decode cX11_judged 21 = .ok (.iconst 0, 1) := by decide +kernel
theorem dX11_judged_22 : decode cX11_judged 22 = .ok (.aload_n 0, 1) := by decide +kernel
theorem dX11_judged_23 : decode cX11_judged 23 = .ok (.getfield 117, 3) := by decide +kernel
theorem dX11_judged_26 : decode cX11_judged 26 = .ok (.iconst 0, 1) := by decide +kernel
theorem dX11_judged_27 : decode cX11_judged 27 = .ok (.invokestatic 403, 3) := by decide +kernel
theorem dX11_judged_30 : decode cX11_judged 30 = .ok (.aload_n 0, 1) := by decide +kernel
theorem dX11_judged_31 : decode cX11_judged 31 = .ok (.invokevirtual 150, 3) := by decide +kernel
theorem dX11_judged_34 : decode cX11_judged 34 = .ok (.iconst (-1), 1) := by decide +kernel
theorem dX11_judged_35 : decode cX11_judged 35 = .ok (.istore_n 2, 1) := by decide +kernel
theorem dX11_judged_36 : decode cX11_judged 36 = .ok (.iconst (-1), 1) := by decide +kernel
theorem dX11_judged_37 : decode cX11_judged 37 = .ok (.istore_n 3, 1) := by decide +kernel
theorem dX11_judged_38 : decode cX11_judged 38 = .ok (.iconst 0, 1) := by decide +kernel
theorem dX11_judged_39 : decode cX11_judged 39 = .ok (.istore 4, 2) := by decide +kernel
theorem dX11_judged_41 : decode cX11_judged 41 = .ok (.iload 4, 2) := by decide +kernel
theorem dX11_judged_43 : decode cX11_judged 43 = .ok (.aload_n 0, 1) := by decide +kernel
theorem dX11_judged_44 : decode cX11_judged 44 = .ok (.getfield 90, 3) := by decide +kernel
theorem dX11_judged_47 : decode cX11_judged 47 = .ok (.iconst 0, 1) := by decide +kernel
theorem dX11_judged_48 : decode cX11_judged 48 = .ok (.iaload, 1) := by decide +kernel
theorem dX11_judged_49 : decode cX11_judged 49 = .ok (.if_icmp .ge 166, 3) := by decide +kernel
theorem dX11_judged_52 : decode cX11_judged 52 = .ok (.aload_n 0, 1) := by decide +kernel
theorem dX11_judged_53 : decode cX11_judged 53 = .ok (.getfield 96, 3) := by decide +kernel
theorem dX11_judged_56 : decode cX11_judged 56 = .ok (.iload 4, 2) := by decide +kernel
theorem dX11_judged_58 : decode cX11_judged 58 = .ok (.iaload, 1) := by decide +kernel
theorem dX11_judged_59 : decode cX11_judged 59 = .ok (.istore 5, 2) := by decide +kernel
theorem dX11_judged_61 : decode cX11_judged 61 = .ok (.iconst 1, 1) := by decide +kernel
theorem dX11_judged_62 : decode cX11_judged 62 = .ok (.istore 6, 2) := by decide +kernel
theorem dX11_judged_64 : decode cX11_judged 64 = .ok (.aload_n 0, 1) := by decide +kernel
theorem dX11_judged_65 : decode cX11_judged 65 = .ok (.getfield 93, 3) := by decide +kernel
theorem dX11_judged_68 : decode cX11_judged 68 = .ok (.iload 4, 2) := by decide +kernel
theorem dX11_judged_70 : decode cX11_judged 70 = .ok (.iaload, 1) := by decide +kernel
theorem dX11_judged_71 : decode cX11_judged 71 = .ok (.ifCond .ne 20, 3) := by decide +kernel
theorem dX11_judged_74 : decode cX11_judged 74 = .ok (.aload_n 0, 1) := by decide +kernel
theorem dX11_judged_75 : decode cX11_judged 75 = .ok (.invokevirtual 410, 3) := by decide +kernel
theorem dX11_judged_78 : decode cX11_judged 78 = .ok (.ifCond .eq 119, 3) := by decide +kernel
theorem dX11_judged_81 : decode cX11_judged 81 = .ok (.iload_n 3, 1) := by decide +kernel
theorem dX11_judged_82 : decode cX11_judged 82 = .ok (.ifCond .ge 115, 3) := by decide +kernel
theorem dX11_judged_85 : decode cX11_judged 85 = .ok (.iload 4, 2) := by decide +kernel
theorem dX11_judged_87 : decode cX11_judged 87 = .ok (.istore_n 3, 1) := by decide +kernel
theorem dX11_judged_88 : decode cX11_judged 88 = .ok (.goto 109, 3) := by decide +kernel
theorem dX11_judged_91 : decode cX11_judged 91 = .ok (.aload_n 0, 1) := by decide +kernel
theorem dX11_judged_92 : decode cX11_judged 92 = .ok (.getfield 93, 3) := by decide +kernel
theorem dX11_judged_95 : decode cX11_judged 95 = .ok (.iload 4, 2) := by decide +kernel
theorem dX11_judged_97 : decode cX11_judged 97 = .ok (.iaload, 1) := by decide +kernel
theorem dX11_judged_98 : decode cX11_judged 98 = .ok (.iconst 1, 1) := by decide +kernel
theorem dX11_judged_99 : decode cX11_judged 99 = .ok (.if_icmp .ne 22, 3) := by decide +kernel
theorem dX11_judged_102 : decode cX11_judged 102 = .ok (.aload_n 0, 1) := by decide +kernel
theorem dX11_judged_103 : decode cX11_judged 103 = .ok (.getfield 114, 3) := by decide +kernel
theorem dX11_judged_106 : decode cX11_judged 106 = .ok (.iconst 2, 1) := by decide +kernel
theorem dX11_judged_107 : decode cX11_judged 107 = .ok (.iload 5, 2) := by decide +kernel
theorem dX11_judged_109 : decode cX11_judged 109 = .ok (.iadd, 1) := by decide +kernel
theorem dX11_judged_110 : decode cX11_judged 110 = .ok (.aload_n 0, 1) := by decide +kernel
theorem dX11_judged_111 : decode cX11_judged 111 = .ok (.getfield 99, 3) := by decide +kernel
theorem dX11_judged_114 : decode cX11_judged 114 = .ok (.iload 4, 2) := by decide +kernel
theorem dX11_judged_116 : decode cX11_judged 116 = .ok (.iaload, 1) := by decide +kernel
theorem dX11_judged_117 : decode cX11_judged 117 = .ok (.iastore, 1) := by decide +kernel
theorem dX11_judged_118 : decode cX11_judged 118 = .ok (.goto 79, 3) := by decide +kernel
theorem dX11_judged_121 : decode cX11_judged 121 = .ok (.aload_n 0, 1) := by decide +kernel
theorem dX11_judged_122 : decode cX11_judged 122 = .ok (.getfield 93, 3) := by decide +kernel
theorem dX11_judged_125 : decode cX11_judged 125 = .ok (.iload 4, 2) := by decide +kernel
theorem dX11_judged_127 : decode cX11_judged 127 = .ok (.iaload, 1) := by decide +kernel
theorem dX11_judged_128 : decode cX11_judged 128 = .ok (.iconst 2, 1) := by decide +kernel
theorem dX11_judged_129 : decode cX11_judged 129 = .ok (.if_icmp .ne 35, 3) := by decide +kernel
theorem dX11_judged_132 : decode cX11_judged 132 = .ok (.aload_n 0, 1) := by decide +kernel
theorem dX11_judged_133 : decode cX11_judged 133 = .ok (.iload 5, 2) := by decide +kernel
theorem dX11_judged_135 : decode cX11_judged 135 = .ok (.invokevirtual 363, 3) := by decide +kernel
theorem dX11_judged_138 : decode cX11_judged 138 = .ok (.ifCond .ne 7, 3) := by decide +kernel
theorem dX11_judged_141 : decode cX11_judged 141 = .ok (.iconst 1, 1) := by decide +kernel
theorem dX11_judged_142 : decode cX11_judged 142 = .ok (.goto 4, 3) := by decide +kernel
theorem dX11_judged_145 : decode cX11_judged 145 = .ok (.iconst 0, 1) := by decide +kernel
theorem dX11_judged_146 : decode cX11_judged 146 = .ok (.istore 6, 2) := by decide +kernel
theorem dX11_judged_148 : decode cX11_judged 148 = .ok (.aload_n 0, 1) := by decide +kernel
theorem dX11_judged_149 : decode cX11_judged 149 = .ok (.getfield 114, 3) := by decide +kernel
theorem dX11_judged_152 : decode cX11_judged 152 = .ok (.iconst 1, 1) := by decide +kernel
theorem dX11_judged_153 : decode cX11_judged 153 = .ok (.dup2, 1) := by decide +kernel
theorem dX11_judged_154 : decode cX11_judged 154 = .ok (.iaload, 1) := by decide +kernel
theorem dX11_judged_155 : decode cX11_judged 155 = .ok (.iconst 1, 1) := by decide +kernel
theorem dX11_judged_156 : decode cX11_judged 156 = .ok (.iload 5, 2) := by decide +kernel
theorem dX11_judged_158 : decode cX11_judged 158 = .ok (.ishl, 1) := by decide +kernel
theorem dX11_judged_159 : decode cX11_judged 159 = .ok (.ior, 1) := by decide +kernel
theorem dX11_judged_160 : decode cX11_judged 160 = .ok (.iastore, 1) := by decide +kernel
theorem dX11_judged_161 : decode cX11_judged 161 = .ok (.goto 36, 3) := by decide +kernel
theorem dX11_judged_164 : decode cX11_judged 164 = .ok (.aload_n 0, 1) := by decide +kernel
theorem dX11_judged_165 : decode cX11_judged 165 = .ok (.iload 5, 2) := by decide +kernel
theorem dX11_judged_167 : decode cX11_judged 167 = .ok (.aload_n 0, 1) := by decide +kernel
theorem dX11_judged_168 : decode cX11_judged 168 = .ok (.getfield 99, 3) := by decide +kernel
theorem dX11_judged_171 : decode cX11_judged 171 = .ok (.iload 4, 2) := by decide +kernel
theorem dX11_judged_173 : decode cX11_judged 173 = .ok (.iaload, 1) := by decide +kernel
theorem dX11_judged_174 : decode cX11_judged 174 = .ok (.invokevirtual 413, 3) := by decide +kernel
theorem dX11_judged_177 : decode cX11_judged 177 = .ok (.istore 6, 2) := by decide +kernel
theorem dX11_judged_179 : decode cX11_judged 179 = .ok (.iload 6, 2) := by decide +kernel
theorem dX11_judged_181 : decode cX11_judged 181 = .ok (.ifCond .eq 16, 3) := by decide +kernel
theorem dX11_judged_184 : decode cX11_judged 184 = .ok (.aload_n 0, 1) := by decide +kernel
theorem dX11_judged_185 : decode cX11_judged 185 = .ok (.iload 5, 2) := by decide +kernel
theorem dX11_judged_187 : decode cX11_judged 187 = .ok (.aload_n 0, 1) := by decide +kernel
theorem dX11_judged_188 : decode cX11_judged 188 = .ok (.getfield 99, 3) := by decide +kernel
theorem dX11_judged_191 : decode cX11_judged 191 = .ok (.iload 4, 2) := by decide +kernel
theorem dX11_judged_193 : decode cX11_judged 193 = .ok (.iaload, 1) := by decide +kernel
theorem dX11_judged_194 : decode cX11_judged 194 = .ok (.invokevirtual 416, 3) := by decide +kernel
theorem dX11_judged_197 : decode cX11_judged 197 = .ok (.iload 6, 2) := by decide +kernel
theorem dX11_judged_199 : decode cX11_judged 199 = .ok (.ifCond .ne 10, 3) := by decide +kernel
theorem dX11_judged_202 : decode cX11_judged 202 = .ok (.iload_n 2, 1) := by decide +kernel
theorem dX11_judged_203 : decode cX11_judged 203 = .ok (.ifCond .ge 6, 3) := by decide +kernel
theorem dX11_judged_206 : decode cX11_judged 206 = .ok (.iload 4, 2) := by decide +kernel
theorem dX11_judged_208 : decode cX11_judged 208 = .ok (.istore_n 2, 1) := by decide +kernel
theorem dX11_judged_209 : decode cX11_judged 209 = .ok (.iinc 4 1, 3) := by decide +kernel
theorem dX11_judged_212 : decode cX11_judged 212 = .ok (.goto (-171), 3) := by decide +kernel
theorem dX11_judged_215 : decode cX11_judged 215 = .ok (.aload_n 0, 1) := by decide +kernel
theorem dX11_judged_216 : decode cX11_judged 216 = .ok (.invokevirtual 419, 3) := by decide +kernel
theorem dX11_judged_219 : decode cX11_judged 219 = .ok (.istore 4, 2) := by decide +kernel
theorem dX11_judged_221 : decode cX11_judged 221 = .ok (.aload_n 0, 1) := by decide +kernel
theorem dX11_judged_222 : decode cX11_judged 222 = .ok (.getfield 117, 3) := by decide +kernel
theorem dX11_judged_225 : decode cX11_judged 225 = .ok (.iconst 0, 1) := by decide +kernel
theorem dX11_judged_226 : decode cX11_judged 226 = .ok (.aload_n 0, 1) := by decide +kernel
theorem dX11_judged_227 : decode cX11_judged 227 = .ok (.getfield 114, 3) := by decide +kernel
theorem dX11_judged_230 : decode cX11_judged 230 = .ok (.iconst 0, 1) := by decide +kernel
theorem dX11_judged_231 : decode cX11_judged 231 = .ok (.invokestatic 403, 3) := by decide +kernel
theorem dX11_judged_234 : decode cX11_judged 234 = .ok (.iload_n 1, 1) := by decide +kernel
theorem dX11_judged_235 : decode cX11_judged 235 = .ok (.ifCond .ne 7, 3) := by decide +kernel
theorem dX11_judged_238 : decode cX11_judged 238 = .ok (.iload_n 2, 1) := by decide +kernel
theorem dX11_judged_239 : decode cX11_judged 239 = .ok (.goto 14, 3) := by decide +kernel
theorem dX11_judged_242 : decode cX11_judged 242 = .ok (.iload_n 1, 1) := by decide +kernel
theorem dX11_judged_243 : decode cX11_judged 243 = .ok (.iconst 1, 1) := by decide +kernel
theorem dX11_judged_244 : decode cX11_judged 244 = .ok (.if_icmp .ne 7, 3) := by decide +kernel
theorem dX11_judged_247 : decode cX11_judged 247 = .ok (.iload_n 3, 1) := by decide +kernel
theorem dX11_judged_248 : decode cX11_judged 248 = .ok (.goto 5, 3) := by decide +kernel
theorem dX11_judged_251 : decode cX11_judged 251 = .ok (.iload 4, 2) := by decide +kernel
theorem dX11_judged_253 : decode cX11_judged 253 = .ok (.ireturn, 1) := by decide +kernel
theorem dX11_later_0 : decode cX11_later 0 = .ok (.aload_n 0, 1) := by decide +kernel
theorem dX11_later_1 : decode cX11_later 1 = .ok (.iconst 0, 1) := by decide +kernel
theorem dX11_later_2 : decode cX11_later 2 = .ok (.putfield 153, 3) := by decide +kernel
theorem dX11_later_5 : decode cX11_later 5 = .ok (.aload_n 0, 1) := by decide +kernel
theorem dX11_later_6 : decode cX11_later 6 = .ok (.iload_n 1, 1) := by decide +kernel
theorem dX11_later_7 : decode cX11_later 7 = .ok (.invokevirtual 397, 3) := by decide +kernel
theorem dX11_later_10 : decode cX11_later 10 = .ok (.ifCond .eq 13, 3) := by decide +kernel
theorem dX11_later_13 : decode cX11_later 13 = .ok (.iload_n 2, 1) := by decide +kernel
theorem dX11_later_14 : decode cX11_later 14 = .ok (.iconst 0, 1) := by decide +kernel
theorem dX11_later_15 : decode cX11_later 15 = .ok (.bipush 60, 2) := by decide +kernel
theorem dX11_later_17 : decode cX11_later 17 = .ok (.invokestatic 274, 3) := by decide +kernel
theorem dX11_later_20 : decode cX11_later 20 = .ok (.ifCond .ne 5, 3) := by decide +kernel
theorem dX11_later_23 : decode cX11_later 23 = .ok (.iconst (-1), 1) := by decide +kernel
theorem dX11_later_24 : decode cX11_later 24 = .ok (.ireturn, 1) := by decide +kernel
theorem dX11_later_25 : decode cX11_later 25 = .ok (.aload_n 0, 1) := by decide +kernel
theorem dX11_later_26 : decode cX11_later 26 = .ok (.getfield 114, 3) := by decide +kernel
theorem dX11_later_29 : decode cX11_later 29 = .ok (.iconst 0, 1) := by decide +kernel
theorem dX11_later_30 : decode cX11_later 30 = .ok (.aload_n 0, 1) := by decide +kernel
theorem dX11_later_31 : decode cX11_later 31 = .ok (.getfield 120, 3) := by decide +kernel
theorem dX11_later_34 : decode cX11_later 34 = .ok (.iconst 0, 1) := by decide +kernel
theorem dX11_later_35 : decode cX11_later 35 = .ok (.invokestatic 403, 3) := by decide +kernel
theorem dX11_later_38 : decode cX11_later 38 = .ok (.iconst 0, 1) := by decide +kernel
theorem dX11_later_39 : decode cX11_later 39 = .ok (.istore_n 3, 1) := by decide +kernel
theorem dX11_later_40 : decode cX11_later 40 = .ok (.iload_n 3, 1) := by decide +kernel
theorem dX11_later_41 : decode cX11_later 41 = .ok (.iload_n 2, 1) := by decide +kernel
theorem dX11_later_42 : decode cX11_later 42 = .ok (.if_icmp .ge 14, 3) := by decide +kernel
theorem dX11_later_45 : decode cX11_later 45 = .ok (.aload_n 0, 1) := by decide +kernel
theorem dX11_later_46 : decode cX11_later 46 = .ok (.invokevirtual 410, 3) := by decide +kernel
theorem dX11_later_49 : decode cX11_later 49 = .ok (.pop, 1) := by decide +kernel
theorem dX11_later_50 : decode cX11_later 50 = .ok (.iinc 3 1, 3) := by decide +kernel
theorem dX11_later_53 : decode cX11_later 53 = .ok (.goto (-13), 3) := by decide +kernel
theorem dX11_later_56 : decode cX11_later 56 = .ok (.aload_n 0, 1) := by decide +kernel
theorem dX11_later_57 : decode cX11_later 57 = .ok (.getfield 114, 3) := by decide +kernel
theorem dX11_later_60 : decode cX11_later 60 = .ok (.bipush 14, 2) := by decide +kernel
theorem dX11_later_62 : decode cX11_later 62 = .ok (.iload_n 1, 1) := by decide +kernel
theorem dX11_later_63 : decode cX11_later 63 = .ok (.iadd, 1) := by decide +kernel
theorem dX11_later_64 : decode cX11_later 64 = .ok (.iaload, 1) := by decide +kernel
theorem dX11_later_65 : decode cX11_later 65 = .ok (.istore_n 3, 1) := by decide +kernel
theorem dX11_later_66 : decode cX11_later 66 = .ok (.aload_n 0, 1) := by decide +kernel
theorem dX11_later_67 : decode cX11_later 67 = .ok (.getfield 120, 3) := by decide +kernel
theorem dX11_later_70 : decode cX11_later 70 = .ok (.iconst 0, 1) := by decide +kernel
theorem dX11_later_71 : decode cX11_later 71 = .ok (.aload_n 0, 1) := by decide +kernel
theorem dX11_later_72 : decode cX11_later 72 = .ok (.getfield 114, 3) := by decide +kernel
theorem dX11_later_75 : decode cX11_later 75 = .ok (.iconst 0, 1) := by decide +kernel
theorem dX11_later_76 : decode cX11_later 76 = .ok (.invokestatic 403, 3) := by decide +kernel
theorem dX11_later_79 : decode cX11_later 79 = .ok (.iload_n 3, 1) := by decide +kernel
theorem dX11_later_80 : decode cX11_later 80 = .ok (.ireturn, 1) := by decide +kernel
theorem dX11_creak_0 : decode cX11_creak 0 = .ok (.aload_n 0, 1) := by decide +kernel
theorem dX11_creak_1 : decode cX11_creak 1 = .ok (.iconst 0, 1) := by decide +kernel
theorem dX11_creak_2 : decode cX11_creak 2 = .ok (.putfield 153, 3) := by decide +kernel
theorem dX11_creak_5 : decode cX11_creak 5 = .ok (.aload_n 0, 1) := by decide +kernel
theorem dX11_creak_6 : decode cX11_creak 6 = .ok (.iload_n 1, 1) := by decide +kernel
theorem dX11_creak_7 : decode cX11_creak 7 = .ok (.invokevirtual 397, 3) := by decide +kernel
theorem dX11_creak_10 : decode cX11_creak 10 = .ok (.ifCond .eq 13, 3) := by decide +kernel
theorem dX11_creak_13 : decode cX11_creak 13 = .ok (.iload_n 2, 1) := by decide +kernel
theorem dX11_creak_14 : decode cX11_creak 14 = .ok (.iconst 1, 1) := by decide +kernel
theorem dX11_creak_15 : decode cX11_creak 15 = .ok (.bipush 60, 2) := by decide +kernel
theorem dX11_creak_17 : decode cX11_creak 17 = .ok (.invokestatic 274, 3) := by decide +kernel
theorem dX11_creak_20 : decode cX11_creak 20 = .ok (.ifCond .ne 5, 3) := by decide +kernel
theorem dX11_creak_23 : decode cX11_creak 23 = .ok (.iconst (-1), 1) := by decide +kernel
theorem dX11_creak_24 : decode cX11_creak 24 = .ok (.ireturn, 1) := by decide +kernel
theorem dX11_creak_25 : decode cX11_creak 25 = .ok (.aload_n 0, 1) := by decide +kernel
theorem dX11_creak_26 : decode cX11_creak 26 = .ok (.getfield 114, 3) := by decide +kernel
theorem dX11_creak_29 : decode cX11_creak 29 = .ok (.iconst 0, 1) := by decide +kernel
theorem dX11_creak_30 : decode cX11_creak 30 = .ok (.aload_n 0, 1) := by decide +kernel
theorem dX11_creak_31 : decode cX11_creak 31 = .ok (.getfield 120, 3) := by decide +kernel
theorem dX11_creak_34 : decode cX11_creak 34 = .ok (.iconst 0, 1) := by decide +kernel
theorem dX11_creak_35 : decode cX11_creak 35 = .ok (.invokestatic 403, 3) := by decide +kernel
theorem dX11_creak_38 : decode cX11_creak 38 = .ok (.iconst 0, 1) := by decide +kernel
theorem dX11_creak_39 : decode cX11_creak 39 = .ok (.istore_n 3, 1) := by decide +kernel
theorem dX11_creak_40 : decode cX11_creak 40 = .ok (.iload_n 3, 1) := by decide +kernel
theorem dX11_creak_41 : decode cX11_creak 41 = .ok (.iload_n 2, 1) := by decide +kernel
theorem dX11_creak_42 : decode cX11_creak 42 = .ok (.if_icmp .ge 14, 3) := by decide +kernel
theorem dX11_creak_45 : decode cX11_creak 45 = .ok (.aload_n 0, 1) := by decide +kernel
theorem dX11_creak_46 : decode cX11_creak 46 = .ok (.invokevirtual 410, 3) := by decide +kernel
theorem dX11_creak_49 : decode cX11_creak 49 = .ok (.pop, 1) := by decide +kernel
theorem dX11_creak_50 : decode cX11_creak 50 = .ok (.iinc 3 1, 3) := by decide +kernel
theorem dX11_creak_53 : decode cX11_creak 53 = .ok (.goto (-13), 3) := by decide +kernel
theorem dX11_creak_56 : decode cX11_creak 56 = .ok (.aload_n 0, 1) := by decide +kernel
theorem dX11_creak_57 : decode cX11_creak 57 = .ok (.getfield 135, 3) := by decide +kernel
theorem dX11_creak_60 : decode cX11_creak 60 = .ok (.iload_n 1, 1) := by decide +kernel
theorem dX11_creak_61 : decode cX11_creak 61 = .ok (.iaload, 1) := by decide +kernel
theorem dX11_creak_62 : decode cX11_creak 62 = .ok (.aload_n 0, 1) := by decide +kernel
theorem dX11_creak_63 : decode cX11_creak 63 = .ok (.getfield 114, 3) := by decide +kernel
theorem dX11_creak_66 : decode cX11_creak 66 = .ok (.bipush 8, 2) := by decide +kernel
theorem dX11_creak_68 : decode cX11_creak 68 = .ok (.iload_n 1, 1) := by decide +kernel
theorem dX11_creak_69 : decode cX11_creak 69 = .ok (.iadd, 1) := by decide +kernel
theorem dX11_creak_70 : decode cX11_creak 70 = .ok (.iaload, 1) := by decide +kernel
theorem dX11_creak_71 : decode cX11_creak 71 = .ok (.imul, 1) := by decide +kernel
theorem dX11_creak_72 : decode cX11_creak 72 = .ok (.istore_n 3, 1) := by decide +kernel
theorem dX11_creak_73 : decode cX11_creak 73 = .ok (.aload_n 0, 1) := by decide +kernel
theorem dX11_creak_74 : decode cX11_creak 74 = .ok (.getfield 120, 3) := by decide +kernel
theorem dX11_creak_77 : decode cX11_creak 77 = .ok (.iconst 0, 1) := by decide +kernel
theorem dX11_creak_78 : decode cX11_creak 78 = .ok (.aload_n 0, 1) := by decide +kernel
theorem dX11_creak_79 : decode cX11_creak 79 = .ok (.getfield 114, 3) := by decide +kernel
theorem dX11_creak_82 : decode cX11_creak 82 = .ok (.iconst 0, 1) := by decide +kernel
theorem dX11_creak_83 : decode cX11_creak 83 = .ok (.invokestatic 403, 3) := by decide +kernel
theorem dX11_creak_86 : decode cX11_creak 86 = .ok (.iload_n 3, 1) := by decide +kernel
theorem dX11_creak_87 : decode cX11_creak 87 = .ok (.ireturn, 1) := by decide +kernel
theorem dX11_popsOf_0 : decode cX11_popsOf 0 = .ok (.aload_n 0, 1) := by decide +kernel
theorem dX11_popsOf_1 : decode cX11_popsOf 1 = .ok (.getfield 114, 3) := by decide +kernel
theorem dX11_popsOf_4 : decode cX11_popsOf 4 = .ok (.iconst 0, 1) := by decide +kernel
theorem dX11_popsOf_5 : decode cX11_popsOf 5 = .ok (.aload_n 0, 1) := by decide +kernel
theorem dX11_popsOf_6 : decode cX11_popsOf 6 = .ok (.getfield 120, 3) := by decide +kernel
theorem dX11_popsOf_9 : decode cX11_popsOf 9 = .ok (.iconst 0, 1) := by decide +kernel
theorem dX11_popsOf_10 : decode cX11_popsOf 10 = .ok (.invokestatic 403, 3) := by decide +kernel
theorem dX11_popsOf_13 : decode cX11_popsOf 13 = .ok (.iconst (-1), 1) := by decide +kernel
theorem dX11_popsOf_14 : decode cX11_popsOf 14 = .ok (.istore_n 2, 1) := by decide +kernel
theorem dX11_popsOf_15 : decode cX11_popsOf 15 = .ok (.iconst 1, 1) := by decide +kernel
theorem dX11_popsOf_16 : decode cX11_popsOf 16 = .ok (.istore_n 3, 1) := by decide +kernel
theorem dX11_popsOf_17 : decode cX11_popsOf 17 = .ok (.iload_n 3, 1) := by decide +kernel
theorem dX11_popsOf_18 : decode cX11_popsOf 18 = .ok (.bipush 60, 2) := by decide +kernel
theorem dX11_popsOf_20 : decode cX11_popsOf 20 = .ok (.if_icmp .gt 32, 3) := by decide +kernel
theorem dX11_popsOf_23 : decode cX11_popsOf 23 = .ok (.iload_n 2, 1) := by decide +kernel
theorem dX11_popsOf_24 : decode cX11_popsOf 24 = .ok (.ifCond .ge 28, 3) := by decide +kernel
theorem dX11_popsOf_27 : decode cX11_popsOf 27 = .ok (.aload_n 0, 1) := by decide +kernel
theorem dX11_popsOf_28 : decode cX11_popsOf 28 = .ok (.aload_n 0, 1) := by decide +kernel
theorem dX11_popsOf_29 : decode cX11_popsOf 29 = .ok (.invokevirtual 410, 3) := by decide +kernel
theorem dX11_popsOf_32 : decode cX11_popsOf 32 = .ok (.iload_n 1, 1) := by decide +kernel
theorem dX11_popsOf_33 : decode cX11_popsOf 33 = .ok (.iand, 1) := by decide +kernel
theorem dX11_popsOf_34 : decode cX11_popsOf 34 = .ok (.putfield 422, 3) := by decide +kernel
theorem dX11_popsOf_37 : decode cX11_popsOf 37 = .ok (.aload_n 0, 1) := by decide +kernel
theorem dX11_popsOf_38 : decode cX11_popsOf 38 = .ok (.getfield 422, 3) := by decide +kernel
theorem dX11_popsOf_41 : decode cX11_popsOf 41 = .ok (.ifCond .eq 5, 3) := by decide +kernel
theorem dX11_popsOf_44 : decode cX11_popsOf 44 = .ok (.iload_n 3, 1) := by decide +kernel
theorem dX11_popsOf_45 : decode cX11_popsOf 45 = .ok (.istore_n 2, 1) := by decide +kernel
theorem dX11_popsOf_46 : decode cX11_popsOf 46 = .ok (.iinc 3 1, 3) := by decide +kernel
theorem dX11_popsOf_49 : decode cX11_popsOf 49 = .ok (.goto (-32), 3) := by decide +kernel
theorem dX11_popsOf_52 : decode cX11_popsOf 52 = .ok (.aload_n 0, 1) := by decide +kernel
theorem dX11_popsOf_53 : decode cX11_popsOf 53 = .ok (.getfield 120, 3) := by decide +kernel
theorem dX11_popsOf_56 : decode cX11_popsOf 56 = .ok (.iconst 0, 1) := by decide +kernel
theorem dX11_popsOf_57 : decode cX11_popsOf 57 = .ok (.aload_n 0, 1) := by decide +kernel
theorem dX11_popsOf_58 : decode cX11_popsOf 58 = .ok (.getfield 114, 3) := by decide +kernel
theorem dX11_popsOf_61 : decode cX11_popsOf 61 = .ok (.iconst 0, 1) := by decide +kernel
theorem dX11_popsOf_62 : decode cX11_popsOf 62 = .ok (.invokestatic 403, 3) := by decide +kernel
theorem dX11_popsOf_65 : decode cX11_popsOf 65 = .ok (.iload_n 2, 1) := by decide +kernel
theorem dX11_popsOf_66 : decode cX11_popsOf 66 = .ok (.ireturn, 1) := by decide +kernel
theorem dX11_pops_0 : decode cX11_pops 0 = .ok (.aload_n 0, 1) := by decide +kernel
theorem dX11_pops_1 : decode cX11_pops 1 = .ok (.iconst 0, 1) := by decide +kernel
theorem dX11_pops_2 : decode cX11_pops 2 = .ok (.putfield 153, 3) := by decide +kernel
theorem dX11_pops_5 : decode cX11_pops 5 = .ok (.aload_n 0, 1) := by decide +kernel
theorem dX11_pops_6 : decode cX11_pops 6 = .ok (.iload_n 1, 1) := by decide +kernel
theorem dX11_pops_7 : decode cX11_pops 7 = .ok (.invokevirtual 397, 3) := by decide +kernel
theorem dX11_pops_10 : decode cX11_pops 10 = .ok (.ifCond .eq 13, 3) := by decide +kernel
theorem dX11_pops_13 : decode cX11_pops 13 = .ok (.aload_n 0, 1) := by decide +kernel
theorem dX11_pops_14 : decode cX11_pops 14 = .ok (.iconst 1, 1) := by decide +kernel
theorem dX11_pops_15 : decode cX11_pops 15 = .ok (.iload_n 1, 1) := by decide +kernel
theorem dX11_pops_16 : decode cX11_pops 16 = .ok (.ishl, 1) := by decide +kernel
theorem dX11_pops_17 : decode cX11_pops 17 = .ok (.invokevirtual 425, 3) := by decide +kernel
theorem dX11_pops_20 : decode cX11_pops 20 = .ok (.goto 4, 3) := by decide +kernel
theorem dX11_pops_23 : decode cX11_pops 23 = .ok (.iconst (-1), 1) := by decide +kernel
theorem dX11_pops_24 : decode cX11_pops 24 = .ok (.ireturn, 1) := by decide +kernel
theorem dX11_first_0 : decode cX11_first 0 = .ok (.aload_n 0, 1) := by decide +kernel
theorem dX11_first_1 : decode cX11_first 1 = .ok (.iconst 0, 1) := by decide +kernel
theorem dX11_first_2 : decode cX11_first 2 = .ok (.putfield 153, 3) := by decide +kernel
theorem dX11_first_5 : decode cX11_first 5 = .ok (.aload_n 0, 1) := by decide +kernel
theorem dX11_first_6 : decode cX11_first 6 = .ok (.bipush 63, 2) := by decide +kernel
theorem dX11_first_8 : decode cX11_first 8 = .ok (.invokevirtual 425, 3) := by decide +kernel
theorem dX11_first_11 : decode cX11_first 11 = .ok (.ifCond .ge 7, 3) := by decide +kernel
theorem dX11_first_14 : decode cX11_first 14 = .ok (.iconst (-1), 1) := by decide +kernel
theorem dX11_first_15 : decode cX11_first 15 = .ok (.goto 10, 3) := by decide +kernel
theorem dX11_first_18 : decode cX11_first 18 = .ok (.aload_n 0, 1) := by decide +kernel
theorem dX11_first_19 : decode cX11_first 19 = .ok (.getfield 422, 3) := by decide +kernel
theorem dX11_first_22 : decode cX11_first 22 = .ok (.invokestatic 428, 3) := by decide +kernel
theorem dX11_first_25 : decode cX11_first 25 = .ok (.ireturn, 1) := by decide +kernel
theorem dX11_riot_0 : decode cX11_riot 0 = .ok (.aload_n 0, 1) := by decide +kernel
theorem dX11_riot_1 : decode cX11_riot 1 = .ok (.iconst 0, 1) := by decide +kernel
theorem dX11_riot_2 : decode cX11_riot 2 = .ok (.putfield 153, 3) := by decide +kernel
theorem dX11_riot_5 : decode cX11_riot 5 = .ok (.aload_n 0, 1) := by decide +kernel
theorem dX11_riot_6 : decode cX11_riot 6 = .ok (.iload_n 1, 1) := by decide +kernel
theorem dX11_riot_7 : decode cX11_riot 7 = .ok (.invokevirtual 397, 3) := by decide +kernel
theorem dX11_riot_10 : decode cX11_riot 10 = .ok (.ifCond .ne 5, 3) := by decide +kernel
theorem dX11_riot_13 : decode cX11_riot 13 = .ok (.iconst (-1), 1) := by decide +kernel
theorem dX11_riot_14 : decode cX11_riot 14 = .ok (.ireturn, 1) := by decide +kernel
theorem dX11_riot_15 : decode cX11_riot 15 = .ok (.aload_n 0, 1) := by decide +kernel
theorem dX11_riot_16 : decode cX11_riot 16 = .ok (.getfield 114, 3) := by decide +kernel
theorem dX11_riot_19 : decode cX11_riot 19 = .ok (.iconst 0, 1) := by decide +kernel
theorem dX11_riot_20 : decode cX11_riot 20 = .ok (.aload_n 0, 1) := by decide +kernel
theorem dX11_riot_21 : decode cX11_riot 21 = .ok (.getfield 120, 3) := by decide +kernel
theorem dX11_riot_24 : decode cX11_riot 24 = .ok (.iconst 0, 1) := by decide +kernel
theorem dX11_riot_25 : decode cX11_riot 25 = .ok (.invokestatic 403, 3) := by decide +kernel
theorem dX11_riot_28 : decode cX11_riot 28 = .ok (.iconst 0, 1) := by decide +kernel
theorem dX11_riot_29 : decode cX11_riot 29 = .ok (.istore_n 2, 1) := by decide +kernel
theorem dX11_riot_30 : decode cX11_riot 30 = .ok (.iload_n 2, 1) := by decide +kernel
theorem dX11_riot_31 : decode cX11_riot 31 = .ok (.bipush 60, 2) := by decide +kernel
theorem dX11_riot_33 : decode cX11_riot 33 = .ok (.if_icmp .gt 24, 3) := by decide +kernel
theorem dX11_riot_36 : decode cX11_riot 36 = .ok (.aload_n 0, 1) := by decide +kernel
theorem dX11_riot_37 : decode cX11_riot 37 = .ok (.iload_n 1, 1) := by decide +kernel
theorem dX11_riot_38 : decode cX11_riot 38 = .ok (.invokevirtual 394, 3) := by decide +kernel
theorem dX11_riot_41 : decode cX11_riot 41 = .ok (.bipush 60, 2) := by decide +kernel
theorem dX11_riot_43 : decode cX11_riot 43 = .ok (.if_icmp .ge 14, 3) := by decide +kernel
theorem dX11_riot_46 : decode cX11_riot 46 = .ok (.aload_n 0, 1) := by decide +kernel
theorem dX11_riot_47 : decode cX11_riot 47 = .ok (.invokevirtual 410, 3) := by decide +kernel
theorem dX11_riot_50 : decode cX11_riot 50 = .ok (.pop, 1) := by decide +kernel
theorem dX11_riot_51 : decode cX11_riot 51 = .ok (.iinc 2 1, 3) := by decide +kernel
theorem dX11_riot_54 : decode cX11_riot 54 = .ok (.goto (-24), 3) := by decide +kernel
theorem dX11_riot_57 : decode cX11_riot 57 = .ok (.aload_n 0, 1) := by decide +kernel
theorem dX11_riot_58 : decode cX11_riot 58 = .ok (.getfield 120, 3) := by decide +kernel
theorem dX11_riot_61 : decode cX11_riot 61 = .ok (.iconst 0, 1) := by decide +kernel
theorem dX11_riot_62 : decode cX11_riot 62 = .ok (.aload_n 0, 1) := by decide +kernel
theorem dX11_riot_63 : decode cX11_riot 63 = .ok (.getfield 114, 3) := by decide +kernel
theorem dX11_riot_66 : decode cX11_riot 66 = .ok (.iconst 0, 1) := by decide +kernel
theorem dX11_riot_67 : decode cX11_riot 67 = .ok (.invokestatic 403, 3) := by decide +kernel
theorem dX11_riot_70 : decode cX11_riot 70 = .ok (.iload_n 2, 1) := by decide +kernel
theorem dX11_riot_71 : decode cX11_riot 71 = .ok (.bipush 60, 2) := by decide +kernel
theorem dX11_riot_73 : decode cX11_riot 73 = .ok (.if_icmp .le 7, 3) := by decide +kernel
theorem dX11_riot_76 : decode cX11_riot 76 = .ok (.iconst (-1), 1) := by decide +kernel
theorem dX11_riot_77 : decode cX11_riot 77 = .ok (.goto 4, 3) := by decide +kernel
theorem dX11_riot_80 : decode cX11_riot 80 = .ok (.iload_n 2, 1) := by decide +kernel
theorem dX11_riot_81 : decode cX11_riot 81 = .ok (.ireturn, 1) := by decide +kernel
theorem dX11_calm_0 : decode cX11_calm 0 = .ok (.aload_n 0, 1) := by decide +kernel
theorem dX11_calm_1 : decode cX11_calm 1 = .ok (.iconst 0, 1) := by decide +kernel
theorem dX11_calm_2 : decode cX11_calm 2 = .ok (.putfield 153, 3) := by decide +kernel
theorem dX11_calm_5 : decode cX11_calm 5 = .ok (.aload_n 0, 1) := by decide +kernel
theorem dX11_calm_6 : decode cX11_calm 6 = .ok (.iload_n 1, 1) := by decide +kernel
theorem dX11_calm_7 : decode cX11_calm 7 = .ok (.invokevirtual 397, 3) := by decide +kernel
theorem dX11_calm_10 : decode cX11_calm 10 = .ok (.ifCond .ne 5, 3) := by decide +kernel
theorem dX11_calm_13 : decode cX11_calm 13 = .ok (.iconst (-1), 1) := by decide +kernel
theorem dX11_calm_14 : decode cX11_calm 14 = .ok (.ireturn, 1) := by decide +kernel
theorem dX11_calm_15 : decode cX11_calm 15 = .ok (.iconst 0, 1) := by decide +kernel
theorem dX11_calm_16 : decode cX11_calm 16 = .ok (.istore_n 2, 1) := by decide +kernel
theorem dX11_calm_17 : decode cX11_calm 17 = .ok (.aload_n 0, 1) := by decide +kernel
theorem dX11_calm_18 : decode cX11_calm 18 = .ok (.getfield 114, 3) := by decide +kernel
theorem dX11_calm_21 : decode cX11_calm 21 = .ok (.bipush 14, 2) := by decide +kernel
theorem dX11_calm_23 : decode cX11_calm 23 = .ok (.iload_n 1, 1) := by decide +kernel
theorem dX11_calm_24 : decode cX11_calm 24 = .ok (.iadd, 1) := by decide +kernel
theorem dX11_calm_25 : decode cX11_calm 25 = .ok (.iaload, 1) := by decide +kernel
theorem dX11_calm_26 : decode cX11_calm 26 = .ok (.aload_n 0, 1) := by decide +kernel
theorem dX11_calm_27 : decode cX11_calm 27 = .ok (.getfield 114, 3) := by decide +kernel
theorem dX11_calm_30 : decode cX11_calm 30 = .ok (.bipush 8, 2) := by decide +kernel
theorem dX11_calm_32 : decode cX11_calm 32 = .ok (.iload_n 1, 1) := by decide +kernel
theorem dX11_calm_33 : decode cX11_calm 33 = .ok (.iadd, 1) := by decide +kernel
theorem dX11_calm_34 : decode cX11_calm 34 = .ok (.iaload, 1) := by decide +kernel
theorem dX11_calm_35 : decode cX11_calm 35 = .ok (.iload_n 2, 1) := by decide +kernel
theorem dX11_calm_36 : decode cX11_calm 36 = .ok (.isub, 1) := by decide +kernel
theorem dX11_calm_37 : decode cX11_calm 37 = .ok (.imul, 1) := by decide +kernel
theorem dX11_calm_38 : decode cX11_calm 38 = .ok (.bipush 10, 2) := by decide +kernel
theorem dX11_calm_40 : decode cX11_calm 40 = .ok (.idiv, 1) := by decide +kernel
theorem dX11_calm_41 : decode cX11_calm 41 = .ok (.bipush 60, 2) := by decide +kernel
theorem dX11_calm_43 : decode cX11_calm 43 = .ok (.if_icmp .lt 9, 3) := by decide +kernel
theorem dX11_calm_46 : decode cX11_calm 46 = .ok (.iinc 2 1, 3) := by decide +kernel
theorem dX11_calm_49 : decode cX11_calm 49 = .ok (.goto (-32), 3) := by decide +kernel
theorem dX11_calm_52 : decode cX11_calm 52 = .ok (.iload_n 2, 1) := by decide +kernel
theorem dX11_calm_53 : decode cX11_calm 53 = .ok (.ireturn, 1) := by decide +kernel
theorem dX11_areRoofed_0 : decode cX11_areRoofed 0 = .ok (.iconst 0, 1) := by decide +kernel
theorem dX11_areRoofed_1 : decode cX11_areRoofed 1 = .ok (.istore_n 1, 1) := by decide +kernel
theorem dX11_areRoofed_2 : decode cX11_areRoofed 2 = .ok (.iload_n 1, 1) := by decide +kernel
theorem dX11_areRoofed_3 : decode cX11_areRoofed 3 = .ok (.aload_n 0, 1) := by decide +kernel
theorem dX11_areRoofed_4 : decode cX11_areRoofed 4 = .ok (.getfield 13, 3) := by decide +kernel
theorem dX11_areRoofed_7 : decode cX11_areRoofed 7 = .ok (.iconst 0, 1) := by decide +kernel
theorem dX11_areRoofed_8 : decode cX11_areRoofed 8 = .ok (.iaload, 1) := by decide +kernel
theorem dX11_areRoofed_9 : decode cX11_areRoofed 9 = .ok (.if_icmp .ge 41, 3) := by decide +kernel
theorem dX11_areRoofed_12 : decode cX11_areRoofed 12 = .ok (.aload_n 0, 1) := by decide +kernel
theorem dX11_areRoofed_13 : decode cX11_areRoofed 13 = .ok (.getfield 114, 3) := by decide +kernel
theorem dX11_areRoofed_16 : decode cX11_areRoofed 16 = .ok (.bipush 8, 2) := by decide +kernel
theorem dX11_areRoofed_18 : decode cX11_areRoofed 18 = .ok (.iload_n 1, 1) := by decide +kernel
theorem dX11_areRoofed_19 : decode cX11_areRoofed 19 = .ok (.iadd, 1) := by decide +kernel
theorem dX11_areRoofed_20 : decode cX11_areRoofed 20 = .ok (.iaload, 1) := by decide +kernel
theorem dX11_areRoofed_21 : decode cX11_areRoofed 21 = .ok (.ifCond .le 23, 3) := by decide +kernel
theorem dX11_areRoofed_24 : decode cX11_areRoofed 24 = .ok (.aload_n 0, 1) := by decide +kernel
theorem dX11_areRoofed_25 : decode cX11_areRoofed 25 = .ok (.getfield 114, 3) := by decide +kernel
theorem dX11_areRoofed_28 : decode cX11_areRoofed 28 = .ok (.bipush 14, 2) := by decide +kernel
theorem dX11_areRoofed_30 : decode cX11_areRoofed 30 = .ok (.iload_n 1, 1) := by decide +kernel
theorem dX11_areRoofed_31 : decode cX11_areRoofed 31 = .ok (.iadd, 1) := by decide +kernel
theorem dX11_areRoofed_32 : decode cX11_areRoofed 32 = .ok (.iaload, 1) := by decide +kernel
theorem dX11_areRoofed_33 : decode cX11_areRoofed 33 = .ok (.aload_n 0, 1) := by decide +kernel
theorem dX11_areRoofed_34 : decode cX11_areRoofed 34 = .ok (.getfield 13, 3) := by decide +kernel
theorem dX11_areRoofed_37 : decode cX11_areRoofed 37 = .ok (.iconst 3, 1) := by decide +kernel
theorem dX11_areRoofed_38 : decode cX11_areRoofed 38 = .ok (.iaload, 1) := by decide +kernel
theorem dX11_areRoofed_39 : decode cX11_areRoofed 39 = .ok (.if_icmp .ge 5, 3) := by decide +kernel
theorem dX11_areRoofed_42 : decode cX11_areRoofed 42 = .ok (.iconst 0, 1) := by decide +kernel
theorem dX11_areRoofed_43 : decode cX11_areRoofed 43 = .ok (.ireturn, 1) := by decide +kernel
theorem dX11_areRoofed_44 : decode cX11_areRoofed 44 = .ok (.iinc 1 1, 3) := by decide +kernel
theorem dX11_areRoofed_47 : decode cX11_areRoofed 47 = .ok (.goto (-45), 3) := by decide +kernel
theorem dX11_areRoofed_50 : decode cX11_areRoofed 50 = .ok (.iconst 1, 1) := by decide +kernel
theorem dX11_areRoofed_51 : decode cX11_areRoofed 51 = .ok (.ireturn, 1) := by decide +kernel
theorem dX11_roofed_0 : decode cX11_roofed 0 = .ok (.aload_n 0, 1) := by decide +kernel
theorem dX11_roofed_1 : decode cX11_roofed 1 = .ok (.iconst 0, 1) := by decide +kernel
theorem dX11_roofed_2 : decode cX11_roofed 2 = .ok (.putfield 153, 3) := by decide +kernel
theorem dX11_roofed_5 : decode cX11_roofed 5 = .ok (.aload_n 0, 1) := by decide +kernel
theorem dX11_roofed_6 : decode cX11_roofed 6 = .ok (.getfield 114, 3) := by decide +kernel
theorem dX11_roofed_9 : decode cX11_roofed 9 = .ok (.iconst 0, 1) := by decide +kernel
theorem dX11_roofed_10 : decode cX11_roofed 10 = .ok (.aload_n 0, 1) := by decide +kernel
theorem dX11_roofed_11 : decode cX11_roofed 11 = .ok (.getfield 120, 3) := by decide +kernel
theorem dX11_roofed_14 : decode cX11_roofed 14 = .ok (.iconst 0, 1) := by decide +kernel
theorem dX11_roofed_15 : decode cX11_roofed 15 = .ok (.invokestatic 403, 3) := by decide +kernel
theorem dX11_roofed_18 : decode cX11_roofed 18 = .ok (.iconst 0, 1) := by decide +kernel
theorem dX11_roofed_19 : decode cX11_roofed 19 = .ok (.istore_n 1, 1) := by decide +kernel
theorem dX11_roofed_20 : decode cX11_roofed 20 = .ok (.iload_n 1, 1) := by decide +kernel
theorem dX11_roofed_21 : decode cX11_roofed 21 = .ok (.bipush 60, 2) := by decide +kernel
theorem dX11_roofed_23 : decode cX11_roofed 23 = .ok (.if_icmp .gt 21, 3) := by decide +kernel
theorem dX11_roofed_26 : decode cX11_roofed 26 = .ok (.aload_n 0, 1) := by decide +kernel
theorem dX11_roofed_27 : decode cX11_roofed 27 = .ok (.invokevirtual 431, 3) := by decide +kernel
theorem dX11_roofed_30 : decode cX11_roofed 30 = .ok (.ifCond .ne 14, 3) := by decide +kernel
theorem dX11_roofed_33 : decode cX11_roofed 33 = .ok (.aload_n 0, 1) := by decide +kernel
theorem dX11_roofed_34 : decode cX11_roofed 34 = .ok (.invokevirtual 410, 3) := by decide +kernel
theorem dX11_roofed_37 : decode cX11_roofed 37 = .ok (.pop, 1) := by decide +kernel
theorem dX11_roofed_38 : decode cX11_roofed 38 = .ok (.iinc 1 1, 3) := by decide +kernel
theorem dX11_roofed_41 : decode cX11_roofed 41 = .ok (.goto (-21), 3) := by decide +kernel
theorem dX11_roofed_44 : decode cX11_roofed 44 = .ok (.aload_n 0, 1) := by decide +kernel
theorem dX11_roofed_45 : decode cX11_roofed 45 = .ok (.getfield 120, 3) := by decide +kernel
theorem dX11_roofed_48 : decode cX11_roofed 48 = .ok (.iconst 0, 1) := by decide +kernel
theorem dX11_roofed_49 : decode cX11_roofed 49 = .ok (.aload_n 0, 1) := by decide +kernel
theorem dX11_roofed_50 : decode cX11_roofed 50 = .ok (.getfield 114, 3) := by decide +kernel
theorem dX11_roofed_53 : decode cX11_roofed 53 = .ok (.iconst 0, 1) := by decide +kernel
theorem dX11_roofed_54 : decode cX11_roofed 54 = .ok (.invokestatic 403, 3) := by decide +kernel
theorem dX11_roofed_57 : decode cX11_roofed 57 = .ok (.iload_n 1, 1) := by decide +kernel
theorem dX11_roofed_58 : decode cX11_roofed 58 = .ok (.bipush 60, 2) := by decide +kernel
theorem dX11_roofed_60 : decode cX11_roofed 60 = .ok (.if_icmp .le 7, 3) := by decide +kernel
theorem dX11_roofed_63 : decode cX11_roofed 63 = .ok (.iconst (-1), 1) := by decide +kernel
theorem dX11_roofed_64 : decode cX11_roofed 64 = .ok (.goto 4, 3) := by decide +kernel
theorem dX11_roofed_67 : decode cX11_roofed 67 = .ok (.iload_n 1, 1) := by decide +kernel
theorem dX11_roofed_68 : decode cX11_roofed 68 = .ok (.ireturn, 1) := by decide +kernel
theorem dX11_canHave_0 : decode cX11_canHave 0 = .ok (.iload_n 2, 1) := by decide +kernel
theorem dX11_canHave_1 : decode cX11_canHave 1 = .ok (.aload_n 0, 1) := by decide +kernel
theorem dX11_canHave_2 : decode cX11_canHave 2 = .ok (.getfield 35, 3) := by decide +kernel
theorem dX11_canHave_5 : decode cX11_canHave 5 = .ok (.iload_n 1, 1) := by decide +kernel
theorem dX11_canHave_6 : decode cX11_canHave 6 = .ok (.iaload, 1) := by decide +kernel
theorem dX11_canHave_7 : decode cX11_canHave 7 = .ok (.aload_n 0, 1) := by decide +kernel
theorem dX11_canHave_8 : decode cX11_canHave 8 = .ok (.getfield 38, 3) := by decide +kernel
theorem dX11_canHave_11 : decode cX11_canHave 11 = .ok (.iload_n 1, 1) := by decide +kernel
theorem dX11_canHave_12 : decode cX11_canHave 12 = .ok (.iaload, 1) := by decide +kernel
theorem dX11_canHave_13 : decode cX11_canHave 13 = .ok (.invokestatic 274, 3) := by decide +kernel
theorem dX11_canHave_16 : decode cX11_canHave 16 = .ok (.ireturn, 1) := by decide +kernel
theorem dX11_hadBy_0 : decode cX11_hadBy 0 = .ok (.iconst 0, 1) := by decide +kernel
theorem dX11_hadBy_1 : decode cX11_hadBy 1 = .ok (.istore_n 2, 1) := by decide +kernel
theorem dX11_hadBy_2 : decode cX11_hadBy 2 = .ok (.iconst 0, 1) := by decide +kernel
theorem dX11_hadBy_3 : decode cX11_hadBy 3 = .ok (.istore_n 3, 1) := by decide +kernel
theorem dX11_hadBy_4 : decode cX11_hadBy 4 = .ok (.iload_n 3, 1) := by decide +kernel
theorem dX11_hadBy_5 : decode cX11_hadBy 5 = .ok (.aload_n 0, 1) := by decide +kernel
theorem dX11_hadBy_6 : decode cX11_hadBy 6 = .ok (.getfield 13, 3) := by decide +kernel
theorem dX11_hadBy_9 : decode cX11_hadBy 9 = .ok (.iconst 0, 1) := by decide +kernel
theorem dX11_hadBy_10 : decode cX11_hadBy 10 = .ok (.iaload, 1) := by decide +kernel
theorem dX11_hadBy_11 : decode cX11_hadBy 11 = .ok (.if_icmp .ge 32, 3) := by decide +kernel
theorem dX11_hadBy_14 : decode cX11_hadBy 14 = .ok (.iload_n 2, 1) := by decide +kernel
theorem dX11_hadBy_15 : decode cX11_hadBy 15 = .ok (.aload_n 0, 1) := by decide +kernel
theorem dX11_hadBy_16 : decode cX11_hadBy 16 = .ok (.iload_n 1, 1) := by decide +kernel
theorem dX11_hadBy_17 : decode cX11_hadBy 17 = .ok (.aload_n 0, 1) := by decide +kernel
theorem dX11_hadBy_18 : decode cX11_hadBy 18 = .ok (.iload_n 3, 1) := by decide +kernel
theorem dX11_hadBy_19 : decode cX11_hadBy 19 = .ok (.invokevirtual 394, 3) := by decide +kernel
theorem dX11_hadBy_22 : decode cX11_hadBy 22 = .ok (.invokevirtual 434, 3) := by decide +kernel
theorem dX11_hadBy_25 : decode cX11_hadBy 25 = .ok (.ifCond .eq 9, 3) := by decide +kernel
theorem dX11_hadBy_28 : decode cX11_hadBy 28 = .ok (.iconst 1, 1) := by decide +kernel
theorem dX11_hadBy_29 : decode cX11_hadBy 29 = .ok (.iload_n 3, 1) := by decide +kernel
theorem dX11_hadBy_30 : decode cX11_hadBy 30 = .ok (.ishl, 1) := by decide +kernel
theorem dX11_hadBy_31 : decode cX11_hadBy 31 = .ok (.goto 4, 3) := by decide +kernel
theorem dX11_hadBy_34 : decode cX11_hadBy 34 = .ok (.iconst 0, 1) := by decide +kernel
theorem dX11_hadBy_35 : decode cX11_hadBy 35 = .ok (.ior, 1) := by decide +kernel
theorem dX11_hadBy_36 : decode cX11_hadBy 36 = .ok (.istore_n 2, 1) := by decide +kernel
theorem dX11_hadBy_37 : decode cX11_hadBy 37 = .ok (.iinc 3 1, 3) := by decide +kernel
theorem dX11_hadBy_40 : decode cX11_hadBy 40 = .ok (.goto (-36), 3) := by decide +kernel
theorem dX11_hadBy_43 : decode cX11_hadBy 43 = .ok (.iload_n 2, 1) := by decide +kernel
theorem dX11_hadBy_44 : decode cX11_hadBy 44 = .ok (.ireturn, 1) := by decide +kernel
theorem dX11_had_0 : decode cX11_had 0 = .ok (.aload_n 0, 1) := by decide +kernel
theorem dX11_had_1 : decode cX11_had 1 = .ok (.iconst 0, 1) := by decide +kernel
theorem dX11_had_2 : decode cX11_had 2 = .ok (.putfield 153, 3) := by decide +kernel
theorem dX11_had_5 : decode cX11_had 5 = .ok (.aload_n 0, 1) := by decide +kernel
theorem dX11_had_6 : decode cX11_had 6 = .ok (.iload_n 1, 1) := by decide +kernel
theorem dX11_had_7 : decode cX11_had 7 = .ok (.invokevirtual 400, 3) := by decide +kernel
theorem dX11_had_10 : decode cX11_had 10 = .ok (.ifCond .eq 11, 3) := by decide +kernel
theorem dX11_had_13 : decode cX11_had 13 = .ok (.aload_n 0, 1) := by decide +kernel
theorem dX11_had_14 : decode cX11_had 14 = .ok (.iload_n 1, 1) := by decide +kernel
theorem dX11_had_15 : decode cX11_had 15 = .ok (.invokevirtual 437, 3) := by decide +kernel
theorem dX11_had_18 : decode cX11_had 18 = .ok (.goto 4, 3) := by decide +kernel
theorem dX11_had_21 : decode cX11_had 21 = .ok (.iconst (-1), 1) := by decide +kernel
theorem dX11_had_22 : decode cX11_had 22 = .ok (.ireturn, 1) := by decide +kernel
theorem dX11_waits_0 : decode cX11_waits 0 = .ok (.aload_n 0, 1) := by decide +kernel
theorem dX11_waits_1 : decode cX11_waits 1 = .ok (.iconst 0, 1) := by decide +kernel
theorem dX11_waits_2 : decode cX11_waits 2 = .ok (.putfield 153, 3) := by decide +kernel
theorem dX11_waits_5 : decode cX11_waits 5 = .ok (.aload_n 0, 1) := by decide +kernel
theorem dX11_waits_6 : decode cX11_waits 6 = .ok (.iload_n 1, 1) := by decide +kernel
theorem dX11_waits_7 : decode cX11_waits 7 = .ok (.invokevirtual 400, 3) := by decide +kernel
theorem dX11_waits_10 : decode cX11_waits 10 = .ok (.ifCond .ne 5, 3) := by decide +kernel
theorem dX11_waits_13 : decode cX11_waits 13 = .ok (.iconst (-1), 1) := by decide +kernel
theorem dX11_waits_14 : decode cX11_waits 14 = .ok (.ireturn, 1) := by decide +kernel
theorem dX11_waits_15 : decode cX11_waits 15 = .ok (.aload_n 0, 1) := by decide +kernel
theorem dX11_waits_16 : decode cX11_waits 16 = .ok (.getfield 114, 3) := by decide +kernel
theorem dX11_waits_19 : decode cX11_waits 19 = .ok (.iconst 0, 1) := by decide +kernel
theorem dX11_waits_20 : decode cX11_waits 20 = .ok (.aload_n 0, 1) := by decide +kernel
theorem dX11_waits_21 : decode cX11_waits 21 = .ok (.getfield 120, 3) := by decide +kernel
theorem dX11_waits_24 : decode cX11_waits 24 = .ok (.iconst 0, 1) := by decide +kernel
theorem dX11_waits_25 : decode cX11_waits 25 = .ok (.invokestatic 403, 3) := by decide +kernel
theorem dX11_waits_28 : decode cX11_waits 28 = .ok (.iconst 0, 1) := by decide +kernel
theorem dX11_waits_29 : decode cX11_waits 29 = .ok (.istore_n 2, 1) := by decide +kernel
theorem dX11_waits_30 : decode cX11_waits 30 = .ok (.iload_n 2, 1) := by decide +kernel
theorem dX11_waits_31 : decode cX11_waits 31 = .ok (.bipush 60, 2) := by decide +kernel
theorem dX11_waits_33 : decode cX11_waits 33 = .ok (.if_icmp .gt 22, 3) := by decide +kernel
theorem dX11_waits_36 : decode cX11_waits 36 = .ok (.aload_n 0, 1) := by decide +kernel
theorem dX11_waits_37 : decode cX11_waits 37 = .ok (.iload_n 1, 1) := by decide +kernel
theorem dX11_waits_38 : decode cX11_waits 38 = .ok (.invokevirtual 437, 3) := by decide +kernel
theorem dX11_waits_41 : decode cX11_waits 41 = .ok (.ifCond .ne 14, 3) := by decide +kernel
theorem dX11_waits_44 : decode cX11_waits 44 = .ok (.aload_n 0, 1) := by decide +kernel
theorem dX11_waits_45 : decode cX11_waits 45 = .ok (.invokevirtual 410, 3) := by decide +kernel
theorem dX11_waits_48 : decode cX11_waits 48 = .ok (.pop, 1) := by decide +kernel
theorem dX11_waits_49 : decode cX11_waits 49 = .ok (.iinc 2 1, 3) := by decide +kernel
theorem dX11_waits_52 : decode cX11_waits 52 = .ok (.goto (-22), 3) := by decide +kernel
theorem dX11_waits_55 : decode cX11_waits 55 = .ok (.aload_n 0, 1) := by decide +kernel
theorem dX11_waits_56 : decode cX11_waits 56 = .ok (.getfield 120, 3) := by decide +kernel
theorem dX11_waits_59 : decode cX11_waits 59 = .ok (.iconst 0, 1) := by decide +kernel
theorem dX11_waits_60 : decode cX11_waits 60 = .ok (.aload_n 0, 1) := by decide +kernel
theorem dX11_waits_61 : decode cX11_waits 61 = .ok (.getfield 114, 3) := by decide +kernel
theorem dX11_waits_64 : decode cX11_waits 64 = .ok (.iconst 0, 1) := by decide +kernel
theorem dX11_waits_65 : decode cX11_waits 65 = .ok (.invokestatic 403, 3) := by decide +kernel
theorem dX11_waits_68 : decode cX11_waits 68 = .ok (.iload_n 2, 1) := by decide +kernel
theorem dX11_waits_69 : decode cX11_waits 69 = .ok (.bipush 60, 2) := by decide +kernel
theorem dX11_waits_71 : decode cX11_waits 71 = .ok (.if_icmp .le 7, 3) := by decide +kernel
theorem dX11_waits_74 : decode cX11_waits 74 = .ok (.iconst (-1), 1) := by decide +kernel
theorem dX11_waits_75 : decode cX11_waits 75 = .ok (.goto 4, 3) := by decide +kernel
theorem dX11_waits_78 : decode cX11_waits 78 = .ok (.iload_n 2, 1) := by decide +kernel
theorem dX11_waits_79 : decode cX11_waits 79 = .ok (.ireturn, 1) := by decide +kernel
theorem dX11_givesOut_0 : decode cX11_givesOut 0 = .ok (.iload_n 3, 1) := by decide +kernel
theorem dX11_givesOut_1 : decode cX11_givesOut 1 = .ok (.aload_n 0, 1) := by decide +kernel
theorem dX11_givesOut_2 : decode cX11_givesOut 2 = .ok (.getfield 13, 3) := by decide +kernel
theorem dX11_givesOut_5 : decode cX11_givesOut 5 = .ok (.iconst 1, 1) := by decide +kernel
theorem dX11_givesOut_6 : decode cX11_givesOut 6 = .ok (.iaload, 1) := by decide +kernel
theorem dX11_givesOut_7 : decode cX11_givesOut 7 = .ok (.iadd, 1) := by decide +kernel
theorem dX11_givesOut_8 : decode cX11_givesOut 8 = .ok (.iload_n 1, 1) := by decide +kernel
theorem dX11_givesOut_9 : decode cX11_givesOut 9 = .ok (.isub, 1) := by decide +kernel
theorem dX11_givesOut_10 : decode cX11_givesOut 10 = .ok (.aload_n 0, 1) := by decide +kernel
theorem dX11_givesOut_11 : decode cX11_givesOut 11 = .ok (.getfield 440, 3) := by decide +kernel
theorem dX11_givesOut_14 : decode cX11_givesOut 14 = .ok (.if_icmp .gt 4, 3) := by decide +kernel
theorem dX11_givesOut_17 : decode cX11_givesOut 17 = .ok (.return_, 1) := by decide +kernel
theorem dX11_givesOut_18 : decode cX11_givesOut 18 = .ok (.iload_n 1, 1) := by decide +kernel
theorem dX11_givesOut_19 : decode cX11_givesOut 19 = .ok (.aload_n 0, 1) := by decide +kernel
theorem dX11_givesOut_20 : decode cX11_givesOut 20 = .ok (.getfield 13, 3) := by decide +kernel
theorem dX11_givesOut_23 : decode cX11_givesOut 23 = .ok (.iconst 1, 1) := by decide +kernel
theorem dX11_givesOut_24 : decode cX11_givesOut 24 = .ok (.iaload, 1) := by decide +kernel
theorem dX11_givesOut_25 : decode cX11_givesOut 25 = .ok (.if_icmp .ne 38, 3) := by decide +kernel
theorem dX11_givesOut_28 : decode cX11_givesOut 28 = .ok (.aload_n 0, 1) := by decide +kernel
theorem dX11_givesOut_29 : decode cX11_givesOut 29 = .ok (.iload_n 3, 1) := by decide +kernel
theorem dX11_givesOut_30 : decode cX11_givesOut 30 = .ok (.putfield 440, 3) := by decide +kernel
theorem dX11_givesOut_33 : decode cX11_givesOut 33 = .ok (.iconst 0, 1) := by decide +kernel
theorem dX11_givesOut_34 : decode cX11_givesOut 34 = .ok (.istore 4, 2) := by decide +kernel
theorem dX11_givesOut_36 : decode cX11_givesOut 36 = .ok (.iload 4, 2) := by decide +kernel
theorem dX11_givesOut_38 : decode cX11_givesOut 38 = .ok (.iconst 5, 1) := by decide +kernel
theorem dX11_givesOut_39 : decode cX11_givesOut 39 = .ok (.if_icmp .ge 23, 3) := by decide +kernel
theorem dX11_givesOut_42 : decode cX11_givesOut 42 = .ok (.aload_n 0, 1) := by decide +kernel
theorem dX11_givesOut_43 : decode cX11_givesOut 43 = .ok (.getfield 144, 3) := by decide +kernel
theorem dX11_givesOut_46 : decode cX11_givesOut 46 = .ok (.iload 4, 2) := by decide +kernel
theorem dX11_givesOut_48 : decode cX11_givesOut 48 = .ok (.aload_n 0, 1) := by decide +kernel
theorem dX11_givesOut_49 : decode cX11_givesOut 49 = .ok (.getfield 141, 3) := by decide +kernel
theorem dX11_givesOut_52 : decode cX11_givesOut 52 = .ok (.iload 4, 2) := by decide +kernel
theorem dX11_givesOut_54 : decode cX11_givesOut 54 = .ok (.iaload, 1) := by decide +kernel
theorem dX11_givesOut_55 : decode cX11_givesOut 55 = .ok (.iastore, 1) := by decide +kernel
theorem dX11_givesOut_56 : decode cX11_givesOut 56 = .ok (.iinc 4 1, 3) := by decide +kernel
theorem dX11_givesOut_59 : decode cX11_givesOut 59 = .ok (.goto (-23), 3) := by decide +kernel
theorem dX11_givesOut_62 : decode cX11_givesOut 62 = .ok (.return_, 1) := by decide +kernel
theorem dX11_givesOut_63 : decode cX11_givesOut 63 = .ok (.aload_n 0, 1) := by decide +kernel
theorem dX11_givesOut_64 : decode cX11_givesOut 64 = .ok (.iload_n 1, 1) := by decide +kernel
theorem dX11_givesOut_65 : decode cX11_givesOut 65 = .ok (.invokevirtual 437, 3) := by decide +kernel
theorem dX11_givesOut_68 : decode cX11_givesOut 68 = .ok (.iload_n 2, 1) := by decide +kernel
theorem dX11_givesOut_69 : decode cX11_givesOut 69 = .ok (.iconst (-1), 1) := by decide +kernel
theorem dX11_givesOut_70 : decode cX11_givesOut 70 = .ok (.ixor, 1) := by decide +kernel
theorem dX11_givesOut_71 : decode cX11_givesOut 71 = .ok (.iand, 1) := by decide +kernel
theorem dX11_givesOut_72 : decode cX11_givesOut 72 = .ok (.istore 4, 2) := by decide +kernel
theorem dX11_givesOut_74 : decode cX11_givesOut 74 = .ok (.iconst 0, 1) := by decide +kernel
theorem dX11_givesOut_75 : decode cX11_givesOut 75 = .ok (.istore 5, 2) := by decide +kernel
theorem dX11_givesOut_77 : decode cX11_givesOut 77 = .ok (.iload 5, 2) := by decide +kernel
theorem dX11_givesOut_79 : decode cX11_givesOut 79 = .ok (.aload_n 0, 1) := by decide +kernel
theorem dX11_givesOut_80 : decode cX11_givesOut 80 = .ok (.getfield 13, 3) := by decide +kernel
theorem dX11_givesOut_83 : decode cX11_givesOut 83 = .ok (.iconst 0, 1) := by decide +kernel
theorem dX11_givesOut_84 : decode cX11_givesOut 84 = .ok (.iaload, 1) := by decide +kernel
theorem dX11_givesOut_85 : decode cX11_givesOut 85 = .ok (.if_icmp .ge 46, 3) := by decide +kernel
theorem dX11_givesOut_88 : decode cX11_givesOut 88 = .ok (.iload 4, 2) := by decide +kernel
theorem dX11_givesOut_90 : decode cX11_givesOut 90 = .ok (.iload 5, 2) := by decide +kernel
theorem dX11_givesOut_92 : decode cX11_givesOut 92 = .ok (.ishr, 1) := by decide +kernel
theorem dX11_givesOut_93 : decode cX11_givesOut 93 = .ok (.iconst 1, 1) := by decide +kernel
theorem dX11_givesOut_94 : decode cX11_givesOut 94 = .ok (.iand, 1) := by decide +kernel
theorem dX11_givesOut_95 : decode cX11_givesOut 95 = .ok (.ifCond .ne 6, 3) := by decide +kernel
theorem dX11_givesOut_98 : decode cX11_givesOut 98 = .ok (.goto 27, 3) := by decide +kernel
theorem dX11_givesOut_101 : decode cX11_givesOut 101 = .ok (.aload_n 0, 1) := by decide +kernel
theorem dX11_givesOut_102 : decode cX11_givesOut 102 = .ok (.getfield 141, 3) := by decide +kernel
theorem dX11_givesOut_105 : decode cX11_givesOut 105 = .ok (.iload_n 1, 1) := by decide +kernel
theorem dX11_givesOut_106 : decode cX11_givesOut 106 = .ok (.iload 5, 2) := by decide +kernel
theorem dX11_givesOut_108 : decode cX11_givesOut 108 = .ok (.iastore, 1) := by decide +kernel
theorem dX11_givesOut_109 : decode cX11_givesOut 109 = .ok (.aload_n 0, 1) := by decide +kernel
theorem dX11_givesOut_110 : decode cX11_givesOut 110 = .ok (.iload_n 1, 1) := by decide +kernel
theorem dX11_givesOut_111 : decode cX11_givesOut 111 = .ok (.iconst 1, 1) := by decide +kernel
theorem dX11_givesOut_112 : decode cX11_givesOut 112 = .ok (.iadd, 1) := by decide +kernel
theorem dX11_givesOut_113 : decode cX11_givesOut 113 = .ok (.iload_n 2, 1) := by decide +kernel
theorem dX11_givesOut_114 : decode cX11_givesOut 114 = .ok (.iconst 1, 1) := by decide +kernel
theorem dX11_givesOut_115 : decode cX11_givesOut 115 = .ok (.iload 5, 2) := by decide +kernel
theorem dX11_givesOut_117 : decode cX11_givesOut 117 = .ok (.ishl, 1) := by decide +kernel
theorem dX11_givesOut_118 : decode cX11_givesOut 118 = .ok (.ior, 1) := by decide +kernel
theorem dX11_givesOut_119 : decode cX11_givesOut 119 = .ok (.iload_n 3, 1) := by decide +kernel
theorem dX11_givesOut_120 : decode cX11_givesOut 120 = .ok (.iconst 1, 1) := by decide +kernel
theorem dX11_givesOut_121 : decode cX11_givesOut 121 = .ok (.iadd, 1) := by decide +kernel
theorem dX11_givesOut_122 : decode cX11_givesOut 122 = .ok (.invokevirtual 443, 3) := by decide +kernel
theorem dX11_givesOut_125 : decode cX11_givesOut 125 = .ok (.iinc 5 1, 3) := by decide +kernel
theorem dX11_givesOut_128 : decode cX11_givesOut 128 = .ok (.goto (-51), 3) := by decide +kernel
theorem dX11_givesOut_131 : decode cX11_givesOut 131 = .ok (.aload_n 0, 1) := by decide +kernel
theorem dX11_givesOut_132 : decode cX11_givesOut 132 = .ok (.getfield 141, 3) := by decide +kernel
theorem dX11_givesOut_135 : decode cX11_givesOut 135 = .ok (.iload_n 1, 1) := by decide +kernel
theorem dX11_givesOut_136 : decode cX11_givesOut 136 = .ok (.iconst (-1), 1) := by decide +kernel
theorem dX11_givesOut_137 : decode cX11_givesOut 137 = .ok (.iastore, 1) := by decide +kernel
theorem dX11_givesOut_138 : decode cX11_givesOut 138 = .ok (.aload_n 0, 1) := by decide +kernel
theorem dX11_givesOut_139 : decode cX11_givesOut 139 = .ok (.iload_n 1, 1) := by decide +kernel
theorem dX11_givesOut_140 : decode cX11_givesOut 140 = .ok (.iconst 1, 1) := by decide +kernel
theorem dX11_givesOut_141 : decode cX11_givesOut 141 = .ok (.iadd, 1) := by decide +kernel
theorem dX11_givesOut_142 : decode cX11_givesOut 142 = .ok (.iload_n 2, 1) := by decide +kernel
theorem dX11_givesOut_143 : decode cX11_givesOut 143 = .ok (.iload_n 3, 1) := by decide +kernel
theorem dX11_givesOut_144 : decode cX11_givesOut 144 = .ok (.invokevirtual 443, 3) := by decide +kernel
theorem dX11_givesOut_147 : decode cX11_givesOut 147 = .ok (.return_, 1) := by decide +kernel
theorem dX11_plays_0 : decode cX11_plays 0 = .ok (.aload_n 0, 1) := by decide +kernel
theorem dX11_plays_1 : decode cX11_plays 1 = .ok (.iconst 0, 1) := by decide +kernel
theorem dX11_plays_2 : decode cX11_plays 2 = .ok (.putfield 153, 3) := by decide +kernel
theorem dX11_plays_5 : decode cX11_plays 5 = .ok (.iload_n 1, 1) := by decide +kernel
theorem dX11_plays_6 : decode cX11_plays 6 = .ok (.iconst (-1), 1) := by decide +kernel
theorem dX11_plays_7 : decode cX11_plays 7 = .ok (.if_icmp .eq 14, 3) := by decide +kernel
theorem dX11_plays_10 : decode cX11_plays 10 = .ok (.aload_n 0, 1) := by decide +kernel
theorem dX11_plays_11 : decode cX11_plays 11 = .ok (.iload_n 1, 1) := by decide +kernel
theorem dX11_plays_12 : decode cX11_plays 12 = .ok (.invokevirtual 400, 3) := by decide +kernel
theorem dX11_plays_15 : decode cX11_plays 15 = .ok (.ifCond .ne 6, 3) := by decide +kernel
theorem dX11_plays_18 : decode cX11_plays 18 = .ok (.bipush (-2), 2) := by decide +kernel
theorem dX11_plays_20 : decode cX11_plays 20 = .ok (.ireturn, 1) := by decide +kernel
theorem dX11_plays_21 : decode cX11_plays 21 = .ok (.aload_n 0, 1) := by decide +kernel
theorem dX11_plays_22 : decode cX11_plays 22 = .ok (.iconst (-1), 1) := by decide +kernel
theorem dX11_plays_23 : decode cX11_plays 23 = .ok (.putfield 440, 3) := by decide +kernel
theorem dX11_plays_26 : decode cX11_plays 26 = .ok (.aload_n 0, 1) := by decide +kernel
theorem dX11_plays_27 : decode cX11_plays 27 = .ok (.iconst 0, 1) := by decide +kernel
theorem dX11_plays_28 : decode cX11_plays 28 = .ok (.iconst 0, 1) := by decide +kernel
theorem dX11_plays_29 : decode cX11_plays 29 = .ok (.iconst 0, 1) := by decide +kernel
theorem dX11_plays_30 : decode cX11_plays 30 = .ok (.invokevirtual 443, 3) := by decide +kernel
theorem dX11_plays_33 : decode cX11_plays 33 = .ok (.iload_n 1, 1) := by decide +kernel
theorem dX11_plays_34 : decode cX11_plays 34 = .ok (.iconst (-1), 1) := by decide +kernel
theorem dX11_plays_35 : decode cX11_plays 35 = .ok (.if_icmp .ne 10, 3) := by decide +kernel
theorem dX11_plays_38 : decode cX11_plays 38 = .ok (.aload_n 0, 1) := by decide +kernel
theorem dX11_plays_39 : decode cX11_plays 39 = .ok (.getfield 440, 3) := by decide +kernel
theorem dX11_plays_42 : decode cX11_plays 42 = .ok (.goto 9, 3) := by decide +kernel
theorem dX11_plays_45 : decode cX11_plays 45 = .ok (.aload_n 0, 1) := by decide +kernel
theorem dX11_plays_46 : decode cX11_plays 46 = .ok (.getfield 144, 3) := by decide +kernel
theorem dX11_plays_49 : decode cX11_plays 49 = .ok (.iload_n 1, 1) := by decide +kernel
theorem dX11_plays_50 : decode cX11_plays 50 = .ok (.iaload, 1) := by decide +kernel
theorem dX11_plays_51 : decode cX11_plays 51 = .ok (.ireturn, 1) := by decide +kernel
theorem dX11_blend_0 : decode cX11_blend 0 = .ok (.aload_n 0, 1) := by decide +kernel
theorem dX11_blend_1 : decode cX11_blend 1 = .ok (.iconst 0, 1) := by decide +kernel
theorem dX11_blend_2 : decode cX11_blend 2 = .ok (.putfield 153, 3) := by decide +kernel
theorem dX11_blend_5 : decode cX11_blend 5 = .ok (.aload_n 0, 1) := by decide +kernel
theorem dX11_blend_6 : decode cX11_blend 6 = .ok (.iload_n 1, 1) := by decide +kernel
theorem dX11_blend_7 : decode cX11_blend 7 = .ok (.invokevirtual 400, 3) := by decide +kernel
theorem dX11_blend_10 : decode cX11_blend 10 = .ok (.ifCond .ne 5, 3) := by decide +kernel
theorem dX11_blend_13 : decode cX11_blend 13 = .ok (.iconst (-1), 1) := by decide +kernel
theorem dX11_blend_14 : decode cX11_blend 14 = .ok (.ireturn, 1) := by decide +kernel
theorem dX11_blend_15 : decode cX11_blend 15 = .ok (.iconst (-1), 1) := by decide +kernel
theorem dX11_blend_16 : decode cX11_blend 16 = .ok (.istore_n 2, 1) := by decide +kernel
theorem dX11_blend_17 : decode cX11_blend 17 = .ok (.iconst 1, 1) := by decide +kernel
theorem dX11_blend_18 : decode cX11_blend 18 = .ok (.istore_n 3, 1) := by decide +kernel
theorem dX11_blend_19 : decode cX11_blend 19 = .ok (.iload_n 3, 1) := by decide +kernel
theorem dX11_blend_20 : decode cX11_blend 20 = .ok (.iconst 1, 1) := by decide +kernel
theorem dX11_blend_21 : decode cX11_blend 21 = .ok (.aload_n 0, 1) := by decide +kernel
theorem dX11_blend_22 : decode cX11_blend 22 = .ok (.getfield 13, 3) := by decide +kernel
theorem dX11_blend_25 : decode cX11_blend 25 = .ok (.iconst 0, 1) := by decide +kernel
theorem dX11_blend_26 : decode cX11_blend 26 = .ok (.iaload, 1) := by decide +kernel
theorem dX11_blend_27 : decode cX11_blend 27 = .ok (.ishl, 1) := by decide +kernel
theorem dX11_blend_28 : decode cX11_blend 28 = .ok (.if_icmp .ge 119, 3) := by decide +kernel
theorem dX11_blend_31 : decode cX11_blend 31 = .ok (.iconst 0, 1) := by decide +kernel
theorem dX11_blend_32 : decode cX11_blend 32 = .ok (.istore 4, 2) := by decide +kernel
theorem dX11_blend_34 : decode cX11_blend 34 = .ok (.iload_n 2, 1) := by decide +kernel
theorem dX11_blend_35 : decode cX11_blend 35 = .ok (.ifCond .lt 14, 3) := by decide +kernel
theorem dX11_blend_38 : decode cX11_blend 38 = .ok (.iload_n 3, 1) := by decide +kernel
theorem dX11_blend_39 : decode cX11_blend 39 = .ok (.invokestatic 447, 3) := by decide +kernel
theorem dX11_blend_42 : decode cX11_blend 42 = .ok (.iload_n 2, 1) := by decide +kernel
theorem dX11_blend_43 : decode cX11_blend 43 = .ok (.invokestatic 447, 3) := by decide +kernel
theorem dX11_blend_46 : decode cX11_blend 46 = .ok (.if_icmp .ge 7, 3) := by decide +kernel
theorem dX11_blend_49 : decode cX11_blend 49 = .ok (.iconst 1, 1) := by decide +kernel
theorem dX11_blend_50 : decode cX11_blend 50 = .ok (.goto 4, 3) := by decide +kernel
theorem dX11_blend_53 : decode cX11_blend 53 = .ok (.iconst 0, 1) := by decide +kernel
theorem dX11_blend_54 : decode cX11_blend 54 = .ok (.istore 5, 2) := by decide +kernel
theorem dX11_blend_56 : decode cX11_blend 56 = .ok (.iconst 0, 1) := by decide +kernel
theorem dX11_blend_57 : decode cX11_blend 57 = .ok (.istore 6, 2) := by decide +kernel
theorem dX11_blend_59 : decode cX11_blend 59 = .ok (.iload 6, 2) := by decide +kernel
theorem dX11_blend_61 : decode cX11_blend 61 = .ok (.aload_n 0, 1) := by decide +kernel
theorem dX11_blend_62 : decode cX11_blend 62 = .ok (.getfield 13, 3) := by decide +kernel
theorem dX11_blend_65 : decode cX11_blend 65 = .ok (.iconst 0, 1) := by decide +kernel
theorem dX11_blend_66 : decode cX11_blend 66 = .ok (.iaload, 1) := by decide +kernel
theorem dX11_blend_67 : decode cX11_blend 67 = .ok (.if_icmp .ge 57, 3) := by decide +kernel
theorem dX11_blend_70 : decode cX11_blend 70 = .ok (.iload 5, 2) := by decide +kernel
theorem dX11_blend_72 : decode cX11_blend 72 = .ok (.ifCond .eq 52, 3) := by decide +kernel
theorem dX11_blend_75 : decode cX11_blend 75 = .ok (.iload_n 3, 1) := by decide +kernel
theorem dX11_blend_76 : decode cX11_blend 76 = .ok (.iload 6, 2) := by decide +kernel
theorem dX11_blend_78 : decode cX11_blend 78 = .ok (.ishr, 1) := by decide +kernel
theorem dX11_blend_79 : decode cX11_blend 79 = .ok (.iconst 1, 1) := by decide +kernel
theorem dX11_blend_80 : decode cX11_blend 80 = .ok (.iand, 1) := by decide +kernel
theorem dX11_blend_81 : decode cX11_blend 81 = .ok (.ifCond .ne 6, 3) := by decide +kernel
theorem dX11_blend_84 : decode cX11_blend 84 = .ok (.goto 34, 3) := by decide +kernel
theorem dX11_blend_87 : decode cX11_blend 87 = .ok (.aload_n 0, 1) := by decide +kernel
theorem dX11_blend_88 : decode cX11_blend 88 = .ok (.getfield 114, 3) := by decide +kernel
theorem dX11_blend_91 : decode cX11_blend 91 = .ok (.bipush 8, 2) := by decide +kernel
theorem dX11_blend_93 : decode cX11_blend 93 = .ok (.iload 6, 2) := by decide +kernel
theorem dX11_blend_95 : decode cX11_blend 95 = .ok (.iadd, 1) := by decide +kernel
theorem dX11_blend_96 : decode cX11_blend 96 = .ok (.iaload, 1) := by decide +kernel
theorem dX11_blend_97 : decode cX11_blend 97 = .ok (.ifCond .le 7, 3) := by decide +kernel
theorem dX11_blend_100 : decode cX11_blend 100 = .ok (.iconst 1, 1) := by decide +kernel
theorem dX11_blend_101 : decode cX11_blend 101 = .ok (.goto 4, 3) := by decide +kernel
theorem dX11_blend_104 : decode cX11_blend 104 = .ok (.iconst 0, 1) := by decide +kernel
theorem dX11_blend_105 : decode cX11_blend 105 = .ok (.istore 5, 2) := by decide +kernel
theorem dX11_blend_107 : decode cX11_blend 107 = .ok (.iload 4, 2) := by decide +kernel
theorem dX11_blend_109 : decode cX11_blend 109 = .ok (.aload_n 0, 1) := by decide +kernel
theorem dX11_blend_110 : decode cX11_blend 110 = .ok (.iload 6, 2) := by decide +kernel
theorem dX11_blend_112 : decode cX11_blend 112 = .ok (.invokevirtual 394, 3) := by decide +kernel
theorem dX11_blend_115 : decode cX11_blend 115 = .ok (.iadd, 1) := by decide +kernel
theorem dX11_blend_116 : decode cX11_blend 116 = .ok (.istore 4, 2) := by decide +kernel
theorem dX11_blend_118 : decode cX11_blend 118 = .ok (.iinc 6 1, 3) := by decide +kernel
theorem dX11_blend_121 : decode cX11_blend 121 = .ok (.goto (-62), 3) := by decide +kernel
theorem dX11_blend_124 : decode cX11_blend 124 = .ok (.iload 5, 2) := by decide +kernel
theorem dX11_blend_126 : decode cX11_blend 126 = .ok (.ifCond .eq 15, 3) := by decide +kernel
theorem dX11_blend_129 : decode cX11_blend 129 = .ok (.aload_n 0, 1) := by decide +kernel
theorem dX11_blend_130 : decode cX11_blend 130 = .ok (.iload_n 1, 1) := by decide +kernel
theorem dX11_blend_131 : decode cX11_blend 131 = .ok (.iload 4, 2) := by decide +kernel
theorem dX11_blend_133 : decode cX11_blend 133 = .ok (.invokevirtual 434, 3) := by decide +kernel
theorem dX11_blend_136 : decode cX11_blend 136 = .ok (.ifCond .eq 5, 3) := by decide +kernel
theorem dX11_blend_139 : decode cX11_blend 139 = .ok (.iload_n 3, 1) := by decide +kernel
theorem dX11_blend_140 : decode cX11_blend 140 = .ok (.istore_n 2, 1) := by decide +kernel
theorem dX11_blend_141 : decode cX11_blend 141 = .ok (.iinc 3 1, 3) := by decide +kernel
theorem dX11_blend_144 : decode cX11_blend 144 = .ok (.goto (-125), 3) := by decide +kernel
theorem dX11_blend_147 : decode cX11_blend 147 = .ok (.iload_n 2, 1) := by decide +kernel
theorem dX11_blend_148 : decode cX11_blend 148 = .ok (.ireturn, 1) := by decide +kernel
theorem dX11_aim_0 : decode cX11_aim 0 = .ok (.aload_n 0, 1) := by decide +kernel
theorem dX11_aim_1 : decode cX11_aim 1 = .ok (.iconst 0, 1) := by decide +kernel
theorem dX11_aim_2 : decode cX11_aim 2 = .ok (.putfield 153, 3) := by decide +kernel
theorem dX11_aim_5 : decode cX11_aim 5 = .ok (.aload_n 0, 1) := by decide +kernel
theorem dX11_aim_6 : decode cX11_aim 6 = .ok (.iload_n 1, 1) := by decide +kernel
theorem dX11_aim_7 : decode cX11_aim 7 = .ok (.invokevirtual 400, 3) := by decide +kernel
theorem dX11_aim_10 : decode cX11_aim 10 = .ok (.ifCond .eq 22, 3) := by decide +kernel
theorem dX11_aim_13 : decode cX11_aim 13 = .ok (.iload_n 2, 1) := by decide +kernel
theorem dX11_aim_14 : decode cX11_aim 14 = .ok (.iconst 1, 1) := by decide +kernel
theorem dX11_aim_15 : decode cX11_aim 15 = .ok (.bipush 20, 2) := by decide +kernel
theorem dX11_aim_17 : decode cX11_aim 17 = .ok (.invokestatic 274, 3) := by decide +kernel
theorem dX11_aim_20 : decode cX11_aim 20 = .ok (.ifCond .eq 12, 3) := by decide +kernel
theorem dX11_aim_23 : decode cX11_aim 23 = .ok (.iload_n 3, 1) := by decide +kernel
theorem dX11_aim_24 : decode cX11_aim 24 = .ok (.iconst 0, 1) := by decide +kernel
theorem dX11_aim_25 : decode cX11_aim 25 = .ok (.iconst 1, 1) := by decide +kernel
theorem dX11_aim_26 : decode cX11_aim 26 = .ok (.invokestatic 274, 3) := by decide +kernel
theorem dX11_aim_29 : decode cX11_aim 29 = .ok (.ifCond .ne 5, 3) := by decide +kernel
theorem dX11_aim_32 : decode cX11_aim 32 = .ok (.iconst (-1), 1) := by decide +kernel
theorem dX11_aim_33 : decode cX11_aim 33 = .ok (.ireturn, 1) := by decide +kernel
theorem dX11_aim_34 : decode cX11_aim 34 = .ok (.aload_n 0, 1) := by decide +kernel
theorem dX11_aim_35 : decode cX11_aim 35 = .ok (.getfield 114, 3) := by decide +kernel
theorem dX11_aim_38 : decode cX11_aim 38 = .ok (.iconst 0, 1) := by decide +kernel
theorem dX11_aim_39 : decode cX11_aim 39 = .ok (.aload_n 0, 1) := by decide +kernel
theorem dX11_aim_40 : decode cX11_aim 40 = .ok (.getfield 123, 3) := by decide +kernel
theorem dX11_aim_43 : decode cX11_aim 43 = .ok (.iconst 0, 1) := by decide +kernel
theorem dX11_aim_44 : decode cX11_aim 44 = .ok (.invokestatic 403, 3) := by decide +kernel
theorem dX11_aim_47 : decode cX11_aim 47 = .ok (.iconst 0, 1) := by decide +kernel
theorem dX11_aim_48 : decode cX11_aim 48 = .ok (.istore 4, 2) := by decide +kernel
theorem dX11_aim_50 : decode cX11_aim 50 = .ok (.iload 4, 2) := by decide +kernel
theorem dX11_aim_52 : decode cX11_aim 52 = .ok (.bipush 10, 2) := by decide +kernel
theorem dX11_aim_54 : decode cX11_aim 54 = .ok (.if_icmp .ge 103, 3) := by decide +kernel
theorem dX11_aim_57 : decode cX11_aim 57 = .ok (.iconst 0, 1) := by decide +kernel
theorem dX11_aim_58 : decode cX11_aim 58 = .ok (.istore 5, 2) := by decide +kernel
theorem dX11_aim_60 : decode cX11_aim 60 = .ok (.iload 5, 2) := by decide +kernel
theorem dX11_aim_62 : decode cX11_aim 62 = .ok (.aload_n 0, 1) := by decide +kernel
theorem dX11_aim_63 : decode cX11_aim 63 = .ok (.getfield 13, 3) := by decide +kernel
theorem dX11_aim_66 : decode cX11_aim 66 = .ok (.iconst 0, 1) := by decide +kernel
theorem dX11_aim_67 : decode cX11_aim 67 = .ok (.iaload, 1) := by decide +kernel
theorem dX11_aim_68 : decode cX11_aim 68 = .ok (.if_icmp .ge 83, 3) := by decide +kernel
theorem dX11_aim_71 : decode cX11_aim 71 = .ok (.aload_n 0, 1) := by decide +kernel
theorem dX11_aim_72 : decode cX11_aim 72 = .ok (.getfield 114, 3) := by decide +kernel
theorem dX11_aim_75 : decode cX11_aim 75 = .ok (.iconst 2, 1) := by decide +kernel
theorem dX11_aim_76 : decode cX11_aim 76 = .ok (.iload 5, 2) := by decide +kernel
theorem dX11_aim_78 : decode cX11_aim 78 = .ok (.iadd, 1) := by decide +kernel
theorem dX11_aim_79 : decode cX11_aim 79 = .ok (.iload 4, 2) := by decide +kernel
theorem dX11_aim_81 : decode cX11_aim 81 = .ok (.iastore, 1) := by decide +kernel
theorem dX11_aim_82 : decode cX11_aim 82 = .ok (.iconst 0, 1) := by decide +kernel
theorem dX11_aim_83 : decode cX11_aim 83 = .ok (.istore 6, 2) := by decide +kernel
theorem dX11_aim_85 : decode cX11_aim 85 = .ok (.iload 6, 2) := by decide +kernel
theorem dX11_aim_87 : decode cX11_aim 87 = .ok (.iload_n 2, 1) := by decide +kernel
theorem dX11_aim_88 : decode cX11_aim 88 = .ok (.if_icmp .ge 14, 3) := by decide +kernel
theorem dX11_aim_91 : decode cX11_aim 91 = .ok (.aload_n 0, 1) := by decide +kernel
theorem dX11_aim_92 : decode cX11_aim 92 = .ok (.invokevirtual 410, 3) := by decide +kernel
theorem dX11_aim_95 : decode cX11_aim 95 = .ok (.pop, 1) := by decide +kernel
theorem dX11_aim_96 : decode cX11_aim 96 = .ok (.iinc 6 1, 3) := by decide +kernel
theorem dX11_aim_99 : decode cX11_aim 99 = .ok (.goto (-14), 3) := by decide +kernel
theorem dX11_aim_102 : decode cX11_aim 102 = .ok (.aload_n 0, 1) := by decide +kernel
theorem dX11_aim_103 : decode cX11_aim 103 = .ok (.iload 5, 2) := by decide +kernel
theorem dX11_aim_105 : decode cX11_aim 105 = .ok (.invokevirtual 394, 3) := by decide +kernel
theorem dX11_aim_108 : decode cX11_aim 108 = .ok (.istore 6, 2) := by decide +kernel
theorem dX11_aim_110 : decode cX11_aim 110 = .ok (.aload_n 0, 1) := by decide +kernel
theorem dX11_aim_111 : decode cX11_aim 111 = .ok (.getfield 123, 3) := by decide +kernel
theorem dX11_aim_114 : decode cX11_aim 114 = .ok (.iconst 0, 1) := by decide +kernel
theorem dX11_aim_115 : decode cX11_aim 115 = .ok (.aload_n 0, 1) := by decide +kernel
theorem dX11_aim_116 : decode cX11_aim 116 = .ok (.getfield 114, 3) := by decide +kernel
theorem dX11_aim_119 : decode cX11_aim 119 = .ok (.iconst 0, 1) := by decide +kernel
theorem dX11_aim_120 : decode cX11_aim 120 = .ok (.invokestatic 403, 3) := by decide +kernel
theorem dX11_aim_123 : decode cX11_aim 123 = .ok (.aload_n 0, 1) := by decide +kernel
theorem dX11_aim_124 : decode cX11_aim 124 = .ok (.iload_n 1, 1) := by decide +kernel
theorem dX11_aim_125 : decode cX11_aim 125 = .ok (.iload 6, 2) := by decide +kernel
theorem dX11_aim_127 : decode cX11_aim 127 = .ok (.invokevirtual 434, 3) := by decide +kernel
theorem dX11_aim_130 : decode cX11_aim 130 = .ok (.ifCond .eq 15, 3) := by decide +kernel
theorem dX11_aim_133 : decode cX11_aim 133 = .ok (.iload_n 3, 1) := by decide +kernel
theorem dX11_aim_134 : decode cX11_aim 134 = .ok (.ifCond .ne 8, 3) := by decide +kernel
theorem dX11_aim_137 : decode cX11_aim 137 = .ok (.iload 4, 2) := by decide +kernel
theorem dX11_aim_139 : decode cX11_aim 139 = .ok (.goto 5, 3) := by decide +kernel
theorem dX11_aim_142 : decode cX11_aim 142 = .ok (.iload 5, 2) := by decide +kernel
theorem dX11_aim_144 : decode cX11_aim 144 = .ok (.ireturn, 1) := by decide +kernel
theorem dX11_aim_145 : decode cX11_aim 145 = .ok (.iinc 5 1, 3) := by decide +kernel
theorem dX11_aim_148 : decode cX11_aim 148 = .ok (.goto (-88), 3) := by decide +kernel
theorem dX11_aim_151 : decode cX11_aim 151 = .ok (.iinc 4 1, 3) := by decide +kernel
theorem dX11_aim_154 : decode cX11_aim 154 = .ok (.goto (-104), 3) := by decide +kernel
theorem dX11_aim_157 : decode cX11_aim 157 = .ok (.iconst (-1), 1) := by decide +kernel
theorem dX11_aim_158 : decode cX11_aim 158 = .ok (.ireturn, 1) := by decide +kernel
theorem dX11_reachOf_0 : decode cX11_reachOf 0 = .ok (.iconst 1, 1) := by decide +kernel
theorem dX11_reachOf_1 : decode cX11_reachOf 1 = .ok (.iload_n 1, 1) := by decide +kernel
theorem dX11_reachOf_2 : decode cX11_reachOf 2 = .ok (.ishl, 1) := by decide +kernel
theorem dX11_reachOf_3 : decode cX11_reachOf 3 = .ok (.istore_n 2, 1) := by decide +kernel
theorem dX11_reachOf_4 : decode cX11_reachOf 4 = .ok (.iconst 0, 1) := by decide +kernel
theorem dX11_reachOf_5 : decode cX11_reachOf 5 = .ok (.istore_n 3, 1) := by decide +kernel
theorem dX11_reachOf_6 : decode cX11_reachOf 6 = .ok (.iload_n 3, 1) := by decide +kernel
theorem dX11_reachOf_7 : decode cX11_reachOf 7 = .ok (.bipush 6, 2) := by decide +kernel
theorem dX11_reachOf_9 : decode cX11_reachOf 9 = .ok (.if_icmp .ge 53, 3) := by decide +kernel
theorem dX11_reachOf_12 : decode cX11_reachOf 12 = .ok (.iconst 0, 1) := by decide +kernel
theorem dX11_reachOf_13 : decode cX11_reachOf 13 = .ok (.istore 4, 2) := by decide +kernel
theorem dX11_reachOf_15 : decode cX11_reachOf 15 = .ok (.iload 4, 2) := by decide +kernel
theorem dX11_reachOf_17 : decode cX11_reachOf 17 = .ok (.aload_n 0, 1) := by decide +kernel
theorem dX11_reachOf_18 : decode cX11_reachOf 18 = .ok (.getfield 13, 3) := by decide +kernel
theorem dX11_reachOf_21 : decode cX11_reachOf 21 = .ok (.iconst 0, 1) := by decide +kernel
theorem dX11_reachOf_22 : decode cX11_reachOf 22 = .ok (.iaload, 1) := by decide +kernel
theorem dX11_reachOf_23 : decode cX11_reachOf 23 = .ok (.if_icmp .ge 33, 3) := by decide +kernel
theorem dX11_reachOf_26 : decode cX11_reachOf 26 = .ok (.iload_n 2, 1) := by decide +kernel
theorem dX11_reachOf_27 : decode cX11_reachOf 27 = .ok (.iload_n 2, 1) := by decide +kernel
theorem dX11_reachOf_28 : decode cX11_reachOf 28 = .ok (.iload 4, 2) := by decide +kernel
theorem dX11_reachOf_30 : decode cX11_reachOf 30 = .ok (.ishr, 1) := by decide +kernel
theorem dX11_reachOf_31 : decode cX11_reachOf 31 = .ok (.iconst 1, 1) := by decide +kernel
theorem dX11_reachOf_32 : decode cX11_reachOf 32 = .ok (.iand, 1) := by decide +kernel
theorem dX11_reachOf_33 : decode cX11_reachOf 33 = .ok (.iconst 1, 1) := by decide +kernel
theorem dX11_reachOf_34 : decode cX11_reachOf 34 = .ok (.if_icmp .ne 13, 3) := by decide +kernel
theorem dX11_reachOf_37 : decode cX11_reachOf 37 = .ok (.aload_n 0, 1) := by decide +kernel
theorem dX11_reachOf_38 : decode cX11_reachOf 38 = .ok (.getfield 32, 3) := by decide +kernel
theorem dX11_reachOf_41 : decode cX11_reachOf 41 = .ok (.iload 4, 2) := by decide +kernel
theorem dX11_reachOf_43 : decode cX11_reachOf 43 = .ok (.iaload, 1) := by decide +kernel
theorem dX11_reachOf_44 : decode cX11_reachOf 44 = .ok (.goto 4, 3) := by decide +kernel
theorem dX11_reachOf_47 : decode cX11_reachOf 47 = .ok (.iconst 0, 1) := by decide +kernel
theorem dX11_reachOf_48 : decode cX11_reachOf 48 = .ok (.ior, 1) := by decide +kernel
theorem dX11_reachOf_49 : decode cX11_reachOf 49 = .ok (.istore_n 2, 1) := by decide +kernel
theorem dX11_reachOf_50 : decode cX11_reachOf 50 = .ok (.iinc 4 1, 3) := by decide +kernel
theorem dX11_reachOf_53 : decode cX11_reachOf 53 = .ok (.goto (-38), 3) := by decide +kernel
theorem dX11_reachOf_56 : decode cX11_reachOf 56 = .ok (.iinc 3 1, 3) := by decide +kernel
theorem dX11_reachOf_59 : decode cX11_reachOf 59 = .ok (.goto (-53), 3) := by decide +kernel
theorem dX11_reachOf_62 : decode cX11_reachOf 62 = .ok (.iload_n 2, 1) := by decide +kernel
theorem dX11_reachOf_63 : decode cX11_reachOf 63 = .ok (.ireturn, 1) := by decide +kernel
theorem dX11_reach_0 : decode cX11_reach 0 = .ok (.aload_n 0, 1) := by decide +kernel
theorem dX11_reach_1 : decode cX11_reach 1 = .ok (.iconst 0, 1) := by decide +kernel
theorem dX11_reach_2 : decode cX11_reach 2 = .ok (.putfield 153, 3) := by decide +kernel
theorem dX11_reach_5 : decode cX11_reach 5 = .ok (.aload_n 0, 1) := by decide +kernel
theorem dX11_reach_6 : decode cX11_reach 6 = .ok (.iload_n 1, 1) := by decide +kernel
theorem dX11_reach_7 : decode cX11_reach 7 = .ok (.invokevirtual 397, 3) := by decide +kernel
theorem dX11_reach_10 : decode cX11_reach 10 = .ok (.ifCond .eq 11, 3) := by decide +kernel
theorem dX11_reach_13 : decode cX11_reach 13 = .ok (.aload_n 0, 1) := by decide +kernel
theorem dX11_reach_14 : decode cX11_reach 14 = .ok (.iload_n 1, 1) := by decide +kernel
theorem dX11_reach_15 : decode cX11_reach 15 = .ok (.invokevirtual 450, 3) := by decide +kernel
theorem dX11_reach_18 : decode cX11_reach 18 = .ok (.goto 4, 3) := by decide +kernel
theorem dX11_reach_21 : decode cX11_reach 21 = .ok (.iconst (-1), 1) := by decide +kernel
theorem dX11_reach_22 : decode cX11_reach 22 = .ok (.ireturn, 1) := by decide +kernel
theorem dX11_far_0 : decode cX11_far 0 = .ok (.aload_n 0, 1) := by decide +kernel
theorem dX11_far_1 : decode cX11_far 1 = .ok (.iconst 0, 1) := by decide +kernel
theorem dX11_far_2 : decode cX11_far 2 = .ok (.putfield 153, 3) := by decide +kernel
theorem dX11_far_5 : decode cX11_far 5 = .ok (.aload_n 0, 1) := by decide +kernel
theorem dX11_far_6 : decode cX11_far 6 = .ok (.iload_n 1, 1) := by decide +kernel
theorem dX11_far_7 : decode cX11_far 7 = .ok (.invokevirtual 397, 3) := by decide +kernel
theorem dX11_far_10 : decode cX11_far 10 = .ok (.ifCond .eq 11, 3) := by decide +kernel
theorem dX11_far_13 : decode cX11_far 13 = .ok (.aload_n 0, 1) := by decide +kernel
theorem dX11_far_14 : decode cX11_far 14 = .ok (.iload_n 2, 1) := by decide +kernel
theorem dX11_far_15 : decode cX11_far 15 = .ok (.invokevirtual 397, 3) := by decide +kernel
theorem dX11_far_18 : decode cX11_far 18 = .ok (.ifCond .ne 5, 3) := by decide +kernel
theorem dX11_far_21 : decode cX11_far 21 = .ok (.iconst (-1), 1) := by decide +kernel
theorem dX11_far_22 : decode cX11_far 22 = .ok (.ireturn, 1) := by decide +kernel
theorem dX11_far_23 : decode cX11_far 23 = .ok (.iconst 1, 1) := by decide +kernel
theorem dX11_far_24 : decode cX11_far 24 = .ok (.iload_n 1, 1) := by decide +kernel
theorem dX11_far_25 : decode cX11_far 25 = .ok (.ishl, 1) := by decide +kernel
theorem dX11_far_26 : decode cX11_far 26 = .ok (.istore_n 3, 1) := by decide +kernel
theorem dX11_far_27 : decode cX11_far 27 = .ok (.iconst 0, 1) := by decide +kernel
theorem dX11_far_28 : decode cX11_far 28 = .ok (.istore 4, 2) := by decide +kernel
theorem dX11_far_30 : decode cX11_far 30 = .ok (.iload 4, 2) := by decide +kernel
theorem dX11_far_32 : decode cX11_far 32 = .ok (.bipush 6, 2) := by decide +kernel
theorem dX11_far_34 : decode cX11_far 34 = .ok (.if_icmp .ge 73, 3) := by decide +kernel
theorem dX11_far_37 : decode cX11_far 37 = .ok (.iload_n 3, 1) := by decide +kernel
theorem dX11_far_38 : decode cX11_far 38 = .ok (.iload_n 2, 1) := by decide +kernel
theorem dX11_far_39 : decode cX11_far 39 = .ok (.ishr, 1) := by decide +kernel
theorem dX11_far_40 : decode cX11_far 40 = .ok (.iconst 1, 1) := by decide +kernel
theorem dX11_far_41 : decode cX11_far 41 = .ok (.iand, 1) := by decide +kernel
theorem dX11_far_42 : decode cX11_far 42 = .ok (.iconst 1, 1) := by decide +kernel
theorem dX11_far_43 : decode cX11_far 43 = .ok (.if_icmp .ne 6, 3) := by decide +kernel
theorem dX11_far_46 : decode cX11_far 46 = .ok (.iload 4, 2) := by decide +kernel
theorem dX11_far_48 : decode cX11_far 48 = .ok (.ireturn, 1) := by decide +kernel
theorem dX11_far_49 : decode cX11_far 49 = .ok (.iload_n 3, 1) := by decide +kernel
theorem dX11_far_50 : decode cX11_far 50 = .ok (.istore 5, 2) := by decide +kernel
theorem dX11_far_52 : decode cX11_far 52 = .ok (.iconst 0, 1) := by decide +kernel
theorem dX11_far_53 : decode cX11_far 53 = .ok (.istore 6, 2) := by decide +kernel
theorem dX11_far_55 : decode cX11_far 55 = .ok (.iload 6, 2) := by decide +kernel
theorem dX11_far_57 : decode cX11_far 57 = .ok (.aload_n 0, 1) := by decide +kernel
theorem dX11_far_58 : decode cX11_far 58 = .ok (.getfield 13, 3) := by decide +kernel
theorem dX11_far_61 : decode cX11_far 61 = .ok (.iconst 0, 1) := by decide +kernel
theorem dX11_far_62 : decode cX11_far 62 = .ok (.iaload, 1) := by decide +kernel
theorem dX11_far_63 : decode cX11_far 63 = .ok (.if_icmp .ge 35, 3) := by decide +kernel
theorem dX11_far_66 : decode cX11_far 66 = .ok (.iload 5, 2) := by decide +kernel
theorem dX11_far_68 : decode cX11_far 68 = .ok (.iload_n 3, 1) := by decide +kernel
theorem dX11_far_69 : decode cX11_far 69 = .ok (.iload 6, 2) := by decide +kernel
theorem dX11_far_71 : decode cX11_far 71 = .ok (.ishr, 1) := by decide +kernel
theorem dX11_far_72 : decode cX11_far 72 = .ok (.iconst 1, 1) := by decide +kernel
theorem dX11_far_73 : decode cX11_far 73 = .ok (.iand, 1) := by decide +kernel
theorem dX11_far_74 : decode cX11_far 74 = .ok (.iconst 1, 1) := by decide +kernel
theorem dX11_far_75 : decode cX11_far 75 = .ok (.if_icmp .ne 13, 3) := by decide +kernel
theorem dX11_far_78 : decode cX11_far 78 = .ok (.aload_n 0, 1) := by decide +kernel
theorem dX11_far_79 : decode cX11_far 79 = .ok (.getfield 32, 3) := by decide +kernel
theorem dX11_far_82 : decode cX11_far 82 = .ok (.iload 6, 2) := by decide +kernel
theorem dX11_far_84 : decode cX11_far 84 = .ok (.iaload, 1) := by decide +kernel
theorem dX11_far_85 : decode cX11_far 85 = .ok (.goto 4, 3) := by decide +kernel
theorem dX11_far_88 : decode cX11_far 88 = .ok (.iconst 0, 1) := by decide +kernel
theorem dX11_far_89 : decode cX11_far 89 = .ok (.ior, 1) := by decide +kernel
theorem dX11_far_90 : decode cX11_far 90 = .ok (.istore 5, 2) := by decide +kernel
theorem dX11_far_92 : decode cX11_far 92 = .ok (.iinc 6 1, 3) := by decide +kernel
theorem dX11_far_95 : decode cX11_far 95 = .ok (.goto (-40), 3) := by decide +kernel
theorem dX11_far_98 : decode cX11_far 98 = .ok (.iload 5, 2) := by decide +kernel
theorem dX11_far_100 : decode cX11_far 100 = .ok (.istore_n 3, 1) := by decide +kernel
theorem dX11_far_101 : decode cX11_far 101 = .ok (.iinc 4 1, 3) := by decide +kernel
theorem dX11_far_104 : decode cX11_far 104 = .ok (.goto (-74), 3) := by decide +kernel
theorem dX11_far_107 : decode cX11_far 107 = .ok (.iconst (-1), 1) := by decide +kernel
theorem dX11_far_108 : decode cX11_far 108 = .ok (.ireturn, 1) := by decide +kernel
theorem dX11_parts_0 : decode cX11_parts 0 = .ok (.aload_n 0, 1) := by decide +kernel
theorem dX11_parts_1 : decode cX11_parts 1 = .ok (.iconst 0, 1) := by decide +kernel
theorem dX11_parts_2 : decode cX11_parts 2 = .ok (.putfield 153, 3) := by decide +kernel
theorem dX11_parts_5 : decode cX11_parts 5 = .ok (.iconst 0, 1) := by decide +kernel
theorem dX11_parts_6 : decode cX11_parts 6 = .ok (.istore_n 1, 1) := by decide +kernel
theorem dX11_parts_7 : decode cX11_parts 7 = .ok (.iconst 0, 1) := by decide +kernel
theorem dX11_parts_8 : decode cX11_parts 8 = .ok (.istore_n 2, 1) := by decide +kernel
theorem dX11_parts_9 : decode cX11_parts 9 = .ok (.iload_n 2, 1) := by decide +kernel
theorem dX11_parts_10 : decode cX11_parts 10 = .ok (.aload_n 0, 1) := by decide +kernel
theorem dX11_parts_11 : decode cX11_parts 11 = .ok (.getfield 13, 3) := by decide +kernel
theorem dX11_parts_14 : decode cX11_parts 14 = .ok (.iconst 0, 1) := by decide +kernel
theorem dX11_parts_15 : decode cX11_parts 15 = .ok (.iaload, 1) := by decide +kernel
theorem dX11_parts_16 : decode cX11_parts 16 = .ok (.if_icmp .ge 29, 3) := by decide +kernel
theorem dX11_parts_19 : decode cX11_parts 19 = .ok (.iload_n 1, 1) := by decide +kernel
theorem dX11_parts_20 : decode cX11_parts 20 = .ok (.aload_n 0, 1) := by decide +kernel
theorem dX11_parts_21 : decode cX11_parts 21 = .ok (.iload_n 2, 1) := by decide +kernel
theorem dX11_parts_22 : decode cX11_parts 22 = .ok (.invokevirtual 450, 3) := by decide +kernel
theorem dX11_parts_25 : decode cX11_parts 25 = .ok (.invokestatic 428, 3) := by decide +kernel
theorem dX11_parts_28 : decode cX11_parts 28 = .ok (.iload_n 2, 1) := by decide +kernel
theorem dX11_parts_29 : decode cX11_parts 29 = .ok (.if_icmp .ne 7, 3) := by decide +kernel
theorem dX11_parts_32 : decode cX11_parts 32 = .ok (.iconst 1, 1) := by decide +kernel
theorem dX11_parts_33 : decode cX11_parts 33 = .ok (.goto 4, 3) := by decide +kernel
theorem dX11_parts_36 : decode cX11_parts 36 = .ok (.iconst 0, 1) := by decide +kernel
theorem dX11_parts_37 : decode cX11_parts 37 = .ok (.iadd, 1) := by decide +kernel
theorem dX11_parts_38 : decode cX11_parts 38 = .ok (.istore_n 1, 1) := by decide +kernel
theorem dX11_parts_39 : decode cX11_parts 39 = .ok (.iinc 2 1, 3) := by decide +kernel
theorem dX11_parts_42 : decode cX11_parts 42 = .ok (.goto (-33), 3) := by decide +kernel
theorem dX11_parts_45 : decode cX11_parts 45 = .ok (.iload_n 1, 1) := by decide +kernel
theorem dX11_parts_46 : decode cX11_parts 46 = .ok (.ireturn, 1) := by decide +kernel
theorem dX11_heard_0 : decode cX11_heard 0 = .ok (.aload_n 0, 1) := by decide +kernel
theorem dX11_heard_1 : decode cX11_heard 1 = .ok (.iconst 0, 1) := by decide +kernel
theorem dX11_heard_2 : decode cX11_heard 2 = .ok (.putfield 153, 3) := by decide +kernel
theorem dX11_heard_5 : decode cX11_heard 5 = .ok (.aload_n 0, 1) := by decide +kernel
theorem dX11_heard_6 : decode cX11_heard 6 = .ok (.iload_n 1, 1) := by decide +kernel
theorem dX11_heard_7 : decode cX11_heard 7 = .ok (.invokevirtual 397, 3) := by decide +kernel
theorem dX11_heard_10 : decode cX11_heard 10 = .ok (.ifCond .eq 15, 3) := by decide +kernel
theorem dX11_heard_13 : decode cX11_heard 13 = .ok (.aload_n 0, 1) := by decide +kernel
theorem dX11_heard_14 : decode cX11_heard 14 = .ok (.getfield 114, 3) := by decide +kernel
theorem dX11_heard_17 : decode cX11_heard 17 = .ok (.bipush 20, 2) := by decide +kernel
theorem dX11_heard_19 : decode cX11_heard 19 = .ok (.iload_n 1, 1) := by decide +kernel
theorem dX11_heard_20 : decode cX11_heard 20 = .ok (.iadd, 1) := by decide +kernel
theorem dX11_heard_21 : decode cX11_heard 21 = .ok (.iaload, 1) := by decide +kernel
theorem dX11_heard_22 : decode cX11_heard 22 = .ok (.goto 4, 3) := by decide +kernel
theorem dX11_heard_25 : decode cX11_heard 25 = .ok (.iconst (-1), 1) := by decide +kernel
theorem dX11_heard_26 : decode cX11_heard 26 = .ok (.ireturn, 1) := by decide +kernel
theorem dX11_haveAllHeard_0 : decode cX11_haveAllHeard 0 = .ok (.iconst 0, 1) := by decide +kernel
theorem dX11_haveAllHeard_1 : decode cX11_haveAllHeard 1 = .ok (.istore_n 1, 1) := by decide +kernel
theorem dX11_haveAllHeard_2 : decode cX11_haveAllHeard 2 = .ok (.iload_n 1, 1) := by decide +kernel
theorem dX11_haveAllHeard_3 : decode cX11_haveAllHeard 3 = .ok (.aload_n 0, 1) := by decide +kernel
theorem dX11_haveAllHeard_4 : decode cX11_haveAllHeard 4 = .ok (.getfield 13, 3) := by decide +kernel
theorem dX11_haveAllHeard_7 : decode cX11_haveAllHeard 7 = .ok (.iconst 0, 1) := by decide +kernel
theorem dX11_haveAllHeard_8 : decode cX11_haveAllHeard 8 = .ok (.iaload, 1) := by decide +kernel
theorem dX11_haveAllHeard_9 : decode cX11_haveAllHeard 9 = .ok (.if_icmp .ge 28, 3) := by decide +kernel
theorem dX11_haveAllHeard_12 : decode cX11_haveAllHeard 12 = .ok (.aload_n 0, 1) := by decide +kernel
theorem dX11_haveAllHeard_13 : decode cX11_haveAllHeard 13 = .ok (.getfield 114, 3) := by decide +kernel
theorem dX11_haveAllHeard_16 : decode cX11_haveAllHeard 16 = .ok (.bipush 20, 2) := by decide +kernel
theorem dX11_haveAllHeard_18 : decode cX11_haveAllHeard 18 = .ok (.iload_n 1, 1) := by decide +kernel
theorem dX11_haveAllHeard_19 : decode cX11_haveAllHeard 19 = .ok (.iadd, 1) := by decide +kernel
theorem dX11_haveAllHeard_20 : decode cX11_haveAllHeard 20 = .ok (.iaload, 1) := by decide +kernel
theorem dX11_haveAllHeard_21 : decode cX11_haveAllHeard 21 = .ok (.aload_n 0, 1) := by decide +kernel
theorem dX11_haveAllHeard_22 : decode cX11_haveAllHeard 22 = .ok (.iload_n 1, 1) := by decide +kernel
theorem dX11_haveAllHeard_23 : decode cX11_haveAllHeard 23 = .ok (.invokevirtual 450, 3) := by decide +kernel
theorem dX11_haveAllHeard_26 : decode cX11_haveAllHeard 26 = .ok (.if_icmp .eq 5, 3) := by decide +kernel
theorem dX11_haveAllHeard_29 : decode cX11_haveAllHeard 29 = .ok (.iconst 0, 1) := by decide +kernel
theorem dX11_haveAllHeard_30 : decode cX11_haveAllHeard 30 = .ok (.ireturn, 1) := by decide +kernel
theorem dX11_haveAllHeard_31 : decode cX11_haveAllHeard 31 = .ok (.iinc 1 1, 3) := by decide +kernel
theorem dX11_haveAllHeard_34 : decode cX11_haveAllHeard 34 = .ok (.goto (-32), 3) := by decide +kernel
theorem dX11_haveAllHeard_37 : decode cX11_haveAllHeard 37 = .ok (.iconst 1, 1) := by decide +kernel
theorem dX11_haveAllHeard_38 : decode cX11_haveAllHeard 38 = .ok (.ireturn, 1) := by decide +kernel
theorem dX11_news_0 : decode cX11_news 0 = .ok (.aload_n 0, 1) := by decide +kernel
theorem dX11_news_1 : decode cX11_news 1 = .ok (.iconst 0, 1) := by decide +kernel
theorem dX11_news_2 : decode cX11_news 2 = .ok (.putfield 153, 3) := by decide +kernel
theorem dX11_news_5 : decode cX11_news 5 = .ok (.aload_n 0, 1) := by decide +kernel
theorem dX11_news_6 : decode cX11_news 6 = .ok (.getfield 114, 3) := by decide +kernel
theorem dX11_news_9 : decode cX11_news 9 = .ok (.iconst 0, 1) := by decide +kernel
theorem dX11_news_10 : decode cX11_news 10 = .ok (.aload_n 0, 1) := by decide +kernel
theorem dX11_news_11 : decode cX11_news 11 = .ok (.getfield 120, 3) := by decide +kernel
theorem dX11_news_14 : decode cX11_news 14 = .ok (.iconst 0, 1) := by decide +kernel
theorem dX11_news_15 : decode cX11_news 15 = .ok (.invokestatic 403, 3) := by decide +kernel
theorem dX11_news_18 : decode cX11_news 18 = .ok (.iconst 0, 1) := by decide +kernel
theorem dX11_news_19 : decode cX11_news 19 = .ok (.istore_n 1, 1) := by decide +kernel
theorem dX11_news_20 : decode cX11_news 20 = .ok (.iload_n 1, 1) := by decide +kernel
theorem dX11_news_21 : decode cX11_news 21 = .ok (.bipush 60, 2) := by decide +kernel
theorem dX11_news_23 : decode cX11_news 23 = .ok (.if_icmp .gt 21, 3) := by decide +kernel
theorem dX11_news_26 : decode cX11_news 26 = .ok (.aload_n 0, 1) := by decide +kernel
theorem dX11_news_27 : decode cX11_news 27 = .ok (.invokevirtual 453, 3) := by decide +kernel
theorem dX11_news_30 : decode cX11_news 30 = .ok (.ifCond .ne 14, 3) := by decide +kernel
theorem dX11_news_33 : decode cX11_news 33 = .ok (.aload_n 0, 1) := by decide +kernel
theorem dX11_news_34 : decode cX11_news 34 = .ok (.invokevirtual 410, 3) := by decide +kernel
theorem dX11_news_37 : decode cX11_news 37 = .ok (.pop, 1) := by decide +kernel
theorem dX11_news_38 : decode cX11_news 38 = .ok (.iinc 1 1, 3) := by decide +kernel
theorem dX11_news_41 : decode cX11_news 41 = .ok (.goto (-21), 3) := by decide +kernel
theorem dX11_news_44 : decode cX11_news 44 = .ok (.aload_n 0, 1) := by decide +kernel
theorem dX11_news_45 : decode cX11_news 45 = .ok (.getfield 120, 3) := by decide +kernel
theorem dX11_news_48 : decode cX11_news 48 = .ok (.iconst 0, 1) := by decide +kernel
theorem dX11_news_49 : decode cX11_news 49 = .ok (.aload_n 0, 1) := by decide +kernel
theorem dX11_news_50 : decode cX11_news 50 = .ok (.getfield 114, 3) := by decide +kernel
theorem dX11_news_53 : decode cX11_news 53 = .ok (.iconst 0, 1) := by decide +kernel
theorem dX11_news_54 : decode cX11_news 54 = .ok (.invokestatic 403, 3) := by decide +kernel
theorem dX11_news_57 : decode cX11_news 57 = .ok (.iload_n 1, 1) := by decide +kernel
theorem dX11_news_58 : decode cX11_news 58 = .ok (.bipush 60, 2) := by decide +kernel
theorem dX11_news_60 : decode cX11_news 60 = .ok (.if_icmp .le 7, 3) := by decide +kernel
theorem dX11_news_63 : decode cX11_news 63 = .ok (.iconst (-1), 1) := by decide +kernel
theorem dX11_news_64 : decode cX11_news 64 = .ok (.goto 4, 3) := by decide +kernel
theorem dX11_news_67 : decode cX11_news 67 = .ok (.iload_n 1, 1) := by decide +kernel
theorem dX11_news_68 : decode cX11_news 68 = .ok (.ireturn, 1) := by decide +kernel
theorem dX11_loud_0 : decode cX11_loud 0 = .ok (.aload_n 0, 1) := by decide +kernel
theorem dX11_loud_1 : decode cX11_loud 1 = .ok (.iconst 0, 1) := by decide +kernel
theorem dX11_loud_2 : decode cX11_loud 2 = .ok (.putfield 153, 3) := by decide +kernel
theorem dX11_loud_5 : decode cX11_loud 5 = .ok (.iconst (-1), 1) := by decide +kernel
theorem dX11_loud_6 : decode cX11_loud 6 = .ok (.istore_n 1, 1) := by decide +kernel
theorem dX11_loud_7 : decode cX11_loud 7 = .ok (.iconst 0, 1) := by decide +kernel
theorem dX11_loud_8 : decode cX11_loud 8 = .ok (.istore_n 2, 1) := by decide +kernel
theorem dX11_loud_9 : decode cX11_loud 9 = .ok (.iload_n 2, 1) := by decide +kernel
theorem dX11_loud_10 : decode cX11_loud 10 = .ok (.aload_n 0, 1) := by decide +kernel
theorem dX11_loud_11 : decode cX11_loud 11 = .ok (.getfield 13, 3) := by decide +kernel
theorem dX11_loud_14 : decode cX11_loud 14 = .ok (.iconst 0, 1) := by decide +kernel
theorem dX11_loud_15 : decode cX11_loud 15 = .ok (.iaload, 1) := by decide +kernel
theorem dX11_loud_16 : decode cX11_loud 16 = .ok (.if_icmp .ge 28, 3) := by decide +kernel
theorem dX11_loud_19 : decode cX11_loud 19 = .ok (.iload_n 1, 1) := by decide +kernel
theorem dX11_loud_20 : decode cX11_loud 20 = .ok (.ifCond .lt 16, 3) := by decide +kernel
theorem dX11_loud_23 : decode cX11_loud 23 = .ok (.aload_n 0, 1) := by decide +kernel
theorem dX11_loud_24 : decode cX11_loud 24 = .ok (.iload_n 2, 1) := by decide +kernel
theorem dX11_loud_25 : decode cX11_loud 25 = .ok (.invokevirtual 394, 3) := by decide +kernel
theorem dX11_loud_28 : decode cX11_loud 28 = .ok (.aload_n 0, 1) := by decide +kernel
theorem dX11_loud_29 : decode cX11_loud 29 = .ok (.iload_n 1, 1) := by decide +kernel
theorem dX11_loud_30 : decode cX11_loud 30 = .ok (.invokevirtual 394, 3) := by decide +kernel
theorem dX11_loud_33 : decode cX11_loud 33 = .ok (.if_icmp .le 5, 3) := by decide +kernel
theorem dX11_loud_36 : decode cX11_loud 36 = .ok (.iload_n 2, 1) := by decide +kernel
theorem dX11_loud_37 : decode cX11_loud 37 = .ok (.istore_n 1, 1) := by decide +kernel
theorem dX11_loud_38 : decode cX11_loud 38 = .ok (.iinc 2 1, 3) := by decide +kernel
theorem dX11_loud_41 : decode cX11_loud 41 = .ok (.goto (-32), 3) := by decide +kernel
theorem dX11_loud_44 : decode cX11_loud 44 = .ok (.iload_n 1, 1) := by decide +kernel
theorem dX11_loud_45 : decode cX11_loud 45 = .ok (.ireturn, 1) := by decide +kernel
theorem dX11_tall_0 : decode cX11_tall 0 = .ok (.aload_n 0, 1) := by decide +kernel
theorem dX11_tall_1 : decode cX11_tall 1 = .ok (.iconst 0, 1) := by decide +kernel
theorem dX11_tall_2 : decode cX11_tall 2 = .ok (.putfield 153, 3) := by decide +kernel
theorem dX11_tall_5 : decode cX11_tall 5 = .ok (.iconst (-1), 1) := by decide +kernel
theorem dX11_tall_6 : decode cX11_tall 6 = .ok (.istore_n 1, 1) := by decide +kernel
theorem dX11_tall_7 : decode cX11_tall 7 = .ok (.iconst 0, 1) := by decide +kernel
theorem dX11_tall_8 : decode cX11_tall 8 = .ok (.istore_n 2, 1) := by decide +kernel
theorem dX11_tall_9 : decode cX11_tall 9 = .ok (.iload_n 2, 1) := by decide +kernel
theorem dX11_tall_10 : decode cX11_tall 10 = .ok (.aload_n 0, 1) := by decide +kernel
theorem dX11_tall_11 : decode cX11_tall 11 = .ok (.getfield 13, 3) := by decide +kernel
theorem dX11_tall_14 : decode cX11_tall 14 = .ok (.iconst 0, 1) := by decide +kernel
theorem dX11_tall_15 : decode cX11_tall 15 = .ok (.iaload, 1) := by decide +kernel
theorem dX11_tall_16 : decode cX11_tall 16 = .ok (.if_icmp .ge 36, 3) := by decide +kernel
theorem dX11_tall_19 : decode cX11_tall 19 = .ok (.iload_n 1, 1) := by decide +kernel
theorem dX11_tall_20 : decode cX11_tall 20 = .ok (.ifCond .lt 24, 3) := by decide +kernel
theorem dX11_tall_23 : decode cX11_tall 23 = .ok (.aload_n 0, 1) := by decide +kernel
theorem dX11_tall_24 : decode cX11_tall 24 = .ok (.getfield 114, 3) := by decide +kernel
theorem dX11_tall_27 : decode cX11_tall 27 = .ok (.bipush 14, 2) := by decide +kernel
theorem dX11_tall_29 : decode cX11_tall 29 = .ok (.iload_n 2, 1) := by decide +kernel
theorem dX11_tall_30 : decode cX11_tall 30 = .ok (.iadd, 1) := by decide +kernel
theorem dX11_tall_31 : decode cX11_tall 31 = .ok (.iaload, 1) := by decide +kernel
theorem dX11_tall_32 : decode cX11_tall 32 = .ok (.aload_n 0, 1) := by decide +kernel
theorem dX11_tall_33 : decode cX11_tall 33 = .ok (.getfield 114, 3) := by decide +kernel
theorem dX11_tall_36 : decode cX11_tall 36 = .ok (.bipush 14, 2) := by decide +kernel
theorem dX11_tall_38 : decode cX11_tall 38 = .ok (.iload_n 1, 1) := by decide +kernel
theorem dX11_tall_39 : decode cX11_tall 39 = .ok (.iadd, 1) := by decide +kernel
theorem dX11_tall_40 : decode cX11_tall 40 = .ok (.iaload, 1) := by decide +kernel
theorem dX11_tall_41 : decode cX11_tall 41 = .ok (.if_icmp .le 5, 3) := by decide +kernel
theorem dX11_tall_44 : decode cX11_tall 44 = .ok (.iload_n 2, 1) := by decide +kernel
theorem dX11_tall_45 : decode cX11_tall 45 = .ok (.istore_n 1, 1) := by decide +kernel
theorem dX11_tall_46 : decode cX11_tall 46 = .ok (.iinc 2 1, 3) := by decide +kernel
theorem dX11_tall_49 : decode cX11_tall 49 = .ok (.goto (-40), 3) := by decide +kernel
theorem dX11_tall_52 : decode cX11_tall 52 = .ok (.iload_n 1, 1) := by decide +kernel
theorem dX11_tall_53 : decode cX11_tall 53 = .ok (.ireturn, 1) := by decide +kernel
theorem dX11_yields_0 : decode cX11_yields 0 = .ok (.aload_n 0, 1) := by decide +kernel
theorem dX11_yields_1 : decode cX11_yields 1 = .ok (.iconst 0, 1) := by decide +kernel
theorem dX11_yields_2 : decode cX11_yields 2 = .ok (.putfield 153, 3) := by decide +kernel
theorem dX11_yields_5 : decode cX11_yields 5 = .ok (.iload_n 1, 1) := by decide +kernel
theorem dX11_yields_6 : decode cX11_yields 6 = .ok (.iconst 0, 1) := by decide +kernel
theorem dX11_yields_7 : decode cX11_yields 7 = .ok (.bipush 60, 2) := by decide +kernel
theorem dX11_yields_9 : decode cX11_yields 9 = .ok (.invokestatic 274, 3) := by decide +kernel
theorem dX11_yields_12 : decode cX11_yields 12 = .ok (.ifCond .ne 5, 3) := by decide +kernel
theorem dX11_yields_15 : decode cX11_yields 15 = .ok (.iconst (-1), 1) := by decide +kernel
theorem dX11_yields_16 : decode cX11_yields 16 = .ok (.ireturn, 1) := by decide +kernel
theorem dX11_yields_17 : decode cX11_yields 17 = .ok (.aload_n 0, 1) := by decide +kernel
theorem dX11_yields_18 : decode cX11_yields 18 = .ok (.getfield 114, 3) := by decide +kernel
theorem dX11_yields_21 : decode cX11_yields 21 = .ok (.iconst 0, 1) := by decide +kernel
theorem dX11_yields_22 : decode cX11_yields 22 = .ok (.aload_n 0, 1) := by decide +kernel
theorem dX11_yields_23 : decode cX11_yields 23 = .ok (.getfield 120, 3) := by decide +kernel
theorem dX11_yields_26 : decode cX11_yields 26 = .ok (.iconst 0, 1) := by decide +kernel
theorem dX11_yields_27 : decode cX11_yields 27 = .ok (.invokestatic 403, 3) := by decide +kernel
theorem dX11_yields_30 : decode cX11_yields 30 = .ok (.iconst 0, 1) := by decide +kernel
theorem dX11_yields_31 : decode cX11_yields 31 = .ok (.istore_n 2, 1) := by decide +kernel
theorem dX11_yields_32 : decode cX11_yields 32 = .ok (.iload_n 2, 1) := by decide +kernel
theorem dX11_yields_33 : decode cX11_yields 33 = .ok (.iload_n 1, 1) := by decide +kernel
theorem dX11_yields_34 : decode cX11_yields 34 = .ok (.if_icmp .ge 14, 3) := by decide +kernel
theorem dX11_yields_37 : decode cX11_yields 37 = .ok (.aload_n 0, 1) := by decide +kernel
theorem dX11_yields_38 : decode cX11_yields 38 = .ok (.invokevirtual 410, 3) := by decide +kernel
theorem dX11_yields_41 : decode cX11_yields 41 = .ok (.pop, 1) := by decide +kernel
theorem dX11_yields_42 : decode cX11_yields 42 = .ok (.iinc 2 1, 3) := by decide +kernel
theorem dX11_yields_45 : decode cX11_yields 45 = .ok (.goto (-13), 3) := by decide +kernel
theorem dX11_yields_48 : decode cX11_yields 48 = .ok (.aload_n 0, 1) := by decide +kernel
theorem dX11_yields_49 : decode cX11_yields 49 = .ok (.invokevirtual 456, 3) := by decide +kernel
theorem dX11_yields_52 : decode cX11_yields 52 = .ok (.istore_n 2, 1) := by decide +kernel
theorem dX11_yields_53 : decode cX11_yields 53 = .ok (.aload_n 0, 1) := by decide +kernel
theorem dX11_yields_54 : decode cX11_yields 54 = .ok (.getfield 120, 3) := by decide +kernel
theorem dX11_yields_57 : decode cX11_yields 57 = .ok (.iconst 0, 1) := by decide +kernel
theorem dX11_yields_58 : decode cX11_yields 58 = .ok (.aload_n 0, 1) := by decide +kernel
theorem dX11_yields_59 : decode cX11_yields 59 = .ok (.getfield 114, 3) := by decide +kernel
theorem dX11_yields_62 : decode cX11_yields 62 = .ok (.iconst 0, 1) := by decide +kernel
theorem dX11_yields_63 : decode cX11_yields 63 = .ok (.invokestatic 403, 3) := by decide +kernel
theorem dX11_yields_66 : decode cX11_yields 66 = .ok (.iload_n 2, 1) := by decide +kernel
theorem dX11_yields_67 : decode cX11_yields 67 = .ok (.ireturn, 1) := by decide +kernel
