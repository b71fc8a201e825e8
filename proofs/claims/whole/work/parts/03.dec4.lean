theorem dX11_laysCreaks_0 : decode cX11_laysCreaks 0 = .ok (.aload_n 0, 1) := by decide +kernel
theorem dX11_laysCreaks_1 : decode cX11_laysCreaks 1 = .ok (.getfield 114, 3) := by decide +kernel
theorem dX11_laysCreaks_4 : decode cX11_laysCreaks 4 = .ok (.iconst 0, 1) := by decide +kernel
theorem dX11_laysCreaks_5 : decode cX11_laysCreaks 5 = .ok (.aload_n 0, 1) := by decide +kernel
theorem dX11_laysCreaks_6 : decode cX11_laysCreaks 6 = .ok (.getfield 120, 3) := by decide +kernel
theorem dX11_laysCreaks_9 : decode cX11_laysCreaks 9 = .ok (.iconst 0, 1) := by decide +kernel
theorem dX11_laysCreaks_10 : decode cX11_laysCreaks 10 = .ok (.invokestatic 403, 3) := by decide +kernel
theorem dX11_laysCreaks_13 : decode cX11_laysCreaks 13 = .ok (.iconst 0, 1) := by decide +kernel
theorem dX11_laysCreaks_14 : decode cX11_laysCreaks 14 = .ok (.istore_n 1, 1) := by decide +kernel
theorem dX11_laysCreaks_15 : decode cX11_laysCreaks 15 = .ok (.iload_n 1, 1) := by decide +kernel
theorem dX11_laysCreaks_16 : decode cX11_laysCreaks 16 = .ok (.bipush 20, 2) := by decide +kernel
theorem dX11_laysCreaks_18 : decode cX11_laysCreaks 18 = .ok (.if_icmp .ge 59, 3) := by decide +kernel
theorem dX11_laysCreaks_21 : decode cX11_laysCreaks 21 = .ok (.aload_n 0, 1) := by decide +kernel
theorem dX11_laysCreaks_22 : decode cX11_laysCreaks 22 = .ok (.invokevirtual 410, 3) := by decide +kernel
theorem dX11_laysCreaks_25 : decode cX11_laysCreaks 25 = .ok (.pop, 1) := by decide +kernel
theorem dX11_laysCreaks_26 : decode cX11_laysCreaks 26 = .ok (.iconst 0, 1) := by decide +kernel
theorem dX11_laysCreaks_27 : decode cX11_laysCreaks 27 = .ok (.istore_n 2, 1) := by decide +kernel
theorem dX11_laysCreaks_28 : decode cX11_laysCreaks 28 = .ok (.iload_n 2, 1) := by decide +kernel
theorem dX11_laysCreaks_29 : decode cX11_laysCreaks 29 = .ok (.aload_n 0, 1) := by decide +kernel
theorem dX11_laysCreaks_30 : decode cX11_laysCreaks 30 = .ok (.getfield 13, 3) := by decide +kernel
theorem dX11_laysCreaks_33 : decode cX11_laysCreaks 33 = .ok (.iconst 0, 1) := by decide +kernel
theorem dX11_laysCreaks_34 : decode cX11_laysCreaks 34 = .ok (.iaload, 1) := by decide +kernel
theorem dX11_laysCreaks_35 : decode cX11_laysCreaks 35 = .ok (.if_icmp .ge 36, 3) := by decide +kernel
theorem dX11_laysCreaks_38 : decode cX11_laysCreaks 38 = .ok (.aload_n 0, 1) := by decide +kernel
theorem dX11_laysCreaks_39 : decode cX11_laysCreaks 39 = .ok (.getfield 147, 3) := by decide +kernel
theorem dX11_laysCreaks_42 : decode cX11_laysCreaks 42 = .ok (.bipush 6, 2) := by decide +kernel
theorem dX11_laysCreaks_44 : decode cX11_laysCreaks 44 = .ok (.iload_n 1, 1) := by decide +kernel
theorem dX11_laysCreaks_45 : decode cX11_laysCreaks 45 = .ok (.imul, 1) := by decide +kernel
theorem dX11_laysCreaks_46 : decode cX11_laysCreaks 46 = .ok (.iload_n 2, 1) := by decide +kernel
theorem dX11_laysCreaks_47 : decode cX11_laysCreaks 47 = .ok (.iadd, 1) := by decide +kernel
theorem dX11_laysCreaks_48 : decode cX11_laysCreaks 48 = .ok (.aload_n 0, 1) := by decide +kernel
theorem dX11_laysCreaks_49 : decode cX11_laysCreaks 49 = .ok (.getfield 135, 3) := by decide +kernel
theorem dX11_laysCreaks_52 : decode cX11_laysCreaks 52 = .ok (.iload_n 2, 1) := by decide +kernel
theorem dX11_laysCreaks_53 : decode cX11_laysCreaks 53 = .ok (.iaload, 1) := by decide +kernel
theorem dX11_laysCreaks_54 : decode cX11_laysCreaks 54 = .ok (.aload_n 0, 1) := by decide +kernel
theorem dX11_laysCreaks_55 : decode cX11_laysCreaks 55 = .ok (.getfield 114, 3) := by decide +kernel
theorem dX11_laysCreaks_58 : decode cX11_laysCreaks 58 = .ok (.bipush 8, 2) := by decide +kernel
theorem dX11_laysCreaks_60 : decode cX11_laysCreaks 60 = .ok (.iload_n 2, 1) := by decide +kernel
theorem dX11_laysCreaks_61 : decode cX11_laysCreaks 61 = .ok (.iadd, 1) := by decide +kernel
theorem dX11_laysCreaks_62 : decode cX11_laysCreaks 62 = .ok (.iaload, 1) := by decide +kernel
theorem dX11_laysCreaks_63 : decode cX11_laysCreaks 63 = .ok (.imul, 1) := by decide +kernel
theorem dX11_laysCreaks_64 : decode cX11_laysCreaks 64 = .ok (.iastore, 1) := by decide +kernel
theorem dX11_laysCreaks_65 : decode cX11_laysCreaks 65 = .ok (.iinc 2 1, 3) := by decide +kernel
theorem dX11_laysCreaks_68 : decode cX11_laysCreaks 68 = .ok (.goto (-40), 3) := by decide +kernel
theorem dX11_laysCreaks_71 : decode cX11_laysCreaks 71 = .ok (.iinc 1 1, 3) := by decide +kernel
theorem dX11_laysCreaks_74 : decode cX11_laysCreaks 74 = .ok (.goto (-59), 3) := by decide +kernel
theorem dX11_laysCreaks_77 : decode cX11_laysCreaks 77 = .ok (.aload_n 0, 1) := by decide +kernel
theorem dX11_laysCreaks_78 : decode cX11_laysCreaks 78 = .ok (.getfield 120, 3) := by decide +kernel
theorem dX11_laysCreaks_81 : decode cX11_laysCreaks 81 = .ok (.iconst 0, 1) := by decide +kernel
theorem dX11_laysCreaks_82 : decode cX11_laysCreaks 82 = .ok (.aload_n 0, 1) := by decide +kernel
theorem dX11_laysCreaks_83 : decode cX11_laysCreaks 83 = .ok (.getfield 114, 3) := by decide +kernel
theorem dX11_laysCreaks_86 : decode cX11_laysCreaks 86 = .ok (.iconst 0, 1) := by decide +kernel
theorem dX11_laysCreaks_87 : decode cX11_laysCreaks 87 = .ok (.invokestatic 403, 3) := by decide +kernel
theorem dX11_laysCreaks_90 : decode cX11_laysCreaks 90 = .ok (.return_, 1) := by decide +kernel
theorem dX11_see_0 : decode cX11_see 0 = .ok (.aload_n 0, 1) := by decide +kernel
theorem dX11_see_1 : decode cX11_see 1 = .ok (.iconst 0, 1) := by decide +kernel
theorem dX11_see_2 : decode cX11_see 2 = .ok (.putfield 153, 3) := by decide +kernel
theorem dX11_see_5 : decode cX11_see 5 = .ok (.iload_n 1, 1) := by decide +kernel
theorem dX11_see_6 : decode cX11_see 6 = .ok (.iconst 1, 1) := by decide +kernel
theorem dX11_see_7 : decode cX11_see 7 = .ok (.bipush 20, 2) := by decide +kernel
theorem dX11_see_9 : decode cX11_see 9 = .ok (.invokestatic 274, 3) := by decide +kernel
theorem dX11_see_12 : decode cX11_see 12 = .ok (.ifCond .eq 25, 3) := by decide +kernel
theorem dX11_see_15 : decode cX11_see 15 = .ok (.iload_n 2, 1) := by decide +kernel
theorem dX11_see_16 : decode cX11_see 16 = .ok (.iconst 1, 1) := by decide +kernel
theorem dX11_see_17 : decode cX11_see 17 = .ok (.sipush 400, 3) := by decide +kernel
theorem dX11_see_20 : decode cX11_see 20 = .ok (.invokestatic 274, 3) := by decide +kernel
theorem dX11_see_23 : decode cX11_see 23 = .ok (.ifCond .eq 14, 3) := by decide +kernel
theorem dX11_see_26 : decode cX11_see 26 = .ok (.aload_n 0, 1) := by decide +kernel
theorem dX11_see_27 : decode cX11_see 27 = .ok (.getfield 102, 3) := by decide +kernel
theorem dX11_see_30 : decode cX11_see 30 = .ok (.iconst 0, 1) := by decide +kernel
theorem dX11_see_31 : decode cX11_see 31 = .ok (.iaload, 1) := by decide +kernel
theorem dX11_see_32 : decode cX11_see 32 = .ok (.bipush 8, 2) := by decide +kernel
theorem dX11_see_34 : decode cX11_see 34 = .ok (.if_icmp .ne 5, 3) := by decide +kernel
theorem dX11_see_37 : decode cX11_see 37 = .ok (.iconst 0, 1) := by decide +kernel
theorem dX11_see_38 : decode cX11_see 38 = .ok (.ireturn, 1) := by decide +kernel
theorem dX11_see_39 : decode cX11_see 39 = .ok (.aload_n 0, 1) := by decide +kernel
theorem dX11_see_40 : decode cX11_see 40 = .ok (.getfield 105, 3) := by decide +kernel
theorem dX11_see_43 : decode cX11_see 43 = .ok (.aload_n 0, 1) := by decide +kernel
theorem dX11_see_44 : decode cX11_see 44 = .ok (.getfield 102, 3) := by decide +kernel
theorem dX11_see_47 : decode cX11_see 47 = .ok (.iconst 0, 1) := by decide +kernel
theorem dX11_see_48 : decode cX11_see 48 = .ok (.iaload, 1) := by decide +kernel
theorem dX11_see_49 : decode cX11_see 49 = .ok (.iload_n 1, 1) := by decide +kernel
theorem dX11_see_50 : decode cX11_see 50 = .ok (.iastore, 1) := by decide +kernel
theorem dX11_see_51 : decode cX11_see 51 = .ok (.aload_n 0, 1) := by decide +kernel
theorem dX11_see_52 : decode cX11_see 52 = .ok (.getfield 108, 3) := by decide +kernel
theorem dX11_see_55 : decode cX11_see 55 = .ok (.aload_n 0, 1) := by decide +kernel
theorem dX11_see_56 : decode cX11_see 56 = .ok (.getfield 102, 3) := by decide +kernel
theorem dX11_see_59 : decode cX11_see 59 = .ok (.iconst 0, 1) := by decide +kernel
theorem dX11_see_60 : decode cX11_see 60 = .ok (.iaload, 1) := by decide +kernel
theorem dX11_see_61 : decode cX11_see 61 = .ok (.iload_n 2, 1) := by decide +kernel
theorem dX11_see_62 : decode cX11_see 62 = .ok (.iastore, 1) := by decide +kernel
theorem dX11_see_63 : decode cX11_see 63 = .ok (.aload_n 0, 1) := by decide +kernel
theorem dX11_see_64 : decode cX11_see 64 = .ok (.getfield 111, 3) := by decide +kernel
theorem dX11_see_67 : decode cX11_see 67 = .ok (.aload_n 0, 1) := by decide +kernel
theorem dX11_see_68 : decode cX11_see 68 = .ok (.getfield 102, 3) := by decide +kernel
theorem dX11_see_71 : decode cX11_see 71 = .ok (.iconst 0, 1) := by decide +kernel
theorem dX11_see_72 : decode cX11_see 72 = .ok (.iaload, 1) := by decide +kernel
theorem dX11_see_73 : decode cX11_see 73 = .ok (.iload_n 3, 1) := by decide +kernel
theorem dX11_see_74 : decode cX11_see 74 = .ok (.bastore, 1) := by decide +kernel
theorem dX11_see_75 : decode cX11_see 75 = .ok (.aload_n 0, 1) := by decide +kernel
theorem dX11_see_76 : decode cX11_see 76 = .ok (.getfield 102, 3) := by decide +kernel
theorem dX11_see_79 : decode cX11_see 79 = .ok (.iconst 0, 1) := by decide +kernel
theorem dX11_see_80 : decode cX11_see 80 = .ok (.dup2, 1) := by decide +kernel
theorem dX11_see_81 : decode cX11_see 81 = .ok (.iaload, 1) := by decide +kernel
theorem dX11_see_82 : decode cX11_see 82 = .ok (.iconst 1, 1) := by decide +kernel
theorem dX11_see_83 : decode cX11_see 83 = .ok (.iadd, 1) := by decide +kernel
theorem dX11_see_84 : decode cX11_see 84 = .ok (.iastore, 1) := by decide +kernel
theorem dX11_see_85 : decode cX11_see 85 = .ok (.iconst 1, 1) := by decide +kernel
theorem dX11_see_86 : decode cX11_see 86 = .ok (.ireturn, 1) := by decide +kernel
theorem dX11_isAsSeen_0 : decode cX11_isAsSeen 0 = .ok (.iconst 0, 1) := by decide +kernel
theorem dX11_isAsSeen_1 : decode cX11_isAsSeen 1 = .ok (.istore_n 2, 1) := by decide +kernel
theorem dX11_isAsSeen_2 : decode cX11_isAsSeen 2 = .ok (.iload_n 2, 1) := by decide +kernel
theorem dX11_isAsSeen_3 : decode cX11_isAsSeen 3 = .ok (.aload_n 0, 1) := by decide +kernel
theorem dX11_isAsSeen_4 : decode cX11_isAsSeen 4 = .ok (.getfield 102, 3) := by decide +kernel
theorem dX11_isAsSeen_7 : decode cX11_isAsSeen 7 = .ok (.iconst 0, 1) := by decide +kernel
theorem dX11_isAsSeen_8 : decode cX11_isAsSeen 8 = .ok (.iaload, 1) := by decide +kernel
theorem dX11_isAsSeen_9 : decode cX11_isAsSeen 9 = .ok (.if_icmp .ge 52, 3) := by decide +kernel
theorem dX11_isAsSeen_12 : decode cX11_isAsSeen 12 = .ok (.aload_n 0, 1) := by decide +kernel
theorem dX11_isAsSeen_13 : decode cX11_isAsSeen 13 = .ok (.getfield 147, 3) := by decide +kernel
theorem dX11_isAsSeen_16 : decode cX11_isAsSeen 16 = .ok (.bipush 6, 2) := by decide +kernel
theorem dX11_isAsSeen_18 : decode cX11_isAsSeen 18 = .ok (.aload_n 0, 1) := by decide +kernel
theorem dX11_isAsSeen_19 : decode cX11_isAsSeen 19 = .ok (.getfield 105, 3) := by decide +kernel
theorem dX11_isAsSeen_22 : decode cX11_isAsSeen 22 = .ok (.iload_n 2, 1) := by decide +kernel
theorem dX11_isAsSeen_23 : decode cX11_isAsSeen 23 = .ok (.iaload, 1) := by decide +kernel
theorem dX11_isAsSeen_24 : decode cX11_isAsSeen 24 = .ok (.iconst 1, 1) := by decide +kernel
theorem dX11_isAsSeen_25 : decode cX11_isAsSeen 25 = .ok (.isub, 1) := by decide +kernel
theorem dX11_isAsSeen_26 : decode cX11_isAsSeen 26 = .ok (.imul, 1) := by decide +kernel
theorem dX11_isAsSeen_27 : decode cX11_isAsSeen 27 = .ok (.iload_n 1, 1) := by decide +kernel
theorem dX11_isAsSeen_28 : decode cX11_isAsSeen 28 = .ok (.iadd, 1) := by decide +kernel
theorem dX11_isAsSeen_29 : decode cX11_isAsSeen 29 = .ok (.iaload, 1) := by decide +kernel
theorem dX11_isAsSeen_30 : decode cX11_isAsSeen 30 = .ok (.aload_n 0, 1) := by decide +kernel
theorem dX11_isAsSeen_31 : decode cX11_isAsSeen 31 = .ok (.getfield 108, 3) := by decide +kernel
theorem dX11_isAsSeen_34 : decode cX11_isAsSeen 34 = .ok (.iload_n 2, 1) := by decide +kernel
theorem dX11_isAsSeen_35 : decode cX11_isAsSeen 35 = .ok (.iaload, 1) := by decide +kernel
theorem dX11_isAsSeen_36 : decode cX11_isAsSeen 36 = .ok (.if_icmp .lt 7, 3) := by decide +kernel
theorem dX11_isAsSeen_39 : decode cX11_isAsSeen 39 = .ok (.iconst 1, 1) := by decide +kernel
theorem dX11_isAsSeen_40 : decode cX11_isAsSeen 40 = .ok (.goto 4, 3) := by decide +kernel
theorem dX11_isAsSeen_43 : decode cX11_isAsSeen 43 = .ok (.iconst 0, 1) := by decide +kernel
theorem dX11_isAsSeen_44 : decode cX11_isAsSeen 44 = .ok (.aload_n 0, 1) := by decide +kernel
theorem dX11_isAsSeen_45 : decode cX11_isAsSeen 45 = .ok (.getfield 111, 3) := by decide +kernel
theorem dX11_isAsSeen_48 : decode cX11_isAsSeen 48 = .ok (.iload_n 2, 1) := by decide +kernel
theorem dX11_isAsSeen_49 : decode cX11_isAsSeen 49 = .ok (.baload, 1) := by decide +kernel
theorem dX11_isAsSeen_50 : decode cX11_isAsSeen 50 = .ok (.if_icmp .eq 5, 3) := by decide +kernel
theorem dX11_isAsSeen_53 : decode cX11_isAsSeen 53 = .ok (.iconst 0, 1) := by decide +kernel
theorem dX11_isAsSeen_54 : decode cX11_isAsSeen 54 = .ok (.ireturn, 1) := by decide +kernel
theorem dX11_isAsSeen_55 : decode cX11_isAsSeen 55 = .ok (.iinc 2 1, 3) := by decide +kernel
theorem dX11_isAsSeen_58 : decode cX11_isAsSeen 58 = .ok (.goto (-56), 3) := by decide +kernel
theorem dX11_isAsSeen_61 : decode cX11_isAsSeen 61 = .ok (.iconst 1, 1) := by decide +kernel
theorem dX11_isAsSeen_62 : decode cX11_isAsSeen 62 = .ok (.ireturn, 1) := by decide +kernel
theorem dX11_who_0 : decode cX11_who 0 = .ok (.aload_n 0, 1) := by decide +kernel
theorem dX11_who_1 : decode cX11_who 1 = .ok (.iconst 0, 1) := by decide +kernel
theorem dX11_who_2 : decode cX11_who 2 = .ok (.putfield 153, 3) := by decide +kernel
theorem dX11_who_5 : decode cX11_who 5 = .ok (.aload_n 0, 1) := by decide +kernel
theorem dX11_who_6 : decode cX11_who 6 = .ok (.invokevirtual 459, 3) := by decide +kernel
theorem dX11_who_9 : decode cX11_who 9 = .ok (.iconst 0, 1) := by decide +kernel
theorem dX11_who_10 : decode cX11_who 10 = .ok (.istore_n 1, 1) := by decide +kernel
theorem dX11_who_11 : decode cX11_who 11 = .ok (.iconst 0, 1) := by decide +kernel
theorem dX11_who_12 : decode cX11_who 12 = .ok (.istore_n 2, 1) := by decide +kernel
theorem dX11_who_13 : decode cX11_who 13 = .ok (.iload_n 2, 1) := by decide +kernel
theorem dX11_who_14 : decode cX11_who 14 = .ok (.aload_n 0, 1) := by decide +kernel
theorem dX11_who_15 : decode cX11_who 15 = .ok (.getfield 13, 3) := by decide +kernel
theorem dX11_who_18 : decode cX11_who 18 = .ok (.iconst 0, 1) := by decide +kernel
theorem dX11_who_19 : decode cX11_who 19 = .ok (.iaload, 1) := by decide +kernel
theorem dX11_who_20 : decode cX11_who 20 = .ok (.if_icmp .ge 27, 3) := by decide +kernel
theorem dX11_who_23 : decode cX11_who 23 = .ok (.iload_n 1, 1) := by decide +kernel
theorem dX11_who_24 : decode cX11_who 24 = .ok (.aload_n 0, 1) := by decide +kernel
theorem dX11_who_25 : decode cX11_who 25 = .ok (.iload_n 2, 1) := by decide +kernel
theorem dX11_who_26 : decode cX11_who 26 = .ok (.invokevirtual 462, 3) := by decide +kernel
theorem dX11_who_29 : decode cX11_who 29 = .ok (.ifCond .eq 9, 3) := by decide +kernel
theorem dX11_who_32 : decode cX11_who 32 = .ok (.iconst 1, 1) := by decide +kernel
theorem dX11_who_33 : decode cX11_who 33 = .ok (.iload_n 2, 1) := by decide +kernel
theorem dX11_who_34 : decode cX11_who 34 = .ok (.ishl, 1) := by decide +kernel
theorem dX11_who_35 : decode cX11_who 35 = .ok (.goto 4, 3) := by decide +kernel
theorem dX11_who_38 : decode cX11_who 38 = .ok (.iconst 0, 1) := by decide +kernel
theorem dX11_who_39 : decode cX11_who 39 = .ok (.ior, 1) := by decide +kernel
theorem dX11_who_40 : decode cX11_who 40 = .ok (.istore_n 1, 1) := by decide +kernel
theorem dX11_who_41 : decode cX11_who 41 = .ok (.iinc 2 1, 3) := by decide +kernel
theorem dX11_who_44 : decode cX11_who 44 = .ok (.goto (-31), 3) := by decide +kernel
theorem dX11_who_47 : decode cX11_who 47 = .ok (.iload_n 1, 1) := by decide +kernel
theorem dX11_who_48 : decode cX11_who 48 = .ok (.ireturn, 1) := by decide +kernel
theorem dX11_ask_0 : decode cX11_ask 0 = .ok (.aload_n 0, 1) := by decide +kernel
theorem dX11_ask_1 : decode cX11_ask 1 = .ok (.iconst 0, 1) := by decide +kernel
theorem dX11_ask_2 : decode cX11_ask 2 = .ok (.putfield 153, 3) := by decide +kernel
theorem dX11_ask_5 : decode cX11_ask 5 = .ok (.aload_n 0, 1) := by decide +kernel
theorem dX11_ask_6 : decode cX11_ask 6 = .ok (.invokevirtual 465, 3) := by decide +kernel
theorem dX11_ask_9 : decode cX11_ask 9 = .ok (.istore_n 1, 1) := by decide +kernel
theorem dX11_ask_10 : decode cX11_ask 10 = .ok (.iload_n 1, 1) := by decide +kernel
theorem dX11_ask_11 : decode cX11_ask 11 = .ok (.invokestatic 447, 3) := by decide +kernel
theorem dX11_ask_14 : decode cX11_ask 14 = .ok (.istore_n 2, 1) := by decide +kernel
theorem dX11_ask_15 : decode cX11_ask 15 = .ok (.iload_n 2, 1) := by decide +kernel
theorem dX11_ask_16 : decode cX11_ask 16 = .ok (.istore_n 3, 1) := by decide +kernel
theorem dX11_ask_17 : decode cX11_ask 17 = .ok (.iconst (-1), 1) := by decide +kernel
theorem dX11_ask_18 : decode cX11_ask 18 = .ok (.istore 4, 2) := by decide +kernel
theorem dX11_ask_20 : decode cX11_ask 20 = .ok (.iconst 0, 1) := by decide +kernel
theorem dX11_ask_21 : decode cX11_ask 21 = .ok (.istore 5, 2) := by decide +kernel
theorem dX11_ask_23 : decode cX11_ask 23 = .ok (.iload 5, 2) := by decide +kernel
theorem dX11_ask_25 : decode cX11_ask 25 = .ok (.bipush 20, 2) := by decide +kernel
theorem dX11_ask_27 : decode cX11_ask 27 = .ok (.if_icmp .ge 123, 3) := by decide +kernel
theorem dX11_ask_30 : decode cX11_ask 30 = .ok (.iconst 1, 1) := by decide +kernel
theorem dX11_ask_31 : decode cX11_ask 31 = .ok (.istore 6, 2) := by decide +kernel
theorem dX11_ask_33 : decode cX11_ask 33 = .ok (.iload 6, 2) := by decide +kernel
theorem dX11_ask_35 : decode cX11_ask 35 = .ok (.sipush 400, 3) := by decide +kernel
theorem dX11_ask_38 : decode cX11_ask 38 = .ok (.if_icmp .gt 106, 3) := by decide +kernel
theorem dX11_ask_41 : decode cX11_ask 41 = .ok (.iconst 0, 1) := by decide +kernel
theorem dX11_ask_42 : decode cX11_ask 42 = .ok (.istore 7, 2) := by decide +kernel
theorem dX11_ask_44 : decode cX11_ask 44 = .ok (.iconst 0, 1) := by decide +kernel
theorem dX11_ask_45 : decode cX11_ask 45 = .ok (.istore 8, 2) := by decide +kernel
theorem dX11_ask_47 : decode cX11_ask 47 = .ok (.iload 8, 2) := by decide +kernel
theorem dX11_ask_49 : decode cX11_ask 49 = .ok (.aload_n 0, 1) := by decide +kernel
theorem dX11_ask_50 : decode cX11_ask 50 = .ok (.getfield 13, 3) := by decide +kernel
theorem dX11_ask_53 : decode cX11_ask 53 = .ok (.iconst 0, 1) := by decide +kernel
theorem dX11_ask_54 : decode cX11_ask 54 = .ok (.iaload, 1) := by decide +kernel
theorem dX11_ask_55 : decode cX11_ask 55 = .ok (.if_icmp .ge 47, 3) := by decide +kernel
theorem dX11_ask_58 : decode cX11_ask 58 = .ok (.iload 7, 2) := by decide +kernel
theorem dX11_ask_60 : decode cX11_ask 60 = .ok (.iload_n 1, 1) := by decide +kernel
theorem dX11_ask_61 : decode cX11_ask 61 = .ok (.iload 8, 2) := by decide +kernel
theorem dX11_ask_63 : decode cX11_ask 63 = .ok (.ishr, 1) := by decide +kernel
theorem dX11_ask_64 : decode cX11_ask 64 = .ok (.iconst 1, 1) := by decide +kernel
theorem dX11_ask_65 : decode cX11_ask 65 = .ok (.iand, 1) := by decide +kernel
theorem dX11_ask_66 : decode cX11_ask 66 = .ok (.iconst 1, 1) := by decide +kernel
theorem dX11_ask_67 : decode cX11_ask 67 = .ok (.if_icmp .ne 25, 3) := by decide +kernel
theorem dX11_ask_70 : decode cX11_ask 70 = .ok (.aload_n 0, 1) := by decide +kernel
theorem dX11_ask_71 : decode cX11_ask 71 = .ok (.getfield 147, 3) := by decide +kernel
theorem dX11_ask_74 : decode cX11_ask 74 = .ok (.bipush 6, 2) := by decide +kernel
theorem dX11_ask_76 : decode cX11_ask 76 = .ok (.iload 5, 2) := by decide +kernel
theorem dX11_ask_78 : decode cX11_ask 78 = .ok (.imul, 1) := by decide +kernel
theorem dX11_ask_79 : decode cX11_ask 79 = .ok (.iload 8, 2) := by decide +kernel
theorem dX11_ask_81 : decode cX11_ask 81 = .ok (.iadd, 1) := by decide +kernel
theorem dX11_ask_82 : decode cX11_ask 82 = .ok (.iaload, 1) := by decide +kernel
theorem dX11_ask_83 : decode cX11_ask 83 = .ok (.iload 6, 2) := by decide +kernel
theorem dX11_ask_85 : decode cX11_ask 85 = .ok (.if_icmp .lt 7, 3) := by decide +kernel
theorem dX11_ask_88 : decode cX11_ask 88 = .ok (.iconst 1, 1) := by decide +kernel
theorem dX11_ask_89 : decode cX11_ask 89 = .ok (.goto 4, 3) := by decide +kernel
theorem dX11_ask_92 : decode cX11_ask 92 = .ok (.iconst 0, 1) := by decide +kernel
theorem dX11_ask_93 : decode cX11_ask 93 = .ok (.iadd, 1) := by decide +kernel
theorem dX11_ask_94 : decode cX11_ask 94 = .ok (.istore 7, 2) := by decide +kernel
theorem dX11_ask_96 : decode cX11_ask 96 = .ok (.iinc 8 1, 3) := by decide +kernel
theorem dX11_ask_99 : decode cX11_ask 99 = .ok (.goto (-52), 3) := by decide +kernel
theorem dX11_ask_102 : decode cX11_ask 102 = .ok (.iload 7, 2) := by decide +kernel
theorem dX11_ask_104 : decode cX11_ask 104 = .ok (.iload_n 2, 1) := by decide +kernel
theorem dX11_ask_105 : decode cX11_ask 105 = .ok (.iload 7, 2) := by decide +kernel
theorem dX11_ask_107 : decode cX11_ask 107 = .ok (.isub, 1) := by decide +kernel
theorem dX11_ask_108 : decode cX11_ask 108 = .ok (.invokestatic 366, 3) := by decide +kernel
theorem dX11_ask_111 : decode cX11_ask 111 = .ok (.istore 7, 2) := by decide +kernel
theorem dX11_ask_113 : decode cX11_ask 113 = .ok (.iload 7, 2) := by decide +kernel
theorem dX11_ask_115 : decode cX11_ask 115 = .ok (.iload_n 3, 1) := by decide +kernel
theorem dX11_ask_116 : decode cX11_ask 116 = .ok (.if_icmp .lt 6, 3) := by decide +kernel
theorem dX11_ask_119 : decode cX11_ask 119 = .ok (.goto 19, 3) := by decide +kernel
theorem dX11_ask_122 : decode cX11_ask 122 = .ok (.iload 7, 2) := by decide +kernel
theorem dX11_ask_124 : decode cX11_ask 124 = .ok (.istore_n 3, 1) := by decide +kernel
theorem dX11_ask_125 : decode cX11_ask 125 = .ok (.sipush 1000, 3) := by decide +kernel
theorem dX11_ask_128 : decode cX11_ask 128 = .ok (.iload 5, 2) := by decide +kernel
theorem dX11_ask_130 : decode cX11_ask 130 = .ok (.iconst 1, 1) := by decide +kernel
theorem dX11_ask_131 : decode cX11_ask 131 = .ok (.iadd, 1) := by decide +kernel
theorem dX11_ask_132 : decode cX11_ask 132 = .ok (.imul, 1) := by decide +kernel
theorem dX11_ask_133 : decode cX11_ask 133 = .ok (.iload 6, 2) := by decide +kernel
theorem dX11_ask_135 : decode cX11_ask 135 = .ok (.iadd, 1) := by decide +kernel
theorem dX11_ask_136 : decode cX11_ask 136 = .ok (.istore 4, 2) := by decide +kernel
theorem dX11_ask_138 : decode cX11_ask 138 = .ok (.iinc 6 1, 3) := by decide +kernel
theorem dX11_ask_141 : decode cX11_ask 141 = .ok (.goto (-108), 3) := by decide +kernel
theorem dX11_ask_144 : decode cX11_ask 144 = .ok (.iinc 5 1, 3) := by decide +kernel
theorem dX11_ask_147 : decode cX11_ask 147 = .ok (.goto (-124), 3) := by decide +kernel
theorem dX11_ask_150 : decode cX11_ask 150 = .ok (.iload 4, 2) := by decide +kernel
theorem dX11_ask_152 : decode cX11_ask 152 = .ok (.ireturn, 1) := by decide +kernel
theorem dX11_stick_0 : decode cX11_stick 0 = .ok (.aload_n 0, 1) := by decide +kernel
theorem dX11_stick_1 : decode cX11_stick 1 = .ok (.iconst 0, 1) := by decide +kernel
theorem dX11_stick_2 : decode cX11_stick 2 = .ok (.putfield 153, 3) := by decide +kernel
theorem dX11_stick_5 : decode cX11_stick 5 = .ok (.iconst 0, 1) := by decide +kernel
theorem dX11_stick_6 : decode cX11_stick 6 = .ok (.istore_n 1, 1) := by decide +kernel
theorem dX11_stick_7 : decode cX11_stick 7 = .ok (.iconst 0, 1) := by decide +kernel
theorem dX11_stick_8 : decode cX11_stick 8 = .ok (.istore_n 2, 1) := by decide +kernel
theorem dX11_stick_9 : decode cX11_stick 9 = .ok (.iload_n 2, 1) := by decide +kernel
theorem dX11_stick_10 : decode cX11_stick 10 = .ok (.aload_n 0, 1) := by decide +kernel
theorem dX11_stick_11 : decode cX11_stick 11 = .ok (.getfield 13, 3) := by decide +kernel
theorem dX11_stick_14 : decode cX11_stick 14 = .ok (.iconst 0, 1) := by decide +kernel
theorem dX11_stick_15 : decode cX11_stick 15 = .ok (.iaload, 1) := by decide +kernel
theorem dX11_stick_16 : decode cX11_stick 16 = .ok (.if_icmp .ge 23, 3) := by decide +kernel
theorem dX11_stick_19 : decode cX11_stick 19 = .ok (.iload_n 1, 1) := by decide +kernel
theorem dX11_stick_20 : decode cX11_stick 20 = .ok (.aload_n 0, 1) := by decide +kernel
theorem dX11_stick_21 : decode cX11_stick 21 = .ok (.getfield 114, 3) := by decide +kernel
theorem dX11_stick_24 : decode cX11_stick 24 = .ok (.bipush 8, 2) := by decide +kernel
theorem dX11_stick_26 : decode cX11_stick 26 = .ok (.iload_n 2, 1) := by decide +kernel
theorem dX11_stick_27 : decode cX11_stick 27 = .ok (.iadd, 1) := by decide +kernel
theorem dX11_stick_28 : decode cX11_stick 28 = .ok (.iaload, 1) := by decide +kernel
theorem dX11_stick_29 : decode cX11_stick 29 = .ok (.iconst 4, 1) := by decide +kernel
theorem dX11_stick_30 : decode cX11_stick 30 = .ok (.irem, 1) := by decide +kernel
theorem dX11_stick_31 : decode cX11_stick 31 = .ok (.ixor, 1) := by decide +kernel
theorem dX11_stick_32 : decode cX11_stick 32 = .ok (.istore_n 1, 1) := by decide +kernel
theorem dX11_stick_33 : decode cX11_stick 33 = .ok (.iinc 2 1, 3) := by decide +kernel
theorem dX11_stick_36 : decode cX11_stick 36 = .ok (.goto (-27), 3) := by decide +kernel
theorem dX11_stick_39 : decode cX11_stick 39 = .ok (.iconst 0, 1) := by decide +kernel
theorem dX11_stick_40 : decode cX11_stick 40 = .ok (.istore_n 2, 1) := by decide +kernel
theorem dX11_stick_41 : decode cX11_stick 41 = .ok (.iload_n 2, 1) := by decide +kernel
theorem dX11_stick_42 : decode cX11_stick 42 = .ok (.aload_n 0, 1) := by decide +kernel
theorem dX11_stick_43 : decode cX11_stick 43 = .ok (.getfield 13, 3) := by decide +kernel
theorem dX11_stick_46 : decode cX11_stick 46 = .ok (.iconst 0, 1) := by decide +kernel
theorem dX11_stick_47 : decode cX11_stick 47 = .ok (.iaload, 1) := by decide +kernel
theorem dX11_stick_48 : decode cX11_stick 48 = .ok (.if_icmp .ge 75, 3) := by decide +kernel
theorem dX11_stick_51 : decode cX11_stick 51 = .ok (.iconst 1, 1) := by decide +kernel
theorem dX11_stick_52 : decode cX11_stick 52 = .ok (.istore_n 3, 1) := by decide +kernel
theorem dX11_stick_53 : decode cX11_stick 53 = .ok (.iload_n 3, 1) := by decide +kernel
theorem dX11_stick_54 : decode cX11_stick 54 = .ok (.iconst 4, 1) := by decide +kernel
theorem dX11_stick_55 : decode cX11_stick 55 = .ok (.if_icmp .ge 62, 3) := by decide +kernel
theorem dX11_stick_58 : decode cX11_stick 58 = .ok (.iload_n 3, 1) := by decide +kernel
theorem dX11_stick_59 : decode cX11_stick 59 = .ok (.aload_n 0, 1) := by decide +kernel
theorem dX11_stick_60 : decode cX11_stick 60 = .ok (.getfield 114, 3) := by decide +kernel
theorem dX11_stick_63 : decode cX11_stick 63 = .ok (.bipush 8, 2) := by decide +kernel
theorem dX11_stick_65 : decode cX11_stick 65 = .ok (.iload_n 2, 1) := by decide +kernel
theorem dX11_stick_66 : decode cX11_stick 66 = .ok (.iadd, 1) := by decide +kernel
theorem dX11_stick_67 : decode cX11_stick 67 = .ok (.iaload, 1) := by decide +kernel
theorem dX11_stick_68 : decode cX11_stick 68 = .ok (.if_icmp .gt 49, 3) := by decide +kernel
theorem dX11_stick_71 : decode cX11_stick 71 = .ok (.iload_n 1, 1) := by decide +kernel
theorem dX11_stick_72 : decode cX11_stick 72 = .ok (.aload_n 0, 1) := by decide +kernel
theorem dX11_stick_73 : decode cX11_stick 73 = .ok (.getfield 114, 3) := by decide +kernel
theorem dX11_stick_76 : decode cX11_stick 76 = .ok (.bipush 8, 2) := by decide +kernel
theorem dX11_stick_78 : decode cX11_stick 78 = .ok (.iload_n 2, 1) := by decide +kernel
theorem dX11_stick_79 : decode cX11_stick 79 = .ok (.iadd, 1) := by decide +kernel
theorem dX11_stick_80 : decode cX11_stick 80 = .ok (.iaload, 1) := by decide +kernel
theorem dX11_stick_81 : decode cX11_stick 81 = .ok (.iconst 4, 1) := by decide +kernel
theorem dX11_stick_82 : decode cX11_stick 82 = .ok (.irem, 1) := by decide +kernel
theorem dX11_stick_83 : decode cX11_stick 83 = .ok (.ixor, 1) := by decide +kernel
theorem dX11_stick_84 : decode cX11_stick 84 = .ok (.aload_n 0, 1) := by decide +kernel
theorem dX11_stick_85 : decode cX11_stick 85 = .ok (.getfield 114, 3) := by decide +kernel
theorem dX11_stick_88 : decode cX11_stick 88 = .ok (.bipush 8, 2) := by decide +kernel
theorem dX11_stick_90 : decode cX11_stick 90 = .ok (.iload_n 2, 1) := by decide +kernel
theorem dX11_stick_91 : decode cX11_stick 91 = .ok (.iadd, 1) := by decide +kernel
theorem dX11_stick_92 : decode cX11_stick 92 = .ok (.iaload, 1) := by decide +kernel
theorem dX11_stick_93 : decode cX11_stick 93 = .ok (.iload_n 3, 1) := by decide +kernel
theorem dX11_stick_94 : decode cX11_stick 94 = .ok (.isub, 1) := by decide +kernel
theorem dX11_stick_95 : decode cX11_stick 95 = .ok (.iconst 4, 1) := by decide +kernel
theorem dX11_stick_96 : decode cX11_stick 96 = .ok (.irem, 1) := by decide +kernel
theorem dX11_stick_97 : decode cX11_stick 97 = .ok (.ixor, 1) := by decide +kernel
theorem dX11_stick_98 : decode cX11_stick 98 = .ok (.istore 4, 2) := by decide +kernel
theorem dX11_stick_100 : decode cX11_stick 100 = .ok (.iload 4, 2) := by decide +kernel
theorem dX11_stick_102 : decode cX11_stick 102 = .ok (.ifCond .ne 9, 3) := by decide +kernel
theorem dX11_stick_105 : decode cX11_stick 105 = .ok (.iconst 4, 1) := by decide +kernel
theorem dX11_stick_106 : decode cX11_stick 106 = .ok (.iload_n 2, 1) := by decide +kernel
theorem dX11_stick_107 : decode cX11_stick 107 = .ok (.imul, 1) := by decide +kernel
theorem dX11_stick_108 : decode cX11_stick 108 = .ok (.iload_n 3, 1) := by decide +kernel
theorem dX11_stick_109 : decode cX11_stick 109 = .ok (.iadd, 1) := by decide +kernel
theorem dX11_stick_110 : decode cX11_stick 110 = .ok (.ireturn, 1) := by decide +kernel
theorem dX11_stick_111 : decode cX11_stick 111 = .ok (.iinc 3 1, 3) := by decide +kernel
theorem dX11_stick_114 : decode cX11_stick 114 = .ok (.goto (-61), 3) := by decide +kernel
theorem dX11_stick_117 : decode cX11_stick 117 = .ok (.iinc 2 1, 3) := by decide +kernel
theorem dX11_stick_120 : decode cX11_stick 120 = .ok (.goto (-79), 3) := by decide +kernel
theorem dX11_stick_123 : decode cX11_stick 123 = .ok (.iconst (-1), 1) := by decide +kernel
theorem dX11_stick_124 : decode cX11_stick 124 = .ok (.ireturn, 1) := by decide +kernel
theorem dX11_chance_0 : decode cX11_chance 0 = .ok (.aload_n 0, 1) := by decide +kernel
theorem dX11_chance_1 : decode cX11_chance 1 = .ok (.iconst 0, 1) := by decide +kernel
theorem dX11_chance_2 : decode cX11_chance 2 = .ok (.putfield 153, 3) := by decide +kernel
theorem dX11_chance_5 : decode cX11_chance 5 = .ok (.aload_n 0, 1) := by decide +kernel
theorem dX11_chance_6 : decode cX11_chance 6 = .ok (.iload_n 1, 1) := by decide +kernel
theorem dX11_chance_7 : decode cX11_chance 7 = .ok (.invokevirtual 397, 3) := by decide +kernel
theorem dX11_chance_10 : decode cX11_chance 10 = .ok (.ifCond .eq 23, 3) := by decide +kernel
theorem dX11_chance_13 : decode cX11_chance 13 = .ok (.iload_n 2, 1) := by decide +kernel
theorem dX11_chance_14 : decode cX11_chance 14 = .ok (.iconst 1, 1) := by decide +kernel
theorem dX11_chance_15 : decode cX11_chance 15 = .ok (.bipush 6, 2) := by decide +kernel
theorem dX11_chance_17 : decode cX11_chance 17 = .ok (.invokestatic 274, 3) := by decide +kernel
theorem dX11_chance_20 : decode cX11_chance 20 = .ok (.ifCond .eq 13, 3) := by decide +kernel
theorem dX11_chance_23 : decode cX11_chance 23 = .ok (.iload_n 3, 1) := by decide +kernel
theorem dX11_chance_24 : decode cX11_chance 24 = .ok (.iconst 0, 1) := by decide +kernel
theorem dX11_chance_25 : decode cX11_chance 25 = .ok (.bipush 10, 2) := by decide +kernel
theorem dX11_chance_27 : decode cX11_chance 27 = .ok (.invokestatic 274, 3) := by decide +kernel
theorem dX11_chance_30 : decode cX11_chance 30 = .ok (.ifCond .ne 5, 3) := by decide +kernel
theorem dX11_chance_33 : decode cX11_chance 33 = .ok (.iconst (-1), 1) := by decide +kernel
theorem dX11_chance_34 : decode cX11_chance 34 = .ok (.ireturn, 1) := by decide +kernel
theorem dX11_chance_35 : decode cX11_chance 35 = .ok (.lconst 0, 1) := by decide +kernel
theorem dX11_chance_36 : decode cX11_chance 36 = .ok (.lstore 4, 2) := by decide +kernel
theorem dX11_chance_38 : decode cX11_chance 38 = .ok (.lconst 1, 1) := by decide +kernel
theorem dX11_chance_39 : decode cX11_chance 39 = .ok (.lstore 6, 2) := by decide +kernel
theorem dX11_chance_41 : decode cX11_chance 41 = .ok (.iconst 0, 1) := by decide +kernel
theorem dX11_chance_42 : decode cX11_chance 42 = .ok (.istore 8, 2) := by decide +kernel
theorem dX11_chance_44 : decode cX11_chance 44 = .ok (.iload 8, 2) := by decide +kernel
theorem dX11_chance_46 : decode cX11_chance 46 = .ok (.iload_n 2, 1) := by decide +kernel
theorem dX11_chance_47 : decode cX11_chance 47 = .ok (.if_icmp .ge 17, 3) := by decide +kernel
theorem dX11_chance_50 : decode cX11_chance 50 = .ok (.lload 6, 2) := by decide +kernel
theorem dX11_chance_52 : decode cX11_chance 52 = .ok (.ldc2_w 468, 3) := by decide +kernel
theorem dX11_chance_55 : decode cX11_chance 55 = .ok (.lmul, 1) := by decide +kernel
theorem dX11_chance_56 : decode cX11_chance 56 = .ok (.lstore 6, 2) := by decide +kernel
theorem dX11_chance_58 : decode cX11_chance 58 = .ok (.iinc 8 1, 3) := by decide +kernel
theorem dX11_chance_61 : decode cX11_chance 61 = .ok (.goto (-17), 3) := by decide +kernel
theorem dX11_chance_64 : decode cX11_chance 64 = .ok (.aload_n 0, 1) := by decide +kernel
theorem dX11_chance_65 : decode cX11_chance 65 = .ok (.getfield 114, 3) := by decide +kernel
theorem dX11_chance_68 : decode cX11_chance 68 = .ok (.iconst 0, 1) := by decide +kernel
theorem dX11_chance_69 : decode cX11_chance 69 = .ok (.aload_n 0, 1) := by decide +kernel
theorem dX11_chance_70 : decode cX11_chance 70 = .ok (.getfield 120, 3) := by decide +kernel
theorem dX11_chance_73 : decode cX11_chance 73 = .ok (.iconst 0, 1) := by decide +kernel
theorem dX11_chance_74 : decode cX11_chance 74 = .ok (.invokestatic 403, 3) := by decide +kernel
theorem dX11_chance_77 : decode cX11_chance 77 = .ok (.iconst 0, 1) := by decide +kernel
theorem dX11_chance_78 : decode cX11_chance 78 = .ok (.istore 8, 2) := by decide +kernel
theorem dX11_chance_80 : decode cX11_chance 80 = .ok (.iload 8, 2) := by decide +kernel
theorem dX11_chance_82 : decode cX11_chance 82 = .ok (.iconst 1, 1) := by decide +kernel
theorem dX11_chance_83 : decode cX11_chance 83 = .ok (.iload_n 2, 1) := by decide +kernel
theorem dX11_chance_84 : decode cX11_chance 84 = .ok (.ishl, 1) := by decide +kernel
theorem dX11_chance_85 : decode cX11_chance 85 = .ok (.if_icmp .ge 119, 3) := by decide +kernel
theorem dX11_chance_88 : decode cX11_chance 88 = .ok (.lconst 1, 1) := by decide +kernel
theorem dX11_chance_89 : decode cX11_chance 89 = .ok (.lstore 9, 2) := by decide +kernel
theorem dX11_chance_91 : decode cX11_chance 91 = .ok (.iconst 0, 1) := by decide +kernel
theorem dX11_chance_92 : decode cX11_chance 92 = .ok (.istore 11, 2) := by decide +kernel
theorem dX11_chance_94 : decode cX11_chance 94 = .ok (.iload 11, 2) := by decide +kernel
theorem dX11_chance_96 : decode cX11_chance 96 = .ok (.iload_n 2, 1) := by decide +kernel
theorem dX11_chance_97 : decode cX11_chance 97 = .ok (.if_icmp .ge 63, 3) := by decide +kernel
theorem dX11_chance_100 : decode cX11_chance 100 = .ok (.iload 8, 2) := by decide +kernel
theorem dX11_chance_102 : decode cX11_chance 102 = .ok (.iload 11, 2) := by decide +kernel
theorem dX11_chance_104 : decode cX11_chance 104 = .ok (.ishr, 1) := by decide +kernel
theorem dX11_chance_105 : decode cX11_chance 105 = .ok (.iconst 1, 1) := by decide +kernel
theorem dX11_chance_106 : decode cX11_chance 106 = .ok (.iand, 1) := by decide +kernel
theorem dX11_chance_107 : decode cX11_chance 107 = .ok (.iconst 1, 1) := by decide +kernel
theorem dX11_chance_108 : decode cX11_chance 108 = .ok (.if_icmp .ne 7, 3) := by decide +kernel
theorem dX11_chance_111 : decode cX11_chance 111 = .ok (.iconst 1, 1) := by decide +kernel
theorem dX11_chance_112 : decode cX11_chance 112 = .ok (.goto 4, 3) := by decide +kernel
theorem dX11_chance_115 : decode cX11_chance 115 = .ok (.iconst 0, 1) := by decide +kernel
theorem dX11_chance_116 : decode cX11_chance 116 = .ok (.istore 12, 2) := by decide +kernel
theorem dX11_chance_118 : decode cX11_chance 118 = .ok (.lload 9, 2) := by decide +kernel
theorem dX11_chance_120 : decode cX11_chance 120 = .ok (.iload 12, 2) := by decide +kernel
theorem dX11_chance_122 : decode cX11_chance 122 = .ok (.ifCond .eq 8, 3) := by decide +kernel
theorem dX11_chance_125 : decode cX11_chance 125 = .ok (.iload_n 3, 1) := by decide +kernel
theorem dX11_chance_126 : decode cX11_chance 126 = .ok (.i2l, 1) := by decide +kernel
theorem dX11_chance_127 : decode cX11_chance 127 = .ok (.goto 8, 3) := by decide +kernel
theorem dX11_chance_130 : decode cX11_chance 130 = .ok (.bipush 10, 2) := by decide +kernel
theorem dX11_chance_132 : decode cX11_chance 132 = .ok (.iload_n 3, 1) := by decide +kernel
theorem dX11_chance_133 : decode cX11_chance 133 = .ok (.isub, 1) := by decide +kernel
theorem dX11_chance_134 : decode cX11_chance 134 = .ok (.i2l, 1) := by decide +kernel
theorem dX11_chance_135 : decode cX11_chance 135 = .ok (.lmul, 1) := by decide +kernel
theorem dX11_chance_136 : decode cX11_chance 136 = .ok (.lstore 9, 2) := by decide +kernel
theorem dX11_chance_138 : decode cX11_chance 138 = .ok (.aload_n 0, 1) := by decide +kernel
theorem dX11_chance_139 : decode cX11_chance 139 = .ok (.iload 12, 2) := by decide +kernel
theorem dX11_chance_141 : decode cX11_chance 141 = .ok (.ifCond .eq 8, 3) := by decide +kernel
theorem dX11_chance_144 : decode cX11_chance 144 = .ok (.bipush 9, 2) := by decide +kernel
theorem dX11_chance_146 : decode cX11_chance 146 = .ok (.goto 4, 3) := by decide +kernel
theorem dX11_chance_149 : decode cX11_chance 149 = .ok (.iconst 0, 1) := by decide +kernel
theorem dX11_chance_150 : decode cX11_chance 150 = .ok (.invokevirtual 391, 3) := by decide +kernel
theorem dX11_chance_153 : decode cX11_chance 153 = .ok (.pop, 1) := by decide +kernel
theorem dX11_chance_154 : decode cX11_chance 154 = .ok (.iinc 11 1, 3) := by decide +kernel
theorem dX11_chance_157 : decode cX11_chance 157 = .ok (.goto (-63), 3) := by decide +kernel
theorem dX11_chance_160 : decode cX11_chance 160 = .ok (.aload_n 0, 1) := by decide +kernel
theorem dX11_chance_161 : decode cX11_chance 161 = .ok (.getfield 114, 3) := by decide +kernel
theorem dX11_chance_164 : decode cX11_chance 164 = .ok (.bipush 14, 2) := by decide +kernel
theorem dX11_chance_166 : decode cX11_chance 166 = .ok (.iload_n 1, 1) := by decide +kernel
theorem dX11_chance_167 : decode cX11_chance 167 = .ok (.iadd, 1) := by decide +kernel
theorem dX11_chance_168 : decode cX11_chance 168 = .ok (.iaload, 1) := by decide +kernel
theorem dX11_chance_169 : decode cX11_chance 169 = .ok (.aload_n 0, 1) := by decide +kernel
theorem dX11_chance_170 : decode cX11_chance 170 = .ok (.getfield 13, 3) := by decide +kernel
theorem dX11_chance_173 : decode cX11_chance 173 = .ok (.iconst 3, 1) := by decide +kernel
theorem dX11_chance_174 : decode cX11_chance 174 = .ok (.iaload, 1) := by decide +kernel
theorem dX11_chance_175 : decode cX11_chance 175 = .ok (.if_icmp .ne 10, 3) := by decide +kernel
theorem dX11_chance_178 : decode cX11_chance 178 = .ok (.lload 4, 2) := by decide +kernel
theorem dX11_chance_180 : decode cX11_chance 180 = .ok (.lload 9, 2) := by decide +kernel
theorem dX11_chance_182 : decode cX11_chance 182 = .ok (.ladd, 1) := by decide +kernel
theorem dX11_chance_183 : decode cX11_chance 183 = .ok (.lstore 4, 2) := by decide +kernel
theorem dX11_chance_185 : decode cX11_chance 185 = .ok (.aload_n 0, 1) := by decide +kernel
theorem dX11_chance_186 : decode cX11_chance 186 = .ok (.getfield 120, 3) := by decide +kernel
theorem dX11_chance_189 : decode cX11_chance 189 = .ok (.iconst 0, 1) := by decide +kernel
theorem dX11_chance_190 : decode cX11_chance 190 = .ok (.aload_n 0, 1) := by decide +kernel
theorem dX11_chance_191 : decode cX11_chance 191 = .ok (.getfield 114, 3) := by decide +kernel
theorem dX11_chance_194 : decode cX11_chance 194 = .ok (.iconst 0, 1) := by decide +kernel
theorem dX11_chance_195 : decode cX11_chance 195 = .ok (.invokestatic 403, 3) := by decide +kernel
theorem dX11_chance_198 : decode cX11_chance 198 = .ok (.iinc 8 1, 3) := by decide +kernel
theorem dX11_chance_201 : decode cX11_chance 201 = .ok (.goto (-121), 3) := by decide +kernel
theorem dX11_chance_204 : decode cX11_chance 204 = .ok (.lload 4, 2) := by decide +kernel
theorem dX11_chance_206 : decode cX11_chance 206 = .ok (.ldc2_w 470, 3) := by decide +kernel
theorem dX11_chance_209 : decode cX11_chance 209 = .ok (.lmul, 1) := by decide +kernel
theorem dX11_chance_210 : decode cX11_chance 210 = .ok (.lload 6, 2) := by decide +kernel
theorem dX11_chance_212 : decode cX11_chance 212 = .ok (.ldiv, 1) := by decide +kernel
theorem dX11_chance_213 : decode cX11_chance 213 = .ok (.l2i, 1) := by decide +kernel
theorem dX11_chance_214 : decode cX11_chance 214 = .ok (.ireturn, 1) := by decide +kernel
theorem dX11_getsBy_0 : decode cX11_getsBy 0 = .ok (.iload_n 3, 1) := by decide +kernel
theorem dX11_getsBy_1 : decode cX11_getsBy 1 = .ok (.iconst 1, 1) := by decide +kernel
theorem dX11_getsBy_2 : decode cX11_getsBy 2 = .ok (.if_icmp .ne 18, 3) := by decide +kernel
theorem dX11_getsBy_5 : decode cX11_getsBy 5 = .ok (.iload 4, 2) := by decide +kernel
theorem dX11_getsBy_7 : decode cX11_getsBy 7 = .ok (.iconst 1, 1) := by decide +kernel
theorem dX11_getsBy_8 : decode cX11_getsBy 8 = .ok (.if_icmp .ne 8, 3) := by decide +kernel
theorem dX11_getsBy_11 : decode cX11_getsBy 11 = .ok (.iload_n 0, 1) := by decide +kernel
theorem dX11_getsBy_12 : decode cX11_getsBy 12 = .ok (.ineg, 1) := by decide +kernel
theorem dX11_getsBy_13 : decode cX11_getsBy 13 = .ok (.goto 18, 3) := by decide +kernel
theorem dX11_getsBy_16 : decode cX11_getsBy 16 = .ok (.iload_n 1, 1) := by decide +kernel
theorem dX11_getsBy_17 : decode cX11_getsBy 17 = .ok (.goto 14, 3) := by decide +kernel
theorem dX11_getsBy_20 : decode cX11_getsBy 20 = .ok (.iload 4, 2) := by decide +kernel
theorem dX11_getsBy_22 : decode cX11_getsBy 22 = .ok (.iconst 1, 1) := by decide +kernel
theorem dX11_getsBy_23 : decode cX11_getsBy 23 = .ok (.if_icmp .ne 7, 3) := by decide +kernel
theorem dX11_getsBy_26 : decode cX11_getsBy 26 = .ok (.iload_n 2, 1) := by decide +kernel
theorem dX11_getsBy_27 : decode cX11_getsBy 27 = .ok (.goto 4, 3) := by decide +kernel
theorem dX11_getsBy_30 : decode cX11_getsBy 30 = .ok (.iconst 0, 1) := by decide +kernel
theorem dX11_getsBy_31 : decode cX11_getsBy 31 = .ok (.ireturn, 1) := by decide +kernel
theorem dX11_rests_0 : decode cX11_rests 0 = .ok (.aload_n 0, 1) := by decide +kernel
theorem dX11_rests_1 : decode cX11_rests 1 = .ok (.iload_n 1, 1) := by decide +kernel
theorem dX11_rests_2 : decode cX11_rests 2 = .ok (.iconst 0, 1) := by decide +kernel
theorem dX11_rests_3 : decode cX11_rests 3 = .ok (.bipush 9, 2) := by decide +kernel
theorem dX11_rests_5 : decode cX11_rests 5 = .ok (.invokestatic 274, 3) := by decide +kernel
theorem dX11_rests_8 : decode cX11_rests 8 = .ok (.ifCond .eq 33, 3) := by decide +kernel
theorem dX11_rests_11 : decode cX11_rests 11 = .ok (.iload_n 2, 1) := by decide +kernel
theorem dX11_rests_12 : decode cX11_rests 12 = .ok (.iconst 0, 1) := by decide +kernel
theorem dX11_rests_13 : decode cX11_rests 13 = .ok (.bipush 9, 2) := by decide +kernel
theorem dX11_rests_15 : decode cX11_rests 15 = .ok (.invokestatic 274, 3) := by decide +kernel
theorem dX11_rests_18 : decode cX11_rests 18 = .ok (.ifCond .eq 23, 3) := by decide +kernel
theorem dX11_rests_21 : decode cX11_rests 21 = .ok (.iload_n 3, 1) := by decide +kernel
theorem dX11_rests_22 : decode cX11_rests 22 = .ok (.iconst 0, 1) := by decide +kernel
theorem dX11_rests_23 : decode cX11_rests 23 = .ok (.bipush 9, 2) := by decide +kernel
theorem dX11_rests_25 : decode cX11_rests 25 = .ok (.invokestatic 274, 3) := by decide +kernel
theorem dX11_rests_28 : decode cX11_rests 28 = .ok (.ifCond .eq 13, 3) := by decide +kernel
theorem dX11_rests_31 : decode cX11_rests 31 = .ok (.iload 4, 2) := by decide +kernel
theorem dX11_rests_33 : decode cX11_rests 33 = .ok (.iconst (-1), 1) := by decide +kernel
theorem dX11_rests_34 : decode cX11_rests 34 = .ok (.if_icmp .lt 7, 3) := by decide +kernel
theorem dX11_rests_37 : decode cX11_rests 37 = .ok (.iconst 0, 1) := by decide +kernel
theorem dX11_rests_38 : decode cX11_rests 38 = .ok (.goto 4, 3) := by decide +kernel
theorem dX11_rests_41 : decode cX11_rests 41 = .ok (.iconst 1, 1) := by decide +kernel
theorem dX11_rests_42 : decode cX11_rests 42 = .ok (.putfield 153, 3) := by decide +kernel
theorem dX11_rests_45 : decode cX11_rests 45 = .ok (.aload_n 0, 1) := by decide +kernel
theorem dX11_rests_46 : decode cX11_rests 46 = .ok (.getfield 153, 3) := by decide +kernel
theorem dX11_rests_49 : decode cX11_rests 49 = .ok (.iconst 1, 1) := by decide +kernel
theorem dX11_rests_50 : decode cX11_rests 50 = .ok (.if_icmp .ne 5, 3) := by decide +kernel
theorem dX11_rests_53 : decode cX11_rests 53 = .ok (.iconst 0, 1) := by decide +kernel
theorem dX11_rests_54 : decode cX11_rests 54 = .ok (.ireturn, 1) := by decide +kernel
theorem dX11_rests_55 : decode cX11_rests 55 = .ok (.iconst 0, 1) := by decide +kernel
theorem dX11_rests_56 : decode cX11_rests 56 = .ok (.istore 5, 2) := by decide +kernel
theorem dX11_rests_58 : decode cX11_rests 58 = .ok (.iconst 0, 1) := by decide +kernel
theorem dX11_rests_59 : decode cX11_rests 59 = .ok (.istore 6, 2) := by decide +kernel
theorem dX11_rests_61 : decode cX11_rests 61 = .ok (.iload 6, 2) := by decide +kernel
theorem dX11_rests_63 : decode cX11_rests 63 = .ok (.iconst 4, 1) := by decide +kernel
theorem dX11_rests_64 : decode cX11_rests 64 = .ok (.if_icmp .ge 87, 3) := by decide +kernel
theorem dX11_rests_67 : decode cX11_rests 67 = .ok (.iload 6, 2) := by decide +kernel
theorem dX11_rests_69 : decode cX11_rests 69 = .ok (.iconst 2, 1) := by decide +kernel
theorem dX11_rests_70 : decode cX11_rests 70 = .ok (.idiv, 1) := by decide +kernel
theorem dX11_rests_71 : decode cX11_rests 71 = .ok (.istore 7, 2) := by decide +kernel
theorem dX11_rests_73 : decode cX11_rests 73 = .ok (.iload 6, 2) := by decide +kernel
theorem dX11_rests_75 : decode cX11_rests 75 = .ok (.iconst 2, 1) := by decide +kernel
theorem dX11_rests_76 : decode cX11_rests 76 = .ok (.irem, 1) := by decide +kernel
theorem dX11_rests_77 : decode cX11_rests 77 = .ok (.istore 8, 2) := by decide +kernel
theorem dX11_rests_79 : decode cX11_rests 79 = .ok (.iload_n 1, 1) := by decide +kernel
theorem dX11_rests_80 : decode cX11_rests 80 = .ok (.iload_n 2, 1) := by decide +kernel
theorem dX11_rests_81 : decode cX11_rests 81 = .ok (.iload_n 3, 1) := by decide +kernel
theorem dX11_rests_82 : decode cX11_rests 82 = .ok (.iconst 1, 1) := by decide +kernel
theorem dX11_rests_83 : decode cX11_rests 83 = .ok (.iload 7, 2) := by decide +kernel
theorem dX11_rests_85 : decode cX11_rests 85 = .ok (.isub, 1) := by decide +kernel
theorem dX11_rests_86 : decode cX11_rests 86 = .ok (.iload 8, 2) := by decide +kernel
theorem dX11_rests_88 : decode cX11_rests 88 = .ok (.invokestatic 472, 3) := by decide +kernel
theorem dX11_rests_91 : decode cX11_rests 91 = .ok (.iload_n 1, 1) := by decide +kernel
theorem dX11_rests_92 : decode cX11_rests 92 = .ok (.iload_n 2, 1) := by decide +kernel
theorem dX11_rests_93 : decode cX11_rests 93 = .ok (.iload_n 3, 1) := by decide +kernel
theorem dX11_rests_94 : decode cX11_rests 94 = .ok (.iload 7, 2) := by decide +kernel
theorem dX11_rests_96 : decode cX11_rests 96 = .ok (.iload 8, 2) := by decide +kernel
theorem dX11_rests_98 : decode cX11_rests 98 = .ok (.invokestatic 472, 3) := by decide +kernel
theorem dX11_rests_101 : decode cX11_rests 101 = .ok (.if_icmp .gt 44, 3) := by decide +kernel
theorem dX11_rests_104 : decode cX11_rests 104 = .ok (.iload_n 1, 1) := by decide +kernel
theorem dX11_rests_105 : decode cX11_rests 105 = .ok (.iload_n 2, 1) := by decide +kernel
theorem dX11_rests_106 : decode cX11_rests 106 = .ok (.iload_n 3, 1) := by decide +kernel
theorem dX11_rests_107 : decode cX11_rests 107 = .ok (.iconst 1, 1) := by decide +kernel
theorem dX11_rests_108 : decode cX11_rests 108 = .ok (.iload 8, 2) := by decide +kernel
theorem dX11_rests_110 : decode cX11_rests 110 = .ok (.isub, 1) := by decide +kernel
theorem dX11_rests_111 : decode cX11_rests 111 = .ok (.iload 7, 2) := by decide +kernel
theorem dX11_rests_113 : decode cX11_rests 113 = .ok (.invokestatic 472, 3) := by decide +kernel
theorem dX11_rests_116 : decode cX11_rests 116 = .ok (.iload_n 1, 1) := by decide +kernel
theorem dX11_rests_117 : decode cX11_rests 117 = .ok (.iload_n 2, 1) := by decide +kernel
theorem dX11_rests_118 : decode cX11_rests 118 = .ok (.iload_n 3, 1) := by decide +kernel
theorem dX11_rests_119 : decode cX11_rests 119 = .ok (.iload 8, 2) := by decide +kernel
theorem dX11_rests_121 : decode cX11_rests 121 = .ok (.iload 7, 2) := by decide +kernel
theorem dX11_rests_123 : decode cX11_rests 123 = .ok (.invokestatic 472, 3) := by decide +kernel
theorem dX11_rests_126 : decode cX11_rests 126 = .ok (.if_icmp .le 6, 3) := by decide +kernel
theorem dX11_rests_129 : decode cX11_rests 129 = .ok (.goto 16, 3) := by decide +kernel
theorem dX11_rests_132 : decode cX11_rests 132 = .ok (.iload 5, 2) := by decide +kernel
theorem dX11_rests_134 : decode cX11_rests 134 = .ok (.iload 4, 2) := by decide +kernel
theorem dX11_rests_136 : decode cX11_rests 136 = .ok (.if_icmp .ne 6, 3) := by decide +kernel
theorem dX11_rests_139 : decode cX11_rests 139 = .ok (.iload 6, 2) := by decide +kernel
theorem dX11_rests_141 : decode cX11_rests 141 = .ok (.ireturn, 1) := by decide +kernel
theorem dX11_rests_142 : decode cX11_rests 142 = .ok (.iinc 5 1, 3) := by decide +kernel
theorem dX11_rests_145 : decode cX11_rests 145 = .ok (.iinc 6 1, 3) := by decide +kernel
theorem dX11_rests_148 : decode cX11_rests 148 = .ok (.goto (-87), 3) := by decide +kernel
theorem dX11_rests_151 : decode cX11_rests 151 = .ok (.aload_n 0, 1) := by decide +kernel
theorem dX11_rests_152 : decode cX11_rests 152 = .ok (.iload 4, 2) := by decide +kernel
theorem dX11_rests_154 : decode cX11_rests 154 = .ok (.iconst (-1), 1) := by decide +kernel
theorem dX11_rests_155 : decode cX11_rests 155 = .ok (.if_icmp .ne 7, 3) := by decide +kernel
theorem dX11_rests_158 : decode cX11_rests 158 = .ok (.iconst 0, 1) := by decide +kernel
theorem dX11_rests_159 : decode cX11_rests 159 = .ok (.goto 4, 3) := by decide +kernel
theorem dX11_rests_162 : decode cX11_rests 162 = .ok (.iconst 1, 1) := by decide +kernel
theorem dX11_rests_163 : decode cX11_rests 163 = .ok (.putfield 153, 3) := by decide +kernel
theorem dX11_rests_166 : decode cX11_rests 166 = .ok (.iload 4, 2) := by decide +kernel
theorem dX11_rests_168 : decode cX11_rests 168 = .ok (.iconst (-1), 1) := by decide +kernel
theorem dX11_rests_169 : decode cX11_rests 169 = .ok (.if_icmp .ne 8, 3) := by decide +kernel
theorem dX11_rests_172 : decode cX11_rests 172 = .ok (.iload 5, 2) := by decide +kernel
theorem dX11_rests_174 : decode cX11_rests 174 = .ok (.goto 4, 3) := by decide +kernel
theorem dX11_rests_177 : decode cX11_rests 177 = .ok (.iconst 0, 1) := by decide +kernel
theorem dX11_rests_178 : decode cX11_rests 178 = .ok (.ireturn, 1) := by decide +kernel
theorem dX11_draws_0 : decode cX11_draws 0 = .ok (.aload_n 0, 1) := by decide +kernel
theorem dX11_draws_1 : decode cX11_draws 1 = .ok (.aload_n 0, 1) := by decide +kernel
theorem dX11_draws_2 : decode cX11_draws 2 = .ok (.getfield 476, 3) := by decide +kernel
theorem dX11_draws_5 : decode cX11_draws 5 = .ok (.ldc2_w 479, 3) := by decide +kernel
theorem dX11_draws_8 : decode cX11_draws 8 = .ok (.lmul, 1) := by decide +kernel
theorem dX11_draws_9 : decode cX11_draws 9 = .ok (.ldc2_w 481, 3) := by decide +kernel
theorem dX11_draws_12 : decode cX11_draws 12 = .ok (.ladd, 1) := by decide +kernel
theorem dX11_draws_13 : decode cX11_draws 13 = .ok (.ldc2_w 483, 3) := by decide +kernel
theorem dX11_draws_16 : decode cX11_draws 16 = .ok (.lrem, 1) := by decide +kernel
theorem dX11_draws_17 : decode cX11_draws 17 = .ok (.putfield 476, 3) := by decide +kernel
theorem dX11_draws_20 : decode cX11_draws 20 = .ok (.aload_n 0, 1) := by decide +kernel
theorem dX11_draws_21 : decode cX11_draws 21 = .ok (.getfield 476, 3) := by decide +kernel
theorem dX11_draws_24 : decode cX11_draws 24 = .ok (.ldc2_w 485, 3) := by decide +kernel
theorem dX11_draws_27 : decode cX11_draws 27 = .ok (.ldiv, 1) := by decide +kernel
theorem dX11_draws_28 : decode cX11_draws 28 = .ok (.iload_n 1, 1) := by decide +kernel
theorem dX11_draws_29 : decode cX11_draws 29 = .ok (.i2l, 1) := by decide +kernel
theorem dX11_draws_30 : decode cX11_draws 30 = .ok (.lrem, 1) := by decide +kernel
theorem dX11_draws_31 : decode cX11_draws 31 = .ok (.l2i, 1) := by decide +kernel
theorem dX11_draws_32 : decode cX11_draws 32 = .ok (.ireturn, 1) := by decide +kernel
theorem dX11_livesNight_0 : decode cX11_livesNight 0 = .ok (.aload_n 0, 1) := by decide +kernel
theorem dX11_livesNight_1 : decode cX11_livesNight 1 = .ok (.getfield 13, 3) := by decide +kernel
theorem dX11_livesNight_4 : decode cX11_livesNight 4 = .ok (.iconst 0, 1) := by decide +kernel
theorem dX11_livesNight_5 : decode cX11_livesNight 5 = .ok (.iaload, 1) := by decide +kernel
theorem dX11_livesNight_6 : decode cX11_livesNight 6 = .ok (.ifCond .le 83, 3) := by decide +kernel
theorem dX11_livesNight_9 : decode cX11_livesNight 9 = .ok (.aload_n 0, 1) := by decide +kernel
theorem dX11_livesNight_10 : decode cX11_livesNight 10 = .ok (.aload_n 0, 1) := by decide +kernel
theorem dX11_livesNight_11 : decode cX11_livesNight 11 = .ok (.getfield 13, 3) := by decide +kernel
theorem dX11_livesNight_14 : decode cX11_livesNight 14 = .ok (.iconst 0, 1) := by decide +kernel
theorem dX11_livesNight_15 : decode cX11_livesNight 15 = .ok (.iaload, 1) := by decide +kernel
theorem dX11_livesNight_16 : decode cX11_livesNight 16 = .ok (.invokevirtual 487, 3) := by decide +kernel
theorem dX11_livesNight_19 : decode cX11_livesNight 19 = .ok (.istore_n 1, 1) := by decide +kernel
theorem dX11_livesNight_20 : decode cX11_livesNight 20 = .ok (.aload_n 0, 1) := by decide +kernel
theorem dX11_livesNight_21 : decode cX11_livesNight 21 = .ok (.iconst 5, 1) := by decide +kernel
theorem dX11_livesNight_22 : decode cX11_livesNight 22 = .ok (.invokevirtual 487, 3) := by decide +kernel
theorem dX11_livesNight_25 : decode cX11_livesNight 25 = .ok (.istore_n 2, 1) := by decide +kernel
theorem dX11_livesNight_26 : decode cX11_livesNight 26 = .ok (.iload_n 2, 1) := by decide +kernel
theorem dX11_livesNight_27 : decode cX11_livesNight 27 = .ok (.ifCond .ne 15, 3) := by decide +kernel
theorem dX11_livesNight_30 : decode cX11_livesNight 30 = .ok (.aload_n 0, 1) := by decide +kernel
theorem dX11_livesNight_31 : decode cX11_livesNight 31 = .ok (.getfield 114, 3) := by decide +kernel
theorem dX11_livesNight_34 : decode cX11_livesNight 34 = .ok (.iconst 1, 1) := by decide +kernel
theorem dX11_livesNight_35 : decode cX11_livesNight 35 = .ok (.dup2, 1) := by decide +kernel
theorem dX11_livesNight_36 : decode cX11_livesNight 36 = .ok (.iaload, 1) := by decide +kernel
theorem dX11_livesNight_37 : decode cX11_livesNight 37 = .ok (.iconst 1, 1) := by decide +kernel
theorem dX11_livesNight_38 : decode cX11_livesNight 38 = .ok (.iload_n 1, 1) := by decide +kernel
theorem dX11_livesNight_39 : decode cX11_livesNight 39 = .ok (.ishl, 1) := by decide +kernel
theorem dX11_livesNight_40 : decode cX11_livesNight 40 = .ok (.ior, 1) := by decide +kernel
theorem dX11_livesNight_41 : decode cX11_livesNight 41 = .ok (.iastore, 1) := by decide +kernel
theorem dX11_livesNight_42 : decode cX11_livesNight 42 = .ok (.iload_n 2, 1) := by decide +kernel
theorem dX11_livesNight_43 : decode cX11_livesNight 43 = .ok (.iconst 1, 1) := by decide +kernel
theorem dX11_livesNight_44 : decode cX11_livesNight 44 = .ok (.if_icmp .ne 17, 3) := by decide +kernel
theorem dX11_livesNight_47 : decode cX11_livesNight 47 = .ok (.aload_n 0, 1) := by decide +kernel
theorem dX11_livesNight_48 : decode cX11_livesNight 48 = .ok (.getfield 114, 3) := by decide +kernel
theorem dX11_livesNight_51 : decode cX11_livesNight 51 = .ok (.iconst 2, 1) := by decide +kernel
theorem dX11_livesNight_52 : decode cX11_livesNight 52 = .ok (.iload_n 1, 1) := by decide +kernel
theorem dX11_livesNight_53 : decode cX11_livesNight 53 = .ok (.iadd, 1) := by decide +kernel
theorem dX11_livesNight_54 : decode cX11_livesNight 54 = .ok (.aload_n 0, 1) := by decide +kernel
theorem dX11_livesNight_55 : decode cX11_livesNight 55 = .ok (.bipush 10, 2) := by decide +kernel
theorem dX11_livesNight_57 : decode cX11_livesNight 57 = .ok (.invokevirtual 487, 3) := by decide +kernel
theorem dX11_livesNight_60 : decode cX11_livesNight 60 = .ok (.iastore, 1) := by decide +kernel
theorem dX11_livesNight_61 : decode cX11_livesNight 61 = .ok (.iload_n 2, 1) := by decide +kernel
theorem dX11_livesNight_62 : decode cX11_livesNight 62 = .ok (.iconst 2, 1) := by decide +kernel
theorem dX11_livesNight_63 : decode cX11_livesNight 63 = .ok (.if_icmp .ne 26, 3) := by decide +kernel
theorem dX11_livesNight_66 : decode cX11_livesNight 66 = .ok (.aload_n 0, 1) := by decide +kernel
theorem dX11_livesNight_67 : decode cX11_livesNight 67 = .ok (.iconst 5, 1) := by decide +kernel
theorem dX11_livesNight_68 : decode cX11_livesNight 68 = .ok (.invokevirtual 487, 3) := by decide +kernel
theorem dX11_livesNight_71 : decode cX11_livesNight 71 = .ok (.iconst 1, 1) := by decide +kernel
theorem dX11_livesNight_72 : decode cX11_livesNight 72 = .ok (.iadd, 1) := by decide +kernel
theorem dX11_livesNight_73 : decode cX11_livesNight 73 = .ok (.istore_n 3, 1) := by decide +kernel
theorem dX11_livesNight_74 : decode cX11_livesNight 74 = .ok (.aload_n 0, 1) := by decide +kernel
theorem dX11_livesNight_75 : decode cX11_livesNight 75 = .ok (.iload_n 1, 1) := by decide +kernel
theorem dX11_livesNight_76 : decode cX11_livesNight 76 = .ok (.iload_n 3, 1) := by decide +kernel
theorem dX11_livesNight_77 : decode cX11_livesNight 77 = .ok (.invokevirtual 413, 3) := by decide +kernel
theorem dX11_livesNight_80 : decode cX11_livesNight 80 = .ok (.ifCond .eq 9, 3) := by decide +kernel
theorem dX11_livesNight_83 : decode cX11_livesNight 83 = .ok (.aload_n 0, 1) := by decide +kernel
theorem dX11_livesNight_84 : decode cX11_livesNight 84 = .ok (.iload_n 1, 1) := by decide +kernel
theorem dX11_livesNight_85 : decode cX11_livesNight 85 = .ok (.iload_n 3, 1) := by decide +kernel
theorem dX11_livesNight_86 : decode cX11_livesNight 86 = .ok (.invokevirtual 416, 3) := by decide +kernel
theorem dX11_livesNight_89 : decode cX11_livesNight 89 = .ok (.aload_n 0, 1) := by decide +kernel
theorem dX11_livesNight_90 : decode cX11_livesNight 90 = .ok (.invokevirtual 410, 3) := by decide +kernel
theorem dX11_livesNight_93 : decode cX11_livesNight 93 = .ok (.invokestatic 447, 3) := by decide +kernel
theorem dX11_livesNight_96 : decode cX11_livesNight 96 = .ok (.ireturn, 1) := by decide +kernel
theorem dX11_weeks_0 : decode cX11_weeks 0 = .ok (.aload_n 0, 1) := by decide +kernel
theorem dX11_weeks_1 : decode cX11_weeks 1 = .ok (.iconst 0, 1) := by decide +kernel
theorem dX11_weeks_2 : decode cX11_weeks 2 = .ok (.putfield 153, 3) := by decide +kernel
theorem dX11_weeks_5 : decode cX11_weeks 5 = .ok (.iload_n 1, 1) := by decide +kernel
theorem dX11_weeks_6 : decode cX11_weeks 6 = .ok (.iconst 0, 1) := by decide +kernel
theorem dX11_weeks_7 : decode cX11_weeks 7 = .ok (.sipush 9999, 3) := by decide +kernel
theorem dX11_weeks_10 : decode cX11_weeks 10 = .ok (.invokestatic 274, 3) := by decide +kernel
theorem dX11_weeks_13 : decode cX11_weeks 13 = .ok (.ifCond .eq 22, 3) := by decide +kernel
theorem dX11_weeks_16 : decode cX11_weeks 16 = .ok (.iload_n 2, 1) := by decide +kernel
theorem dX11_weeks_17 : decode cX11_weeks 17 = .ok (.iconst 1, 1) := by decide +kernel
theorem dX11_weeks_18 : decode cX11_weeks 18 = .ok (.bipush 99, 2) := by decide +kernel
theorem dX11_weeks_20 : decode cX11_weeks 20 = .ok (.invokestatic 274, 3) := by decide +kernel
theorem dX11_weeks_23 : decode cX11_weeks 23 = .ok (.ifCond .eq 12, 3) := by decide +kernel
theorem dX11_weeks_26 : decode cX11_weeks 26 = .ok (.iload_n 3, 1) := by decide +kernel
theorem dX11_weeks_27 : decode cX11_weeks 27 = .ok (.iconst 0, 1) := by decide +kernel
theorem dX11_weeks_28 : decode cX11_weeks 28 = .ok (.iconst 2, 1) := by decide +kernel
theorem dX11_weeks_29 : decode cX11_weeks 29 = .ok (.invokestatic 274, 3) := by decide +kernel
theorem dX11_weeks_32 : decode cX11_weeks 32 = .ok (.ifCond .ne 5, 3) := by decide +kernel
theorem dX11_weeks_35 : decode cX11_weeks 35 = .ok (.iconst (-1), 1) := by decide +kernel
theorem dX11_weeks_36 : decode cX11_weeks 36 = .ok (.ireturn, 1) := by decide +kernel
theorem dX11_weeks_37 : decode cX11_weeks 37 = .ok (.aload_n 0, 1) := by decide +kernel
theorem dX11_weeks_38 : decode cX11_weeks 38 = .ok (.iload_n 1, 1) := by decide +kernel
theorem dX11_weeks_39 : decode cX11_weeks 39 = .ok (.i2l, 1) := by decide +kernel
theorem dX11_weeks_40 : decode cX11_weeks 40 = .ok (.putfield 476, 3) := by decide +kernel
theorem dX11_weeks_43 : decode cX11_weeks 43 = .ok (.aload_n 0, 1) := by decide +kernel
theorem dX11_weeks_44 : decode cX11_weeks 44 = .ok (.getfield 114, 3) := by decide +kernel
theorem dX11_weeks_47 : decode cX11_weeks 47 = .ok (.iconst 0, 1) := by decide +kernel
theorem dX11_weeks_48 : decode cX11_weeks 48 = .ok (.aload_n 0, 1) := by decide +kernel
theorem dX11_weeks_49 : decode cX11_weeks 49 = .ok (.getfield 117, 3) := by decide +kernel
theorem dX11_weeks_52 : decode cX11_weeks 52 = .ok (.iconst 0, 1) := by decide +kernel
theorem dX11_weeks_53 : decode cX11_weeks 53 = .ok (.invokestatic 403, 3) := by decide +kernel
theorem dX11_weeks_56 : decode cX11_weeks 56 = .ok (.iconst 0, 1) := by decide +kernel
theorem dX11_weeks_57 : decode cX11_weeks 57 = .ok (.istore 4, 2) := by decide +kernel
theorem dX11_weeks_59 : decode cX11_weeks 59 = .ok (.iconst 0, 1) := by decide +kernel
theorem dX11_weeks_60 : decode cX11_weeks 60 = .ok (.istore 5, 2) := by decide +kernel
theorem dX11_weeks_62 : decode cX11_weeks 62 = .ok (.iload 5, 2) := by decide +kernel
theorem dX11_weeks_64 : decode cX11_weeks 64 = .ok (.iload_n 2, 1) := by decide +kernel
theorem dX11_weeks_65 : decode cX11_weeks 65 = .ok (.if_icmp .ge 18, 3) := by decide +kernel
theorem dX11_weeks_68 : decode cX11_weeks 68 = .ok (.iload 4, 2) := by decide +kernel
theorem dX11_weeks_70 : decode cX11_weeks 70 = .ok (.aload_n 0, 1) := by decide +kernel
theorem dX11_weeks_71 : decode cX11_weeks 71 = .ok (.invokevirtual 490, 3) := by decide +kernel
theorem dX11_weeks_74 : decode cX11_weeks 74 = .ok (.iadd, 1) := by decide +kernel
theorem dX11_weeks_75 : decode cX11_weeks 75 = .ok (.istore 4, 2) := by decide +kernel
theorem dX11_weeks_77 : decode cX11_weeks 77 = .ok (.iinc 5 1, 3) := by decide +kernel
theorem dX11_weeks_80 : decode cX11_weeks 80 = .ok (.goto (-18), 3) := by decide +kernel
theorem dX11_weeks_83 : decode cX11_weeks 83 = .ok (.aload_n 0, 1) := by decide +kernel
theorem dX11_weeks_84 : decode cX11_weeks 84 = .ok (.invokevirtual 419, 3) := by decide +kernel
theorem dX11_weeks_87 : decode cX11_weeks 87 = .ok (.istore 5, 2) := by decide +kernel
theorem dX11_weeks_89 : decode cX11_weeks 89 = .ok (.aload_n 0, 1) := by decide +kernel
theorem dX11_weeks_90 : decode cX11_weeks 90 = .ok (.invokevirtual 456, 3) := by decide +kernel
theorem dX11_weeks_93 : decode cX11_weeks 93 = .ok (.istore 6, 2) := by decide +kernel
theorem dX11_weeks_95 : decode cX11_weeks 95 = .ok (.aload_n 0, 1) := by decide +kernel
theorem dX11_weeks_96 : decode cX11_weeks 96 = .ok (.getfield 117, 3) := by decide +kernel
theorem dX11_weeks_99 : decode cX11_weeks 99 = .ok (.iconst 0, 1) := by decide +kernel
theorem dX11_weeks_100 : decode cX11_weeks 100 = .ok (.aload_n 0, 1) := by decide +kernel
theorem dX11_weeks_101 : decode cX11_weeks 101 = .ok (.getfield 114, 3) := by decide +kernel
theorem dX11_weeks_104 : decode cX11_weeks 104 = .ok (.iconst 0, 1) := by decide +kernel
theorem dX11_weeks_105 : decode cX11_weeks 105 = .ok (.invokestatic 403, 3) := by decide +kernel
theorem dX11_weeks_108 : decode cX11_weeks 108 = .ok (.iload_n 3, 1) := by decide +kernel
theorem dX11_weeks_109 : decode cX11_weeks 109 = .ok (.ifCond .ne 8, 3) := by decide +kernel
theorem dX11_weeks_112 : decode cX11_weeks 112 = .ok (.iload 4, 2) := by decide +kernel
theorem dX11_weeks_114 : decode cX11_weeks 114 = .ok (.goto 15, 3) := by decide +kernel
theorem dX11_weeks_117 : decode cX11_weeks 117 = .ok (.iload_n 3, 1) := by decide +kernel
theorem dX11_weeks_118 : decode cX11_weeks 118 = .ok (.iconst 1, 1) := by decide +kernel
theorem dX11_weeks_119 : decode cX11_weeks 119 = .ok (.if_icmp .ne 8, 3) := by decide +kernel
theorem dX11_weeks_122 : decode cX11_weeks 122 = .ok (.iload 5, 2) := by decide +kernel
theorem dX11_weeks_124 : decode cX11_weeks 124 = .ok (.goto 5, 3) := by decide +kernel
theorem dX11_weeks_127 : decode cX11_weeks 127 = .ok (.iload 6, 2) := by decide +kernel
theorem dX11_weeks_129 : decode cX11_weeks 129 = .ok (.ireturn, 1) := by decide +kernel
theorem dX11_mark_0 : decode cX11_mark 0 = .ok (.aload_n 0, 1) := by decide +kernel
theorem dX11_mark_1 : decode cX11_mark 1 = .ok (.iconst 0, 1) := by decide +kernel
theorem dX11_mark_2 : decode cX11_mark 2 = .ok (.putfield 153, 3) := by decide +kernel
theorem dX11_mark_5 : decode cX11_mark 5 = .ok (.iload_n 1, 1) := by decide +kernel
theorem dX11_mark_6 : decode cX11_mark 6 = .ok (.iconst 0, 1) := by decide +kernel
theorem dX11_mark_7 : decode cX11_mark 7 = .ok (.iconst 3, 1) := by decide +kernel
theorem dX11_mark_8 : decode cX11_mark 8 = .ok (.invokestatic 274, 3) := by decide +kernel
theorem dX11_mark_11 : decode cX11_mark 11 = .ok (.ifCond .eq 16, 3) := by decide +kernel
theorem dX11_mark_14 : decode cX11_mark 14 = .ok (.iload_n 2, 1) := by decide +kernel
theorem dX11_mark_15 : decode cX11_mark 15 = .ok (.ifCond .eq 14, 3) := by decide +kernel
theorem dX11_mark_18 : decode cX11_mark 18 = .ok (.aload_n 0, 1) := by decide +kernel
theorem dX11_mark_19 : decode cX11_mark 19 = .ok (.getfield 132, 3) := by decide +kernel
theorem dX11_mark_22 : decode cX11_mark 22 = .ok (.iload_n 1, 1) := by decide +kernel
theorem dX11_mark_23 : decode cX11_mark 23 = .ok (.baload, 1) := by decide +kernel
theorem dX11_mark_24 : decode cX11_mark 24 = .ok (.ifCond .ne 5, 3) := by decide +kernel
theorem dX11_mark_27 : decode cX11_mark 27 = .ok (.iconst 0, 1) := by decide +kernel
theorem dX11_mark_28 : decode cX11_mark 28 = .ok (.ireturn, 1) := by decide +kernel
theorem dX11_mark_29 : decode cX11_mark 29 = .ok (.aload_n 0, 1) := by decide +kernel
theorem dX11_mark_30 : decode cX11_mark 30 = .ok (.getfield 132, 3) := by decide +kernel
theorem dX11_mark_33 : decode cX11_mark 33 = .ok (.iload_n 1, 1) := by decide +kernel
theorem dX11_mark_34 : decode cX11_mark 34 = .ok (.iconst 1, 1) := by decide +kernel
theorem dX11_mark_35 : decode cX11_mark 35 = .ok (.bastore, 1) := by decide +kernel
theorem dX11_mark_36 : decode cX11_mark 36 = .ok (.iload_n 2, 1) := by decide +kernel
theorem dX11_mark_37 : decode cX11_mark 37 = .ok (.ifCond .eq 9, 3) := by decide +kernel
theorem dX11_mark_40 : decode cX11_mark 40 = .ok (.iconst 1, 1) := by decide +kernel
theorem dX11_mark_41 : decode cX11_mark 41 = .ok (.iload_n 1, 1) := by decide +kernel
theorem dX11_mark_42 : decode cX11_mark 42 = .ok (.iadd, 1) := by decide +kernel
theorem dX11_mark_43 : decode cX11_mark 43 = .ok (.goto 4, 3) := by decide +kernel
theorem dX11_mark_46 : decode cX11_mark 46 = .ok (.iconst 0, 1) := by decide +kernel
theorem dX11_mark_47 : decode cX11_mark 47 = .ok (.istore_n 3, 1) := by decide +kernel
theorem dX11_mark_48 : decode cX11_mark 48 = .ok (.iload_n 2, 1) := by decide +kernel
theorem dX11_mark_49 : decode cX11_mark 49 = .ok (.ifCond .eq 7, 3) := by decide +kernel
theorem dX11_mark_52 : decode cX11_mark 52 = .ok (.iconst 0, 1) := by decide +kernel
theorem dX11_mark_53 : decode cX11_mark 53 = .ok (.goto 6, 3) := by decide +kernel
theorem dX11_mark_56 : decode cX11_mark 56 = .ok (.iconst 1, 1) := by decide +kernel
theorem dX11_mark_57 : decode cX11_mark 57 = .ok (.iload_n 1, 1) := by decide +kernel
theorem dX11_mark_58 : decode cX11_mark 58 = .ok (.iadd, 1) := by decide +kernel
theorem dX11_mark_59 : decode cX11_mark 59 = .ok (.istore 4, 2) := by decide +kernel
theorem dX11_mark_61 : decode cX11_mark 61 = .ok (.aload_n 0, 1) := by decide +kernel
theorem dX11_mark_62 : decode cX11_mark 62 = .ok (.iload_n 3, 1) := by decide +kernel
theorem dX11_mark_63 : decode cX11_mark 63 = .ok (.iload 4, 2) := by decide +kernel
theorem dX11_mark_65 : decode cX11_mark 65 = .ok (.invokevirtual 359, 3) := by decide +kernel
theorem dX11_mark_68 : decode cX11_mark 68 = .ok (.aload_n 0, 1) := by decide +kernel
theorem dX11_mark_69 : decode cX11_mark 69 = .ok (.iload_n 3, 1) := by decide +kernel
theorem dX11_mark_70 : decode cX11_mark 70 = .ok (.iload 4, 2) := by decide +kernel
theorem dX11_mark_72 : decode cX11_mark 72 = .ok (.invokevirtual 493, 3) := by decide +kernel
theorem dX11_mark_75 : decode cX11_mark 75 = .ok (.iload_n 2, 1) := by decide +kernel
theorem dX11_mark_76 : decode cX11_mark 76 = .ok (.ifCond .eq 27, 3) := by decide +kernel
theorem dX11_mark_79 : decode cX11_mark 79 = .ok (.aload_n 0, 1) := by decide +kernel
theorem dX11_mark_80 : decode cX11_mark 80 = .ok (.getfield 126, 3) := by decide +kernel
theorem dX11_mark_83 : decode cX11_mark 83 = .ok (.bipush 26, 2) := by decide +kernel
theorem dX11_mark_85 : decode cX11_mark 85 = .ok (.iload_n 1, 1) := by decide +kernel
theorem dX11_mark_86 : decode cX11_mark 86 = .ok (.imul, 1) := by decide +kernel
theorem dX11_mark_87 : decode cX11_mark 87 = .ok (.aload_n 0, 1) := by decide +kernel
theorem dX11_mark_88 : decode cX11_mark 88 = .ok (.getfield 114, 3) := by decide +kernel
theorem dX11_mark_91 : decode cX11_mark 91 = .ok (.iconst 0, 1) := by decide +kernel
theorem dX11_mark_92 : decode cX11_mark 92 = .ok (.invokestatic 403, 3) := by decide +kernel
theorem dX11_mark_95 : decode cX11_mark 95 = .ok (.aload_n 0, 1) := by decide +kernel
theorem dX11_mark_96 : decode cX11_mark 96 = .ok (.iconst 0, 1) := by decide +kernel
theorem dX11_mark_97 : decode cX11_mark 97 = .ok (.putfield 353, 3) := by decide +kernel
theorem dX11_mark_100 : decode cX11_mark 100 = .ok (.goto 19, 3) := by decide +kernel
theorem dX11_mark_103 : decode cX11_mark 103 = .ok (.aload_n 0, 1) := by decide +kernel
theorem dX11_mark_104 : decode cX11_mark 104 = .ok (.getfield 114, 3) := by decide +kernel
theorem dX11_mark_107 : decode cX11_mark 107 = .ok (.iconst 0, 1) := by decide +kernel
theorem dX11_mark_108 : decode cX11_mark 108 = .ok (.aload_n 0, 1) := by decide +kernel
theorem dX11_mark_109 : decode cX11_mark 109 = .ok (.getfield 126, 3) := by decide +kernel
theorem dX11_mark_112 : decode cX11_mark 112 = .ok (.bipush 26, 2) := by decide +kernel
theorem dX11_mark_114 : decode cX11_mark 114 = .ok (.iload_n 1, 1) := by decide +kernel
theorem dX11_mark_115 : decode cX11_mark 115 = .ok (.imul, 1) := by decide +kernel
theorem dX11_mark_116 : decode cX11_mark 116 = .ok (.invokestatic 403, 3) := by decide +kernel
theorem dX11_mark_119 : decode cX11_mark 119 = .ok (.iconst 1, 1) := by decide +kernel
theorem dX11_mark_120 : decode cX11_mark 120 = .ok (.ireturn, 1) := by decide +kernel
theorem dX11_riotsNow_0 : decode cX11_riotsNow 0 = .ok (.iconst 0, 1) := by decide +kernel
theorem dX11_riotsNow_1 : decode cX11_riotsNow 1 = .ok (.istore_n 1, 1) := by decide +kernel
theorem dX11_riotsNow_2 : decode cX11_riotsNow 2 = .ok (.iconst 0, 1) := by decide +kernel
theorem dX11_riotsNow_3 : decode cX11_riotsNow 3 = .ok (.istore_n 2, 1) := by decide +kernel
theorem dX11_riotsNow_4 : decode cX11_riotsNow 4 = .ok (.iload_n 2, 1) := by decide +kernel
theorem dX11_riotsNow_5 : decode cX11_riotsNow 5 = .ok (.aload_n 0, 1) := by decide +kernel
theorem dX11_riotsNow_6 : decode cX11_riotsNow 6 = .ok (.getfield 13, 3) := by decide +kernel
theorem dX11_riotsNow_9 : decode cX11_riotsNow 9 = .ok (.iconst 0, 1) := by decide +kernel
theorem dX11_riotsNow_10 : decode cX11_riotsNow 10 = .ok (.iaload, 1) := by decide +kernel
theorem dX11_riotsNow_11 : decode cX11_riotsNow 11 = .ok (.if_icmp .ge 29, 3) := by decide +kernel
theorem dX11_riotsNow_14 : decode cX11_riotsNow 14 = .ok (.iload_n 1, 1) := by decide +kernel
theorem dX11_riotsNow_15 : decode cX11_riotsNow 15 = .ok (.aload_n 0, 1) := by decide +kernel
theorem dX11_riotsNow_16 : decode cX11_riotsNow 16 = .ok (.iload_n 2, 1) := by decide +kernel
theorem dX11_riotsNow_17 : decode cX11_riotsNow 17 = .ok (.invokevirtual 394, 3) := by decide +kernel
theorem dX11_riotsNow_20 : decode cX11_riotsNow 20 = .ok (.bipush 60, 2) := by decide +kernel
theorem dX11_riotsNow_22 : decode cX11_riotsNow 22 = .ok (.if_icmp .lt 9, 3) := by decide +kernel
theorem dX11_riotsNow_25 : decode cX11_riotsNow 25 = .ok (.iconst 1, 1) := by decide +kernel
theorem dX11_riotsNow_26 : decode cX11_riotsNow 26 = .ok (.iload_n 2, 1) := by decide +kernel
theorem dX11_riotsNow_27 : decode cX11_riotsNow 27 = .ok (.ishl, 1) := by decide +kernel
theorem dX11_riotsNow_28 : decode cX11_riotsNow 28 = .ok (.goto 4, 3) := by decide +kernel
theorem dX11_riotsNow_31 : decode cX11_riotsNow 31 = .ok (.iconst 0, 1) := by decide +kernel
theorem dX11_riotsNow_32 : decode cX11_riotsNow 32 = .ok (.ior, 1) := by decide +kernel
theorem dX11_riotsNow_33 : decode cX11_riotsNow 33 = .ok (.istore_n 1, 1) := by decide +kernel
theorem dX11_riotsNow_34 : decode cX11_riotsNow 34 = .ok (.iinc 2 1, 3) := by decide +kernel
theorem dX11_riotsNow_37 : decode cX11_riotsNow 37 = .ok (.goto (-33), 3) := by decide +kernel
theorem dX11_riotsNow_40 : decode cX11_riotsNow 40 = .ok (.iload_n 1, 1) := by decide +kernel
theorem dX11_riotsNow_41 : decode cX11_riotsNow 41 = .ok (.ireturn, 1) := by decide +kernel
theorem dX11_count_0 : decode cX11_count 0 = .ok (.aload_n 0, 1) := by decide +kernel
theorem dX11_count_1 : decode cX11_count 1 = .ok (.iconst 0, 1) := by decide +kernel
theorem dX11_count_2 : decode cX11_count 2 = .ok (.putfield 153, 3) := by decide +kernel
theorem dX11_count_5 : decode cX11_count 5 = .ok (.iload_n 1, 1) := by decide +kernel
theorem dX11_count_6 : decode cX11_count 6 = .ok (.iconst 0, 1) := by decide +kernel
theorem dX11_count_7 : decode cX11_count 7 = .ok (.bipush 11, 2) := by decide +kernel
theorem dX11_count_9 : decode cX11_count 9 = .ok (.invokestatic 274, 3) := by decide +kernel
theorem dX11_count_12 : decode cX11_count 12 = .ok (.ifCond .ne 5, 3) := by decide +kernel
theorem dX11_count_15 : decode cX11_count 15 = .ok (.iconst (-1), 1) := by decide +kernel
theorem dX11_count_16 : decode cX11_count 16 = .ok (.ireturn, 1) := by decide +kernel
theorem dX11_count_17 : decode cX11_count 17 = .ok (.iload_n 1, 1) := by decide +kernel
theorem dX11_count_18 : decode cX11_count 18 = .ok (.iconst 2, 1) := by decide +kernel
theorem dX11_count_19 : decode cX11_count 19 = .ok (.if_icmp .ge 10, 3) := by decide +kernel
theorem dX11_count_22 : decode cX11_count 22 = .ok (.aload_n 0, 1) := by decide +kernel
theorem dX11_count_23 : decode cX11_count 23 = .ok (.getfield 13, 3) := by decide +kernel
theorem dX11_count_26 : decode cX11_count 26 = .ok (.iload_n 1, 1) := by decide +kernel
theorem dX11_count_27 : decode cX11_count 27 = .ok (.iaload, 1) := by decide +kernel
theorem dX11_count_28 : decode cX11_count 28 = .ok (.ireturn, 1) := by decide +kernel
theorem dX11_count_29 : decode cX11_count 29 = .ok (.iload_n 1, 1) := by decide +kernel
theorem dX11_count_30 : decode cX11_count 30 = .ok (.iconst 5, 1) := by decide +kernel
theorem dX11_count_31 : decode cX11_count 31 = .ok (.if_icmp .ge 42, 3) := by decide +kernel
theorem dX11_count_34 : decode cX11_count 34 = .ok (.iload_n 1, 1) := by decide +kernel
theorem dX11_count_35 : decode cX11_count 35 = .ok (.iconst 2, 1) := by decide +kernel
theorem dX11_count_36 : decode cX11_count 36 = .ok (.if_icmp .ne 12, 3) := by decide +kernel
theorem dX11_count_39 : decode cX11_count 39 = .ok (.aload_n 0, 1) := by decide +kernel
theorem dX11_count_40 : decode cX11_count 40 = .ok (.getfield 114, 3) := by decide +kernel
theorem dX11_count_43 : decode cX11_count 43 = .ok (.iconst 0, 1) := by decide +kernel
theorem dX11_count_44 : decode cX11_count 44 = .ok (.iaload, 1) := by decide +kernel
theorem dX11_count_45 : decode cX11_count 45 = .ok (.goto 27, 3) := by decide +kernel
theorem dX11_count_48 : decode cX11_count 48 = .ok (.iload_n 1, 1) := by decide +kernel
theorem dX11_count_49 : decode cX11_count 49 = .ok (.iconst 3, 1) := by decide +kernel
theorem dX11_count_50 : decode cX11_count 50 = .ok (.if_icmp .ne 16, 3) := by decide +kernel
theorem dX11_count_53 : decode cX11_count 53 = .ok (.aload_n 0, 1) := by decide +kernel
theorem dX11_count_54 : decode cX11_count 54 = .ok (.aload_n 0, 1) := by decide +kernel
theorem dX11_count_55 : decode cX11_count 55 = .ok (.getfield 114, 3) := by decide +kernel
theorem dX11_count_58 : decode cX11_count 58 = .ok (.iconst 0, 1) := by decide +kernel
theorem dX11_count_59 : decode cX11_count 59 = .ok (.iaload, 1) := by decide +kernel
theorem dX11_count_60 : decode cX11_count 60 = .ok (.invokevirtual 388, 3) := by decide +kernel
theorem dX11_count_63 : decode cX11_count 63 = .ok (.goto 9, 3) := by decide +kernel
theorem dX11_count_66 : decode cX11_count 66 = .ok (.aload_n 0, 1) := by decide +kernel
theorem dX11_count_67 : decode cX11_count 67 = .ok (.getfield 13, 3) := by decide +kernel
theorem dX11_count_70 : decode cX11_count 70 = .ok (.iconst 3, 1) := by decide +kernel
theorem dX11_count_71 : decode cX11_count 71 = .ok (.iaload, 1) := by decide +kernel
theorem dX11_count_72 : decode cX11_count 72 = .ok (.ireturn, 1) := by decide +kernel
theorem dX11_count_73 : decode cX11_count 73 = .ok (.iload_n 1, 1) := by decide +kernel
theorem dX11_count_74 : decode cX11_count 74 = .ok (.bipush 8, 2) := by decide +kernel
theorem dX11_count_76 : decode cX11_count 76 = .ok (.if_icmp .ge 35, 3) := by decide +kernel
theorem dX11_count_79 : decode cX11_count 79 = .ok (.iload_n 1, 1) := by decide +kernel
theorem dX11_count_80 : decode cX11_count 80 = .ok (.iconst 5, 1) := by decide +kernel
theorem dX11_count_81 : decode cX11_count 81 = .ok (.if_icmp .ne 10, 3) := by decide +kernel
theorem dX11_count_84 : decode cX11_count 84 = .ok (.aload_n 0, 1) := by decide +kernel
theorem dX11_count_85 : decode cX11_count 85 = .ok (.invokevirtual 419, 3) := by decide +kernel
theorem dX11_count_88 : decode cX11_count 88 = .ok (.goto 22, 3) := by decide +kernel
theorem dX11_count_91 : decode cX11_count 91 = .ok (.iload_n 1, 1) := by decide +kernel
theorem dX11_count_92 : decode cX11_count 92 = .ok (.bipush 6, 2) := by decide +kernel
theorem dX11_count_94 : decode cX11_count 94 = .ok (.if_icmp .ne 12, 3) := by decide +kernel
theorem dX11_count_97 : decode cX11_count 97 = .ok (.aload_n 0, 1) := by decide +kernel
theorem dX11_count_98 : decode cX11_count 98 = .ok (.getfield 114, 3) := by decide +kernel
theorem dX11_count_101 : decode cX11_count 101 = .ok (.iconst 1, 1) := by decide +kernel
theorem dX11_count_102 : decode cX11_count 102 = .ok (.iaload, 1) := by decide +kernel
theorem dX11_count_103 : decode cX11_count 103 = .ok (.goto 7, 3) := by decide +kernel
theorem dX11_count_106 : decode cX11_count 106 = .ok (.aload_n 0, 1) := by decide +kernel
theorem dX11_count_107 : decode cX11_count 107 = .ok (.invokevirtual 496, 3) := by decide +kernel
theorem dX11_count_110 : decode cX11_count 110 = .ok (.ireturn, 1) := by decide +kernel
theorem dX11_count_111 : decode cX11_count 111 = .ok (.iload_n 1, 1) := by decide +kernel
theorem dX11_count_112 : decode cX11_count 112 = .ok (.bipush 10, 2) := by decide +kernel
theorem dX11_count_114 : decode cX11_count 114 = .ok (.if_icmp .ge 25, 3) := by decide +kernel
theorem dX11_count_117 : decode cX11_count 117 = .ok (.iload_n 1, 1) := by decide +kernel
theorem dX11_count_118 : decode cX11_count 118 = .ok (.bipush 8, 2) := by decide +kernel
theorem dX11_count_120 : decode cX11_count 120 = .ok (.if_icmp .ne 12, 3) := by decide +kernel
theorem dX11_count_123 : decode cX11_count 123 = .ok (.aload_n 0, 1) := by decide +kernel
theorem dX11_count_124 : decode cX11_count 124 = .ok (.getfield 90, 3) := by decide +kernel
theorem dX11_count_127 : decode cX11_count 127 = .ok (.iconst 0, 1) := by decide +kernel
theorem dX11_count_128 : decode cX11_count 128 = .ok (.iaload, 1) := by decide +kernel
theorem dX11_count_129 : decode cX11_count 129 = .ok (.goto 9, 3) := by decide +kernel
theorem dX11_count_132 : decode cX11_count 132 = .ok (.aload_n 0, 1) := by decide +kernel
theorem dX11_count_133 : decode cX11_count 133 = .ok (.getfield 102, 3) := by decide +kernel
theorem dX11_count_136 : decode cX11_count 136 = .ok (.iconst 0, 1) := by decide +kernel
theorem dX11_count_137 : decode cX11_count 137 = .ok (.iaload, 1) := by decide +kernel
theorem dX11_count_138 : decode cX11_count 138 = .ok (.ireturn, 1) := by decide +kernel
theorem dX11_count_139 : decode cX11_count 139 = .ok (.iload_n 1, 1) := by decide +kernel
theorem dX11_count_140 : decode cX11_count 140 = .ok (.bipush 10, 2) := by decide +kernel
theorem dX11_count_142 : decode cX11_count 142 = .ok (.if_icmp .ne 10, 3) := by decide +kernel
theorem dX11_count_145 : decode cX11_count 145 = .ok (.aload_n 0, 1) := by decide +kernel
theorem dX11_count_146 : decode cX11_count 146 = .ok (.getfield 353, 3) := by decide +kernel
theorem dX11_count_149 : decode cX11_count 149 = .ok (.goto 7, 3) := by decide +kernel
theorem dX11_count_152 : decode cX11_count 152 = .ok (.aload_n 0, 1) := by decide +kernel
theorem dX11_count_153 : decode cX11_count 153 = .ok (.getfield 159, 3) := by decide +kernel
theorem dX11_count_156 : decode cX11_count 156 = .ok (.ireturn, 1) := by decide +kernel
theorem dJ11_isValidCodePoint_9a6ad_0 : decode cJ11_isValidCodePoint_9a6ad 0 = .ok (.iload_n 0, 1) := by decide +kernel
theorem dJ11_isValidCodePoint_9a6ad_1 : decode cJ11_isValidCodePoint_9a6ad 1 = .ok (.bipush 16, 2) := by decide +kernel
theorem dJ11_isValidCodePoint_9a6ad_3 : decode cJ11_isValidCodePoint_9a6ad 3 = .ok (.iushr, 1) := by decide +kernel
theorem dJ11_isValidCodePoint_9a6ad_4 : decode cJ11_isValidCodePoint_9a6ad 4 = .ok (.istore_n 1, 1) := by decide +kernel
theorem dJ11_isValidCodePoint_9a6ad_5 : decode cJ11_isValidCodePoint_9a6ad 5 = .ok (.iload_n 1, 1) := by decide +kernel
theorem dJ11_isValidCodePoint_9a6ad_6 : decode cJ11_isValidCodePoint_9a6ad 6 = .ok (.bipush 17, 2) := by decide +kernel
theorem dJ11_isValidCodePoint_9a6ad_8 : decode cJ11_isValidCodePoint_9a6ad 8 = .ok (.if_icmp .ge 7, 3) := by decide +kernel
theorem dJ11_isValidCodePoint_9a6ad_11 : decode cJ11_isValidCodePoint_9a6ad 11 = .ok (.iconst 1, 1) := by decide +kernel
theorem dJ11_isValidCodePoint_9a6ad_12 : decode cJ11_isValidCodePoint_9a6ad 12 = .ok (.goto 4, 3) := by decide +kernel
theorem dJ11_isValidCodePoint_9a6ad_15 : decode cJ11_isValidCodePoint_9a6ad 15 = .ok (.iconst 0, 1) := by decide +kernel
theorem dJ11_isValidCodePoint_9a6ad_16 : decode cJ11_isValidCodePoint_9a6ad 16 = .ok (.ireturn, 1) := by decide +kernel
theorem dJ11_highSurrogate_5068e_0 : decode cJ11_highSurrogate_5068e 0 = .ok (.iload_n 0, 1) := by decide +kernel
theorem dJ11_highSurrogate_5068e_1 : decode cJ11_highSurrogate_5068e 1 = .ok (.bipush 10, 2) := by decide +kernel
theorem dJ11_highSurrogate_5068e_3 : decode cJ11_highSurrogate_5068e 3 = .ok (.iushr, 1) := by decide +kernel
theorem dJ11_highSurrogate_5068e_4 : decode cJ11_highSurrogate_5068e 4 = .ok (.ldc 110, 2) := by decide +kernel
theorem dJ11_highSurrogate_5068e_6 : decode cJ11_highSurrogate_5068e 6 = .ok (.iadd, 1) := by decide +kernel
theorem dJ11_highSurrogate_5068e_7 : decode cJ11_highSurrogate_5068e 7 = .ok (.i2c, 1) := by decide +kernel
theorem dJ11_highSurrogate_5068e_8 : decode cJ11_highSurrogate_5068e 8 = .ok (.ireturn, 1) := by decide +kernel
theorem dJ11_lowSurrogate_5068e_0 : decode cJ11_lowSurrogate_5068e 0 = .ok (.iload_n 0, 1) := by decide +kernel
theorem dJ11_lowSurrogate_5068e_1 : decode cJ11_lowSurrogate_5068e 1 = .ok (.sipush 1023, 3) := by decide +kernel
theorem dJ11_lowSurrogate_5068e_4 : decode cJ11_lowSurrogate_5068e 4 = .ok (.iand, 1) := by decide +kernel
theorem dJ11_lowSurrogate_5068e_5 : decode cJ11_lowSurrogate_5068e 5 = .ok (.ldc 76, 2) := by decide +kernel
theorem dJ11_lowSurrogate_5068e_7 : decode cJ11_lowSurrogate_5068e 7 = .ok (.iadd, 1) := by decide +kernel
theorem dJ11_lowSurrogate_5068e_8 : decode cJ11_lowSurrogate_5068e 8 = .ok (.i2c, 1) := by decide +kernel
theorem dJ11_lowSurrogate_5068e_9 : decode cJ11_lowSurrogate_5068e 9 = .ok (.ireturn, 1) := by decide +kernel
theorem dJ6_bitCount_0f7a4_0 : decode cJ6_bitCount_0f7a4 0 = .ok (.iload_n 0, 1) := by decide +kernel
theorem dJ6_bitCount_0f7a4_1 : decode cJ6_bitCount_0f7a4 1 = .ok (.iload_n 0, 1) := by decide +kernel
theorem dJ6_bitCount_0f7a4_2 : decode cJ6_bitCount_0f7a4 2 = .ok (.iconst 1, 1) := by decide +kernel
theorem dJ6_bitCount_0f7a4_3 : decode cJ6_bitCount_0f7a4 3 = .ok (.iushr, 1) := by decide +kernel
theorem dJ6_bitCount_0f7a4_4 : decode cJ6_bitCount_0f7a4 4 = .ok (.ldc_w 265, 3) := by decide +kernel
theorem dJ6_bitCount_0f7a4_7 : decode cJ6_bitCount_0f7a4 7 = .ok (.iand, 1) := by decide +kernel
theorem dJ6_bitCount_0f7a4_8 : decode cJ6_bitCount_0f7a4 8 = .ok (.isub, 1) := by decide +kernel
theorem dJ6_bitCount_0f7a4_9 : decode cJ6_bitCount_0f7a4 9 = .ok (.istore_n 0, 1) := by decide +kernel
theorem dJ6_bitCount_0f7a4_10 : decode cJ6_bitCount_0f7a4 10 = .ok (.iload_n 0, 1) := by decide +kernel
theorem dJ6_bitCount_0f7a4_11 : decode cJ6_bitCount_0f7a4 11 = .ok (.ldc_w 266, 3) := by decide +kernel
theorem dJ6_bitCount_0f7a4_14 : decode cJ6_bitCount_0f7a4 14 = .ok (.iand, 1) := by decide +kernel
theorem dJ6_bitCount_0f7a4_15 : decode cJ6_bitCount_0f7a4 15 = .ok (.iload_n 0, 1) := by decide +kernel
theorem dJ6_bitCount_0f7a4_16 : decode cJ6_bitCount_0f7a4 16 = .ok (.iconst 2, 1) := by decide +kernel
theorem dJ6_bitCount_0f7a4_17 : decode cJ6_bitCount_0f7a4 17 = .ok (.iushr, 1) := by decide +kernel
theorem dJ6_bitCount_0f7a4_18 : decode cJ6_bitCount_0f7a4 18 = .ok (.ldc_w 266, 3) := by decide +kernel
theorem dJ6_bitCount_0f7a4_21 : decode cJ6_bitCount_0f7a4 21 = .ok (.iand, 1) := by decide +kernel
theorem dJ6_bitCount_0f7a4_22 : decode cJ6_bitCount_0f7a4 22 = .ok (.iadd, 1) := by decide +kernel
theorem dJ6_bitCount_0f7a4_23 : decode cJ6_bitCount_0f7a4 23 = .ok (.istore_n 0, 1) := by decide +kernel
theorem dJ6_bitCount_0f7a4_24 : decode cJ6_bitCount_0f7a4 24 = .ok (.iload_n 0, 1) := by decide +kernel
theorem dJ6_bitCount_0f7a4_25 : decode cJ6_bitCount_0f7a4 25 = .ok (.iload_n 0, 1) := by decide +kernel
theorem dJ6_bitCount_0f7a4_26 : decode cJ6_bitCount_0f7a4 26 = .ok (.iconst 4, 1) := by decide +kernel
theorem dJ6_bitCount_0f7a4_27 : decode cJ6_bitCount_0f7a4 27 = .ok (.iushr, 1) := by decide +kernel
theorem dJ6_bitCount_0f7a4_28 : decode cJ6_bitCount_0f7a4 28 = .ok (.iadd, 1) := by decide +kernel
theorem dJ6_bitCount_0f7a4_29 : decode cJ6_bitCount_0f7a4 29 = .ok (.ldc_w 267, 3) := by decide +kernel
theorem dJ6_bitCount_0f7a4_32 : decode cJ6_bitCount_0f7a4 32 = .ok (.iand, 1) := by decide +kernel
theorem dJ6_bitCount_0f7a4_33 : decode cJ6_bitCount_0f7a4 33 = .ok (.istore_n 0, 1) := by decide +kernel
theorem dJ6_bitCount_0f7a4_34 : decode cJ6_bitCount_0f7a4 34 = .ok (.iload_n 0, 1) := by decide +kernel
theorem dJ6_bitCount_0f7a4_35 : decode cJ6_bitCount_0f7a4 35 = .ok (.iload_n 0, 1) := by decide +kernel
theorem dJ6_bitCount_0f7a4_36 : decode cJ6_bitCount_0f7a4 36 = .ok (.bipush 8, 2) := by decide +kernel
theorem dJ6_bitCount_0f7a4_38 : decode cJ6_bitCount_0f7a4 38 = .ok (.iushr, 1) := by decide +kernel
theorem dJ6_bitCount_0f7a4_39 : decode cJ6_bitCount_0f7a4 39 = .ok (.iadd, 1) := by decide +kernel
theorem dJ6_bitCount_0f7a4_40 : decode cJ6_bitCount_0f7a4 40 = .ok (.istore_n 0, 1) := by decide +kernel
theorem dJ6_bitCount_0f7a4_41 : decode cJ6_bitCount_0f7a4 41 = .ok (.iload_n 0, 1) := by decide +kernel
theorem dJ6_bitCount_0f7a4_42 : decode cJ6_bitCount_0f7a4 42 = .ok (.iload_n 0, 1) := by decide +kernel
theorem dJ6_bitCount_0f7a4_43 : decode cJ6_bitCount_0f7a4 43 = .ok (.bipush 16, 2) := by decide +kernel
theorem dJ6_bitCount_0f7a4_45 : decode cJ6_bitCount_0f7a4 45 = .ok (.iushr, 1) := by decide +kernel
theorem dJ6_bitCount_0f7a4_46 : decode cJ6_bitCount_0f7a4 46 = .ok (.iadd, 1) := by decide +kernel
theorem dJ6_bitCount_0f7a4_47 : decode cJ6_bitCount_0f7a4 47 = .ok (.istore_n 0, 1) := by decide +kernel
theorem dJ6_bitCount_0f7a4_48 : decode cJ6_bitCount_0f7a4 48 = .ok (.iload_n 0, 1) := by decide +kernel
theorem dJ6_bitCount_0f7a4_49 : decode cJ6_bitCount_0f7a4 49 = .ok (.bipush 63, 2) := by decide +kernel
theorem dJ6_bitCount_0f7a4_51 : decode cJ6_bitCount_0f7a4 51 = .ok (.iand, 1) := by decide +kernel
theorem dJ6_bitCount_0f7a4_52 : decode cJ6_bitCount_0f7a4 52 = .ok (.ireturn, 1) := by decide +kernel
theorem dJ9_max_7cf53_0 : decode cJ9_max_7cf53 0 = .ok (.iload_n 0, 1) := by decide +kernel
theorem dJ9_max_7cf53_1 : decode cJ9_max_7cf53 1 = .ok (.iload_n 1, 1) := by decide +kernel
theorem dJ9_max_7cf53_2 : decode cJ9_max_7cf53 2 = .ok (.if_icmp .lt 7, 3) := by decide +kernel
theorem dJ9_max_7cf53_5 : decode cJ9_max_7cf53 5 = .ok (.iload_n 0, 1) := by decide +kernel
theorem dJ9_max_7cf53_6 : decode cJ9_max_7cf53 6 = .ok (.goto 4, 3) := by decide +kernel
theorem dJ9_max_7cf53_9 : decode cJ9_max_7cf53 9 = .ok (.iload_n 1, 1) := by decide +kernel
theorem dJ9_max_7cf53_10 : decode cJ9_max_7cf53 10 = .ok (.ireturn, 1) := by decide +kernel
theorem dJ9_min_7cf53_0 : decode cJ9_min_7cf53 0 = .ok (.iload_n 0, 1) := by decide +kernel
theorem dJ9_min_7cf53_1 : decode cJ9_min_7cf53 1 = .ok (.iload_n 1, 1) := by decide +kernel
theorem dJ9_min_7cf53_2 : decode cJ9_min_7cf53 2 = .ok (.if_icmp .gt 7, 3) := by decide +kernel
theorem dJ9_min_7cf53_5 : decode cJ9_min_7cf53 5 = .ok (.iload_n 0, 1) := by decide +kernel
theorem dJ9_min_7cf53_6 : decode cJ9_min_7cf53 6 = .ok (.goto 4, 3) := by decide +kernel
theorem dJ9_min_7cf53_9 : decode cJ9_min_7cf53 9 = .ok (.iload_n 1, 1) := by decide +kernel
theorem dJ9_min_7cf53_10 : decode cJ9_min_7cf53 10 = .ok (.ireturn, 1) := by decide +kernel
theorem dJ0_length_8abf5_0 : decode cJ0_length_8abf5 0 = .ok (.aload_n 0, 1) := by decide +kernel
theorem dJ0_length_8abf5_1 : decode cJ0_length_8abf5 1 = .ok (.getfield 9, 3) := by decide +kernel
theorem dJ0_length_8abf5_4 : decode cJ0_length_8abf5 4 = .ok (.arraylength, 1) := by decide +kernel
theorem dJ0_length_8abf5_5 : decode cJ0_length_8abf5 5 = .ok (.aload_n 0, 1) := by decide +kernel
theorem dJ0_length_8abf5_6 : decode cJ0_length_8abf5 6 = .ok (.invokevirtual 335, 3) := by decide +kernel
theorem dJ0_length_8abf5_9 : decode cJ0_length_8abf5 9 = .ok (.ishr, 1) := by decide +kernel
theorem dJ0_length_8abf5_10 : decode cJ0_length_8abf5 10 = .ok (.ireturn, 1) := by decide +kernel
theorem dJ0_indexOf_0f7a4_0 : decode cJ0_indexOf_0f7a4 0 = .ok (.aload_n 0, 1) := by decide +kernel
theorem dJ0_indexOf_0f7a4_1 : decode cJ0_indexOf_0f7a4 1 = .ok (.iload_n 1, 1) := by decide +kernel
theorem dJ0_indexOf_0f7a4_2 : decode cJ0_indexOf_0f7a4 2 = .ok (.iconst 0, 1) := by decide +kernel
theorem dJ0_indexOf_0f7a4_3 : decode cJ0_indexOf_0f7a4 3 = .ok (.invokevirtual 633, 3) := by decide +kernel
theorem dJ0_indexOf_0f7a4_6 : decode cJ0_indexOf_0f7a4 6 = .ok (.ireturn, 1) := by decide +kernel
theorem dJ0_indexOf_7cf53_0 : decode cJ0_indexOf_7cf53 0 = .ok (.aload_n 0, 1) := by decide +kernel
theorem dJ0_indexOf_7cf53_1 : decode cJ0_indexOf_7cf53 1 = .ok (.invokevirtual 492, 3) := by decide +kernel
theorem dJ0_indexOf_7cf53_4 : decode cJ0_indexOf_7cf53 4 = .ok (.ifCond .eq 19, 3) := by decide +kernel
theorem dJ0_indexOf_7cf53_7 : decode cJ0_indexOf_7cf53 7 = .ok (.aload_n 0, 1) := by decide +kernel
theorem dJ0_indexOf_7cf53_8 : decode cJ0_indexOf_7cf53 8 = .ok (.getfield 9, 3) := by decide +kernel
theorem dJ0_indexOf_7cf53_11 : decode cJ0_indexOf_7cf53 11 = .ok (.iload_n 1, 1) := by decide +kernel
theorem dJ0_indexOf_7cf53_12 : decode cJ0_indexOf_7cf53 12 = .ok (.iload_n 2, 1) := by decide +kernel
theorem dJ0_indexOf_7cf53_13 : decode cJ0_indexOf_7cf53 13 = .ok (.aload_n 0, 1) := by decide +kernel
theorem dJ0_indexOf_7cf53_14 : decode cJ0_indexOf_7cf53 14 = .ok (.invokevirtual 505, 3) := by decide +kernel
theorem dJ0_indexOf_7cf53_17 : decode cJ0_indexOf_7cf53 17 = .ok (.invokestatic 637, 3) := by decide +kernel
theorem dJ0_indexOf_7cf53_20 : decode cJ0_indexOf_7cf53 20 = .ok (.goto 16, 3) := by decide +kernel
theorem dJ0_indexOf_7cf53_23 : decode cJ0_indexOf_7cf53 23 = .ok (.aload_n 0, 1) := by decide +kernel
theorem dJ0_indexOf_7cf53_24 : decode cJ0_indexOf_7cf53 24 = .ok (.getfield 9, 3) := by decide +kernel
theorem dJ0_indexOf_7cf53_27 : decode cJ0_indexOf_7cf53 27 = .ok (.iload_n 1, 1) := by decide +kernel
theorem dJ0_indexOf_7cf53_28 : decode cJ0_indexOf_7cf53 28 = .ok (.iload_n 2, 1) := by decide +kernel
theorem dJ0_indexOf_7cf53_29 : decode cJ0_indexOf_7cf53 29 = .ok (.aload_n 0, 1) := by decide +kernel
theorem dJ0_indexOf_7cf53_30 : decode cJ0_indexOf_7cf53 30 = .ok (.invokevirtual 505, 3) := by decide +kernel
theorem dJ0_indexOf_7cf53_33 : decode cJ0_indexOf_7cf53 33 = .ok (.invokestatic 640, 3) := by decide +kernel
theorem dJ0_indexOf_7cf53_36 : decode cJ0_indexOf_7cf53 36 = .ok (.ireturn, 1) := by decide +kernel
theorem dJ0_coder_7d493_0 : decode cJ0_coder_7d493 0 = .ok (.getstatic 38, 3) := by decide +kernel
theorem dJ0_coder_7d493_3 : decode cJ0_coder_7d493 3 = .ok (.ifCond .eq 10, 3) := by decide +kernel
theorem dJ0_coder_7d493_6 : decode cJ0_coder_7d493 6 = .ok (.aload_n 0, 1) := by decide +kernel
theorem dJ0_coder_7d493_7 : decode cJ0_coder_7d493 7 = .ok (.getfield 15, 3) := by decide +kernel
theorem dJ0_coder_7d493_10 : decode cJ0_coder_7d493 10 = .ok (.goto 4, 3) := by decide +kernel
theorem dJ0_coder_7d493_13 : decode cJ0_coder_7d493 13 = .ok (.iconst 1, 1) := by decide +kernel
theorem dJ0_coder_7d493_14 : decode cJ0_coder_7d493 14 = .ok (.ireturn, 1) := by decide +kernel
theorem dJ0_isLatin1_aae02_0 : decode cJ0_isLatin1_aae02 0 = .ok (.getstatic 38, 3) := by decide +kernel
theorem dJ0_isLatin1_aae02_3 : decode cJ0_isLatin1_aae02 3 = .ok (.ifCond .eq 14, 3) := by decide +kernel
theorem dJ0_isLatin1_aae02_6 : decode cJ0_isLatin1_aae02 6 = .ok (.aload_n 0, 1) := by decide +kernel
theorem dJ0_isLatin1_aae02_7 : decode cJ0_isLatin1_aae02 7 = .ok (.getfield 15, 3) := by decide +kernel
theorem dJ0_isLatin1_aae02_10 : decode cJ0_isLatin1_aae02 10 = .ok (.ifCond .ne 7, 3) := by decide +kernel
theorem dJ0_isLatin1_aae02_13 : decode cJ0_isLatin1_aae02 13 = .ok (.iconst 1, 1) := by decide +kernel
theorem dJ0_isLatin1_aae02_14 : decode cJ0_isLatin1_aae02 14 = .ok (.goto 4, 3) := by decide +kernel
theorem dJ0_isLatin1_aae02_17 : decode cJ0_isLatin1_aae02 17 = .ok (.iconst 0, 1) := by decide +kernel
theorem dJ0_isLatin1_aae02_18 : decode cJ0_isLatin1_aae02 18 = .ok (.ireturn, 1) := by decide +kernel
theorem dJ0_checkBoundsBeginEnd_23922_0 : decode cJ0_checkBoundsBeginEnd_23922 0 = .ok (.iload_n 0, 1) := by decide +kernel
theorem dJ0_checkBoundsBeginEnd_23922_1 : decode cJ0_checkBoundsBeginEnd_23922 1 = .ok (.iload_n 1, 1) := by decide +kernel
theorem dJ0_checkBoundsBeginEnd_23922_2 : decode cJ0_checkBoundsBeginEnd_23922 2 = .ok (.iload_n 2, 1) := by decide +kernel
theorem dJ0_checkBoundsBeginEnd_23922_3 : decode cJ0_checkBoundsBeginEnd_23922 3 = .ok (.getstatic 1053, 3) := by decide +kernel
theorem dJ0_checkBoundsBeginEnd_23922_6 : decode cJ0_checkBoundsBeginEnd_23922 6 = .ok (.invokestatic 1062, 3) := by decide +kernel
theorem dJ0_checkBoundsBeginEnd_23922_9 : decode cJ0_checkBoundsBeginEnd_23922 9 = .ok (.pop, 1) := by decide +kernel
theorem dJ0_checkBoundsBeginEnd_23922_10 : decode cJ0_checkBoundsBeginEnd_23922 10 = .ok (.return_, 1) := by decide +kernel
theorem dJ1_canEncode_9a6ad_0 : decode cJ1_canEncode_9a6ad 0 = .ok (.iload_n 0, 1) := by decide +kernel
theorem dJ1_canEncode_9a6ad_1 : decode cJ1_canEncode_9a6ad 1 = .ok (.ifCond .lt 14, 3) := by decide +kernel
theorem dJ1_canEncode_9a6ad_4 : decode cJ1_canEncode_9a6ad 4 = .ok (.iload_n 0, 1) := by decide +kernel
theorem dJ1_canEncode_9a6ad_5 : decode cJ1_canEncode_9a6ad 5 = .ok (.sipush 255, 3) := by decide +kernel
theorem dJ1_canEncode_9a6ad_8 : decode cJ1_canEncode_9a6ad 8 = .ok (.if_icmp .gt 7, 3) := by decide +kernel
theorem dJ1_canEncode_9a6ad_11 : decode cJ1_canEncode_9a6ad 11 = .ok (.iconst 1, 1) := by decide +kernel
theorem dJ1_canEncode_9a6ad_12 : decode cJ1_canEncode_9a6ad 12 = .ok (.goto 4, 3) := by decide +kernel
theorem dJ1_canEncode_9a6ad_15 : decode cJ1_canEncode_9a6ad 15 = .ok (.iconst 0, 1) := by decide +kernel
theorem dJ1_canEncode_9a6ad_16 : decode cJ1_canEncode_9a6ad 16 = .ok (.ireturn, 1) := by decide +kernel
theorem dJ1_indexOf_4cfef_0 : decode cJ1_indexOf_4cfef 0 = .ok (.iload_n 1, 1) := by decide +kernel
theorem dJ1_indexOf_4cfef_1 : decode cJ1_indexOf_4cfef 1 = .ok (.invokestatic 88, 3) := by decide +kernel
theorem dJ1_indexOf_4cfef_4 : decode cJ1_indexOf_4cfef 4 = .ok (.ifCond .ne 5, 3) := by decide +kernel
theorem dJ1_indexOf_4cfef_7 : decode cJ1_indexOf_4cfef 7 = .ok (.iconst (-1), 1) := by decide +kernel
theorem dJ1_indexOf_4cfef_8 : decode cJ1_indexOf_4cfef 8 = .ok (.ireturn, 1) := by decide +kernel
theorem dJ1_indexOf_4cfef_9 : decode cJ1_indexOf_4cfef 9 = .ok (.iload_n 2, 1) := by decide +kernel
theorem dJ1_indexOf_4cfef_10 : decode cJ1_indexOf_4cfef 10 = .ok (.iconst 0, 1) := by decide +kernel
theorem dJ1_indexOf_4cfef_11 : decode cJ1_indexOf_4cfef 11 = .ok (.invokestatic 92, 3) := by decide +kernel
theorem dJ1_indexOf_4cfef_14 : decode cJ1_indexOf_4cfef 14 = .ok (.istore_n 2, 1) := by decide +kernel
theorem dJ1_indexOf_4cfef_15 : decode cJ1_indexOf_4cfef 15 = .ok (.iload_n 3, 1) := by decide +kernel
theorem dJ1_indexOf_4cfef_16 : decode cJ1_indexOf_4cfef 16 = .ok (.aload_n 0, 1) := by decide +kernel
theorem dJ1_indexOf_4cfef_17 : decode cJ1_indexOf_4cfef 17 = .ok (.arraylength, 1) := by decide +kernel
theorem dJ1_indexOf_4cfef_18 : decode cJ1_indexOf_4cfef 18 = .ok (.invokestatic 38, 3) := by decide +kernel
theorem dJ1_indexOf_4cfef_21 : decode cJ1_indexOf_4cfef 21 = .ok (.istore_n 3, 1) := by decide +kernel
theorem dJ1_indexOf_4cfef_22 : decode cJ1_indexOf_4cfef 22 = .ok (.iload_n 2, 1) := by decide +kernel
theorem dJ1_indexOf_4cfef_23 : decode cJ1_indexOf_4cfef 23 = .ok (.iload_n 3, 1) := by decide +kernel
theorem dJ1_indexOf_4cfef_24 : decode cJ1_indexOf_4cfef 24 = .ok (.if_icmp .lt 5, 3) := by decide +kernel
theorem dJ1_indexOf_4cfef_27 : decode cJ1_indexOf_4cfef 27 = .ok (.iconst (-1), 1) := by decide +kernel
theorem dJ1_indexOf_4cfef_28 : decode cJ1_indexOf_4cfef 28 = .ok (.ireturn, 1) := by decide +kernel
theorem dJ1_indexOf_4cfef_29 : decode cJ1_indexOf_4cfef 29 = .ok (.aload_n 0, 1) := by decide +kernel
theorem dJ1_indexOf_4cfef_30 : decode cJ1_indexOf_4cfef 30 = .ok (.iload_n 1, 1) := by decide +kernel
theorem dJ1_indexOf_4cfef_31 : decode cJ1_indexOf_4cfef 31 = .ok (.iload_n 2, 1) := by decide +kernel
theorem dJ1_indexOf_4cfef_32 : decode cJ1_indexOf_4cfef 32 = .ok (.iload_n 3, 1) := by decide +kernel
theorem dJ1_indexOf_4cfef_33 : decode cJ1_indexOf_4cfef 33 = .ok (.invokestatic 95, 3) := by decide +kernel
theorem dJ1_indexOf_4cfef_36 : decode cJ1_indexOf_4cfef 36 = .ok (.ireturn, 1) := by decide +kernel
theorem dJ1_indexOfChar_4cfef_0 : decode cJ1_indexOfChar_4cfef 0 = .ok (.iload_n 1, 1) := by decide +kernel
theorem dJ1_indexOfChar_4cfef_1 : decode cJ1_indexOfChar_4cfef 1 = .ok (.i2b, 1) := by decide +kernel
theorem dJ1_indexOfChar_4cfef_2 : decode cJ1_indexOfChar_4cfef 2 = .ok (.istore 4, 2) := by decide +kernel
theorem dJ1_indexOfChar_4cfef_4 : decode cJ1_indexOfChar_4cfef 4 = .ok (.iload_n 2, 1) := by decide +kernel
theorem dJ1_indexOfChar_4cfef_5 : decode cJ1_indexOfChar_4cfef 5 = .ok (.istore 5, 2) := by decide +kernel
theorem dJ1_indexOfChar_4cfef_7 : decode cJ1_indexOfChar_4cfef 7 = .ok (.iload 5, 2) := by decide +kernel
theorem dJ1_indexOfChar_4cfef_9 : decode cJ1_indexOfChar_4cfef 9 = .ok (.iload_n 3, 1) := by decide +kernel
theorem dJ1_indexOfChar_4cfef_10 : decode cJ1_indexOfChar_4cfef 10 = .ok (.if_icmp .ge 21, 3) := by decide +kernel
theorem dJ1_indexOfChar_4cfef_13 : decode cJ1_indexOfChar_4cfef 13 = .ok (.aload_n 0, 1) := by decide +kernel
theorem dJ1_indexOfChar_4cfef_14 : decode cJ1_indexOfChar_4cfef 14 = .ok (.iload 5, 2) := by decide +kernel
theorem dJ1_indexOfChar_4cfef_16 : decode cJ1_indexOfChar_4cfef 16 = .ok (.baload, 1) := by decide +kernel
theorem dJ1_indexOfChar_4cfef_17 : decode cJ1_indexOfChar_4cfef 17 = .ok (.iload 4, 2) := by decide +kernel
theorem dJ1_indexOfChar_4cfef_19 : decode cJ1_indexOfChar_4cfef 19 = .ok (.if_icmp .ne 6, 3) := by decide +kernel
theorem dJ1_indexOfChar_4cfef_22 : decode cJ1_indexOfChar_4cfef 22 = .ok (.iload 5, 2) := by decide +kernel
theorem dJ1_indexOfChar_4cfef_24 : decode cJ1_indexOfChar_4cfef 24 = .ok (.ireturn, 1) := by decide +kernel
theorem dJ1_indexOfChar_4cfef_25 : decode cJ1_indexOfChar_4cfef 25 = .ok (.iinc 5 1, 3) := by decide +kernel
theorem dJ1_indexOfChar_4cfef_28 : decode cJ1_indexOfChar_4cfef 28 = .ok (.goto (-21), 3) := by decide +kernel
theorem dJ1_indexOfChar_4cfef_31 : decode cJ1_indexOfChar_4cfef 31 = .ok (.iconst (-1), 1) := by decide +kernel
theorem dJ1_indexOfChar_4cfef_32 : decode cJ1_indexOfChar_4cfef 32 = .ok (.ireturn, 1) := by decide +kernel
theorem dJ2_getChar_3b067_0 : decode cJ2_getChar_3b067 0 = .ok (.getstatic 44, 3) := by decide +kernel
theorem dJ2_getChar_3b067_3 : decode cJ2_getChar_3b067 3 = .ok (.ifCond .ne 25, 3) := by decide +kernel
theorem dJ2_getChar_3b067_6 : decode cJ2_getChar_3b067 6 = .ok (.iload_n 1, 1) := by decide +kernel
theorem dJ2_getChar_3b067_7 : decode cJ2_getChar_3b067 7 = .ok (.ifCond .lt 11, 3) := by decide +kernel
theorem dJ2_getChar_3b067_10 : decode cJ2_getChar_3b067 10 = .ok (.iload_n 1, 1) := by decide +kernel
theorem dJ2_getChar_3b067_11 : decode cJ2_getChar_3b067 11 = .ok (.aload_n 0, 1) := by decide +kernel
theorem dJ2_getChar_3b067_12 : decode cJ2_getChar_3b067 12 = .ok (.invokestatic 48, 3) := by decide +kernel
theorem dJ2_getChar_3b067_15 : decode cJ2_getChar_3b067 15 = .ok (.if_icmp .lt 13, 3) := by decide +kernel
theorem dJ2_getChar_3b067_18 : decode cJ2_getChar_3b067 18 = .ok (.new 52, 3) := by decide +kernel
theorem dJ2_getChar_3b067_21 : decode cJ2_getChar_3b067 21 = .ok (.dup, 1) := by decide +kernel
theorem dJ2_getChar_3b067_22 : decode cJ2_getChar_3b067 22 = .ok (.ldc 54, 2) := by decide +kernel
theorem dJ2_getChar_3b067_24 : decode cJ2_getChar_3b067 24 = .ok (.invokespecial 56, 3) := by decide +kernel
theorem dJ2_getChar_3b067_27 : decode cJ2_getChar_3b067 27 = .ok (.athrow, 1) := by decide +kernel
theorem dJ2_getChar_3b067_28 : decode cJ2_getChar_3b067 28 = .ok (.iload_n 1, 1) := by decide +kernel
theorem dJ2_getChar_3b067_29 : decode cJ2_getChar_3b067 29 = .ok (.iconst 1, 1) := by decide +kernel
theorem dJ2_getChar_3b067_30 : decode cJ2_getChar_3b067 30 = .ok (.ishl, 1) := by decide +kernel
theorem dJ2_getChar_3b067_31 : decode cJ2_getChar_3b067 31 = .ok (.istore_n 1, 1) := by decide +kernel
theorem dJ2_getChar_3b067_32 : decode cJ2_getChar_3b067 32 = .ok (.aload_n 0, 1) := by decide +kernel
theorem dJ2_getChar_3b067_33 : decode cJ2_getChar_3b067 33 = .ok (.iload_n 1, 1) := by decide +kernel
theorem dJ2_getChar_3b067_34 : decode cJ2_getChar_3b067 34 = .ok (.iinc 1 1, 3) := by decide +kernel
theorem dJ2_getChar_3b067_37 : decode cJ2_getChar_3b067 37 = .ok (.baload, 1) := by decide +kernel
theorem dJ2_getChar_3b067_38 : decode cJ2_getChar_3b067 38 = .ok (.sipush 255, 3) := by decide +kernel
theorem dJ2_getChar_3b067_41 : decode cJ2_getChar_3b067 41 = .ok (.iand, 1) := by decide +kernel
theorem dJ2_getChar_3b067_42 : decode cJ2_getChar_3b067 42 = .ok (.getstatic 59, 3) := by decide +kernel
theorem dJ2_getChar_3b067_45 : decode cJ2_getChar_3b067 45 = .ok (.ishl, 1) := by decide +kernel
theorem dJ2_getChar_3b067_46 : decode cJ2_getChar_3b067 46 = .ok (.aload_n 0, 1) := by decide +kernel
theorem dJ2_getChar_3b067_47 : decode cJ2_getChar_3b067 47 = .ok (.iload_n 1, 1) := by decide +kernel
theorem dJ2_getChar_3b067_48 : decode cJ2_getChar_3b067 48 = .ok (.baload, 1) := by decide +kernel
theorem dJ2_getChar_3b067_49 : decode cJ2_getChar_3b067 49 = .ok (.sipush 255, 3) := by decide +kernel
theorem dJ2_getChar_3b067_52 : decode cJ2_getChar_3b067 52 = .ok (.iand, 1) := by decide +kernel
theorem dJ2_getChar_3b067_53 : decode cJ2_getChar_3b067 53 = .ok (.getstatic 63, 3) := by decide +kernel
theorem dJ2_getChar_3b067_56 : decode cJ2_getChar_3b067 56 = .ok (.ishl, 1) := by decide +kernel
theorem dJ2_getChar_3b067_57 : decode cJ2_getChar_3b067 57 = .ok (.ior, 1) := by decide +kernel
theorem dJ2_getChar_3b067_58 : decode cJ2_getChar_3b067 58 = .ok (.i2c, 1) := by decide +kernel
theorem dJ2_getChar_3b067_59 : decode cJ2_getChar_3b067 59 = .ok (.ireturn, 1) := by decide +kernel
theorem dJ2_length_9d52b_0 : decode cJ2_length_9d52b 0 = .ok (.aload_n 0, 1) := by decide +kernel
theorem dJ2_length_9d52b_1 : decode cJ2_length_9d52b 1 = .ok (.arraylength, 1) := by decide +kernel
theorem dJ2_length_9d52b_2 : decode cJ2_length_9d52b 2 = .ok (.iconst 1, 1) := by decide +kernel
theorem dJ2_length_9d52b_3 : decode cJ2_length_9d52b 3 = .ok (.ishr, 1) := by decide +kernel
theorem dJ2_length_9d52b_4 : decode cJ2_length_9d52b 4 = .ok (.ireturn, 1) := by decide +kernel
theorem dJ2_indexOf_4cfef_0 : decode cJ2_indexOf_4cfef 0 = .ok (.iload_n 2, 1) := by decide +kernel
theorem dJ2_indexOf_4cfef_1 : decode cJ2_indexOf_4cfef 1 = .ok (.iconst 0, 1) := by decide +kernel
theorem dJ2_indexOf_4cfef_2 : decode cJ2_indexOf_4cfef 2 = .ok (.invokestatic 224, 3) := by decide +kernel
theorem dJ2_indexOf_4cfef_5 : decode cJ2_indexOf_4cfef 5 = .ok (.istore_n 2, 1) := by decide +kernel
theorem dJ2_indexOf_4cfef_6 : decode cJ2_indexOf_4cfef 6 = .ok (.iload_n 3, 1) := by decide +kernel
theorem dJ2_indexOf_4cfef_7 : decode cJ2_indexOf_4cfef 7 = .ok (.aload_n 0, 1) := by decide +kernel
theorem dJ2_indexOf_4cfef_8 : decode cJ2_indexOf_4cfef 8 = .ok (.arraylength, 1) := by decide +kernel
theorem dJ2_indexOf_4cfef_9 : decode cJ2_indexOf_4cfef 9 = .ok (.iconst 1, 1) := by decide +kernel
theorem dJ2_indexOf_4cfef_10 : decode cJ2_indexOf_4cfef 10 = .ok (.ishr, 1) := by decide +kernel
theorem dJ2_indexOf_4cfef_11 : decode cJ2_indexOf_4cfef 11 = .ok (.invokestatic 183, 3) := by decide +kernel
theorem dJ2_indexOf_4cfef_14 : decode cJ2_indexOf_4cfef 14 = .ok (.istore_n 3, 1) := by decide +kernel
theorem dJ2_indexOf_4cfef_15 : decode cJ2_indexOf_4cfef 15 = .ok (.iload_n 2, 1) := by decide +kernel
theorem dJ2_indexOf_4cfef_16 : decode cJ2_indexOf_4cfef 16 = .ok (.iload_n 3, 1) := by decide +kernel
theorem dJ2_indexOf_4cfef_17 : decode cJ2_indexOf_4cfef 17 = .ok (.if_icmp .lt 5, 3) := by decide +kernel
theorem dJ2_indexOf_4cfef_20 : decode cJ2_indexOf_4cfef 20 = .ok (.iconst (-1), 1) := by decide +kernel
theorem dJ2_indexOf_4cfef_21 : decode cJ2_indexOf_4cfef 21 = .ok (.ireturn, 1) := by decide +kernel
theorem dJ2_indexOf_4cfef_22 : decode cJ2_indexOf_4cfef 22 = .ok (.iload_n 1, 1) := by decide +kernel
theorem dJ2_indexOf_4cfef_23 : decode cJ2_indexOf_4cfef 23 = .ok (.ldc 227, 2) := by decide +kernel
theorem dJ2_indexOf_4cfef_25 : decode cJ2_indexOf_4cfef 25 = .ok (.if_icmp .ge 11, 3) := by decide +kernel
theorem dJ2_indexOf_4cfef_28 : decode cJ2_indexOf_4cfef 28 = .ok (.aload_n 0, 1) := by decide +kernel
theorem dJ2_indexOf_4cfef_29 : decode cJ2_indexOf_4cfef 29 = .ok (.iload_n 1, 1) := by decide +kernel
theorem dJ2_indexOf_4cfef_30 : decode cJ2_indexOf_4cfef 30 = .ok (.iload_n 2, 1) := by decide +kernel
theorem dJ2_indexOf_4cfef_31 : decode cJ2_indexOf_4cfef 31 = .ok (.iload_n 3, 1) := by decide +kernel
theorem dJ2_indexOf_4cfef_32 : decode cJ2_indexOf_4cfef 32 = .ok (.invokestatic 228, 3) := by decide +kernel
theorem dJ2_indexOf_4cfef_35 : decode cJ2_indexOf_4cfef 35 = .ok (.ireturn, 1) := by decide +kernel
theorem dJ2_indexOf_4cfef_36 : decode cJ2_indexOf_4cfef 36 = .ok (.aload_n 0, 1) := by decide +kernel
theorem dJ2_indexOf_4cfef_37 : decode cJ2_indexOf_4cfef 37 = .ok (.iload_n 1, 1) := by decide +kernel
theorem dJ2_indexOf_4cfef_38 : decode cJ2_indexOf_4cfef 38 = .ok (.iload_n 2, 1) := by decide +kernel
theorem dJ2_indexOf_4cfef_39 : decode cJ2_indexOf_4cfef 39 = .ok (.iload_n 3, 1) := by decide +kernel
theorem dJ2_indexOf_4cfef_40 : decode cJ2_indexOf_4cfef 40 = .ok (.invokestatic 232, 3) := by decide +kernel
theorem dJ2_indexOf_4cfef_43 : decode cJ2_indexOf_4cfef 43 = .ok (.ireturn, 1) := by decide +kernel
theorem dJ2_indexOfChar_4cfef_0 : decode cJ2_indexOfChar_4cfef 0 = .ok (.iload_n 2, 1) := by decide +kernel
theorem dJ2_indexOfChar_4cfef_1 : decode cJ2_indexOfChar_4cfef 1 = .ok (.iload_n 3, 1) := by decide +kernel
theorem dJ2_indexOfChar_4cfef_2 : decode cJ2_indexOfChar_4cfef 2 = .ok (.aload_n 0, 1) := by decide +kernel
theorem dJ2_indexOfChar_4cfef_3 : decode cJ2_indexOfChar_4cfef 3 = .ok (.invokestatic 96, 3) := by decide +kernel
theorem dJ2_indexOfChar_4cfef_6 : decode cJ2_indexOfChar_4cfef 6 = .ok (.aload_n 0, 1) := by decide +kernel
theorem dJ2_indexOfChar_4cfef_7 : decode cJ2_indexOfChar_4cfef 7 = .ok (.iload_n 1, 1) := by decide +kernel
theorem dJ2_indexOfChar_4cfef_8 : decode cJ2_indexOfChar_4cfef 8 = .ok (.iload_n 2, 1) := by decide +kernel
theorem dJ2_indexOfChar_4cfef_9 : decode cJ2_indexOfChar_4cfef 9 = .ok (.iload_n 3, 1) := by decide +kernel
theorem dJ2_indexOfChar_4cfef_10 : decode cJ2_indexOfChar_4cfef 10 = .ok (.invokestatic 244, 3) := by decide +kernel
theorem dJ2_indexOfChar_4cfef_13 : decode cJ2_indexOfChar_4cfef 13 = .ok (.ireturn, 1) := by decide +kernel
theorem dJ2_indexOfCharUnsafe_4cfef_0 : decode cJ2_indexOfCharUnsafe_4cfef 0 = .ok (.iload_n 2, 1) := by decide +kernel
theorem dJ2_indexOfCharUnsafe_4cfef_1 : decode cJ2_indexOfCharUnsafe_4cfef 1 = .ok (.istore 4, 2) := by decide +kernel
theorem dJ2_indexOfCharUnsafe_4cfef_3 : decode cJ2_indexOfCharUnsafe_4cfef 3 = .ok (.iload 4, 2) := by decide +kernel
theorem dJ2_indexOfCharUnsafe_4cfef_5 : decode cJ2_indexOfCharUnsafe_4cfef 5 = .ok (.iload_n 3, 1) := by decide +kernel
theorem dJ2_indexOfCharUnsafe_4cfef_6 : decode cJ2_indexOfCharUnsafe_4cfef 6 = .ok (.if_icmp .ge 22, 3) := by decide +kernel
theorem dJ2_indexOfCharUnsafe_4cfef_9 : decode cJ2_indexOfCharUnsafe_4cfef 9 = .ok (.aload_n 0, 1) := by decide +kernel
theorem dJ2_indexOfCharUnsafe_4cfef_10 : decode cJ2_indexOfCharUnsafe_4cfef 10 = .ok (.iload 4, 2) := by decide +kernel
theorem dJ2_indexOfCharUnsafe_4cfef_12 : decode cJ2_indexOfCharUnsafe_4cfef 12 = .ok (.invokestatic 71, 3) := by decide +kernel
theorem dJ2_indexOfCharUnsafe_4cfef_15 : decode cJ2_indexOfCharUnsafe_4cfef 15 = .ok (.iload_n 1, 1) := by decide +kernel
theorem dJ2_indexOfCharUnsafe_4cfef_16 : decode cJ2_indexOfCharUnsafe_4cfef 16 = .ok (.if_icmp .ne 6, 3) := by decide +kernel
theorem dJ2_indexOfCharUnsafe_4cfef_19 : decode cJ2_indexOfCharUnsafe_4cfef 19 = .ok (.iload 4, 2) := by decide +kernel
theorem dJ2_indexOfCharUnsafe_4cfef_21 : decode cJ2_indexOfCharUnsafe_4cfef 21 = .ok (.ireturn, 1) := by decide +kernel
theorem dJ2_indexOfCharUnsafe_4cfef_22 : decode cJ2_indexOfCharUnsafe_4cfef 22 = .ok (.iinc 4 1, 3) := by decide +kernel
theorem dJ2_indexOfCharUnsafe_4cfef_25 : decode cJ2_indexOfCharUnsafe_4cfef 25 = .ok (.goto (-22), 3) := by decide +kernel
theorem dJ2_indexOfCharUnsafe_4cfef_28 : decode cJ2_indexOfCharUnsafe_4cfef 28 = .ok (.iconst (-1), 1) := by decide +kernel
theorem dJ2_indexOfCharUnsafe_4cfef_29 : decode cJ2_indexOfCharUnsafe_4cfef 29 = .ok (.ireturn, 1) := by decide +kernel
theorem dJ2_indexOfSupplementary_4cfef_0 : decode cJ2_indexOfSupplementary_4cfef 0 = .ok (.iload_n 1, 1) := by decide +kernel
theorem dJ2_indexOfSupplementary_4cfef_1 : decode cJ2_indexOfSupplementary_4cfef 1 = .ok (.invokestatic 164, 3) := by decide +kernel
theorem dJ2_indexOfSupplementary_4cfef_4 : decode cJ2_indexOfSupplementary_4cfef 4 = .ok (.ifCond .eq 65, 3) := by decide +kernel
theorem dJ2_indexOfSupplementary_4cfef_7 : decode cJ2_indexOfSupplementary_4cfef 7 = .ok (.iload_n 1, 1) := by decide +kernel
theorem dJ2_indexOfSupplementary_4cfef_8 : decode cJ2_indexOfSupplementary_4cfef 8 = .ok (.invokestatic 157, 3) := by decide +kernel
theorem dJ2_indexOfSupplementary_4cfef_11 : decode cJ2_indexOfSupplementary_4cfef 11 = .ok (.istore 4, 2) := by decide +kernel
theorem dJ2_indexOfSupplementary_4cfef_13 : decode cJ2_indexOfSupplementary_4cfef 13 = .ok (.iload_n 1, 1) := by decide +kernel
theorem dJ2_indexOfSupplementary_4cfef_14 : decode cJ2_indexOfSupplementary_4cfef 14 = .ok (.invokestatic 161, 3) := by decide +kernel
theorem dJ2_indexOfSupplementary_4cfef_17 : decode cJ2_indexOfSupplementary_4cfef 17 = .ok (.istore 5, 2) := by decide +kernel
theorem dJ2_indexOfSupplementary_4cfef_19 : decode cJ2_indexOfSupplementary_4cfef 19 = .ok (.iload_n 2, 1) := by decide +kernel
theorem dJ2_indexOfSupplementary_4cfef_20 : decode cJ2_indexOfSupplementary_4cfef 20 = .ok (.iload_n 3, 1) := by decide +kernel
theorem dJ2_indexOfSupplementary_4cfef_21 : decode cJ2_indexOfSupplementary_4cfef 21 = .ok (.aload_n 0, 1) := by decide +kernel
theorem dJ2_indexOfSupplementary_4cfef_22 : decode cJ2_indexOfSupplementary_4cfef 22 = .ok (.invokestatic 96, 3) := by decide +kernel
theorem dJ2_indexOfSupplementary_4cfef_25 : decode cJ2_indexOfSupplementary_4cfef 25 = .ok (.iload_n 2, 1) := by decide +kernel
theorem dJ2_indexOfSupplementary_4cfef_26 : decode cJ2_indexOfSupplementary_4cfef 26 = .ok (.istore 6, 2) := by decide +kernel
theorem dJ2_indexOfSupplementary_4cfef_28 : decode cJ2_indexOfSupplementary_4cfef 28 = .ok (.iload 6, 2) := by decide +kernel
theorem dJ2_indexOfSupplementary_4cfef_30 : decode cJ2_indexOfSupplementary_4cfef 30 = .ok (.iload_n 3, 1) := by decide +kernel
theorem dJ2_indexOfSupplementary_4cfef_31 : decode cJ2_indexOfSupplementary_4cfef 31 = .ok (.iconst 1, 1) := by decide +kernel
theorem dJ2_indexOfSupplementary_4cfef_32 : decode cJ2_indexOfSupplementary_4cfef 32 = .ok (.isub, 1) := by decide +kernel
theorem dJ2_indexOfSupplementary_4cfef_33 : decode cJ2_indexOfSupplementary_4cfef 33 = .ok (.if_icmp .ge 36, 3) := by decide +kernel
theorem dJ2_indexOfSupplementary_4cfef_36 : decode cJ2_indexOfSupplementary_4cfef 36 = .ok (.aload_n 0, 1) := by decide +kernel
theorem dJ2_indexOfSupplementary_4cfef_37 : decode cJ2_indexOfSupplementary_4cfef 37 = .ok (.iload 6, 2) := by decide +kernel
theorem dJ2_indexOfSupplementary_4cfef_39 : decode cJ2_indexOfSupplementary_4cfef 39 = .ok (.invokestatic 71, 3) := by decide +kernel
theorem dJ2_indexOfSupplementary_4cfef_42 : decode cJ2_indexOfSupplementary_4cfef 42 = .ok (.iload 4, 2) := by decide +kernel
theorem dJ2_indexOfSupplementary_4cfef_44 : decode cJ2_indexOfSupplementary_4cfef 44 = .ok (.if_icmp .ne 19, 3) := by decide +kernel
theorem dJ2_indexOfSupplementary_4cfef_47 : decode cJ2_indexOfSupplementary_4cfef 47 = .ok (.aload_n 0, 1) := by decide +kernel
theorem dJ2_indexOfSupplementary_4cfef_48 : decode cJ2_indexOfSupplementary_4cfef 48 = .ok (.iload 6, 2) := by decide +kernel
theorem dJ2_indexOfSupplementary_4cfef_50 : decode cJ2_indexOfSupplementary_4cfef 50 = .ok (.iconst 1, 1) := by decide +kernel
theorem dJ2_indexOfSupplementary_4cfef_51 : decode cJ2_indexOfSupplementary_4cfef 51 = .ok (.iadd, 1) := by decide +kernel
theorem dJ2_indexOfSupplementary_4cfef_52 : decode cJ2_indexOfSupplementary_4cfef 52 = .ok (.invokestatic 71, 3) := by decide +kernel
theorem dJ2_indexOfSupplementary_4cfef_55 : decode cJ2_indexOfSupplementary_4cfef 55 = .ok (.iload 5, 2) := by decide +kernel
theorem dJ2_indexOfSupplementary_4cfef_57 : decode cJ2_indexOfSupplementary_4cfef 57 = .ok (.if_icmp .ne 6, 3) := by decide +kernel
theorem dJ2_indexOfSupplementary_4cfef_60 : decode cJ2_indexOfSupplementary_4cfef 60 = .ok (.iload 6, 2) := by decide +kernel
theorem dJ2_indexOfSupplementary_4cfef_62 : decode cJ2_indexOfSupplementary_4cfef 62 = .ok (.ireturn, 1) := by decide +kernel
theorem dJ2_indexOfSupplementary_4cfef_63 : decode cJ2_indexOfSupplementary_4cfef 63 = .ok (.iinc 6 1, 3) := by decide +kernel
theorem dJ2_indexOfSupplementary_4cfef_66 : decode cJ2_indexOfSupplementary_4cfef 66 = .ok (.goto (-38), 3) := by decide +kernel
theorem dJ2_indexOfSupplementary_4cfef_69 : decode cJ2_indexOfSupplementary_4cfef 69 = .ok (.iconst (-1), 1) := by decide +kernel
theorem dJ2_indexOfSupplementary_4cfef_70 : decode cJ2_indexOfSupplementary_4cfef 70 = .ok (.ireturn, 1) := by decide +kernel
theorem dJ2_checkBoundsBeginEnd_d044e_0 : decode cJ2_checkBoundsBeginEnd_d044e 0 = .ok (.iload_n 0, 1) := by decide +kernel
theorem dJ2_checkBoundsBeginEnd_d044e_1 : decode cJ2_checkBoundsBeginEnd_d044e 1 = .ok (.iload_n 1, 1) := by decide +kernel
theorem dJ2_checkBoundsBeginEnd_d044e_2 : decode cJ2_checkBoundsBeginEnd_d044e 2 = .ok (.aload_n 2, 1) := by decide +kernel
theorem dJ2_checkBoundsBeginEnd_d044e_3 : decode cJ2_checkBoundsBeginEnd_d044e 3 = .ok (.invokestatic 48, 3) := by decide +kernel
theorem dJ2_checkBoundsBeginEnd_d044e_6 : decode cJ2_checkBoundsBeginEnd_d044e 6 = .ok (.invokestatic 241, 3) := by decide +kernel
theorem dJ2_checkBoundsBeginEnd_d044e_9 : decode cJ2_checkBoundsBeginEnd_d044e 9 = .ok (.return_, 1) := by decide +kernel
theorem dJ3_checkFromToIndex_8c36e_0 : decode cJ3_checkFromToIndex_8c36e 0 = .ok (.iload_n 0, 1) := by decide +kernel
theorem dJ3_checkFromToIndex_8c36e_1 : decode cJ3_checkFromToIndex_8c36e 1 = .ok (.ifCond .lt 13, 3) := by decide +kernel
theorem dJ3_checkFromToIndex_8c36e_4 : decode cJ3_checkFromToIndex_8c36e 4 = .ok (.iload_n 0, 1) := by decide +kernel
theorem dJ3_checkFromToIndex_8c36e_5 : decode cJ3_checkFromToIndex_8c36e 5 = .ok (.iload_n 1, 1) := by decide +kernel
theorem dJ3_checkFromToIndex_8c36e_6 : decode cJ3_checkFromToIndex_8c36e 6 = .ok (.if_icmp .gt 8, 3) := by decide +kernel
theorem dJ3_checkFromToIndex_8c36e_9 : decode cJ3_checkFromToIndex_8c36e 9 = .ok (.iload_n 1, 1) := by decide +kernel
theorem dJ3_checkFromToIndex_8c36e_10 : decode cJ3_checkFromToIndex_8c36e 10 = .ok (.iload_n 2, 1) := by decide +kernel
theorem dJ3_checkFromToIndex_8c36e_11 : decode cJ3_checkFromToIndex_8c36e 11 = .ok (.if_icmp .le 11, 3) := by decide +kernel
theorem dJ3_checkFromToIndex_8c36e_14 : decode cJ3_checkFromToIndex_8c36e 14 = .ok (.aload_n 3, 1) := by decide +kernel
theorem dJ3_checkFromToIndex_8c36e_15 : decode cJ3_checkFromToIndex_8c36e 15 = .ok (.iload_n 0, 1) := by decide +kernel
theorem dJ3_checkFromToIndex_8c36e_16 : decode cJ3_checkFromToIndex_8c36e 16 = .ok (.iload_n 1, 1) := by decide +kernel
theorem dJ3_checkFromToIndex_8c36e_17 : decode cJ3_checkFromToIndex_8c36e 17 = .ok (.iload_n 2, 1) := by decide +kernel
theorem dJ3_checkFromToIndex_8c36e_18 : decode cJ3_checkFromToIndex_8c36e 18 = .ok (.invokestatic 99, 3) := by decide +kernel
theorem dJ3_checkFromToIndex_8c36e_21 : decode cJ3_checkFromToIndex_8c36e 21 = .ok (.athrow, 1) := by decide +kernel
theorem dJ3_checkFromToIndex_8c36e_22 : decode cJ3_checkFromToIndex_8c36e 22 = .ok (.iload_n 0, 1) := by decide +kernel
theorem dJ3_checkFromToIndex_8c36e_23 : decode cJ3_checkFromToIndex_8c36e 23 = .ok (.ireturn, 1) := by decide +kernel
theorem dL_rests_0 : decode cL_rests 0 = .ok (.aload 5, 2) := by decide +kernel
theorem dL_rests_2 : decode cL_rests 2 = .ok (.iconst 0, 1) := by decide +kernel
theorem dL_rests_3 : decode cL_rests 3 = .ok (.aload_n 0, 1) := by decide +kernel
theorem dL_rests_4 : decode cL_rests 4 = .ok (.iload_n 1, 1) := by decide +kernel
theorem dL_rests_5 : decode cL_rests 5 = .ok (.iload_n 2, 1) := by decide +kernel
theorem dL_rests_6 : decode cL_rests 6 = .ok (.iload_n 3, 1) := by decide +kernel
theorem dL_rests_7 : decode cL_rests 7 = .ok (.iload 4, 2) := by decide +kernel
theorem dL_rests_9 : decode cL_rests 9 = .ok (.invokevirtual 7, 3) := by decide +kernel
theorem dL_rests_12 : decode cL_rests 12 = .ok (.i2l, 1) := by decide +kernel
theorem dL_rests_13 : decode cL_rests 13 = .ok (.lastore, 1) := by decide +kernel
theorem dL_rests_14 : decode cL_rests 14 = .ok (.goto 7, 3) := by decide +kernel
theorem dL_rests_17 : decode cL_rests 17 = .ok (.astore 6, 2) := by decide +kernel
theorem dL_rests_19 : decode cL_rests 19 = .ok (.iconst 1, 1) := by decide +kernel
theorem dL_rests_20 : decode cL_rests 20 = .ok (.ireturn, 1) := by decide +kernel
theorem dL_rests_21 : decode cL_rests 21 = .ok (.iconst 0, 1) := by decide +kernel
theorem dL_rests_22 : decode cL_rests 22 = .ok (.ireturn, 1) := by decide +kernel
theorem dL_law_0 : decode cL_law 0 = .ok (.new 8, 3) := by decide +kernel
theorem dL_law_3 : decode cL_law 3 = .ok (.dup, 1) := by decide +kernel
theorem dL_law_4 : decode cL_law 4 = .ok (.invokespecial 15, 3) := by decide +kernel
theorem dL_law_7 : decode cL_law 7 = .ok (.astore_n 1, 1) := by decide +kernel
theorem dL_law_8 : decode cL_law 8 = .ok (.new 16, 3) := by decide +kernel
theorem dL_law_11 : decode cL_law 11 = .ok (.dup, 1) := by decide +kernel
theorem dL_law_12 : decode cL_law 12 = .ok (.invokespecial 18, 3) := by decide +kernel
theorem dL_law_15 : decode cL_law 15 = .ok (.astore_n 2, 1) := by decide +kernel
theorem dL_law_16 : decode cL_law 16 = .ok (.iconst 1, 1) := by decide +kernel
theorem dL_law_17 : decode cL_law 17 = .ok (.newarray .long, 2) := by decide +kernel
theorem dL_law_19 : decode cL_law 19 = .ok (.astore_n 3, 1) := by decide +kernel
theorem dL_law_20 : decode cL_law 20 = .ok (.iconst 0, 1) := by decide +kernel
theorem dL_law_21 : decode cL_law 21 = .ok (.istore 4, 2) := by decide +kernel
theorem dL_law_23 : decode cL_law 23 = .ok (.iload 4, 2) := by decide +kernel
theorem dL_law_25 : decode cL_law 25 = .ok (.aload_n 0, 1) := by decide +kernel
theorem dL_law_26 : decode cL_law 26 = .ok (.arraylength, 1) := by decide +kernel
theorem dL_law_27 : decode cL_law 27 = .ok (.bipush 7, 2) := by decide +kernel
theorem dL_law_29 : decode cL_law 29 = .ok (.isub, 1) := by decide +kernel
theorem dL_law_30 : decode cL_law 30 = .ok (.if_icmp .gt 1449, 3) := by decide +kernel
theorem dL_law_33 : decode cL_law 33 = .ok (.aload_n 0, 1) := by decide +kernel
theorem dL_law_34 : decode cL_law 34 = .ok (.iload 4, 2) := by decide +kernel
theorem dL_law_36 : decode cL_law 36 = .ok (.iaload, 1) := by decide +kernel
theorem dL_law_37 : decode cL_law 37 = .ok (.bipush 63, 2) := by decide +kernel
theorem dL_law_39 : decode cL_law 39 = .ok (.iand, 1) := by decide +kernel
theorem dL_law_40 : decode cL_law 40 = .ok (.tableswitch 1433 0 39 #[176, 323, 336, 349, 386, 423, 436, 473, 498, 535, 548, 573, 610, 647, 672, 685, 710, 735, 748, 773, 798, 823, 848, 897, 922, 959, 972, 997, 1010, 1023, 1036, 1061, 1126, 1139, 1152, 1165, 1214, 1306, 1355, 1408], 176) := by decide +kernel
theorem dL_law_216 : decode cL_law 216 = .ok (.aload_n 1, 1) := by decide +kernel
theorem dL_law_217 : decode cL_law 217 = .ok (.aload_n 0, 1) := by decide +kernel
theorem dL_law_218 : decode cL_law 218 = .ok (.iload 4, 2) := by decide +kernel
theorem dL_law_220 : decode cL_law 220 = .ok (.iconst 1, 1) := by decide +kernel
theorem dL_law_221 : decode cL_law 221 = .ok (.iadd, 1) := by decide +kernel
theorem dL_law_222 : decode cL_law 222 = .ok (.iaload, 1) := by decide +kernel
theorem dL_law_223 : decode cL_law 223 = .ok (.i2l, 1) := by decide +kernel
theorem dL_law_224 : decode cL_law 224 = .ok (.bipush 32, 2) := by decide +kernel
theorem dL_law_226 : decode cL_law 226 = .ok (.lshl, 1) := by decide +kernel
theorem dL_law_227 : decode cL_law 227 = .ok (.aload_n 0, 1) := by decide +kernel
theorem dL_law_228 : decode cL_law 228 = .ok (.iload 4, 2) := by decide +kernel
theorem dL_law_230 : decode cL_law 230 = .ok (.iconst 2, 1) := by decide +kernel
theorem dL_law_231 : decode cL_law 231 = .ok (.iadd, 1) := by decide +kernel
theorem dL_law_232 : decode cL_law 232 = .ok (.iaload, 1) := by decide +kernel
theorem dL_law_233 : decode cL_law 233 = .ok (.i2l, 1) := by decide +kernel
theorem dL_law_234 : decode cL_law 234 = .ok (.ldc2_w 19, 3) := by decide +kernel
theorem dL_law_237 : decode cL_law 237 = .ok (.land, 1) := by decide +kernel
theorem dL_law_238 : decode cL_law 238 = .ok (.lor, 1) := by decide +kernel
theorem dL_law_239 : decode cL_law 239 = .ok (.aload_n 0, 1) := by decide +kernel
theorem dL_law_240 : decode cL_law 240 = .ok (.iload 4, 2) := by decide +kernel
theorem dL_law_242 : decode cL_law 242 = .ok (.iconst 3, 1) := by decide +kernel
theorem dL_law_243 : decode cL_law 243 = .ok (.iadd, 1) := by decide +kernel
theorem dL_law_244 : decode cL_law 244 = .ok (.iaload, 1) := by decide +kernel
theorem dL_law_245 : decode cL_law 245 = .ok (.i2l, 1) := by decide +kernel
theorem dL_law_246 : decode cL_law 246 = .ok (.bipush 32, 2) := by decide +kernel
theorem dL_law_248 : decode cL_law 248 = .ok (.lshl, 1) := by decide +kernel
theorem dL_law_249 : decode cL_law 249 = .ok (.aload_n 0, 1) := by decide +kernel
theorem dL_law_250 : decode cL_law 250 = .ok (.iload 4, 2) := by decide +kernel
theorem dL_law_252 : decode cL_law 252 = .ok (.iconst 4, 1) := by decide +kernel
theorem dL_law_253 : decode cL_law 253 = .ok (.iadd, 1) := by decide +kernel
theorem dL_law_254 : decode cL_law 254 = .ok (.iaload, 1) := by decide +kernel
theorem dL_law_255 : decode cL_law 255 = .ok (.i2l, 1) := by decide +kernel
theorem dL_law_256 : decode cL_law 256 = .ok (.ldc2_w 19, 3) := by decide +kernel
theorem dL_law_259 : decode cL_law 259 = .ok (.land, 1) := by decide +kernel
theorem dL_law_260 : decode cL_law 260 = .ok (.lor, 1) := by decide +kernel
theorem dL_law_261 : decode cL_law 261 = .ok (.aload_n 0, 1) := by decide +kernel
theorem dL_law_262 : decode cL_law 262 = .ok (.iload 4, 2) := by decide +kernel
theorem dL_law_264 : decode cL_law 264 = .ok (.iconst 5, 1) := by decide +kernel
theorem dL_law_265 : decode cL_law 265 = .ok (.iadd, 1) := by decide +kernel
theorem dL_law_266 : decode cL_law 266 = .ok (.iaload, 1) := by decide +kernel
theorem dL_law_267 : decode cL_law 267 = .ok (.i2l, 1) := by decide +kernel
theorem dL_law_268 : decode cL_law 268 = .ok (.bipush 32, 2) := by decide +kernel
theorem dL_law_270 : decode cL_law 270 = .ok (.lshl, 1) := by decide +kernel
theorem dL_law_271 : decode cL_law 271 = .ok (.aload_n 0, 1) := by decide +kernel
theorem dL_law_272 : decode cL_law 272 = .ok (.iload 4, 2) := by decide +kernel
theorem dL_law_274 : decode cL_law 274 = .ok (.bipush 6, 2) := by decide +kernel
theorem dL_law_276 : decode cL_law 276 = .ok (.iadd, 1) := by decide +kernel
theorem dL_law_277 : decode cL_law 277 = .ok (.iaload, 1) := by decide +kernel
theorem dL_law_278 : decode cL_law 278 = .ok (.i2l, 1) := by decide +kernel
theorem dL_law_279 : decode cL_law 279 = .ok (.ldc2_w 19, 3) := by decide +kernel
theorem dL_law_282 : decode cL_law 282 = .ok (.land, 1) := by decide +kernel
theorem dL_law_283 : decode cL_law 283 = .ok (.lor, 1) := by decide +kernel
theorem dL_law_284 : decode cL_law 284 = .ok (.invokevirtual 21, 3) := by decide +kernel
theorem dL_law_287 : decode cL_law 287 = .ok (.aload_n 2, 1) := by decide +kernel
theorem dL_law_288 : decode cL_law 288 = .ok (.aload_n 0, 1) := by decide +kernel
theorem dL_law_289 : decode cL_law 289 = .ok (.iload 4, 2) := by decide +kernel
theorem dL_law_291 : decode cL_law 291 = .ok (.iconst 1, 1) := by decide +kernel
theorem dL_law_292 : decode cL_law 292 = .ok (.iadd, 1) := by decide +kernel
theorem dL_law_293 : decode cL_law 293 = .ok (.iaload, 1) := by decide +kernel
theorem dL_law_294 : decode cL_law 294 = .ok (.i2l, 1) := by decide +kernel
theorem dL_law_295 : decode cL_law 295 = .ok (.bipush 32, 2) := by decide +kernel
theorem dL_law_297 : decode cL_law 297 = .ok (.lshl, 1) := by decide +kernel
theorem dL_law_298 : decode cL_law 298 = .ok (.aload_n 0, 1) := by decide +kernel
theorem dL_law_299 : decode cL_law 299 = .ok (.iload 4, 2) := by decide +kernel
theorem dL_law_301 : decode cL_law 301 = .ok (.iconst 2, 1) := by decide +kernel
theorem dL_law_302 : decode cL_law 302 = .ok (.iadd, 1) := by decide +kernel
theorem dL_law_303 : decode cL_law 303 = .ok (.iaload, 1) := by decide +kernel
theorem dL_law_304 : decode cL_law 304 = .ok (.i2l, 1) := by decide +kernel
theorem dL_law_305 : decode cL_law 305 = .ok (.ldc2_w 19, 3) := by decide +kernel
theorem dL_law_308 : decode cL_law 308 = .ok (.land, 1) := by decide +kernel
theorem dL_law_309 : decode cL_law 309 = .ok (.lor, 1) := by decide +kernel
theorem dL_law_310 : decode cL_law 310 = .ok (.aload_n 0, 1) := by decide +kernel
theorem dL_law_311 : decode cL_law 311 = .ok (.iload 4, 2) := by decide +kernel
theorem dL_law_313 : decode cL_law 313 = .ok (.iconst 3, 1) := by decide +kernel
theorem dL_law_314 : decode cL_law 314 = .ok (.iadd, 1) := by decide +kernel
theorem dL_law_315 : decode cL_law 315 = .ok (.iaload, 1) := by decide +kernel
theorem dL_law_316 : decode cL_law 316 = .ok (.i2l, 1) := by decide +kernel
theorem dL_law_317 : decode cL_law 317 = .ok (.bipush 32, 2) := by decide +kernel
theorem dL_law_319 : decode cL_law 319 = .ok (.lshl, 1) := by decide +kernel
theorem dL_law_320 : decode cL_law 320 = .ok (.aload_n 0, 1) := by decide +kernel
theorem dL_law_321 : decode cL_law 321 = .ok (.iload 4, 2) := by decide +kernel
theorem dL_law_323 : decode cL_law 323 = .ok (.iconst 4, 1) := by decide +kernel
theorem dL_law_324 : decode cL_law 324 = .ok (.iadd, 1) := by decide +kernel
theorem dL_law_325 : decode cL_law 325 = .ok (.iaload, 1) := by decide +kernel
theorem dL_law_326 : decode cL_law 326 = .ok (.i2l, 1) := by decide +kernel
theorem dL_law_327 : decode cL_law 327 = .ok (.ldc2_w 19, 3) := by decide +kernel
theorem dL_law_330 : decode cL_law 330 = .ok (.land, 1) := by decide +kernel
theorem dL_law_331 : decode cL_law 331 = .ok (.lor, 1) := by decide +kernel
theorem dL_law_332 : decode cL_law 332 = .ok (.aload_n 0, 1) := by decide +kernel
theorem dL_law_333 : decode cL_law 333 = .ok (.iload 4, 2) := by decide +kernel
theorem dL_law_335 : decode cL_law 335 = .ok (.iconst 5, 1) := by decide +kernel
theorem dL_law_336 : decode cL_law 336 = .ok (.iadd, 1) := by decide +kernel
theorem dL_law_337 : decode cL_law 337 = .ok (.iaload, 1) := by decide +kernel
theorem dL_law_338 : decode cL_law 338 = .ok (.i2l, 1) := by decide +kernel
theorem dL_law_339 : decode cL_law 339 = .ok (.bipush 32, 2) := by decide +kernel
theorem dL_law_341 : decode cL_law 341 = .ok (.lshl, 1) := by decide +kernel
theorem dL_law_342 : decode cL_law 342 = .ok (.aload_n 0, 1) := by decide +kernel
theorem dL_law_343 : decode cL_law 343 = .ok (.iload 4, 2) := by decide +kernel
theorem dL_law_345 : decode cL_law 345 = .ok (.bipush 6, 2) := by decide +kernel
theorem dL_law_347 : decode cL_law 347 = .ok (.iadd, 1) := by decide +kernel
theorem dL_law_348 : decode cL_law 348 = .ok (.iaload, 1) := by decide +kernel
theorem dL_law_349 : decode cL_law 349 = .ok (.i2l, 1) := by decide +kernel
theorem dL_law_350 : decode cL_law 350 = .ok (.ldc2_w 19, 3) := by decide +kernel
theorem dL_law_353 : decode cL_law 353 = .ok (.land, 1) := by decide +kernel
theorem dL_law_354 : decode cL_law 354 = .ok (.lor, 1) := by decide +kernel
theorem dL_law_355 : decode cL_law 355 = .ok (.invokevirtual 25, 3) := by decide +kernel
theorem dL_law_358 : decode cL_law 358 = .ok (.if_icmp .eq 1115, 3) := by decide +kernel
theorem dL_law_361 : decode cL_law 361 = .ok (.iconst 0, 1) := by decide +kernel
theorem dL_law_362 : decode cL_law 362 = .ok (.ireturn, 1) := by decide +kernel
theorem dL_law_363 : decode cL_law 363 = .ok (.aload_n 1, 1) := by decide +kernel
theorem dL_law_364 : decode cL_law 364 = .ok (.invokevirtual 26, 3) := by decide +kernel
theorem dL_law_367 : decode cL_law 367 = .ok (.aload_n 2, 1) := by decide +kernel
theorem dL_law_368 : decode cL_law 368 = .ok (.invokevirtual 30, 3) := by decide +kernel
theorem dL_law_371 : decode cL_law 371 = .ok (.if_icmp .eq 1102, 3) := by decide +kernel
theorem dL_law_374 : decode cL_law 374 = .ok (.iconst 0, 1) := by decide +kernel
theorem dL_law_375 : decode cL_law 375 = .ok (.ireturn, 1) := by decide +kernel
theorem dL_law_376 : decode cL_law 376 = .ok (.aload_n 1, 1) := by decide +kernel
theorem dL_law_377 : decode cL_law 377 = .ok (.invokevirtual 31, 3) := by decide +kernel
theorem dL_law_380 : decode cL_law 380 = .ok (.aload_n 2, 1) := by decide +kernel
theorem dL_law_381 : decode cL_law 381 = .ok (.invokevirtual 34, 3) := by decide +kernel
theorem dL_law_384 : decode cL_law 384 = .ok (.if_icmp .eq 1089, 3) := by decide +kernel
theorem dL_law_387 : decode cL_law 387 = .ok (.iconst 0, 1) := by decide +kernel
theorem dL_law_388 : decode cL_law 388 = .ok (.ireturn, 1) := by decide +kernel
theorem dL_law_389 : decode cL_law 389 = .ok (.aload_n 1, 1) := by decide +kernel
theorem dL_law_390 : decode cL_law 390 = .ok (.aload_n 0, 1) := by decide +kernel
theorem dL_law_391 : decode cL_law 391 = .ok (.iload 4, 2) := by decide +kernel
theorem dL_law_393 : decode cL_law 393 = .ok (.iconst 1, 1) := by decide +kernel
theorem dL_law_394 : decode cL_law 394 = .ok (.iadd, 1) := by decide +kernel
theorem dL_law_395 : decode cL_law 395 = .ok (.iaload, 1) := by decide +kernel
theorem dL_law_396 : decode cL_law 396 = .ok (.aload_n 0, 1) := by decide +kernel
theorem dL_law_397 : decode cL_law 397 = .ok (.iload 4, 2) := by decide +kernel
theorem dL_law_399 : decode cL_law 399 = .ok (.iconst 2, 1) := by decide +kernel
theorem dL_law_400 : decode cL_law 400 = .ok (.iadd, 1) := by decide +kernel
theorem dL_law_401 : decode cL_law 401 = .ok (.iaload, 1) := by decide +kernel
theorem dL_law_402 : decode cL_law 402 = .ok (.invokevirtual 35, 3) := by decide +kernel
theorem dL_law_405 : decode cL_law 405 = .ok (.aload_n 2, 1) := by decide +kernel
theorem dL_law_406 : decode cL_law 406 = .ok (.aload_n 0, 1) := by decide +kernel
theorem dL_law_407 : decode cL_law 407 = .ok (.iload 4, 2) := by decide +kernel
theorem dL_law_409 : decode cL_law 409 = .ok (.iconst 1, 1) := by decide +kernel
theorem dL_law_410 : decode cL_law 410 = .ok (.iadd, 1) := by decide +kernel
theorem dL_law_411 : decode cL_law 411 = .ok (.iaload, 1) := by decide +kernel
theorem dL_law_412 : decode cL_law 412 = .ok (.aload_n 0, 1) := by decide +kernel
theorem dL_law_413 : decode cL_law 413 = .ok (.iload 4, 2) := by decide +kernel
theorem dL_law_415 : decode cL_law 415 = .ok (.iconst 2, 1) := by decide +kernel
theorem dL_law_416 : decode cL_law 416 = .ok (.iadd, 1) := by decide +kernel
theorem dL_law_417 : decode cL_law 417 = .ok (.iaload, 1) := by decide +kernel
theorem dL_law_418 : decode cL_law 418 = .ok (.invokevirtual 39, 3) := by decide +kernel
theorem dL_law_421 : decode cL_law 421 = .ok (.if_icmp .eq 1052, 3) := by decide +kernel
theorem dL_law_424 : decode cL_law 424 = .ok (.iconst 0, 1) := by decide +kernel
theorem dL_law_425 : decode cL_law 425 = .ok (.ireturn, 1) := by decide +kernel
theorem dL_law_426 : decode cL_law 426 = .ok (.aload_n 1, 1) := by decide +kernel
theorem dL_law_427 : decode cL_law 427 = .ok (.aload_n 0, 1) := by decide +kernel
theorem dL_law_428 : decode cL_law 428 = .ok (.iload 4, 2) := by decide +kernel
theorem dL_law_430 : decode cL_law 430 = .ok (.iconst 1, 1) := by decide +kernel
theorem dL_law_431 : decode cL_law 431 = .ok (.iadd, 1) := by decide +kernel
theorem dL_law_432 : decode cL_law 432 = .ok (.iaload, 1) := by decide +kernel
theorem dL_law_433 : decode cL_law 433 = .ok (.aload_n 0, 1) := by decide +kernel
theorem dL_law_434 : decode cL_law 434 = .ok (.iload 4, 2) := by decide +kernel
theorem dL_law_436 : decode cL_law 436 = .ok (.iconst 2, 1) := by decide +kernel
theorem dL_law_437 : decode cL_law 437 = .ok (.iadd, 1) := by decide +kernel
theorem dL_law_438 : decode cL_law 438 = .ok (.iaload, 1) := by decide +kernel
theorem dL_law_439 : decode cL_law 439 = .ok (.invokevirtual 40, 3) := by decide +kernel
theorem dL_law_442 : decode cL_law 442 = .ok (.aload_n 2, 1) := by decide +kernel
theorem dL_law_443 : decode cL_law 443 = .ok (.aload_n 0, 1) := by decide +kernel
theorem dL_law_444 : decode cL_law 444 = .ok (.iload 4, 2) := by decide +kernel
theorem dL_law_446 : decode cL_law 446 = .ok (.iconst 1, 1) := by decide +kernel
theorem dL_law_447 : decode cL_law 447 = .ok (.iadd, 1) := by decide +kernel
theorem dL_law_448 : decode cL_law 448 = .ok (.iaload, 1) := by decide +kernel
theorem dL_law_449 : decode cL_law 449 = .ok (.aload_n 0, 1) := by decide +kernel
theorem dL_law_450 : decode cL_law 450 = .ok (.iload 4, 2) := by decide +kernel
theorem dL_law_452 : decode cL_law 452 = .ok (.iconst 2, 1) := by decide +kernel
theorem dL_law_453 : decode cL_law 453 = .ok (.iadd, 1) := by decide +kernel
theorem dL_law_454 : decode cL_law 454 = .ok (.iaload, 1) := by decide +kernel
theorem dL_law_455 : decode cL_law 455 = .ok (.invokevirtual 43, 3) := by decide +kernel
theorem dL_law_458 : decode cL_law 458 = .ok (.if_icmp .eq 1015, 3) := by decide +kernel
theorem dL_law_461 : decode cL_law 461 = .ok (.iconst 0, 1) := by decide +kernel
theorem dL_law_462 : decode cL_law 462 = .ok (.ireturn, 1) := by decide +kernel
theorem dL_law_463 : decode cL_law 463 = .ok (.aload_n 1, 1) := by decide +kernel
theorem dL_law_464 : decode cL_law 464 = .ok (.invokevirtual 44, 3) := by decide +kernel
theorem dL_law_467 : decode cL_law 467 = .ok (.aload_n 2, 1) := by decide +kernel
theorem dL_law_468 : decode cL_law 468 = .ok (.invokevirtual 47, 3) := by decide +kernel
theorem dL_law_471 : decode cL_law 471 = .ok (.if_icmp .eq 1002, 3) := by decide +kernel
theorem dL_law_474 : decode cL_law 474 = .ok (.iconst 0, 1) := by decide +kernel
theorem dL_law_475 : decode cL_law 475 = .ok (.ireturn, 1) := by decide +kernel
theorem dL_law_476 : decode cL_law 476 = .ok (.aload_n 1, 1) := by decide +kernel
theorem dL_law_477 : decode cL_law 477 = .ok (.aload_n 0, 1) := by decide +kernel
theorem dL_law_478 : decode cL_law 478 = .ok (.iload 4, 2) := by decide +kernel
theorem dL_law_480 : decode cL_law 480 = .ok (.iconst 1, 1) := by decide +kernel
theorem dL_law_481 : decode cL_law 481 = .ok (.iadd, 1) := by decide +kernel
theorem dL_law_482 : decode cL_law 482 = .ok (.iaload, 1) := by decide +kernel
theorem dL_law_483 : decode cL_law 483 = .ok (.aload_n 0, 1) := by decide +kernel
theorem dL_law_484 : decode cL_law 484 = .ok (.iload 4, 2) := by decide +kernel
theorem dL_law_486 : decode cL_law 486 = .ok (.iconst 2, 1) := by decide +kernel
theorem dL_law_487 : decode cL_law 487 = .ok (.iadd, 1) := by decide +kernel
theorem dL_law_488 : decode cL_law 488 = .ok (.iaload, 1) := by decide +kernel
theorem dL_law_489 : decode cL_law 489 = .ok (.invokevirtual 48, 3) := by decide +kernel
theorem dL_law_492 : decode cL_law 492 = .ok (.aload_n 2, 1) := by decide +kernel
theorem dL_law_493 : decode cL_law 493 = .ok (.aload_n 0, 1) := by decide +kernel
theorem dL_law_494 : decode cL_law 494 = .ok (.iload 4, 2) := by decide +kernel
theorem dL_law_496 : decode cL_law 496 = .ok (.iconst 1, 1) := by decide +kernel
theorem dL_law_497 : decode cL_law 497 = .ok (.iadd, 1) := by decide +kernel
theorem dL_law_498 : decode cL_law 498 = .ok (.iaload, 1) := by decide +kernel
theorem dL_law_499 : decode cL_law 499 = .ok (.aload_n 0, 1) := by decide +kernel
theorem dL_law_500 : decode cL_law 500 = .ok (.iload 4, 2) := by decide +kernel
theorem dL_law_502 : decode cL_law 502 = .ok (.iconst 2, 1) := by decide +kernel
theorem dL_law_503 : decode cL_law 503 = .ok (.iadd, 1) := by decide +kernel
theorem dL_law_504 : decode cL_law 504 = .ok (.iaload, 1) := by decide +kernel
theorem dL_law_505 : decode cL_law 505 = .ok (.invokevirtual 51, 3) := by decide +kernel
theorem dL_law_508 : decode cL_law 508 = .ok (.if_icmp .eq 965, 3) := by decide +kernel
theorem dL_law_511 : decode cL_law 511 = .ok (.iconst 0, 1) := by decide +kernel
theorem dL_law_512 : decode cL_law 512 = .ok (.ireturn, 1) := by decide +kernel
theorem dL_law_513 : decode cL_law 513 = .ok (.aload_n 1, 1) := by decide +kernel
theorem dL_law_514 : decode cL_law 514 = .ok (.aload_n 0, 1) := by decide +kernel
theorem dL_law_515 : decode cL_law 515 = .ok (.iload 4, 2) := by decide +kernel
theorem dL_law_517 : decode cL_law 517 = .ok (.iconst 1, 1) := by decide +kernel
theorem dL_law_518 : decode cL_law 518 = .ok (.iadd, 1) := by decide +kernel
theorem dL_law_519 : decode cL_law 519 = .ok (.iaload, 1) := by decide +kernel
theorem dL_law_520 : decode cL_law 520 = .ok (.invokevirtual 52, 3) := by decide +kernel
theorem dL_law_523 : decode cL_law 523 = .ok (.aload_n 2, 1) := by decide +kernel
theorem dL_law_524 : decode cL_law 524 = .ok (.aload_n 0, 1) := by decide +kernel
theorem dL_law_525 : decode cL_law 525 = .ok (.iload 4, 2) := by decide +kernel
theorem dL_law_527 : decode cL_law 527 = .ok (.iconst 1, 1) := by decide +kernel
theorem dL_law_528 : decode cL_law 528 = .ok (.iadd, 1) := by decide +kernel
theorem dL_law_529 : decode cL_law 529 = .ok (.iaload, 1) := by decide +kernel
theorem dL_law_530 : decode cL_law 530 = .ok (.invokevirtual 56, 3) := by decide +kernel
theorem dL_law_533 : decode cL_law 533 = .ok (.if_icmp .eq 940, 3) := by decide +kernel
theorem dL_law_536 : decode cL_law 536 = .ok (.iconst 0, 1) := by decide +kernel
theorem dL_law_537 : decode cL_law 537 = .ok (.ireturn, 1) := by decide +kernel
theorem dL_law_538 : decode cL_law 538 = .ok (.aload_n 1, 1) := by decide +kernel
theorem dL_law_539 : decode cL_law 539 = .ok (.aload_n 0, 1) := by decide +kernel
theorem dL_law_540 : decode cL_law 540 = .ok (.iload 4, 2) := by decide +kernel
theorem dL_law_542 : decode cL_law 542 = .ok (.iconst 1, 1) := by decide +kernel
theorem dL_law_543 : decode cL_law 543 = .ok (.iadd, 1) := by decide +kernel
theorem dL_law_544 : decode cL_law 544 = .ok (.iaload, 1) := by decide +kernel
theorem dL_law_545 : decode cL_law 545 = .ok (.aload_n 0, 1) := by decide +kernel
theorem dL_law_546 : decode cL_law 546 = .ok (.iload 4, 2) := by decide +kernel
theorem dL_law_548 : decode cL_law 548 = .ok (.iconst 2, 1) := by decide +kernel
theorem dL_law_549 : decode cL_law 549 = .ok (.iadd, 1) := by decide +kernel
theorem dL_law_550 : decode cL_law 550 = .ok (.iaload, 1) := by decide +kernel
theorem dL_law_551 : decode cL_law 551 = .ok (.invokevirtual 57, 3) := by decide +kernel
theorem dL_law_554 : decode cL_law 554 = .ok (.aload_n 2, 1) := by decide +kernel
theorem dL_law_555 : decode cL_law 555 = .ok (.aload_n 0, 1) := by decide +kernel
theorem dL_law_556 : decode cL_law 556 = .ok (.iload 4, 2) := by decide +kernel
theorem dL_law_558 : decode cL_law 558 = .ok (.iconst 1, 1) := by decide +kernel
theorem dL_law_559 : decode cL_law 559 = .ok (.iadd, 1) := by decide +kernel
theorem dL_law_560 : decode cL_law 560 = .ok (.iaload, 1) := by decide +kernel
theorem dL_law_561 : decode cL_law 561 = .ok (.aload_n 0, 1) := by decide +kernel
theorem dL_law_562 : decode cL_law 562 = .ok (.iload 4, 2) := by decide +kernel
theorem dL_law_564 : decode cL_law 564 = .ok (.iconst 2, 1) := by decide +kernel
theorem dL_law_565 : decode cL_law 565 = .ok (.iadd, 1) := by decide +kernel
theorem dL_law_566 : decode cL_law 566 = .ok (.iaload, 1) := by decide +kernel
theorem dL_law_567 : decode cL_law 567 = .ok (.invokevirtual 60, 3) := by decide +kernel
theorem dL_law_570 : decode cL_law 570 = .ok (.if_icmp .eq 903, 3) := by decide +kernel
theorem dL_law_573 : decode cL_law 573 = .ok (.iconst 0, 1) := by decide +kernel
theorem dL_law_574 : decode cL_law 574 = .ok (.ireturn, 1) := by decide +kernel
theorem dL_law_575 : decode cL_law 575 = .ok (.aload_n 1, 1) := by decide +kernel
theorem dL_law_576 : decode cL_law 576 = .ok (.invokevirtual 61, 3) := by decide +kernel
theorem dL_law_579 : decode cL_law 579 = .ok (.aload_n 2, 1) := by decide +kernel
theorem dL_law_580 : decode cL_law 580 = .ok (.invokevirtual 65, 3) := by decide +kernel
theorem dL_law_583 : decode cL_law 583 = .ok (.if_icmp .eq 890, 3) := by decide +kernel
theorem dL_law_586 : decode cL_law 586 = .ok (.iconst 0, 1) := by decide +kernel
theorem dL_law_587 : decode cL_law 587 = .ok (.ireturn, 1) := by decide +kernel
theorem dL_law_588 : decode cL_law 588 = .ok (.aload_n 1, 1) := by decide +kernel
theorem dL_law_589 : decode cL_law 589 = .ok (.aload_n 0, 1) := by decide +kernel
theorem dL_law_590 : decode cL_law 590 = .ok (.iload 4, 2) := by decide +kernel
theorem dL_law_592 : decode cL_law 592 = .ok (.iconst 1, 1) := by decide +kernel
theorem dL_law_593 : decode cL_law 593 = .ok (.iadd, 1) := by decide +kernel
theorem dL_law_594 : decode cL_law 594 = .ok (.iaload, 1) := by decide +kernel
theorem dL_law_595 : decode cL_law 595 = .ok (.invokevirtual 66, 3) := by decide +kernel
theorem dL_law_598 : decode cL_law 598 = .ok (.aload_n 2, 1) := by decide +kernel
theorem dL_law_599 : decode cL_law 599 = .ok (.aload_n 0, 1) := by decide +kernel
theorem dL_law_600 : decode cL_law 600 = .ok (.iload 4, 2) := by decide +kernel
theorem dL_law_602 : decode cL_law 602 = .ok (.iconst 1, 1) := by decide +kernel
theorem dL_law_603 : decode cL_law 603 = .ok (.iadd, 1) := by decide +kernel
theorem dL_law_604 : decode cL_law 604 = .ok (.iaload, 1) := by decide +kernel
theorem dL_law_605 : decode cL_law 605 = .ok (.invokevirtual 70, 3) := by decide +kernel
theorem dL_law_608 : decode cL_law 608 = .ok (.if_icmp .eq 865, 3) := by decide +kernel
theorem dL_law_611 : decode cL_law 611 = .ok (.iconst 0, 1) := by decide +kernel
theorem dL_law_612 : decode cL_law 612 = .ok (.ireturn, 1) := by decide +kernel
theorem dL_law_613 : decode cL_law 613 = .ok (.aload_n 1, 1) := by decide +kernel
theorem dL_law_614 : decode cL_law 614 = .ok (.aload_n 0, 1) := by decide +kernel
theorem dL_law_615 : decode cL_law 615 = .ok (.iload 4, 2) := by decide +kernel
theorem dL_law_617 : decode cL_law 617 = .ok (.iconst 1, 1) := by decide +kernel
theorem dL_law_618 : decode cL_law 618 = .ok (.iadd, 1) := by decide +kernel
theorem dL_law_619 : decode cL_law 619 = .ok (.iaload, 1) := by decide +kernel
theorem dL_law_620 : decode cL_law 620 = .ok (.aload_n 0, 1) := by decide +kernel
theorem dL_law_621 : decode cL_law 621 = .ok (.iload 4, 2) := by decide +kernel
theorem dL_law_623 : decode cL_law 623 = .ok (.iconst 2, 1) := by decide +kernel
theorem dL_law_624 : decode cL_law 624 = .ok (.iadd, 1) := by decide +kernel
theorem dL_law_625 : decode cL_law 625 = .ok (.iaload, 1) := by decide +kernel
theorem dL_law_626 : decode cL_law 626 = .ok (.invokevirtual 71, 3) := by decide +kernel
theorem dL_law_629 : decode cL_law 629 = .ok (.aload_n 2, 1) := by decide +kernel
theorem dL_law_630 : decode cL_law 630 = .ok (.aload_n 0, 1) := by decide +kernel
theorem dL_law_631 : decode cL_law 631 = .ok (.iload 4, 2) := by decide +kernel
theorem dL_law_633 : decode cL_law 633 = .ok (.iconst 1, 1) := by decide +kernel
theorem dL_law_634 : decode cL_law 634 = .ok (.iadd, 1) := by decide +kernel
theorem dL_law_635 : decode cL_law 635 = .ok (.iaload, 1) := by decide +kernel
theorem dL_law_636 : decode cL_law 636 = .ok (.aload_n 0, 1) := by decide +kernel
theorem dL_law_637 : decode cL_law 637 = .ok (.iload 4, 2) := by decide +kernel
theorem dL_law_639 : decode cL_law 639 = .ok (.iconst 2, 1) := by decide +kernel
theorem dL_law_640 : decode cL_law 640 = .ok (.iadd, 1) := by decide +kernel
theorem dL_law_641 : decode cL_law 641 = .ok (.iaload, 1) := by decide +kernel
theorem dL_law_642 : decode cL_law 642 = .ok (.invokevirtual 74, 3) := by decide +kernel
theorem dL_law_645 : decode cL_law 645 = .ok (.if_icmp .eq 828, 3) := by decide +kernel
theorem dL_law_648 : decode cL_law 648 = .ok (.iconst 0, 1) := by decide +kernel
theorem dL_law_649 : decode cL_law 649 = .ok (.ireturn, 1) := by decide +kernel
theorem dL_law_650 : decode cL_law 650 = .ok (.aload_n 1, 1) := by decide +kernel
theorem dL_law_651 : decode cL_law 651 = .ok (.aload_n 0, 1) := by decide +kernel
theorem dL_law_652 : decode cL_law 652 = .ok (.iload 4, 2) := by decide +kernel
theorem dL_law_654 : decode cL_law 654 = .ok (.iconst 1, 1) := by decide +kernel
theorem dL_law_655 : decode cL_law 655 = .ok (.iadd, 1) := by decide +kernel
theorem dL_law_656 : decode cL_law 656 = .ok (.iaload, 1) := by decide +kernel
theorem dL_law_657 : decode cL_law 657 = .ok (.aload_n 0, 1) := by decide +kernel
theorem dL_law_658 : decode cL_law 658 = .ok (.iload 4, 2) := by decide +kernel
theorem dL_law_660 : decode cL_law 660 = .ok (.iconst 2, 1) := by decide +kernel
theorem dL_law_661 : decode cL_law 661 = .ok (.iadd, 1) := by decide +kernel
theorem dL_law_662 : decode cL_law 662 = .ok (.iaload, 1) := by decide +kernel
theorem dL_law_663 : decode cL_law 663 = .ok (.invokevirtual 75, 3) := by decide +kernel
theorem dL_law_666 : decode cL_law 666 = .ok (.aload_n 2, 1) := by decide +kernel
theorem dL_law_667 : decode cL_law 667 = .ok (.aload_n 0, 1) := by decide +kernel
theorem dL_law_668 : decode cL_law 668 = .ok (.iload 4, 2) := by decide +kernel
theorem dL_law_670 : decode cL_law 670 = .ok (.iconst 1, 1) := by decide +kernel
theorem dL_law_671 : decode cL_law 671 = .ok (.iadd, 1) := by decide +kernel
theorem dL_law_672 : decode cL_law 672 = .ok (.iaload, 1) := by decide +kernel
theorem dL_law_673 : decode cL_law 673 = .ok (.aload_n 0, 1) := by decide +kernel
theorem dL_law_674 : decode cL_law 674 = .ok (.iload 4, 2) := by decide +kernel
theorem dL_law_676 : decode cL_law 676 = .ok (.iconst 2, 1) := by decide +kernel
theorem dL_law_677 : decode cL_law 677 = .ok (.iadd, 1) := by decide +kernel
theorem dL_law_678 : decode cL_law 678 = .ok (.iaload, 1) := by decide +kernel
theorem dL_law_679 : decode cL_law 679 = .ok (.invokevirtual 78, 3) := by decide +kernel
theorem dL_law_682 : decode cL_law 682 = .ok (.if_icmp .eq 791, 3) := by decide +kernel
theorem dL_law_685 : decode cL_law 685 = .ok (.iconst 0, 1) := by decide +kernel
theorem dL_law_686 : decode cL_law 686 = .ok (.ireturn, 1) := by decide +kernel
theorem dL_law_687 : decode cL_law 687 = .ok (.aload_n 1, 1) := by decide +kernel
theorem dL_law_688 : decode cL_law 688 = .ok (.aload_n 0, 1) := by decide +kernel
theorem dL_law_689 : decode cL_law 689 = .ok (.iload 4, 2) := by decide +kernel
theorem dL_law_691 : decode cL_law 691 = .ok (.iconst 1, 1) := by decide +kernel
theorem dL_law_692 : decode cL_law 692 = .ok (.iadd, 1) := by decide +kernel
theorem dL_law_693 : decode cL_law 693 = .ok (.iaload, 1) := by decide +kernel
theorem dL_law_694 : decode cL_law 694 = .ok (.invokevirtual 79, 3) := by decide +kernel
theorem dL_law_697 : decode cL_law 697 = .ok (.aload_n 2, 1) := by decide +kernel
theorem dL_law_698 : decode cL_law 698 = .ok (.aload_n 0, 1) := by decide +kernel
theorem dL_law_699 : decode cL_law 699 = .ok (.iload 4, 2) := by decide +kernel
theorem dL_law_701 : decode cL_law 701 = .ok (.iconst 1, 1) := by decide +kernel
theorem dL_law_702 : decode cL_law 702 = .ok (.iadd, 1) := by decide +kernel
theorem dL_law_703 : decode cL_law 703 = .ok (.iaload, 1) := by decide +kernel
theorem dL_law_704 : decode cL_law 704 = .ok (.invokevirtual 82, 3) := by decide +kernel
theorem dL_law_707 : decode cL_law 707 = .ok (.if_icmp .eq 766, 3) := by decide +kernel
theorem dL_law_710 : decode cL_law 710 = .ok (.iconst 0, 1) := by decide +kernel
theorem dL_law_711 : decode cL_law 711 = .ok (.ireturn, 1) := by decide +kernel
theorem dL_law_712 : decode cL_law 712 = .ok (.aload_n 1, 1) := by decide +kernel
theorem dL_law_713 : decode cL_law 713 = .ok (.invokevirtual 83, 3) := by decide +kernel
theorem dL_law_716 : decode cL_law 716 = .ok (.aload_n 2, 1) := by decide +kernel
theorem dL_law_717 : decode cL_law 717 = .ok (.invokevirtual 86, 3) := by decide +kernel
theorem dL_law_720 : decode cL_law 720 = .ok (.if_icmp .eq 753, 3) := by decide +kernel
theorem dL_law_723 : decode cL_law 723 = .ok (.iconst 0, 1) := by decide +kernel
theorem dL_law_724 : decode cL_law 724 = .ok (.ireturn, 1) := by decide +kernel
theorem dL_law_725 : decode cL_law 725 = .ok (.aload_n 1, 1) := by decide +kernel
theorem dL_law_726 : decode cL_law 726 = .ok (.aload_n 0, 1) := by decide +kernel
theorem dL_law_727 : decode cL_law 727 = .ok (.iload 4, 2) := by decide +kernel
theorem dL_law_729 : decode cL_law 729 = .ok (.iconst 1, 1) := by decide +kernel
theorem dL_law_730 : decode cL_law 730 = .ok (.iadd, 1) := by decide +kernel
theorem dL_law_731 : decode cL_law 731 = .ok (.iaload, 1) := by decide +kernel
theorem dL_law_732 : decode cL_law 732 = .ok (.invokevirtual 87, 3) := by decide +kernel
theorem dL_law_735 : decode cL_law 735 = .ok (.aload_n 2, 1) := by decide +kernel
theorem dL_law_736 : decode cL_law 736 = .ok (.aload_n 0, 1) := by decide +kernel
theorem dL_law_737 : decode cL_law 737 = .ok (.iload 4, 2) := by decide +kernel
theorem dL_law_739 : decode cL_law 739 = .ok (.iconst 1, 1) := by decide +kernel
theorem dL_law_740 : decode cL_law 740 = .ok (.iadd, 1) := by decide +kernel
theorem dL_law_741 : decode cL_law 741 = .ok (.iaload, 1) := by decide +kernel
theorem dL_law_742 : decode cL_law 742 = .ok (.invokevirtual 90, 3) := by decide +kernel
theorem dL_law_745 : decode cL_law 745 = .ok (.if_icmp .eq 728, 3) := by decide +kernel
theorem dL_law_748 : decode cL_law 748 = .ok (.iconst 0, 1) := by decide +kernel
theorem dL_law_749 : decode cL_law 749 = .ok (.ireturn, 1) := by decide +kernel
theorem dL_law_750 : decode cL_law 750 = .ok (.aload_n 1, 1) := by decide +kernel
theorem dL_law_751 : decode cL_law 751 = .ok (.aload_n 0, 1) := by decide +kernel
theorem dL_law_752 : decode cL_law 752 = .ok (.iload 4, 2) := by decide +kernel
theorem dL_law_754 : decode cL_law 754 = .ok (.iconst 1, 1) := by decide +kernel
theorem dL_law_755 : decode cL_law 755 = .ok (.iadd, 1) := by decide +kernel
theorem dL_law_756 : decode cL_law 756 = .ok (.iaload, 1) := by decide +kernel
theorem dL_law_757 : decode cL_law 757 = .ok (.invokevirtual 91, 3) := by decide +kernel
theorem dL_law_760 : decode cL_law 760 = .ok (.aload_n 2, 1) := by decide +kernel
theorem dL_law_761 : decode cL_law 761 = .ok (.aload_n 0, 1) := by decide +kernel
theorem dL_law_762 : decode cL_law 762 = .ok (.iload 4, 2) := by decide +kernel
theorem dL_law_764 : decode cL_law 764 = .ok (.iconst 1, 1) := by decide +kernel
theorem dL_law_765 : decode cL_law 765 = .ok (.iadd, 1) := by decide +kernel
theorem dL_law_766 : decode cL_law 766 = .ok (.iaload, 1) := by decide +kernel
theorem dL_law_767 : decode cL_law 767 = .ok (.invokevirtual 94, 3) := by decide +kernel
theorem dL_law_770 : decode cL_law 770 = .ok (.if_icmp .eq 703, 3) := by decide +kernel
theorem dL_law_773 : decode cL_law 773 = .ok (.iconst 0, 1) := by decide +kernel
theorem dL_law_774 : decode cL_law 774 = .ok (.ireturn, 1) := by decide +kernel
theorem dL_law_775 : decode cL_law 775 = .ok (.aload_n 1, 1) := by decide +kernel
theorem dL_law_776 : decode cL_law 776 = .ok (.invokevirtual 95, 3) := by decide +kernel
theorem dL_law_779 : decode cL_law 779 = .ok (.aload_n 2, 1) := by decide +kernel
theorem dL_law_780 : decode cL_law 780 = .ok (.invokevirtual 98, 3) := by decide +kernel
theorem dL_law_783 : decode cL_law 783 = .ok (.if_icmp .eq 690, 3) := by decide +kernel
theorem dL_law_786 : decode cL_law 786 = .ok (.iconst 0, 1) := by decide +kernel
theorem dL_law_787 : decode cL_law 787 = .ok (.ireturn, 1) := by decide +kernel
theorem dL_law_788 : decode cL_law 788 = .ok (.aload_n 1, 1) := by decide +kernel
theorem dL_law_789 : decode cL_law 789 = .ok (.aload_n 0, 1) := by decide +kernel
theorem dL_law_790 : decode cL_law 790 = .ok (.iload 4, 2) := by decide +kernel
theorem dL_law_792 : decode cL_law 792 = .ok (.iconst 1, 1) := by decide +kernel
theorem dL_law_793 : decode cL_law 793 = .ok (.iadd, 1) := by decide +kernel
theorem dL_law_794 : decode cL_law 794 = .ok (.iaload, 1) := by decide +kernel
theorem dL_law_795 : decode cL_law 795 = .ok (.invokevirtual 99, 3) := by decide +kernel
theorem dL_law_798 : decode cL_law 798 = .ok (.aload_n 2, 1) := by decide +kernel
theorem dL_law_799 : decode cL_law 799 = .ok (.aload_n 0, 1) := by decide +kernel
theorem dL_law_800 : decode cL_law 800 = .ok (.iload 4, 2) := by decide +kernel
theorem dL_law_802 : decode cL_law 802 = .ok (.iconst 1, 1) := by decide +kernel
theorem dL_law_803 : decode cL_law 803 = .ok (.iadd, 1) := by decide +kernel
theorem dL_law_804 : decode cL_law 804 = .ok (.iaload, 1) := by decide +kernel
theorem dL_law_805 : decode cL_law 805 = .ok (.invokevirtual 102, 3) := by decide +kernel
theorem dL_law_808 : decode cL_law 808 = .ok (.if_icmp .eq 665, 3) := by decide +kernel
theorem dL_law_811 : decode cL_law 811 = .ok (.iconst 0, 1) := by decide +kernel
theorem dL_law_812 : decode cL_law 812 = .ok (.ireturn, 1) := by decide +kernel
theorem dL_law_813 : decode cL_law 813 = .ok (.aload_n 1, 1) := by decide +kernel
theorem dL_law_814 : decode cL_law 814 = .ok (.aload_n 0, 1) := by decide +kernel
theorem dL_law_815 : decode cL_law 815 = .ok (.iload 4, 2) := by decide +kernel
theorem dL_law_817 : decode cL_law 817 = .ok (.iconst 1, 1) := by decide +kernel
theorem dL_law_818 : decode cL_law 818 = .ok (.iadd, 1) := by decide +kernel
theorem dL_law_819 : decode cL_law 819 = .ok (.iaload, 1) := by decide +kernel
theorem dL_law_820 : decode cL_law 820 = .ok (.invokevirtual 103, 3) := by decide +kernel
theorem dL_law_823 : decode cL_law 823 = .ok (.aload_n 2, 1) := by decide +kernel
theorem dL_law_824 : decode cL_law 824 = .ok (.aload_n 0, 1) := by decide +kernel
theorem dL_law_825 : decode cL_law 825 = .ok (.iload 4, 2) := by decide +kernel
theorem dL_law_827 : decode cL_law 827 = .ok (.iconst 1, 1) := by decide +kernel
theorem dL_law_828 : decode cL_law 828 = .ok (.iadd, 1) := by decide +kernel
theorem dL_law_829 : decode cL_law 829 = .ok (.iaload, 1) := by decide +kernel
theorem dL_law_830 : decode cL_law 830 = .ok (.invokevirtual 106, 3) := by decide +kernel
theorem dL_law_833 : decode cL_law 833 = .ok (.if_icmp .eq 640, 3) := by decide +kernel
theorem dL_law_836 : decode cL_law 836 = .ok (.iconst 0, 1) := by decide +kernel
theorem dL_law_837 : decode cL_law 837 = .ok (.ireturn, 1) := by decide +kernel
theorem dL_law_838 : decode cL_law 838 = .ok (.aload_n 1, 1) := by decide +kernel
theorem dL_law_839 : decode cL_law 839 = .ok (.aload_n 0, 1) := by decide +kernel
theorem dL_law_840 : decode cL_law 840 = .ok (.iload 4, 2) := by decide +kernel
theorem dL_law_842 : decode cL_law 842 = .ok (.iconst 1, 1) := by decide +kernel
theorem dL_law_843 : decode cL_law 843 = .ok (.iadd, 1) := by decide +kernel
theorem dL_law_844 : decode cL_law 844 = .ok (.iaload, 1) := by decide +kernel
theorem dL_law_845 : decode cL_law 845 = .ok (.invokevirtual 107, 3) := by decide +kernel
theorem dL_law_848 : decode cL_law 848 = .ok (.aload_n 2, 1) := by decide +kernel
theorem dL_law_849 : decode cL_law 849 = .ok (.aload_n 0, 1) := by decide +kernel
theorem dL_law_850 : decode cL_law 850 = .ok (.iload 4, 2) := by decide +kernel
theorem dL_law_852 : decode cL_law 852 = .ok (.iconst 1, 1) := by decide +kernel
theorem dL_law_853 : decode cL_law 853 = .ok (.iadd, 1) := by decide +kernel
theorem dL_law_854 : decode cL_law 854 = .ok (.iaload, 1) := by decide +kernel
theorem dL_law_855 : decode cL_law 855 = .ok (.invokevirtual 110, 3) := by decide +kernel
theorem dL_law_858 : decode cL_law 858 = .ok (.if_icmp .eq 615, 3) := by decide +kernel
theorem dL_law_861 : decode cL_law 861 = .ok (.iconst 0, 1) := by decide +kernel
theorem dL_law_862 : decode cL_law 862 = .ok (.ireturn, 1) := by decide +kernel
theorem dL_law_863 : decode cL_law 863 = .ok (.aload_n 1, 1) := by decide +kernel
theorem dL_law_864 : decode cL_law 864 = .ok (.aload_n 0, 1) := by decide +kernel
theorem dL_law_865 : decode cL_law 865 = .ok (.iload 4, 2) := by decide +kernel
theorem dL_law_867 : decode cL_law 867 = .ok (.iconst 1, 1) := by decide +kernel
theorem dL_law_868 : decode cL_law 868 = .ok (.iadd, 1) := by decide +kernel
theorem dL_law_869 : decode cL_law 869 = .ok (.iaload, 1) := by decide +kernel
theorem dL_law_870 : decode cL_law 870 = .ok (.invokevirtual 111, 3) := by decide +kernel
theorem dL_law_873 : decode cL_law 873 = .ok (.aload_n 2, 1) := by decide +kernel
theorem dL_law_874 : decode cL_law 874 = .ok (.aload_n 0, 1) := by decide +kernel
theorem dL_law_875 : decode cL_law 875 = .ok (.iload 4, 2) := by decide +kernel
theorem dL_law_877 : decode cL_law 877 = .ok (.iconst 1, 1) := by decide +kernel
theorem dL_law_878 : decode cL_law 878 = .ok (.iadd, 1) := by decide +kernel
theorem dL_law_879 : decode cL_law 879 = .ok (.iaload, 1) := by decide +kernel
theorem dL_law_880 : decode cL_law 880 = .ok (.invokevirtual 114, 3) := by decide +kernel
theorem dL_law_883 : decode cL_law 883 = .ok (.if_icmp .eq 590, 3) := by decide +kernel
theorem dL_law_886 : decode cL_law 886 = .ok (.iconst 0, 1) := by decide +kernel
theorem dL_law_887 : decode cL_law 887 = .ok (.ireturn, 1) := by decide +kernel
theorem dL_law_888 : decode cL_law 888 = .ok (.aload_n 1, 1) := by decide +kernel
theorem dL_law_889 : decode cL_law 889 = .ok (.aload_n 0, 1) := by decide +kernel
theorem dL_law_890 : decode cL_law 890 = .ok (.iload 4, 2) := by decide +kernel
theorem dL_law_892 : decode cL_law 892 = .ok (.iconst 1, 1) := by decide +kernel
theorem dL_law_893 : decode cL_law 893 = .ok (.iadd, 1) := by decide +kernel
theorem dL_law_894 : decode cL_law 894 = .ok (.iaload, 1) := by decide +kernel
theorem dL_law_895 : decode cL_law 895 = .ok (.aload_n 0, 1) := by decide +kernel
theorem dL_law_896 : decode cL_law 896 = .ok (.iload 4, 2) := by decide +kernel
theorem dL_law_898 : decode cL_law 898 = .ok (.iconst 2, 1) := by decide +kernel
theorem dL_law_899 : decode cL_law 899 = .ok (.iadd, 1) := by decide +kernel
theorem dL_law_900 : decode cL_law 900 = .ok (.iaload, 1) := by decide +kernel
theorem dL_law_901 : decode cL_law 901 = .ok (.aload_n 0, 1) := by decide +kernel
theorem dL_law_902 : decode cL_law 902 = .ok (.iload 4, 2) := by decide +kernel
theorem dL_law_904 : decode cL_law 904 = .ok (.iconst 3, 1) := by decide +kernel
theorem dL_law_905 : decode cL_law 905 = .ok (.iadd, 1) := by decide +kernel
theorem dL_law_906 : decode cL_law 906 = .ok (.iaload, 1) := by decide +kernel
theorem dL_law_907 : decode cL_law 907 = .ok (.invokevirtual 115, 3) := by decide +kernel
theorem dL_law_910 : decode cL_law 910 = .ok (.aload_n 2, 1) := by decide +kernel
theorem dL_law_911 : decode cL_law 911 = .ok (.aload_n 0, 1) := by decide +kernel
theorem dL_law_912 : decode cL_law 912 = .ok (.iload 4, 2) := by decide +kernel
theorem dL_law_914 : decode cL_law 914 = .ok (.iconst 1, 1) := by decide +kernel
theorem dL_law_915 : decode cL_law 915 = .ok (.iadd, 1) := by decide +kernel
theorem dL_law_916 : decode cL_law 916 = .ok (.iaload, 1) := by decide +kernel
theorem dL_law_917 : decode cL_law 917 = .ok (.aload_n 0, 1) := by decide +kernel
theorem dL_law_918 : decode cL_law 918 = .ok (.iload 4, 2) := by decide +kernel
theorem dL_law_920 : decode cL_law 920 = .ok (.iconst 2, 1) := by decide +kernel
theorem dL_law_921 : decode cL_law 921 = .ok (.iadd, 1) := by decide +kernel
theorem dL_law_922 : decode cL_law 922 = .ok (.iaload, 1) := by decide +kernel
theorem dL_law_923 : decode cL_law 923 = .ok (.aload_n 0, 1) := by decide +kernel
theorem dL_law_924 : decode cL_law 924 = .ok (.iload 4, 2) := by decide +kernel
theorem dL_law_926 : decode cL_law 926 = .ok (.iconst 3, 1) := by decide +kernel
theorem dL_law_927 : decode cL_law 927 = .ok (.iadd, 1) := by decide +kernel
theorem dL_law_928 : decode cL_law 928 = .ok (.iaload, 1) := by decide +kernel
theorem dL_law_929 : decode cL_law 929 = .ok (.invokevirtual 119, 3) := by decide +kernel
theorem dL_law_932 : decode cL_law 932 = .ok (.if_icmp .eq 541, 3) := by decide +kernel
theorem dL_law_935 : decode cL_law 935 = .ok (.iconst 0, 1) := by decide +kernel
theorem dL_law_936 : decode cL_law 936 = .ok (.ireturn, 1) := by decide +kernel
theorem dL_law_937 : decode cL_law 937 = .ok (.aload_n 1, 1) := by decide +kernel
theorem dL_law_938 : decode cL_law 938 = .ok (.aload_n 0, 1) := by decide +kernel
theorem dL_law_939 : decode cL_law 939 = .ok (.iload 4, 2) := by decide +kernel
theorem dL_law_941 : decode cL_law 941 = .ok (.iconst 1, 1) := by decide +kernel
theorem dL_law_942 : decode cL_law 942 = .ok (.iadd, 1) := by decide +kernel
theorem dL_law_943 : decode cL_law 943 = .ok (.iaload, 1) := by decide +kernel
theorem dL_law_944 : decode cL_law 944 = .ok (.invokevirtual 120, 3) := by decide +kernel
theorem dL_law_947 : decode cL_law 947 = .ok (.aload_n 2, 1) := by decide +kernel
theorem dL_law_948 : decode cL_law 948 = .ok (.aload_n 0, 1) := by decide +kernel
theorem dL_law_949 : decode cL_law 949 = .ok (.iload 4, 2) := by decide +kernel
theorem dL_law_951 : decode cL_law 951 = .ok (.iconst 1, 1) := by decide +kernel
theorem dL_law_952 : decode cL_law 952 = .ok (.iadd, 1) := by decide +kernel
theorem dL_law_953 : decode cL_law 953 = .ok (.iaload, 1) := by decide +kernel
theorem dL_law_954 : decode cL_law 954 = .ok (.invokevirtual 123, 3) := by decide +kernel
theorem dL_law_957 : decode cL_law 957 = .ok (.if_icmp .eq 516, 3) := by decide +kernel
theorem dL_law_960 : decode cL_law 960 = .ok (.iconst 0, 1) := by decide +kernel
theorem dL_law_961 : decode cL_law 961 = .ok (.ireturn, 1) := by decide +kernel
theorem dL_law_962 : decode cL_law 962 = .ok (.aload_n 1, 1) := by decide +kernel
theorem dL_law_963 : decode cL_law 963 = .ok (.aload_n 0, 1) := by decide +kernel
theorem dL_law_964 : decode cL_law 964 = .ok (.iload 4, 2) := by decide +kernel
theorem dL_law_966 : decode cL_law 966 = .ok (.iconst 1, 1) := by decide +kernel
theorem dL_law_967 : decode cL_law 967 = .ok (.iadd, 1) := by decide +kernel
theorem dL_law_968 : decode cL_law 968 = .ok (.iaload, 1) := by decide +kernel
theorem dL_law_969 : decode cL_law 969 = .ok (.aload_n 0, 1) := by decide +kernel
theorem dL_law_970 : decode cL_law 970 = .ok (.iload 4, 2) := by decide +kernel
theorem dL_law_972 : decode cL_law 972 = .ok (.iconst 2, 1) := by decide +kernel
theorem dL_law_973 : decode cL_law 973 = .ok (.iadd, 1) := by decide +kernel
theorem dL_law_974 : decode cL_law 974 = .ok (.iaload, 1) := by decide +kernel
theorem dL_law_975 : decode cL_law 975 = .ok (.invokevirtual 124, 3) := by decide +kernel
theorem dL_law_978 : decode cL_law 978 = .ok (.aload_n 2, 1) := by decide +kernel
theorem dL_law_979 : decode cL_law 979 = .ok (.aload_n 0, 1) := by decide +kernel
theorem dL_law_980 : decode cL_law 980 = .ok (.iload 4, 2) := by decide +kernel
theorem dL_law_982 : decode cL_law 982 = .ok (.iconst 1, 1) := by decide +kernel
theorem dL_law_983 : decode cL_law 983 = .ok (.iadd, 1) := by decide +kernel
theorem dL_law_984 : decode cL_law 984 = .ok (.iaload, 1) := by decide +kernel
theorem dL_law_985 : decode cL_law 985 = .ok (.aload_n 0, 1) := by decide +kernel
theorem dL_law_986 : decode cL_law 986 = .ok (.iload 4, 2) := by decide +kernel
theorem dL_law_988 : decode cL_law 988 = .ok (.iconst 2, 1) := by decide +kernel
theorem dL_law_989 : decode cL_law 989 = .ok (.iadd, 1) := by decide +kernel
theorem dL_law_990 : decode cL_law 990 = .ok (.iaload, 1) := by decide +kernel
theorem dL_law_991 : decode cL_law 991 = .ok (.invokevirtual 127, 3) := by decide +kernel
theorem dL_law_994 : decode cL_law 994 = .ok (.if_icmp .eq 479, 3) := by decide +kernel
theorem dL_law_997 : decode cL_law 997 = .ok (.iconst 0, 1) := by decide +kernel
theorem dL_law_998 : decode cL_law 998 = .ok (.ireturn, 1) := by decide +kernel
theorem dL_law_999 : decode cL_law 999 = .ok (.aload_n 1, 1) := by decide +kernel
theorem dL_law_1000 : decode cL_law 1000 = .ok (.invokevirtual 128, 3) := by decide +kernel
theorem dL_law_1003 : decode cL_law 1003 = .ok (.aload_n 2, 1) := by decide +kernel
theorem dL_law_1004 : decode cL_law 1004 = .ok (.invokevirtual 131, 3) := by decide +kernel
theorem dL_law_1007 : decode cL_law 1007 = .ok (.if_icmp .eq 466, 3) := by decide +kernel
theorem dL_law_1010 : decode cL_law 1010 = .ok (.iconst 0, 1) := by decide +kernel
theorem dL_law_1011 : decode cL_law 1011 = .ok (.ireturn, 1) := by decide +kernel
theorem dL_law_1012 : decode cL_law 1012 = .ok (.aload_n 1, 1) := by decide +kernel
theorem dL_law_1013 : decode cL_law 1013 = .ok (.aload_n 0, 1) := by decide +kernel
theorem dL_law_1014 : decode cL_law 1014 = .ok (.iload 4, 2) := by decide +kernel
theorem dL_law_1016 : decode cL_law 1016 = .ok (.iconst 1, 1) := by decide +kernel
theorem dL_law_1017 : decode cL_law 1017 = .ok (.iadd, 1) := by decide +kernel
theorem dL_law_1018 : decode cL_law 1018 = .ok (.iaload, 1) := by decide +kernel
theorem dL_law_1019 : decode cL_law 1019 = .ok (.invokevirtual 132, 3) := by decide +kernel
theorem dL_law_1022 : decode cL_law 1022 = .ok (.aload_n 2, 1) := by decide +kernel
theorem dL_law_1023 : decode cL_law 1023 = .ok (.aload_n 0, 1) := by decide +kernel
theorem dL_law_1024 : decode cL_law 1024 = .ok (.iload 4, 2) := by decide +kernel
theorem dL_law_1026 : decode cL_law 1026 = .ok (.iconst 1, 1) := by decide +kernel
theorem dL_law_1027 : decode cL_law 1027 = .ok (.iadd, 1) := by decide +kernel
theorem dL_law_1028 : decode cL_law 1028 = .ok (.iaload, 1) := by decide +kernel
theorem dL_law_1029 : decode cL_law 1029 = .ok (.invokevirtual 135, 3) := by decide +kernel
theorem dL_law_1032 : decode cL_law 1032 = .ok (.if_icmp .eq 441, 3) := by decide +kernel
theorem dL_law_1035 : decode cL_law 1035 = .ok (.iconst 0, 1) := by decide +kernel
theorem dL_law_1036 : decode cL_law 1036 = .ok (.ireturn, 1) := by decide +kernel
theorem dL_law_1037 : decode cL_law 1037 = .ok (.aload_n 1, 1) := by decide +kernel
theorem dL_law_1038 : decode cL_law 1038 = .ok (.invokevirtual 136, 3) := by decide +kernel
theorem dL_law_1041 : decode cL_law 1041 = .ok (.aload_n 2, 1) := by decide +kernel
theorem dL_law_1042 : decode cL_law 1042 = .ok (.invokevirtual 139, 3) := by decide +kernel
theorem dL_law_1045 : decode cL_law 1045 = .ok (.if_icmp .eq 428, 3) := by decide +kernel
theorem dL_law_1048 : decode cL_law 1048 = .ok (.iconst 0, 1) := by decide +kernel
theorem dL_law_1049 : decode cL_law 1049 = .ok (.ireturn, 1) := by decide +kernel
theorem dL_law_1050 : decode cL_law 1050 = .ok (.aload_n 1, 1) := by decide +kernel
theorem dL_law_1051 : decode cL_law 1051 = .ok (.invokevirtual 140, 3) := by decide +kernel
theorem dL_law_1054 : decode cL_law 1054 = .ok (.aload_n 2, 1) := by decide +kernel
theorem dL_law_1055 : decode cL_law 1055 = .ok (.invokevirtual 143, 3) := by decide +kernel
theorem dL_law_1058 : decode cL_law 1058 = .ok (.if_icmp .eq 415, 3) := by decide +kernel
theorem dL_law_1061 : decode cL_law 1061 = .ok (.iconst 0, 1) := by decide +kernel
theorem dL_law_1062 : decode cL_law 1062 = .ok (.ireturn, 1) := by decide +kernel
theorem dL_law_1063 : decode cL_law 1063 = .ok (.aload_n 1, 1) := by decide +kernel
theorem dL_law_1064 : decode cL_law 1064 = .ok (.invokevirtual 144, 3) := by decide +kernel
theorem dL_law_1067 : decode cL_law 1067 = .ok (.aload_n 2, 1) := by decide +kernel
theorem dL_law_1068 : decode cL_law 1068 = .ok (.invokevirtual 147, 3) := by decide +kernel
theorem dL_law_1071 : decode cL_law 1071 = .ok (.if_icmp .eq 402, 3) := by decide +kernel
theorem dL_law_1074 : decode cL_law 1074 = .ok (.iconst 0, 1) := by decide +kernel
theorem dL_law_1075 : decode cL_law 1075 = .ok (.ireturn, 1) := by decide +kernel
theorem dL_law_1076 : decode cL_law 1076 = .ok (.aload_n 1, 1) := by decide +kernel
theorem dL_law_1077 : decode cL_law 1077 = .ok (.aload_n 0, 1) := by decide +kernel
theorem dL_law_1078 : decode cL_law 1078 = .ok (.iload 4, 2) := by decide +kernel
theorem dL_law_1080 : decode cL_law 1080 = .ok (.iconst 1, 1) := by decide +kernel
theorem dL_law_1081 : decode cL_law 1081 = .ok (.iadd, 1) := by decide +kernel
theorem dL_law_1082 : decode cL_law 1082 = .ok (.iaload, 1) := by decide +kernel
theorem dL_law_1083 : decode cL_law 1083 = .ok (.invokevirtual 148, 3) := by decide +kernel
theorem dL_law_1086 : decode cL_law 1086 = .ok (.aload_n 2, 1) := by decide +kernel
theorem dL_law_1087 : decode cL_law 1087 = .ok (.aload_n 0, 1) := by decide +kernel
theorem dL_law_1088 : decode cL_law 1088 = .ok (.iload 4, 2) := by decide +kernel
theorem dL_law_1090 : decode cL_law 1090 = .ok (.iconst 1, 1) := by decide +kernel
theorem dL_law_1091 : decode cL_law 1091 = .ok (.iadd, 1) := by decide +kernel
theorem dL_law_1092 : decode cL_law 1092 = .ok (.iaload, 1) := by decide +kernel
theorem dL_law_1093 : decode cL_law 1093 = .ok (.invokevirtual 151, 3) := by decide +kernel
theorem dL_law_1096 : decode cL_law 1096 = .ok (.if_icmp .eq 377, 3) := by decide +kernel
theorem dL_law_1099 : decode cL_law 1099 = .ok (.iconst 0, 1) := by decide +kernel
theorem dL_law_1100 : decode cL_law 1100 = .ok (.ireturn, 1) := by decide +kernel
theorem dL_law_1101 : decode cL_law 1101 = .ok (.aload_n 1, 1) := by decide +kernel
theorem dL_law_1102 : decode cL_law 1102 = .ok (.aload_n 0, 1) := by decide +kernel
theorem dL_law_1103 : decode cL_law 1103 = .ok (.iload 4, 2) := by decide +kernel
theorem dL_law_1105 : decode cL_law 1105 = .ok (.iconst 1, 1) := by decide +kernel
theorem dL_law_1106 : decode cL_law 1106 = .ok (.iadd, 1) := by decide +kernel
theorem dL_law_1107 : decode cL_law 1107 = .ok (.iaload, 1) := by decide +kernel
theorem dL_law_1108 : decode cL_law 1108 = .ok (.aload_n 0, 1) := by decide +kernel
theorem dL_law_1109 : decode cL_law 1109 = .ok (.iload 4, 2) := by decide +kernel
theorem dL_law_1111 : decode cL_law 1111 = .ok (.iconst 2, 1) := by decide +kernel
theorem dL_law_1112 : decode cL_law 1112 = .ok (.iadd, 1) := by decide +kernel
theorem dL_law_1113 : decode cL_law 1113 = .ok (.iaload, 1) := by decide +kernel
theorem dL_law_1114 : decode cL_law 1114 = .ok (.aload_n 0, 1) := by decide +kernel
theorem dL_law_1115 : decode cL_law 1115 = .ok (.iload 4, 2) := by decide +kernel
theorem dL_law_1117 : decode cL_law 1117 = .ok (.iconst 3, 1) := by decide +kernel
theorem dL_law_1118 : decode cL_law 1118 = .ok (.iadd, 1) := by decide +kernel
theorem dL_law_1119 : decode cL_law 1119 = .ok (.iaload, 1) := by decide +kernel
theorem dL_law_1120 : decode cL_law 1120 = .ok (.ifCond .eq 7, 3) := by decide +kernel
theorem dL_law_1123 : decode cL_law 1123 = .ok (.iconst 1, 1) := by decide +kernel
theorem dL_law_1124 : decode cL_law 1124 = .ok (.goto 4, 3) := by decide +kernel
theorem dL_law_1127 : decode cL_law 1127 = .ok (.iconst 0, 1) := by decide +kernel
theorem dL_law_1128 : decode cL_law 1128 = .ok (.invokevirtual 152, 3) := by decide +kernel
theorem dL_law_1131 : decode cL_law 1131 = .ok (.aload_n 2, 1) := by decide +kernel
theorem dL_law_1132 : decode cL_law 1132 = .ok (.aload_n 0, 1) := by decide +kernel
theorem dL_law_1133 : decode cL_law 1133 = .ok (.iload 4, 2) := by decide +kernel
theorem dL_law_1135 : decode cL_law 1135 = .ok (.iconst 1, 1) := by decide +kernel
theorem dL_law_1136 : decode cL_law 1136 = .ok (.iadd, 1) := by decide +kernel
theorem dL_law_1137 : decode cL_law 1137 = .ok (.iaload, 1) := by decide +kernel
theorem dL_law_1138 : decode cL_law 1138 = .ok (.aload_n 0, 1) := by decide +kernel
theorem dL_law_1139 : decode cL_law 1139 = .ok (.iload 4, 2) := by decide +kernel
theorem dL_law_1141 : decode cL_law 1141 = .ok (.iconst 2, 1) := by decide +kernel
theorem dL_law_1142 : decode cL_law 1142 = .ok (.iadd, 1) := by decide +kernel
theorem dL_law_1143 : decode cL_law 1143 = .ok (.iaload, 1) := by decide +kernel
theorem dL_law_1144 : decode cL_law 1144 = .ok (.aload_n 0, 1) := by decide +kernel
theorem dL_law_1145 : decode cL_law 1145 = .ok (.iload 4, 2) := by decide +kernel
theorem dL_law_1147 : decode cL_law 1147 = .ok (.iconst 3, 1) := by decide +kernel
theorem dL_law_1148 : decode cL_law 1148 = .ok (.iadd, 1) := by decide +kernel
theorem dL_law_1149 : decode cL_law 1149 = .ok (.iaload, 1) := by decide +kernel
theorem dL_law_1150 : decode cL_law 1150 = .ok (.ifCond .eq 7, 3) := by decide +kernel
theorem dL_law_1153 : decode cL_law 1153 = .ok (.iconst 1, 1) := by decide +kernel
theorem dL_law_1154 : decode cL_law 1154 = .ok (.goto 4, 3) := by decide +kernel
theorem dL_law_1157 : decode cL_law 1157 = .ok (.iconst 0, 1) := by decide +kernel
theorem dL_law_1158 : decode cL_law 1158 = .ok (.invokevirtual 156, 3) := by decide +kernel
theorem dL_law_1161 : decode cL_law 1161 = .ok (.if_icmp .eq 312, 3) := by decide +kernel
theorem dL_law_1164 : decode cL_law 1164 = .ok (.iconst 0, 1) := by decide +kernel
theorem dL_law_1165 : decode cL_law 1165 = .ok (.ireturn, 1) := by decide +kernel
theorem dL_law_1166 : decode cL_law 1166 = .ok (.aload_n 1, 1) := by decide +kernel
theorem dL_law_1167 : decode cL_law 1167 = .ok (.invokevirtual 157, 3) := by decide +kernel
theorem dL_law_1170 : decode cL_law 1170 = .ok (.aload_n 2, 1) := by decide +kernel
theorem dL_law_1171 : decode cL_law 1171 = .ok (.invokevirtual 160, 3) := by decide +kernel
theorem dL_law_1174 : decode cL_law 1174 = .ok (.if_icmp .eq 299, 3) := by decide +kernel
theorem dL_law_1177 : decode cL_law 1177 = .ok (.iconst 0, 1) := by decide +kernel
theorem dL_law_1178 : decode cL_law 1178 = .ok (.ireturn, 1) := by decide +kernel
theorem dL_law_1179 : decode cL_law 1179 = .ok (.aload_n 1, 1) := by decide +kernel
theorem dL_law_1180 : decode cL_law 1180 = .ok (.invokevirtual 161, 3) := by decide +kernel
theorem dL_law_1183 : decode cL_law 1183 = .ok (.aload_n 2, 1) := by decide +kernel
theorem dL_law_1184 : decode cL_law 1184 = .ok (.invokevirtual 164, 3) := by decide +kernel
theorem dL_law_1187 : decode cL_law 1187 = .ok (.if_icmp .eq 286, 3) := by decide +kernel
theorem dL_law_1190 : decode cL_law 1190 = .ok (.iconst 0, 1) := by decide +kernel
theorem dL_law_1191 : decode cL_law 1191 = .ok (.ireturn, 1) := by decide +kernel
theorem dL_law_1192 : decode cL_law 1192 = .ok (.aload_n 1, 1) := by decide +kernel
theorem dL_law_1193 : decode cL_law 1193 = .ok (.invokevirtual 165, 3) := by decide +kernel
theorem dL_law_1196 : decode cL_law 1196 = .ok (.aload_n 2, 1) := by decide +kernel
theorem dL_law_1197 : decode cL_law 1197 = .ok (.invokevirtual 168, 3) := by decide +kernel
theorem dL_law_1200 : decode cL_law 1200 = .ok (.if_icmp .eq 273, 3) := by decide +kernel
theorem dL_law_1203 : decode cL_law 1203 = .ok (.iconst 0, 1) := by decide +kernel
theorem dL_law_1204 : decode cL_law 1204 = .ok (.ireturn, 1) := by decide +kernel
theorem dL_law_1205 : decode cL_law 1205 = .ok (.aload_n 1, 1) := by decide +kernel
theorem dL_law_1206 : decode cL_law 1206 = .ok (.aload_n 0, 1) := by decide +kernel
theorem dL_law_1207 : decode cL_law 1207 = .ok (.iload 4, 2) := by decide +kernel
theorem dL_law_1209 : decode cL_law 1209 = .ok (.iconst 1, 1) := by decide +kernel
theorem dL_law_1210 : decode cL_law 1210 = .ok (.iadd, 1) := by decide +kernel
theorem dL_law_1211 : decode cL_law 1211 = .ok (.iaload, 1) := by decide +kernel
theorem dL_law_1212 : decode cL_law 1212 = .ok (.aload_n 0, 1) := by decide +kernel
theorem dL_law_1213 : decode cL_law 1213 = .ok (.iload 4, 2) := by decide +kernel
theorem dL_law_1215 : decode cL_law 1215 = .ok (.iconst 2, 1) := by decide +kernel
theorem dL_law_1216 : decode cL_law 1216 = .ok (.iadd, 1) := by decide +kernel
theorem dL_law_1217 : decode cL_law 1217 = .ok (.iaload, 1) := by decide +kernel
theorem dL_law_1218 : decode cL_law 1218 = .ok (.aload_n 0, 1) := by decide +kernel
theorem dL_law_1219 : decode cL_law 1219 = .ok (.iload 4, 2) := by decide +kernel
theorem dL_law_1221 : decode cL_law 1221 = .ok (.iconst 3, 1) := by decide +kernel
theorem dL_law_1222 : decode cL_law 1222 = .ok (.iadd, 1) := by decide +kernel
theorem dL_law_1223 : decode cL_law 1223 = .ok (.iaload, 1) := by decide +kernel
theorem dL_law_1224 : decode cL_law 1224 = .ok (.invokevirtual 169, 3) := by decide +kernel
theorem dL_law_1227 : decode cL_law 1227 = .ok (.aload_n 2, 1) := by decide +kernel
theorem dL_law_1228 : decode cL_law 1228 = .ok (.aload_n 0, 1) := by decide +kernel
theorem dL_law_1229 : decode cL_law 1229 = .ok (.iload 4, 2) := by decide +kernel
theorem dL_law_1231 : decode cL_law 1231 = .ok (.iconst 1, 1) := by decide +kernel
theorem dL_law_1232 : decode cL_law 1232 = .ok (.iadd, 1) := by decide +kernel
theorem dL_law_1233 : decode cL_law 1233 = .ok (.iaload, 1) := by decide +kernel
theorem dL_law_1234 : decode cL_law 1234 = .ok (.aload_n 0, 1) := by decide +kernel
theorem dL_law_1235 : decode cL_law 1235 = .ok (.iload 4, 2) := by decide +kernel
theorem dL_law_1237 : decode cL_law 1237 = .ok (.iconst 2, 1) := by decide +kernel
theorem dL_law_1238 : decode cL_law 1238 = .ok (.iadd, 1) := by decide +kernel
theorem dL_law_1239 : decode cL_law 1239 = .ok (.iaload, 1) := by decide +kernel
theorem dL_law_1240 : decode cL_law 1240 = .ok (.aload_n 0, 1) := by decide +kernel
theorem dL_law_1241 : decode cL_law 1241 = .ok (.iload 4, 2) := by decide +kernel
theorem dL_law_1243 : decode cL_law 1243 = .ok (.iconst 3, 1) := by decide +kernel
theorem dL_law_1244 : decode cL_law 1244 = .ok (.iadd, 1) := by decide +kernel
theorem dL_law_1245 : decode cL_law 1245 = .ok (.iaload, 1) := by decide +kernel
theorem dL_law_1246 : decode cL_law 1246 = .ok (.invokevirtual 172, 3) := by decide +kernel
theorem dL_law_1249 : decode cL_law 1249 = .ok (.if_icmp .eq 224, 3) := by decide +kernel
theorem dL_law_1252 : decode cL_law 1252 = .ok (.iconst 0, 1) := by decide +kernel
theorem dL_law_1253 : decode cL_law 1253 = .ok (.ireturn, 1) := by decide +kernel
theorem dL_law_1254 : decode cL_law 1254 = .ok (.aload_n 1, 1) := by decide +kernel
theorem dL_law_1255 : decode cL_law 1255 = .ok (.aload_n 0, 1) := by decide +kernel
theorem dL_law_1256 : decode cL_law 1256 = .ok (.iload 4, 2) := by decide +kernel
theorem dL_law_1258 : decode cL_law 1258 = .ok (.iconst 1, 1) := by decide +kernel
theorem dL_law_1259 : decode cL_law 1259 = .ok (.iadd, 1) := by decide +kernel
theorem dL_law_1260 : decode cL_law 1260 = .ok (.iaload, 1) := by decide +kernel
theorem dL_law_1261 : decode cL_law 1261 = .ok (.aload_n 0, 1) := by decide +kernel
theorem dL_law_1262 : decode cL_law 1262 = .ok (.iload 4, 2) := by decide +kernel
theorem dL_law_1264 : decode cL_law 1264 = .ok (.iconst 2, 1) := by decide +kernel
theorem dL_law_1265 : decode cL_law 1265 = .ok (.iadd, 1) := by decide +kernel
theorem dL_law_1266 : decode cL_law 1266 = .ok (.iaload, 1) := by decide +kernel
theorem dL_law_1267 : decode cL_law 1267 = .ok (.aload_n 0, 1) := by decide +kernel
theorem dL_law_1268 : decode cL_law 1268 = .ok (.iload 4, 2) := by decide +kernel
theorem dL_law_1270 : decode cL_law 1270 = .ok (.iconst 3, 1) := by decide +kernel
theorem dL_law_1271 : decode cL_law 1271 = .ok (.iadd, 1) := by decide +kernel
theorem dL_law_1272 : decode cL_law 1272 = .ok (.iaload, 1) := by decide +kernel
theorem dL_law_1273 : decode cL_law 1273 = .ok (.aload_n 0, 1) := by decide +kernel
theorem dL_law_1274 : decode cL_law 1274 = .ok (.iload 4, 2) := by decide +kernel
theorem dL_law_1276 : decode cL_law 1276 = .ok (.iconst 4, 1) := by decide +kernel
theorem dL_law_1277 : decode cL_law 1277 = .ok (.iadd, 1) := by decide +kernel
theorem dL_law_1278 : decode cL_law 1278 = .ok (.iaload, 1) := by decide +kernel
theorem dL_law_1279 : decode cL_law 1279 = .ok (.aload_n 3, 1) := by decide +kernel
theorem dL_law_1280 : decode cL_law 1280 = .ok (.invokestatic 173, 3) := by decide +kernel
theorem dL_law_1283 : decode cL_law 1283 = .ok (.istore 5, 2) := by decide +kernel
theorem dL_law_1285 : decode cL_law 1285 = .ok (.aload_n 2, 1) := by decide +kernel
theorem dL_law_1286 : decode cL_law 1286 = .ok (.aload_n 0, 1) := by decide +kernel
theorem dL_law_1287 : decode cL_law 1287 = .ok (.iload 4, 2) := by decide +kernel
theorem dL_law_1289 : decode cL_law 1289 = .ok (.iconst 1, 1) := by decide +kernel
theorem dL_law_1290 : decode cL_law 1290 = .ok (.iadd, 1) := by decide +kernel
theorem dL_law_1291 : decode cL_law 1291 = .ok (.iaload, 1) := by decide +kernel
theorem dL_law_1292 : decode cL_law 1292 = .ok (.aload_n 0, 1) := by decide +kernel
theorem dL_law_1293 : decode cL_law 1293 = .ok (.iload 4, 2) := by decide +kernel
theorem dL_law_1295 : decode cL_law 1295 = .ok (.iconst 2, 1) := by decide +kernel
theorem dL_law_1296 : decode cL_law 1296 = .ok (.iadd, 1) := by decide +kernel
theorem dL_law_1297 : decode cL_law 1297 = .ok (.iaload, 1) := by decide +kernel
theorem dL_law_1298 : decode cL_law 1298 = .ok (.aload_n 0, 1) := by decide +kernel
theorem dL_law_1299 : decode cL_law 1299 = .ok (.iload 4, 2) := by decide +kernel
theorem dL_law_1301 : decode cL_law 1301 = .ok (.iconst 3, 1) := by decide +kernel
theorem dL_law_1302 : decode cL_law 1302 = .ok (.iadd, 1) := by decide +kernel
theorem dL_law_1303 : decode cL_law 1303 = .ok (.iaload, 1) := by decide +kernel
theorem dL_law_1304 : decode cL_law 1304 = .ok (.aload_n 0, 1) := by decide +kernel
theorem dL_law_1305 : decode cL_law 1305 = .ok (.iload 4, 2) := by decide +kernel
theorem dL_law_1307 : decode cL_law 1307 = .ok (.iconst 4, 1) := by decide +kernel
theorem dL_law_1308 : decode cL_law 1308 = .ok (.iadd, 1) := by decide +kernel
theorem dL_law_1309 : decode cL_law 1309 = .ok (.iaload, 1) := by decide +kernel
theorem dL_law_1310 : decode cL_law 1310 = .ok (.invokevirtual 178, 3) := by decide +kernel
theorem dL_law_1313 : decode cL_law 1313 = .ok (.istore 6, 2) := by decide +kernel
theorem dL_law_1315 : decode cL_law 1315 = .ok (.aload_n 2, 1) := by decide +kernel
theorem dL_law_1316 : decode cL_law 1316 = .ok (.invokevirtual 179, 3) := by decide +kernel
theorem dL_law_1319 : decode cL_law 1319 = .ok (.iload 5, 2) := by decide +kernel
theorem dL_law_1321 : decode cL_law 1321 = .ok (.if_icmp .eq 5, 3) := by decide +kernel
theorem dL_law_1324 : decode cL_law 1324 = .ok (.iconst 0, 1) := by decide +kernel
theorem dL_law_1325 : decode cL_law 1325 = .ok (.ireturn, 1) := by decide +kernel
theorem dL_law_1326 : decode cL_law 1326 = .ok (.iload 5, 2) := by decide +kernel
theorem dL_law_1328 : decode cL_law 1328 = .ok (.ifCond .ne 15, 3) := by decide +kernel
theorem dL_law_1331 : decode cL_law 1331 = .ok (.aload_n 3, 1) := by decide +kernel
theorem dL_law_1332 : decode cL_law 1332 = .ok (.iconst 0, 1) := by decide +kernel
theorem dL_law_1333 : decode cL_law 1333 = .ok (.laload, 1) := by decide +kernel
theorem dL_law_1334 : decode cL_law 1334 = .ok (.iload 6, 2) := by decide +kernel
theorem dL_law_1336 : decode cL_law 1336 = .ok (.i2l, 1) := by decide +kernel
theorem dL_law_1337 : decode cL_law 1337 = .ok (.lcmp, 1) := by decide +kernel
theorem dL_law_1338 : decode cL_law 1338 = .ok (.ifCond .eq 5, 3) := by decide +kernel
theorem dL_law_1341 : decode cL_law 1341 = .ok (.iconst 0, 1) := by decide +kernel
theorem dL_law_1342 : decode cL_law 1342 = .ok (.ireturn, 1) := by decide +kernel
theorem dL_law_1343 : decode cL_law 1343 = .ok (.goto 130, 3) := by decide +kernel
theorem dL_law_1346 : decode cL_law 1346 = .ok (.aload_n 1, 1) := by decide +kernel
theorem dL_law_1347 : decode cL_law 1347 = .ok (.aload_n 0, 1) := by decide +kernel
theorem dL_law_1348 : decode cL_law 1348 = .ok (.iload 4, 2) := by decide +kernel
theorem dL_law_1350 : decode cL_law 1350 = .ok (.iconst 1, 1) := by decide +kernel
theorem dL_law_1351 : decode cL_law 1351 = .ok (.iadd, 1) := by decide +kernel
theorem dL_law_1352 : decode cL_law 1352 = .ok (.iaload, 1) := by decide +kernel
theorem dL_law_1353 : decode cL_law 1353 = .ok (.aload_n 0, 1) := by decide +kernel
theorem dL_law_1354 : decode cL_law 1354 = .ok (.iload 4, 2) := by decide +kernel
theorem dL_law_1356 : decode cL_law 1356 = .ok (.iconst 2, 1) := by decide +kernel
theorem dL_law_1357 : decode cL_law 1357 = .ok (.iadd, 1) := by decide +kernel
theorem dL_law_1358 : decode cL_law 1358 = .ok (.iaload, 1) := by decide +kernel
theorem dL_law_1359 : decode cL_law 1359 = .ok (.aload_n 0, 1) := by decide +kernel
theorem dL_law_1360 : decode cL_law 1360 = .ok (.iload 4, 2) := by decide +kernel
theorem dL_law_1362 : decode cL_law 1362 = .ok (.iconst 3, 1) := by decide +kernel
theorem dL_law_1363 : decode cL_law 1363 = .ok (.iadd, 1) := by decide +kernel
theorem dL_law_1364 : decode cL_law 1364 = .ok (.iaload, 1) := by decide +kernel
theorem dL_law_1365 : decode cL_law 1365 = .ok (.invokevirtual 182, 3) := by decide +kernel
theorem dL_law_1368 : decode cL_law 1368 = .ok (.aload_n 2, 1) := by decide +kernel
theorem dL_law_1369 : decode cL_law 1369 = .ok (.aload_n 0, 1) := by decide +kernel
theorem dL_law_1370 : decode cL_law 1370 = .ok (.iload 4, 2) := by decide +kernel
theorem dL_law_1372 : decode cL_law 1372 = .ok (.iconst 1, 1) := by decide +kernel
theorem dL_law_1373 : decode cL_law 1373 = .ok (.iadd, 1) := by decide +kernel
theorem dL_law_1374 : decode cL_law 1374 = .ok (.iaload, 1) := by decide +kernel
theorem dL_law_1375 : decode cL_law 1375 = .ok (.aload_n 0, 1) := by decide +kernel
theorem dL_law_1376 : decode cL_law 1376 = .ok (.iload 4, 2) := by decide +kernel
theorem dL_law_1378 : decode cL_law 1378 = .ok (.iconst 2, 1) := by decide +kernel
theorem dL_law_1379 : decode cL_law 1379 = .ok (.iadd, 1) := by decide +kernel
theorem dL_law_1380 : decode cL_law 1380 = .ok (.iaload, 1) := by decide +kernel
theorem dL_law_1381 : decode cL_law 1381 = .ok (.aload_n 0, 1) := by decide +kernel
theorem dL_law_1382 : decode cL_law 1382 = .ok (.iload 4, 2) := by decide +kernel
theorem dL_law_1384 : decode cL_law 1384 = .ok (.iconst 3, 1) := by decide +kernel
theorem dL_law_1385 : decode cL_law 1385 = .ok (.iadd, 1) := by decide +kernel
theorem dL_law_1386 : decode cL_law 1386 = .ok (.iaload, 1) := by decide +kernel
theorem dL_law_1387 : decode cL_law 1387 = .ok (.invokevirtual 185, 3) := by decide +kernel
theorem dL_law_1390 : decode cL_law 1390 = .ok (.if_icmp .eq 83, 3) := by decide +kernel
theorem dL_law_1393 : decode cL_law 1393 = .ok (.iconst 0, 1) := by decide +kernel
theorem dL_law_1394 : decode cL_law 1394 = .ok (.ireturn, 1) := by decide +kernel
theorem dL_law_1395 : decode cL_law 1395 = .ok (.aload_n 1, 1) := by decide +kernel
theorem dL_law_1396 : decode cL_law 1396 = .ok (.aload_n 0, 1) := by decide +kernel
theorem dL_law_1397 : decode cL_law 1397 = .ok (.iload 4, 2) := by decide +kernel
theorem dL_law_1399 : decode cL_law 1399 = .ok (.iconst 1, 1) := by decide +kernel
theorem dL_law_1400 : decode cL_law 1400 = .ok (.iadd, 1) := by decide +kernel
theorem dL_law_1401 : decode cL_law 1401 = .ok (.iaload, 1) := by decide +kernel
theorem dL_law_1402 : decode cL_law 1402 = .ok (.aload_n 0, 1) := by decide +kernel
theorem dL_law_1403 : decode cL_law 1403 = .ok (.iload 4, 2) := by decide +kernel
theorem dL_law_1405 : decode cL_law 1405 = .ok (.iconst 2, 1) := by decide +kernel
theorem dL_law_1406 : decode cL_law 1406 = .ok (.iadd, 1) := by decide +kernel
theorem dL_law_1407 : decode cL_law 1407 = .ok (.iaload, 1) := by decide +kernel
theorem dL_law_1408 : decode cL_law 1408 = .ok (.ifCond .eq 7, 3) := by decide +kernel
theorem dL_law_1411 : decode cL_law 1411 = .ok (.iconst 1, 1) := by decide +kernel
theorem dL_law_1412 : decode cL_law 1412 = .ok (.goto 4, 3) := by decide +kernel
theorem dL_law_1415 : decode cL_law 1415 = .ok (.iconst 0, 1) := by decide +kernel
theorem dL_law_1416 : decode cL_law 1416 = .ok (.invokevirtual 186, 3) := by decide +kernel
theorem dL_law_1419 : decode cL_law 1419 = .ok (.aload_n 2, 1) := by decide +kernel
theorem dL_law_1420 : decode cL_law 1420 = .ok (.aload_n 0, 1) := by decide +kernel
theorem dL_law_1421 : decode cL_law 1421 = .ok (.iload 4, 2) := by decide +kernel
theorem dL_law_1423 : decode cL_law 1423 = .ok (.iconst 1, 1) := by decide +kernel
theorem dL_law_1424 : decode cL_law 1424 = .ok (.iadd, 1) := by decide +kernel
theorem dL_law_1425 : decode cL_law 1425 = .ok (.iaload, 1) := by decide +kernel
theorem dL_law_1426 : decode cL_law 1426 = .ok (.aload_n 0, 1) := by decide +kernel
theorem dL_law_1427 : decode cL_law 1427 = .ok (.iload 4, 2) := by decide +kernel
theorem dL_law_1429 : decode cL_law 1429 = .ok (.iconst 2, 1) := by decide +kernel
theorem dL_law_1430 : decode cL_law 1430 = .ok (.iadd, 1) := by decide +kernel
theorem dL_law_1431 : decode cL_law 1431 = .ok (.iaload, 1) := by decide +kernel
theorem dL_law_1432 : decode cL_law 1432 = .ok (.ifCond .eq 7, 3) := by decide +kernel
theorem dL_law_1435 : decode cL_law 1435 = .ok (.iconst 1, 1) := by decide +kernel
theorem dL_law_1436 : decode cL_law 1436 = .ok (.goto 4, 3) := by decide +kernel
theorem dL_law_1439 : decode cL_law 1439 = .ok (.iconst 0, 1) := by decide +kernel
theorem dL_law_1440 : decode cL_law 1440 = .ok (.invokevirtual 190, 3) := by decide +kernel
theorem dL_law_1443 : decode cL_law 1443 = .ok (.if_icmp .eq 30, 3) := by decide +kernel
theorem dL_law_1446 : decode cL_law 1446 = .ok (.iconst 0, 1) := by decide +kernel
theorem dL_law_1447 : decode cL_law 1447 = .ok (.ireturn, 1) := by decide +kernel
theorem dL_law_1448 : decode cL_law 1448 = .ok (.aload_n 1, 1) := by decide +kernel
theorem dL_law_1449 : decode cL_law 1449 = .ok (.aload_n 0, 1) := by decide +kernel
theorem dL_law_1450 : decode cL_law 1450 = .ok (.iload 4, 2) := by decide +kernel
theorem dL_law_1452 : decode cL_law 1452 = .ok (.iconst 1, 1) := by decide +kernel
theorem dL_law_1453 : decode cL_law 1453 = .ok (.iadd, 1) := by decide +kernel
theorem dL_law_1454 : decode cL_law 1454 = .ok (.iaload, 1) := by decide +kernel
theorem dL_law_1455 : decode cL_law 1455 = .ok (.invokevirtual 191, 3) := by decide +kernel
theorem dL_law_1458 : decode cL_law 1458 = .ok (.aload_n 2, 1) := by decide +kernel
theorem dL_law_1459 : decode cL_law 1459 = .ok (.aload_n 0, 1) := by decide +kernel
theorem dL_law_1460 : decode cL_law 1460 = .ok (.iload 4, 2) := by decide +kernel
theorem dL_law_1462 : decode cL_law 1462 = .ok (.iconst 1, 1) := by decide +kernel
theorem dL_law_1463 : decode cL_law 1463 = .ok (.iadd, 1) := by decide +kernel
theorem dL_law_1464 : decode cL_law 1464 = .ok (.iaload, 1) := by decide +kernel
theorem dL_law_1465 : decode cL_law 1465 = .ok (.invokevirtual 194, 3) := by decide +kernel
theorem dL_law_1468 : decode cL_law 1468 = .ok (.if_icmp .eq 5, 3) := by decide +kernel
theorem dL_law_1471 : decode cL_law 1471 = .ok (.iconst 0, 1) := by decide +kernel
theorem dL_law_1472 : decode cL_law 1472 = .ok (.ireturn, 1) := by decide +kernel
theorem dL_law_1473 : decode cL_law 1473 = .ok (.iinc 4 7, 3) := by decide +kernel
theorem dL_law_1476 : decode cL_law 1476 = .ok (.goto (-1453), 3) := by decide +kernel
theorem dL_law_1479 : decode cL_law 1479 = .ok (.iconst 1, 1) := by decide +kernel
theorem dL_law_1480 : decode cL_law 1480 = .ok (.ireturn, 1) := by decide +kernel
