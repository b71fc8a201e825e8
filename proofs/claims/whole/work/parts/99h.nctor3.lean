section NC3
def M_X10 (M : Mm) : Mm := (setP (setP (setP (setI (setP (setI (setP M 6 8 2000) 8 12 30) 0 1 8) 22 12 30) 0 2 22) 0 3 36) 0 4 40)
def F_X10 (F : Pf) : Pf := (pf1 (F_X3 (pf1 (F_X3 (pf1 (F_X3 (pf1 (F_X3 (pf1 (F_X3 (pf1 (F_X3 (pf1 (F_X3 (pf1 (F_X3 (pf1 (F_X3 (pf1 (F_X3 (pf1 (F_X3 (pf1 (F_X3 (pf1 (F_X3 (pf1 (F_X3 (pf1 (F_X3 (pf1 (F_X3 (pf1 (F_X1 (pf1 (F_X1 (pf1 (F_X1 (pf1 (F_X1 (pf1 (pf1 (pf1 (pf1 (pf1 (pf1 (F_X2 (pf1 (F_X3 (pf1 (F_X3 (pf1 (F_X5 (pf1 (F_X5 (pf1 (F_X8 (pf1 (F_X8 (pf1 (F_X4 F 6) 0 0) 8) 0 1) 22) 0 2) 36) 0 3) 40) 0 4) 44) 0 5) 51) 0 6) 58) 0 7) 0 8) 0 9) 0 12) 0 13) 0 14) 62) 1 0) 78) 1 1) 94) 1 2) 110) 1 3) 126) 2 0) 133) 2 1) 140) 2 2) 147) 2 3) 154) 2 4) 161) 2 5) 168) 2 6) 175) 2 7) 182) 2 8) 189) 2 9) 196) 2 10) 203) 2 11) 210) 2 12) 217) 2 13) 224) 2 14) 231) 2 15)
set_option maxHeartbeats 4000000 in
set_option maxRecDepth 40000 in
theorem k_X10 {b0 : Nat} {G : Gt} {M : Mm} {F : Pf} : CallN b0 237 5258 G 4 mX10_init 0 1 M F 238 (M_X10 M) (F_X10 F) := by
  refine CallN.intro rfl (Nat.le_of_ble_eq_true rfl) rfl ?_
  show EvN _ _ _ G _ mX10_init 0 [.ref 0, RA] [] _ _ _ _
  refine n_aload_n (x := 0) dX10_init_0 rfl ?_
  refine n_obj dX10_init_1 (mem_g 30 (by decide +kernel) rfl) rfl (by decide) ?_
  refine n_aload_n (x := 0) dX10_init_4 rfl ?_
  refine n_new (c9 := 1) (bk := 236) (bs := 5248) (i := 6) dX10_init_5 kc4 rfl rfl rfl (by decide) (mem_g 33 (by decide +kernel) rfl) (mem_g 34 (by decide +kernel) rfl) (mem_g 2 (by decide +kernel) rfl) ?_
  refine n_dup dX10_init_8 rfl ?_
  refine n_init (c9 := 2) (c2 := 3) (bk := 235) (bs := 4248) (mc := 1) (ms := 1000) (mi' := mX4_init) (d' := 1) (i := 6) dX10_init_9 (mem_g 37 (by decide +kernel) rfl) rfl (mem_g 2 (by decide +kernel) rfl) ⟨by decide +kernel, by decide +kernel, by decide +kernel⟩ (by decide) rfl (mem_g 36 (by decide +kernel) rfl) ml_X10_9 (Nat.le_of_ble_eq_true rfl) (by decide) rfl (k_X4 (x9 := 1) (n := 2) rfl rfl (by decide +kernel) (by decide) (by decide) (by decide +kernel)) ?_
  refine n_putR dX10_init_12 fl_X10_10 rfl rfl (x9 := 0) rfl (by decide) (by decide) rfl (fun C T N h => by cases h; rfl) (fun C T N h => by cases h; exact mem_g 283 (by decide +kernel) rfl) rfl rfl ?_
  refine n_aload_n (x := 0) dX10_init_15 rfl ?_
  refine n_new (c9 := 3) (bk := 234) (bs := 4234) (i := 8) dX10_init_16 kc6 rfl rfl rfl (by decide) (mem_g 77 (by decide +kernel) rfl) (mem_g 78 (by decide +kernel) rfl) (mem_g 5 (by decide +kernel) rfl) ?_
  refine n_dup dX10_init_19 rfl ?_
  refine n_init (c9 := 4) (c2 := 17) (bk := 221) (bs := 3144) (mc := 13) (ms := 1090) (mi' := mX8_init) (d' := 2) (i := 8) dX10_init_20 (mem_g 81 (by decide +kernel) rfl) rfl (mem_g 5 (by decide +kernel) rfl) ⟨by decide +kernel, by decide +kernel, by decide +kernel⟩ (by decide) rfl (mem_g 80 (by decide +kernel) rfl) ml_X10_18 (Nat.le_of_ble_eq_true rfl) (by decide) rfl (k_X8 (x9 := 3) (n := 4) rfl rfl rfl rfl rfl rfl rfl rfl rfl rfl rfl rfl rfl rfl rfl (by decide) (by decide) (by decide +kernel)) ?_
  refine n_putP (v := 8) dX10_init_23 fl_X10_19 rfl rfl (x9 := 0) rfl (by decide) (by decide) (fun C T N h => by cases h; exact mem_g 284 (by decide +kernel) rfl) rfl rfl ?_
  refine n_aload_n (x := 0) dX10_init_26 rfl ?_
  refine n_new (c9 := 17) (bk := 220) (bs := 3130) (i := 22) dX10_init_27 kc6 rfl rfl rfl (by decide) (mem_g 77 (by decide +kernel) rfl) (mem_g 78 (by decide +kernel) rfl) (mem_g 5 (by decide +kernel) rfl) ?_
  refine n_dup dX10_init_30 rfl ?_
  refine n_init (c9 := 18) (c2 := 31) (bk := 207) (bs := 2040) (mc := 13) (ms := 1090) (mi' := mX8_init) (d' := 2) (i := 22) dX10_init_31 (mem_g 81 (by decide +kernel) rfl) rfl (mem_g 5 (by decide +kernel) rfl) ⟨by decide +kernel, by decide +kernel, by decide +kernel⟩ (by decide) rfl (mem_g 80 (by decide +kernel) rfl) ml_X10_18 (Nat.le_of_ble_eq_true rfl) (by decide) rfl (k_X8 (x9 := 17) (n := 18) rfl rfl rfl rfl rfl rfl rfl rfl rfl rfl rfl rfl rfl rfl rfl (by decide) (by decide) (by decide +kernel)) ?_
  refine n_putP (v := 22) dX10_init_34 fl_X10_23 rfl rfl (x9 := 0) rfl (by decide) (by decide) (fun C T N h => by cases h; exact mem_g 285 (by decide +kernel) rfl) rfl rfl ?_
  refine n_aload_n (x := 0) dX10_init_37 rfl ?_
  refine n_new (c9 := 31) (bk := 206) (bs := 2036) (i := 36) dX10_init_38 kc5 rfl rfl rfl (by decide) (mem_g 167 (by decide +kernel) rfl) (mem_g 168 (by decide +kernel) rfl) (mem_g 7 (by decide +kernel) rfl) ?_
  refine n_dup dX10_init_41 rfl ?_
  refine n_init (c9 := 32) (c2 := 35) (bk := 203) (bs := 1916) (mc := 3) (ms := 120) (mi' := mX5_init) (d' := 1) (i := 36) dX10_init_42 (mem_g 171 (by decide +kernel) rfl) rfl (mem_g 7 (by decide +kernel) rfl) ⟨by decide +kernel, by decide +kernel, by decide +kernel⟩ (by decide) rfl (mem_g 170 (by decide +kernel) rfl) ml_X10_28 (Nat.le_of_ble_eq_true rfl) (by decide) rfl (k_X5 (x9 := 31) (n := 32) rfl rfl (by decide +kernel) (by decide) (by decide) (by decide +kernel)) ?_
  refine n_putP (v := 36) dX10_init_45 fl_X10_29 rfl rfl (x9 := 0) rfl (by decide) (by decide) (fun C T N h => by cases h; exact mem_g 286 (by decide +kernel) rfl) rfl rfl ?_
  refine n_aload_n (x := 0) dX10_init_48 rfl ?_
  refine n_new (c9 := 35) (bk := 202) (bs := 1912) (i := 40) dX10_init_49 kc5 rfl rfl rfl (by decide) (mem_g 167 (by decide +kernel) rfl) (mem_g 168 (by decide +kernel) rfl) (mem_g 7 (by decide +kernel) rfl) ?_
  refine n_dup dX10_init_52 rfl ?_
  refine n_init (c9 := 36) (c2 := 39) (bk := 199) (bs := 1792) (mc := 3) (ms := 120) (mi' := mX5_init) (d' := 1) (i := 40) dX10_init_53 (mem_g 171 (by decide +kernel) rfl) rfl (mem_g 7 (by decide +kernel) rfl) ⟨by decide +kernel, by decide +kernel, by decide +kernel⟩ (by decide) rfl (mem_g 170 (by decide +kernel) rfl) ml_X10_28 (Nat.le_of_ble_eq_true rfl) (by decide) rfl (k_X5 (x9 := 35) (n := 36) rfl rfl (by decide +kernel) (by decide) (by decide) (by decide +kernel)) ?_
  refine n_putP (v := 40) dX10_init_56 fl_X10_33 rfl rfl (x9 := 0) rfl (by decide) (by decide) (fun C T N h => by cases h; exact mem_g 287 (by decide +kernel) rfl) rfl rfl ?_
  refine n_aload_n (x := 0) dX10_init_59 rfl ?_
  refine n_new (c9 := 39) (bk := 198) (bs := 1783) (i := 44) dX10_init_60 kc3 rfl rfl rfl (by decide) (mem_g 188 (by decide +kernel) rfl) (mem_g 189 (by decide +kernel) rfl) (mem_g 8 (by decide +kernel) rfl) ?_
  refine n_dup dX10_init_63 rfl ?_
  refine n_init (c9 := 40) (c2 := 46) (bk := 192) (bs := 1747) (mc := 6) (ms := 36) (mi' := mX3_init) (d' := 1) (i := 44) dX10_init_64 (mem_g 192 (by decide +kernel) rfl) rfl (mem_g 8 (by decide +kernel) rfl) ⟨by decide +kernel, by decide +kernel, by decide +kernel⟩ (by decide) rfl (mem_g 191 (by decide +kernel) rfl) ml_X10_38 (Nat.le_of_ble_eq_true rfl) (by decide) rfl (k_X3 (x9 := 39) (n := 40) rfl rfl (by decide +kernel) (by decide) (by decide) (by decide +kernel)) ?_
  refine n_putR dX10_init_67 fl_X10_39 rfl rfl (x9 := 0) rfl (by decide) (by decide) rfl (fun C T N h => by cases h; rfl) (fun C T N h => by cases h; exact mem_g 288 (by decide +kernel) rfl) rfl rfl ?_
  refine n_aload_n (x := 0) dX10_init_70 rfl ?_
  refine n_new (c9 := 46) (bk := 191) (bs := 1738) (i := 51) dX10_init_71 kc3 rfl rfl rfl (by decide) (mem_g 188 (by decide +kernel) rfl) (mem_g 189 (by decide +kernel) rfl) (mem_g 8 (by decide +kernel) rfl) ?_
  refine n_dup dX10_init_74 rfl ?_
  refine n_init (c9 := 47) (c2 := 53) (bk := 185) (bs := 1702) (mc := 6) (ms := 36) (mi' := mX3_init) (d' := 1) (i := 51) dX10_init_75 (mem_g 192 (by decide +kernel) rfl) rfl (mem_g 8 (by decide +kernel) rfl) ⟨by decide +kernel, by decide +kernel, by decide +kernel⟩ (by decide) rfl (mem_g 191 (by decide +kernel) rfl) ml_X10_38 (Nat.le_of_ble_eq_true rfl) (by decide) rfl (k_X3 (x9 := 46) (n := 47) rfl rfl (by decide +kernel) (by decide) (by decide) (by decide +kernel)) ?_
  refine n_putR dX10_init_78 fl_X10_43 rfl rfl (x9 := 0) rfl (by decide) (by decide) rfl (fun C T N h => by cases h; rfl) (fun C T N h => by cases h; exact mem_g 289 (by decide +kernel) rfl) rfl rfl ?_
  refine n_aload_n (x := 0) dX10_init_81 rfl ?_
  refine n_new (c9 := 53) (bk := 184) (bs := 1698) (i := 58) dX10_init_82 kc2 rfl rfl rfl (by decide) (mem_g 230 (by decide +kernel) rfl) (mem_g 231 (by decide +kernel) rfl) (mem_g 9 (by decide +kernel) rfl) ?_
  refine n_dup dX10_init_85 rfl ?_
  refine n_init (c9 := 54) (c2 := 57) (bk := 181) (bs := 1674) (mc := 3) (ms := 24) (mi' := mX2_init) (d' := 1) (i := 58) dX10_init_86 (mem_g 234 (by decide +kernel) rfl) rfl (mem_g 9 (by decide +kernel) rfl) ⟨by decide +kernel, by decide +kernel, by decide +kernel⟩ (by decide) rfl (mem_g 233 (by decide +kernel) rfl) ml_X10_48 (Nat.le_of_ble_eq_true rfl) (by decide) rfl (k_X2 (x9 := 53) (n := 54) rfl rfl (by decide +kernel) (by decide) (by decide) (by decide +kernel)) ?_
  refine n_putR dX10_init_89 fl_X10_49 rfl rfl (x9 := 0) rfl (by decide) (by decide) rfl (fun C T N h => by cases h; rfl) (fun C T N h => by cases h; exact mem_g 290 (by decide +kernel) rfl) rfl rfl ?_
  refine n_aload_n (x := 0) dX10_init_92 rfl ?_
  refine n_iconst (v := 4) dX10_init_93 (by decide) ?_
  refine n_anew (ty := 0) (c9 := 57) (bk := 180) (bs := 1670) (N' := 4) (i := 1) (C9 := "MurmurSheds$Mark") dX10_init_94 rfl (Or.inl ⟨rfl, rfl⟩) (fun _ => rfl) rfl (by decide) (by decide) (by decide) (by decide) (mem_g 253 (by decide +kernel) rfl) (fun U h => h.1) ?_
  refine n_putR dX10_init_97 fl_X10_55 rfl rfl (x9 := 0) rfl (by decide) (by decide) rfl (fun C T N h => by cases h; rfl) (fun C T N h => by cases h; exact mem_g 291 (by decide +kernel) rfl) rfl rfl ?_
  refine n_aload_n (x := 0) dX10_init_100 rfl ?_
  refine n_bipush (v := 16) dX10_init_101 (by decide) ?_
  refine n_anew (ty := 0) (c9 := 58) (bk := 179) (bs := 1654) (N' := 16) (i := 2) (C9 := "MurmurSheds$Standing") dX10_init_103 rfl (Or.inr ⟨rfl, rfl⟩) (fun _ => rfl) rfl (by decide) (by decide) (by decide) (by decide) (mem_g 188 (by decide +kernel) rfl) (fun U h => h.2) ?_
  refine n_putR dX10_init_106 fl_X10_59 rfl rfl (x9 := 0) rfl (by decide) (by decide) rfl (fun C T N h => by cases h; rfl) (fun C T N h => by cases h; exact mem_g 292 (by decide +kernel) rfl) rfl rfl ?_
  refine n_aload_n (x := 0) dX10_init_109 rfl ?_
  refine n_bipush (v := 120) dX10_init_110 (by decide) ?_
  refine n_newarr (c9 := 59) (bk := 178) (bs := 1534) (N' := 120) (i := 3) dX10_init_112 rfl rfl (by decide) (by decide) (by decide) (by decide) ac_int ?_
  refine n_putR dX10_init_114 fl_X10_63 rfl rfl (x9 := 0) rfl (by decide) (by decide) rfl (fun C T N h => by cases h; rfl) (fun C T N h => by cases h; exact mem_g 295 (by decide +kernel) rfl) rfl rfl ?_
  refine n_aload_n (x := 0) dX10_init_117 rfl ?_
  refine n_iconst (v := 5) dX10_init_118 (by decide) ?_
  refine n_newarr (c9 := 60) (bk := 177) (bs := 1529) (N' := 5) (i := 4) dX10_init_119 rfl rfl (by decide) (by decide) (by decide) (by decide) ac_int ?_
  refine n_putR dX10_init_121 fl_X10_67 rfl rfl (x9 := 0) rfl (by decide) (by decide) rfl (fun C T N h => by cases h; rfl) (fun C T N h => by cases h; exact mem_g 296 (by decide +kernel) rfl) rfl rfl ?_
  refine n_aload_n (x := 0) dX10_init_124 rfl ?_
  refine n_iconst (v := 5) dX10_init_125 (by decide) ?_
  refine n_newarr (c9 := 61) (bk := 176) (bs := 1524) (N' := 5) (i := 5) dX10_init_126 rfl rfl (by decide) (by decide) (by decide) (by decide) ac_int ?_
  refine n_putR dX10_init_128 fl_X10_70 rfl rfl (x9 := 0) rfl (by decide) (by decide) rfl (fun C T N h => by cases h; rfl) (fun C T N h => by cases h; exact mem_g 297 (by decide +kernel) rfl) rfl rfl ?_
  refine n_iconst (v := 0) dX10_init_131 (by decide) ?_
  refine n_istore_n dX10_init_132 (by decide) rfl ?_
  refine n_iload_n (x := 0) dX10_init_133 rfl ?_
  refine n_aload_n (x := 0) dX10_init_134 rfl ?_
  refine n_getR (j := 1) dX10_init_135 fl_X10_55 rfl rfl (x9 := 0) rfl (by decide) (fun C T N h => by cases h; exact mem_g 291 (by decide +kernel) rfl) (by rfl) ?_
  refine n_alen (v := 4) dX10_init_138 rfl (Or.inl ⟨rfl, rfl⟩) (x9 := 57) rfl (by decide) (by decide) ?_
  refine n_icmp_ge (tgt := 161) dX10_init_139 (by decide) (fun c => absurd (by decide) c) (fun _ => ?_)
  refine n_aload_n (x := 0) dX10_init_142 rfl ?_
  refine n_getR (j := 1) dX10_init_143 fl_X10_55 rfl rfl (x9 := 0) rfl (by decide) (fun C T N h => by cases h; exact mem_g 291 (by decide +kernel) rfl) (by rfl) ?_
  refine n_iload_n (x := 0) dX10_init_146 rfl ?_
  refine n_new (c9 := 62) (bk := 175) (bs := 1520) (i := 62) dX10_init_147 kc1 rfl rfl rfl (by decide) (mem_g 253 (by decide +kernel) rfl) (mem_g 256 (by decide +kernel) rfl) (mem_g 10 (by decide +kernel) rfl) ?_
  refine n_dup dX10_init_150 rfl ?_
  refine n_init (c9 := 63) (c2 := 78) (bk := 160) (bs := 1323) (mc := 15) (ms := 197) (mi' := mX1_init) (d' := 2) (i := 62) dX10_init_151 (mem_g 259 (by decide +kernel) rfl) rfl (mem_g 10 (by decide +kernel) rfl) ⟨by decide +kernel, by decide +kernel, by decide +kernel⟩ (by decide) rfl (mem_g 258 (by decide +kernel) rfl) ml_X10_73 (Nat.le_of_ble_eq_true rfl) (by decide) rfl (k_X1 (x9 := 62) (n := 63) rfl rfl rfl rfl rfl rfl rfl rfl rfl rfl rfl rfl rfl rfl rfl rfl rfl (by decide) (by decide) (by decide +kernel)) ?_
  refine n_aast (j := 0) (y9 := 62) (C9 := "MurmurSheds$Mark") dX10_init_154 rfl (Or.inl ⟨rfl, rfl⟩) (fun _ => rfl) (x9 := 57) rfl (by decide) rfl (by decide) rfl rfl (by decide) (by unfold vp_in; decide) (fun _ => rfl) ?_
  refine n_iinc (x := 0) (v := 1) dX10_init_155 rfl (by decide) (by decide) rfl ?_
  refine n_goto (tgt := 133) dX10_init_158 (by decide) ?_
  refine n_iload_n (x := 1) dX10_init_133 rfl ?_
  refine n_aload_n (x := 0) dX10_init_134 rfl ?_
  refine n_getR (j := 1) dX10_init_135 fl_X10_55 rfl rfl (x9 := 0) rfl (by decide) (fun C T N h => by cases h; exact mem_g 291 (by decide +kernel) rfl) (by rfl) ?_
  refine n_alen (v := 4) dX10_init_138 rfl (Or.inl ⟨rfl, rfl⟩) (x9 := 57) rfl (by decide) (by decide) ?_
  refine n_icmp_ge (tgt := 161) dX10_init_139 (by decide) (fun c => absurd (by decide) c) (fun _ => ?_)
  refine n_aload_n (x := 0) dX10_init_142 rfl ?_
  refine n_getR (j := 1) dX10_init_143 fl_X10_55 rfl rfl (x9 := 0) rfl (by decide) (fun C T N h => by cases h; exact mem_g 291 (by decide +kernel) rfl) (by rfl) ?_
  refine n_iload_n (x := 1) dX10_init_146 rfl ?_
  refine n_new (c9 := 78) (bk := 159) (bs := 1319) (i := 78) dX10_init_147 kc1 rfl rfl rfl (by decide) (mem_g 253 (by decide +kernel) rfl) (mem_g 256 (by decide +kernel) rfl) (mem_g 10 (by decide +kernel) rfl) ?_
  refine n_dup dX10_init_150 rfl ?_
  refine n_init (c9 := 79) (c2 := 94) (bk := 144) (bs := 1122) (mc := 15) (ms := 197) (mi' := mX1_init) (d' := 2) (i := 78) dX10_init_151 (mem_g 259 (by decide +kernel) rfl) rfl (mem_g 10 (by decide +kernel) rfl) ⟨by decide +kernel, by decide +kernel, by decide +kernel⟩ (by decide) rfl (mem_g 258 (by decide +kernel) rfl) ml_X10_73 (Nat.le_of_ble_eq_true rfl) (by decide) rfl (k_X1 (x9 := 78) (n := 79) rfl rfl rfl rfl rfl rfl rfl rfl rfl rfl rfl rfl rfl rfl rfl rfl rfl (by decide) (by decide) (by decide +kernel)) ?_
  refine n_aast (j := 1) (y9 := 78) (C9 := "MurmurSheds$Mark") dX10_init_154 rfl (Or.inl ⟨rfl, rfl⟩) (fun _ => rfl) (x9 := 57) rfl (by decide) rfl (by decide) rfl rfl (by decide) (by unfold vp_in; decide) (fun _ => rfl) ?_
  refine n_iinc (x := 1) (v := 2) dX10_init_155 rfl (by decide) (by decide) rfl ?_
  refine n_goto (tgt := 133) dX10_init_158 (by decide) ?_
  refine n_iload_n (x := 2) dX10_init_133 rfl ?_
  refine n_aload_n (x := 0) dX10_init_134 rfl ?_
  refine n_getR (j := 1) dX10_init_135 fl_X10_55 rfl rfl (x9 := 0) rfl (by decide) (fun C T N h => by cases h; exact mem_g 291 (by decide +kernel) rfl) (by rfl) ?_
  refine n_alen (v := 4) dX10_init_138 rfl (Or.inl ⟨rfl, rfl⟩) (x9 := 57) rfl (by decide) (by decide) ?_
  refine n_icmp_ge (tgt := 161) dX10_init_139 (by decide) (fun c => absurd (by decide) c) (fun _ => ?_)
  refine n_aload_n (x := 0) dX10_init_142 rfl ?_
  refine n_getR (j := 1) dX10_init_143 fl_X10_55 rfl rfl (x9 := 0) rfl (by decide) (fun C T N h => by cases h; exact mem_g 291 (by decide +kernel) rfl) (by rfl) ?_
  refine n_iload_n (x := 2) dX10_init_146 rfl ?_
  refine n_new (c9 := 94) (bk := 143) (bs := 1118) (i := 94) dX10_init_147 kc1 rfl rfl rfl (by decide) (mem_g 253 (by decide +kernel) rfl) (mem_g 256 (by decide +kernel) rfl) (mem_g 10 (by decide +kernel) rfl) ?_
  refine n_dup dX10_init_150 rfl ?_
  refine n_init (c9 := 95) (c2 := 110) (bk := 128) (bs := 921) (mc := 15) (ms := 197) (mi' := mX1_init) (d' := 2) (i := 94) dX10_init_151 (mem_g 259 (by decide +kernel) rfl) rfl (mem_g 10 (by decide +kernel) rfl) ⟨by decide +kernel, by decide +kernel, by decide +kernel⟩ (by decide) rfl (mem_g 258 (by decide +kernel) rfl) ml_X10_73 (Nat.le_of_ble_eq_true rfl) (by decide) rfl (k_X1 (x9 := 94) (n := 95) rfl rfl rfl rfl rfl rfl rfl rfl rfl rfl rfl rfl rfl rfl rfl rfl rfl (by decide) (by decide) (by decide +kernel)) ?_
  refine n_aast (j := 2) (y9 := 94) (C9 := "MurmurSheds$Mark") dX10_init_154 rfl (Or.inl ⟨rfl, rfl⟩) (fun _ => rfl) (x9 := 57) rfl (by decide) rfl (by decide) rfl rfl (by decide) (by unfold vp_in; decide) (fun _ => rfl) ?_
  refine n_iinc (x := 2) (v := 3) dX10_init_155 rfl (by decide) (by decide) rfl ?_
  refine n_goto (tgt := 133) dX10_init_158 (by decide) ?_
  refine n_iload_n (x := 3) dX10_init_133 rfl ?_
  refine n_aload_n (x := 0) dX10_init_134 rfl ?_
  refine n_getR (j := 1) dX10_init_135 fl_X10_55 rfl rfl (x9 := 0) rfl (by decide) (fun C T N h => by cases h; exact mem_g 291 (by decide +kernel) rfl) (by rfl) ?_
  refine n_alen (v := 4) dX10_init_138 rfl (Or.inl ⟨rfl, rfl⟩) (x9 := 57) rfl (by decide) (by decide) ?_
  refine n_icmp_ge (tgt := 161) dX10_init_139 (by decide) (fun c => absurd (by decide) c) (fun _ => ?_)
  refine n_aload_n (x := 0) dX10_init_142 rfl ?_
  refine n_getR (j := 1) dX10_init_143 fl_X10_55 rfl rfl (x9 := 0) rfl (by decide) (fun C T N h => by cases h; exact mem_g 291 (by decide +kernel) rfl) (by rfl) ?_
  refine n_iload_n (x := 3) dX10_init_146 rfl ?_
  refine n_new (c9 := 110) (bk := 127) (bs := 917) (i := 110) dX10_init_147 kc1 rfl rfl rfl (by decide) (mem_g 253 (by decide +kernel) rfl) (mem_g 256 (by decide +kernel) rfl) (mem_g 10 (by decide +kernel) rfl) ?_
  refine n_dup dX10_init_150 rfl ?_
  refine n_init (c9 := 111) (c2 := 126) (bk := 112) (bs := 720) (mc := 15) (ms := 197) (mi' := mX1_init) (d' := 2) (i := 110) dX10_init_151 (mem_g 259 (by decide +kernel) rfl) rfl (mem_g 10 (by decide +kernel) rfl) ⟨by decide +kernel, by decide +kernel, by decide +kernel⟩ (by decide) rfl (mem_g 258 (by decide +kernel) rfl) ml_X10_73 (Nat.le_of_ble_eq_true rfl) (by decide) rfl (k_X1 (x9 := 110) (n := 111) rfl rfl rfl rfl rfl rfl rfl rfl rfl rfl rfl rfl rfl rfl rfl rfl rfl (by decide) (by decide) (by decide +kernel)) ?_
  refine n_aast (j := 3) (y9 := 110) (C9 := "MurmurSheds$Mark") dX10_init_154 rfl (Or.inl ⟨rfl, rfl⟩) (fun _ => rfl) (x9 := 57) rfl (by decide) rfl (by decide) rfl rfl (by decide) (by unfold vp_in; decide) (fun _ => rfl) ?_
  refine n_iinc (x := 3) (v := 4) dX10_init_155 rfl (by decide) (by decide) rfl ?_
  refine n_goto (tgt := 133) dX10_init_158 (by decide) ?_
  refine n_iload_n (x := 4) dX10_init_133 rfl ?_
  refine n_aload_n (x := 0) dX10_init_134 rfl ?_
  refine n_getR (j := 1) dX10_init_135 fl_X10_55 rfl rfl (x9 := 0) rfl (by decide) (fun C T N h => by cases h; exact mem_g 291 (by decide +kernel) rfl) (by rfl) ?_
  refine n_alen (v := 4) dX10_init_138 rfl (Or.inl ⟨rfl, rfl⟩) (x9 := 57) rfl (by decide) (by decide) ?_
  refine n_icmp_ge (tgt := 161) dX10_init_139 (by decide) (fun _ => ?_) (fun c => absurd c (by decide))
  refine n_iconst (v := 0) dX10_init_161 (by decide) ?_
  refine n_istore_n dX10_init_162 (by decide) rfl ?_
  refine n_iload_n (x := 0) dX10_init_163 rfl ?_
  refine n_aload_n (x := 0) dX10_init_164 rfl ?_
  refine n_getR (j := 2) dX10_init_165 fl_X10_59 rfl rfl (x9 := 0) rfl (by decide) (fun C T N h => by cases h; exact mem_g 292 (by decide +kernel) rfl) (by rfl) ?_
  refine n_alen (v := 16) dX10_init_168 rfl (Or.inr ⟨rfl, rfl⟩) (x9 := 58) rfl (by decide) (by decide) ?_
  refine n_icmp_ge (tgt := 191) dX10_init_169 (by decide) (fun c => absurd (by decide) c) (fun _ => ?_)
  refine n_aload_n (x := 0) dX10_init_172 rfl ?_
  refine n_getR (j := 2) dX10_init_173 fl_X10_59 rfl rfl (x9 := 0) rfl (by decide) (fun C T N h => by cases h; exact mem_g 292 (by decide +kernel) rfl) (by rfl) ?_
  refine n_iload_n (x := 0) dX10_init_176 rfl ?_
  refine n_new (c9 := 126) (bk := 111) (bs := 711) (i := 126) dX10_init_177 kc3 rfl rfl rfl (by decide) (mem_g 188 (by decide +kernel) rfl) (mem_g 189 (by decide +kernel) rfl) (mem_g 8 (by decide +kernel) rfl) ?_
  refine n_dup dX10_init_180 rfl ?_
  refine n_init (c9 := 127) (c2 := 133) (bk := 105) (bs := 675) (mc := 6) (ms := 36) (mi' := mX3_init) (d' := 1) (i := 126) dX10_init_181 (mem_g 192 (by decide +kernel) rfl) rfl (mem_g 8 (by decide +kernel) rfl) ⟨by decide +kernel, by decide +kernel, by decide +kernel⟩ (by decide) rfl (mem_g 191 (by decide +kernel) rfl) ml_X10_38 (Nat.le_of_ble_eq_true rfl) (by decide) rfl (k_X3 (x9 := 126) (n := 127) rfl rfl (by decide +kernel) (by decide) (by decide) (by decide +kernel)) ?_
  refine n_aast (j := 0) (y9 := 126) (C9 := "MurmurSheds$Standing") dX10_init_184 rfl (Or.inr ⟨rfl, rfl⟩) (fun _ => rfl) (x9 := 58) rfl (by decide) rfl (by decide) rfl rfl (by decide) (by unfold vp_in; decide) (fun _ => rfl) ?_
  refine n_iinc (x := 0) (v := 1) dX10_init_185 rfl (by decide) (by decide) rfl ?_
  refine n_goto (tgt := 163) dX10_init_188 (by decide) ?_
  refine n_iload_n (x := 1) dX10_init_163 rfl ?_
  refine n_aload_n (x := 0) dX10_init_164 rfl ?_
  refine n_getR (j := 2) dX10_init_165 fl_X10_59 rfl rfl (x9 := 0) rfl (by decide) (fun C T N h => by cases h; exact mem_g 292 (by decide +kernel) rfl) (by rfl) ?_
  refine n_alen (v := 16) dX10_init_168 rfl (Or.inr ⟨rfl, rfl⟩) (x9 := 58) rfl (by decide) (by decide) ?_
  refine n_icmp_ge (tgt := 191) dX10_init_169 (by decide) (fun c => absurd (by decide) c) (fun _ => ?_)
  refine n_aload_n (x := 0) dX10_init_172 rfl ?_
  refine n_getR (j := 2) dX10_init_173 fl_X10_59 rfl rfl (x9 := 0) rfl (by decide) (fun C T N h => by cases h; exact mem_g 292 (by decide +kernel) rfl) (by rfl) ?_
  refine n_iload_n (x := 1) dX10_init_176 rfl ?_
  refine n_new (c9 := 133) (bk := 104) (bs := 666) (i := 133) dX10_init_177 kc3 rfl rfl rfl (by decide) (mem_g 188 (by decide +kernel) rfl) (mem_g 189 (by decide +kernel) rfl) (mem_g 8 (by decide +kernel) rfl) ?_
  refine n_dup dX10_init_180 rfl ?_
  refine n_init (c9 := 134) (c2 := 140) (bk := 98) (bs := 630) (mc := 6) (ms := 36) (mi' := mX3_init) (d' := 1) (i := 133) dX10_init_181 (mem_g 192 (by decide +kernel) rfl) rfl (mem_g 8 (by decide +kernel) rfl) ⟨by decide +kernel, by decide +kernel, by decide +kernel⟩ (by decide) rfl (mem_g 191 (by decide +kernel) rfl) ml_X10_38 (Nat.le_of_ble_eq_true rfl) (by decide) rfl (k_X3 (x9 := 133) (n := 134) rfl rfl (by decide +kernel) (by decide) (by decide) (by decide +kernel)) ?_
  refine n_aast (j := 1) (y9 := 133) (C9 := "MurmurSheds$Standing") dX10_init_184 rfl (Or.inr ⟨rfl, rfl⟩) (fun _ => rfl) (x9 := 58) rfl (by decide) rfl (by decide) rfl rfl (by decide) (by unfold vp_in; decide) (fun _ => rfl) ?_
  refine n_iinc (x := 1) (v := 2) dX10_init_185 rfl (by decide) (by decide) rfl ?_
  refine n_goto (tgt := 163) dX10_init_188 (by decide) ?_
  refine n_iload_n (x := 2) dX10_init_163 rfl ?_
  refine n_aload_n (x := 0) dX10_init_164 rfl ?_
  refine n_getR (j := 2) dX10_init_165 fl_X10_59 rfl rfl (x9 := 0) rfl (by decide) (fun C T N h => by cases h; exact mem_g 292 (by decide +kernel) rfl) (by rfl) ?_
  refine n_alen (v := 16) dX10_init_168 rfl (Or.inr ⟨rfl, rfl⟩) (x9 := 58) rfl (by decide) (by decide) ?_
  refine n_icmp_ge (tgt := 191) dX10_init_169 (by decide) (fun c => absurd (by decide) c) (fun _ => ?_)
  refine n_aload_n (x := 0) dX10_init_172 rfl ?_
  refine n_getR (j := 2) dX10_init_173 fl_X10_59 rfl rfl (x9 := 0) rfl (by decide) (fun C T N h => by cases h; exact mem_g 292 (by decide +kernel) rfl) (by rfl) ?_
  refine n_iload_n (x := 2) dX10_init_176 rfl ?_
  refine n_new (c9 := 140) (bk := 97) (bs := 621) (i := 140) dX10_init_177 kc3 rfl rfl rfl (by decide) (mem_g 188 (by decide +kernel) rfl) (mem_g 189 (by decide +kernel) rfl) (mem_g 8 (by decide +kernel) rfl) ?_
  refine n_dup dX10_init_180 rfl ?_
  refine n_init (c9 := 141) (c2 := 147) (bk := 91) (bs := 585) (mc := 6) (ms := 36) (mi' := mX3_init) (d' := 1) (i := 140) dX10_init_181 (mem_g 192 (by decide +kernel) rfl) rfl (mem_g 8 (by decide +kernel) rfl) ⟨by decide +kernel, by decide +kernel, by decide +kernel⟩ (by decide) rfl (mem_g 191 (by decide +kernel) rfl) ml_X10_38 (Nat.le_of_ble_eq_true rfl) (by decide) rfl (k_X3 (x9 := 140) (n := 141) rfl rfl (by decide +kernel) (by decide) (by decide) (by decide +kernel)) ?_
  refine n_aast (j := 2) (y9 := 140) (C9 := "MurmurSheds$Standing") dX10_init_184 rfl (Or.inr ⟨rfl, rfl⟩) (fun _ => rfl) (x9 := 58) rfl (by decide) rfl (by decide) rfl rfl (by decide) (by unfold vp_in; decide) (fun _ => rfl) ?_
  refine n_iinc (x := 2) (v := 3) dX10_init_185 rfl (by decide) (by decide) rfl ?_
  refine n_goto (tgt := 163) dX10_init_188 (by decide) ?_
  refine n_iload_n (x := 3) dX10_init_163 rfl ?_
  refine n_aload_n (x := 0) dX10_init_164 rfl ?_
  refine n_getR (j := 2) dX10_init_165 fl_X10_59 rfl rfl (x9 := 0) rfl (by decide) (fun C T N h => by cases h; exact mem_g 292 (by decide +kernel) rfl) (by rfl) ?_
  refine n_alen (v := 16) dX10_init_168 rfl (Or.inr ⟨rfl, rfl⟩) (x9 := 58) rfl (by decide) (by decide) ?_
  refine n_icmp_ge (tgt := 191) dX10_init_169 (by decide) (fun c => absurd (by decide) c) (fun _ => ?_)
  refine n_aload_n (x := 0) dX10_init_172 rfl ?_
  refine n_getR (j := 2) dX10_init_173 fl_X10_59 rfl rfl (x9 := 0) rfl (by decide) (fun C T N h => by cases h; exact mem_g 292 (by decide +kernel) rfl) (by rfl) ?_
  refine n_iload_n (x := 3) dX10_init_176 rfl ?_
  refine n_new (c9 := 147) (bk := 90) (bs := 576) (i := 147) dX10_init_177 kc3 rfl rfl rfl (by decide) (mem_g 188 (by decide +kernel) rfl) (mem_g 189 (by decide +kernel) rfl) (mem_g 8 (by decide +kernel) rfl) ?_
  refine n_dup dX10_init_180 rfl ?_
  refine n_init (c9 := 148) (c2 := 154) (bk := 84) (bs := 540) (mc := 6) (ms := 36) (mi' := mX3_init) (d' := 1) (i := 147) dX10_init_181 (mem_g 192 (by decide +kernel) rfl) rfl (mem_g 8 (by decide +kernel) rfl) ⟨by decide +kernel, by decide +kernel, by decide +kernel⟩ (by decide) rfl (mem_g 191 (by decide +kernel) rfl) ml_X10_38 (Nat.le_of_ble_eq_true rfl) (by decide) rfl (k_X3 (x9 := 147) (n := 148) rfl rfl (by decide +kernel) (by decide) (by decide) (by decide +kernel)) ?_
  refine n_aast (j := 3) (y9 := 147) (C9 := "MurmurSheds$Standing") dX10_init_184 rfl (Or.inr ⟨rfl, rfl⟩) (fun _ => rfl) (x9 := 58) rfl (by decide) rfl (by decide) rfl rfl (by decide) (by unfold vp_in; decide) (fun _ => rfl) ?_
  refine n_iinc (x := 3) (v := 4) dX10_init_185 rfl (by decide) (by decide) rfl ?_
  refine n_goto (tgt := 163) dX10_init_188 (by decide) ?_
  refine n_iload_n (x := 4) dX10_init_163 rfl ?_
  refine n_aload_n (x := 0) dX10_init_164 rfl ?_
  refine n_getR (j := 2) dX10_init_165 fl_X10_59 rfl rfl (x9 := 0) rfl (by decide) (fun C T N h => by cases h; exact mem_g 292 (by decide +kernel) rfl) (by rfl) ?_
  refine n_alen (v := 16) dX10_init_168 rfl (Or.inr ⟨rfl, rfl⟩) (x9 := 58) rfl (by decide) (by decide) ?_
  refine n_icmp_ge (tgt := 191) dX10_init_169 (by decide) (fun c => absurd (by decide) c) (fun _ => ?_)
  refine n_aload_n (x := 0) dX10_init_172 rfl ?_
  refine n_getR (j := 2) dX10_init_173 fl_X10_59 rfl rfl (x9 := 0) rfl (by decide) (fun C T N h => by cases h; exact mem_g 292 (by decide +kernel) rfl) (by rfl) ?_
  refine n_iload_n (x := 4) dX10_init_176 rfl ?_
  refine n_new (c9 := 154) (bk := 83) (bs := 531) (i := 154) dX10_init_177 kc3 rfl rfl rfl (by decide) (mem_g 188 (by decide +kernel) rfl) (mem_g 189 (by decide +kernel) rfl) (mem_g 8 (by decide +kernel) rfl) ?_
  refine n_dup dX10_init_180 rfl ?_
  refine n_init (c9 := 155) (c2 := 161) (bk := 77) (bs := 495) (mc := 6) (ms := 36) (mi' := mX3_init) (d' := 1) (i := 154) dX10_init_181 (mem_g 192 (by decide +kernel) rfl) rfl (mem_g 8 (by decide +kernel) rfl) ⟨by decide +kernel, by decide +kernel, by decide +kernel⟩ (by decide) rfl (mem_g 191 (by decide +kernel) rfl) ml_X10_38 (Nat.le_of_ble_eq_true rfl) (by decide) rfl (k_X3 (x9 := 154) (n := 155) rfl rfl (by decide +kernel) (by decide) (by decide) (by decide +kernel)) ?_
  refine n_aast (j := 4) (y9 := 154) (C9 := "MurmurSheds$Standing") dX10_init_184 rfl (Or.inr ⟨rfl, rfl⟩) (fun _ => rfl) (x9 := 58) rfl (by decide) rfl (by decide) rfl rfl (by decide) (by unfold vp_in; decide) (fun _ => rfl) ?_
  refine n_iinc (x := 4) (v := 5) dX10_init_185 rfl (by decide) (by decide) rfl ?_
  refine n_goto (tgt := 163) dX10_init_188 (by decide) ?_
  refine n_iload_n (x := 5) dX10_init_163 rfl ?_
  refine n_aload_n (x := 0) dX10_init_164 rfl ?_
  refine n_getR (j := 2) dX10_init_165 fl_X10_59 rfl rfl (x9 := 0) rfl (by decide) (fun C T N h => by cases h; exact mem_g 292 (by decide +kernel) rfl) (by rfl) ?_
  refine n_alen (v := 16) dX10_init_168 rfl (Or.inr ⟨rfl, rfl⟩) (x9 := 58) rfl (by decide) (by decide) ?_
  refine n_icmp_ge (tgt := 191) dX10_init_169 (by decide) (fun c => absurd (by decide) c) (fun _ => ?_)
  refine n_aload_n (x := 0) dX10_init_172 rfl ?_
  refine n_getR (j := 2) dX10_init_173 fl_X10_59 rfl rfl (x9 := 0) rfl (by decide) (fun C T N h => by cases h; exact mem_g 292 (by decide +kernel) rfl) (by rfl) ?_
  refine n_iload_n (x := 5) dX10_init_176 rfl ?_
  refine n_new (c9 := 161) (bk := 76) (bs := 486) (i := 161) dX10_init_177 kc3 rfl rfl rfl (by decide) (mem_g 188 (by decide +kernel) rfl) (mem_g 189 (by decide +kernel) rfl) (mem_g 8 (by decide +kernel) rfl) ?_
  refine n_dup dX10_init_180 rfl ?_
  refine n_init (c9 := 162) (c2 := 168) (bk := 70) (bs := 450) (mc := 6) (ms := 36) (mi' := mX3_init) (d' := 1) (i := 161) dX10_init_181 (mem_g 192 (by decide +kernel) rfl) rfl (mem_g 8 (by decide +kernel) rfl) ⟨by decide +kernel, by decide +kernel, by decide +kernel⟩ (by decide) rfl (mem_g 191 (by decide +kernel) rfl) ml_X10_38 (Nat.le_of_ble_eq_true rfl) (by decide) rfl (k_X3 (x9 := 161) (n := 162) rfl rfl (by decide +kernel) (by decide) (by decide) (by decide +kernel)) ?_
  refine n_aast (j := 5) (y9 := 161) (C9 := "MurmurSheds$Standing") dX10_init_184 rfl (Or.inr ⟨rfl, rfl⟩) (fun _ => rfl) (x9 := 58) rfl (by decide) rfl (by decide) rfl rfl (by decide) (by unfold vp_in; decide) (fun _ => rfl) ?_
  refine n_iinc (x := 5) (v := 6) dX10_init_185 rfl (by decide) (by decide) rfl ?_
  refine n_goto (tgt := 163) dX10_init_188 (by decide) ?_
  refine n_iload_n (x := 6) dX10_init_163 rfl ?_
  refine n_aload_n (x := 0) dX10_init_164 rfl ?_
  refine n_getR (j := 2) dX10_init_165 fl_X10_59 rfl rfl (x9 := 0) rfl (by decide) (fun C T N h => by cases h; exact mem_g 292 (by decide +kernel) rfl) (by rfl) ?_
  refine n_alen (v := 16) dX10_init_168 rfl (Or.inr ⟨rfl, rfl⟩) (x9 := 58) rfl (by decide) (by decide) ?_
  refine n_icmp_ge (tgt := 191) dX10_init_169 (by decide) (fun c => absurd (by decide) c) (fun _ => ?_)
  refine n_aload_n (x := 0) dX10_init_172 rfl ?_
  refine n_getR (j := 2) dX10_init_173 fl_X10_59 rfl rfl (x9 := 0) rfl (by decide) (fun C T N h => by cases h; exact mem_g 292 (by decide +kernel) rfl) (by rfl) ?_
  refine n_iload_n (x := 6) dX10_init_176 rfl ?_
  refine n_new (c9 := 168) (bk := 69) (bs := 441) (i := 168) dX10_init_177 kc3 rfl rfl rfl (by decide) (mem_g 188 (by decide +kernel) rfl) (mem_g 189 (by decide +kernel) rfl) (mem_g 8 (by decide +kernel) rfl) ?_
  refine n_dup dX10_init_180 rfl ?_
  refine n_init (c9 := 169) (c2 := 175) (bk := 63) (bs := 405) (mc := 6) (ms := 36) (mi' := mX3_init) (d' := 1) (i := 168) dX10_init_181 (mem_g 192 (by decide +kernel) rfl) rfl (mem_g 8 (by decide +kernel) rfl) ⟨by decide +kernel, by decide +kernel, by decide +kernel⟩ (by decide) rfl (mem_g 191 (by decide +kernel) rfl) ml_X10_38 (Nat.le_of_ble_eq_true rfl) (by decide) rfl (k_X3 (x9 := 168) (n := 169) rfl rfl (by decide +kernel) (by decide) (by decide) (by decide +kernel)) ?_
  refine n_aast (j := 6) (y9 := 168) (C9 := "MurmurSheds$Standing") dX10_init_184 rfl (Or.inr ⟨rfl, rfl⟩) (fun _ => rfl) (x9 := 58) rfl (by decide) rfl (by decide) rfl rfl (by decide) (by unfold vp_in; decide) (fun _ => rfl) ?_
  refine n_iinc (x := 6) (v := 7) dX10_init_185 rfl (by decide) (by decide) rfl ?_
  refine n_goto (tgt := 163) dX10_init_188 (by decide) ?_
  refine n_iload_n (x := 7) dX10_init_163 rfl ?_
  refine n_aload_n (x := 0) dX10_init_164 rfl ?_
  refine n_getR (j := 2) dX10_init_165 fl_X10_59 rfl rfl (x9 := 0) rfl (by decide) (fun C T N h => by cases h; exact mem_g 292 (by decide +kernel) rfl) (by rfl) ?_
  refine n_alen (v := 16) dX10_init_168 rfl (Or.inr ⟨rfl, rfl⟩) (x9 := 58) rfl (by decide) (by decide) ?_
  refine n_icmp_ge (tgt := 191) dX10_init_169 (by decide) (fun c => absurd (by decide) c) (fun _ => ?_)
  refine n_aload_n (x := 0) dX10_init_172 rfl ?_
  refine n_getR (j := 2) dX10_init_173 fl_X10_59 rfl rfl (x9 := 0) rfl (by decide) (fun C T N h => by cases h; exact mem_g 292 (by decide +kernel) rfl) (by rfl) ?_
  refine n_iload_n (x := 7) dX10_init_176 rfl ?_
  refine n_new (c9 := 175) (bk := 62) (bs := 396) (i := 175) dX10_init_177 kc3 rfl rfl rfl (by decide) (mem_g 188 (by decide +kernel) rfl) (mem_g 189 (by decide +kernel) rfl) (mem_g 8 (by decide +kernel) rfl) ?_
  refine n_dup dX10_init_180 rfl ?_
  refine n_init (c9 := 176) (c2 := 182) (bk := 56) (bs := 360) (mc := 6) (ms := 36) (mi' := mX3_init) (d' := 1) (i := 175) dX10_init_181 (mem_g 192 (by decide +kernel) rfl) rfl (mem_g 8 (by decide +kernel) rfl) ⟨by decide +kernel, by decide +kernel, by decide +kernel⟩ (by decide) rfl (mem_g 191 (by decide +kernel) rfl) ml_X10_38 (Nat.le_of_ble_eq_true rfl) (by decide) rfl (k_X3 (x9 := 175) (n := 176) rfl rfl (by decide +kernel) (by decide) (by decide) (by decide +kernel)) ?_
  refine n_aast (j := 7) (y9 := 175) (C9 := "MurmurSheds$Standing") dX10_init_184 rfl (Or.inr ⟨rfl, rfl⟩) (fun _ => rfl) (x9 := 58) rfl (by decide) rfl (by decide) rfl rfl (by decide) (by unfold vp_in; decide) (fun _ => rfl) ?_
  refine n_iinc (x := 7) (v := 8) dX10_init_185 rfl (by decide) (by decide) rfl ?_
  refine n_goto (tgt := 163) dX10_init_188 (by decide) ?_
  refine n_iload_n (x := 8) dX10_init_163 rfl ?_
  refine n_aload_n (x := 0) dX10_init_164 rfl ?_
  refine n_getR (j := 2) dX10_init_165 fl_X10_59 rfl rfl (x9 := 0) rfl (by decide) (fun C T N h => by cases h; exact mem_g 292 (by decide +kernel) rfl) (by rfl) ?_
  refine n_alen (v := 16) dX10_init_168 rfl (Or.inr ⟨rfl, rfl⟩) (x9 := 58) rfl (by decide) (by decide) ?_
  refine n_icmp_ge (tgt := 191) dX10_init_169 (by decide) (fun c => absurd (by decide) c) (fun _ => ?_)
  refine n_aload_n (x := 0) dX10_init_172 rfl ?_
  refine n_getR (j := 2) dX10_init_173 fl_X10_59 rfl rfl (x9 := 0) rfl (by decide) (fun C T N h => by cases h; exact mem_g 292 (by decide +kernel) rfl) (by rfl) ?_
  refine n_iload_n (x := 8) dX10_init_176 rfl ?_
  refine n_new (c9 := 182) (bk := 55) (bs := 351) (i := 182) dX10_init_177 kc3 rfl rfl rfl (by decide) (mem_g 188 (by decide +kernel) rfl) (mem_g 189 (by decide +kernel) rfl) (mem_g 8 (by decide +kernel) rfl) ?_
  refine n_dup dX10_init_180 rfl ?_
  refine n_init (c9 := 183) (c2 := 189) (bk := 49) (bs := 315) (mc := 6) (ms := 36) (mi' := mX3_init) (d' := 1) (i := 182) dX10_init_181 (mem_g 192 (by decide +kernel) rfl) rfl (mem_g 8 (by decide +kernel) rfl) ⟨by decide +kernel, by decide +kernel, by decide +kernel⟩ (by decide) rfl (mem_g 191 (by decide +kernel) rfl) ml_X10_38 (Nat.le_of_ble_eq_true rfl) (by decide) rfl (k_X3 (x9 := 182) (n := 183) rfl rfl (by decide +kernel) (by decide) (by decide) (by decide +kernel)) ?_
  refine n_aast (j := 8) (y9 := 182) (C9 := "MurmurSheds$Standing") dX10_init_184 rfl (Or.inr ⟨rfl, rfl⟩) (fun _ => rfl) (x9 := 58) rfl (by decide) rfl (by decide) rfl rfl (by decide) (by unfold vp_in; decide) (fun _ => rfl) ?_
  refine n_iinc (x := 8) (v := 9) dX10_init_185 rfl (by decide) (by decide) rfl ?_
  refine n_goto (tgt := 163) dX10_init_188 (by decide) ?_
  refine n_iload_n (x := 9) dX10_init_163 rfl ?_
  refine n_aload_n (x := 0) dX10_init_164 rfl ?_
  refine n_getR (j := 2) dX10_init_165 fl_X10_59 rfl rfl (x9 := 0) rfl (by decide) (fun C T N h => by cases h; exact mem_g 292 (by decide +kernel) rfl) (by rfl) ?_
  refine n_alen (v := 16) dX10_init_168 rfl (Or.inr ⟨rfl, rfl⟩) (x9 := 58) rfl (by decide) (by decide) ?_
  refine n_icmp_ge (tgt := 191) dX10_init_169 (by decide) (fun c => absurd (by decide) c) (fun _ => ?_)
  refine n_aload_n (x := 0) dX10_init_172 rfl ?_
  refine n_getR (j := 2) dX10_init_173 fl_X10_59 rfl rfl (x9 := 0) rfl (by decide) (fun C T N h => by cases h; exact mem_g 292 (by decide +kernel) rfl) (by rfl) ?_
  refine n_iload_n (x := 9) dX10_init_176 rfl ?_
  refine n_new (c9 := 189) (bk := 48) (bs := 306) (i := 189) dX10_init_177 kc3 rfl rfl rfl (by decide) (mem_g 188 (by decide +kernel) rfl) (mem_g 189 (by decide +kernel) rfl) (mem_g 8 (by decide +kernel) rfl) ?_
  refine n_dup dX10_init_180 rfl ?_
  refine n_init (c9 := 190) (c2 := 196) (bk := 42) (bs := 270) (mc := 6) (ms := 36) (mi' := mX3_init) (d' := 1) (i := 189) dX10_init_181 (mem_g 192 (by decide +kernel) rfl) rfl (mem_g 8 (by decide +kernel) rfl) ⟨by decide +kernel, by decide +kernel, by decide +kernel⟩ (by decide) rfl (mem_g 191 (by decide +kernel) rfl) ml_X10_38 (Nat.le_of_ble_eq_true rfl) (by decide) rfl (k_X3 (x9 := 189) (n := 190) rfl rfl (by decide +kernel) (by decide) (by decide) (by decide +kernel)) ?_
  refine n_aast (j := 9) (y9 := 189) (C9 := "MurmurSheds$Standing") dX10_init_184 rfl (Or.inr ⟨rfl, rfl⟩) (fun _ => rfl) (x9 := 58) rfl (by decide) rfl (by decide) rfl rfl (by decide) (by unfold vp_in; decide) (fun _ => rfl) ?_
  refine n_iinc (x := 9) (v := 10) dX10_init_185 rfl (by decide) (by decide) rfl ?_
  refine n_goto (tgt := 163) dX10_init_188 (by decide) ?_
  refine n_iload_n (x := 10) dX10_init_163 rfl ?_
  refine n_aload_n (x := 0) dX10_init_164 rfl ?_
  refine n_getR (j := 2) dX10_init_165 fl_X10_59 rfl rfl (x9 := 0) rfl (by decide) (fun C T N h => by cases h; exact mem_g 292 (by decide +kernel) rfl) (by rfl) ?_
  refine n_alen (v := 16) dX10_init_168 rfl (Or.inr ⟨rfl, rfl⟩) (x9 := 58) rfl (by decide) (by decide) ?_
  refine n_icmp_ge (tgt := 191) dX10_init_169 (by decide) (fun c => absurd (by decide) c) (fun _ => ?_)
  refine n_aload_n (x := 0) dX10_init_172 rfl ?_
  refine n_getR (j := 2) dX10_init_173 fl_X10_59 rfl rfl (x9 := 0) rfl (by decide) (fun C T N h => by cases h; exact mem_g 292 (by decide +kernel) rfl) (by rfl) ?_
  refine n_iload_n (x := 10) dX10_init_176 rfl ?_
  refine n_new (c9 := 196) (bk := 41) (bs := 261) (i := 196) dX10_init_177 kc3 rfl rfl rfl (by decide) (mem_g 188 (by decide +kernel) rfl) (mem_g 189 (by decide +kernel) rfl) (mem_g 8 (by decide +kernel) rfl) ?_
  refine n_dup dX10_init_180 rfl ?_
  refine n_init (c9 := 197) (c2 := 203) (bk := 35) (bs := 225) (mc := 6) (ms := 36) (mi' := mX3_init) (d' := 1) (i := 196) dX10_init_181 (mem_g 192 (by decide +kernel) rfl) rfl (mem_g 8 (by decide +kernel) rfl) ⟨by decide +kernel, by decide +kernel, by decide +kernel⟩ (by decide) rfl (mem_g 191 (by decide +kernel) rfl) ml_X10_38 (Nat.le_of_ble_eq_true rfl) (by decide) rfl (k_X3 (x9 := 196) (n := 197) rfl rfl (by decide +kernel) (by decide) (by decide) (by decide +kernel)) ?_
  refine n_aast (j := 10) (y9 := 196) (C9 := "MurmurSheds$Standing") dX10_init_184 rfl (Or.inr ⟨rfl, rfl⟩) (fun _ => rfl) (x9 := 58) rfl (by decide) rfl (by decide) rfl rfl (by decide) (by unfold vp_in; decide) (fun _ => rfl) ?_
  refine n_iinc (x := 10) (v := 11) dX10_init_185 rfl (by decide) (by decide) rfl ?_
  refine n_goto (tgt := 163) dX10_init_188 (by decide) ?_
  refine n_iload_n (x := 11) dX10_init_163 rfl ?_
  refine n_aload_n (x := 0) dX10_init_164 rfl ?_
  refine n_getR (j := 2) dX10_init_165 fl_X10_59 rfl rfl (x9 := 0) rfl (by decide) (fun C T N h => by cases h; exact mem_g 292 (by decide +kernel) rfl) (by rfl) ?_
  refine n_alen (v := 16) dX10_init_168 rfl (Or.inr ⟨rfl, rfl⟩) (x9 := 58) rfl (by decide) (by decide) ?_
  refine n_icmp_ge (tgt := 191) dX10_init_169 (by decide) (fun c => absurd (by decide) c) (fun _ => ?_)
  refine n_aload_n (x := 0) dX10_init_172 rfl ?_
  refine n_getR (j := 2) dX10_init_173 fl_X10_59 rfl rfl (x9 := 0) rfl (by decide) (fun C T N h => by cases h; exact mem_g 292 (by decide +kernel) rfl) (by rfl) ?_
  refine n_iload_n (x := 11) dX10_init_176 rfl ?_
  refine n_new (c9 := 203) (bk := 34) (bs := 216) (i := 203) dX10_init_177 kc3 rfl rfl rfl (by decide) (mem_g 188 (by decide +kernel) rfl) (mem_g 189 (by decide +kernel) rfl) (mem_g 8 (by decide +kernel) rfl) ?_
  refine n_dup dX10_init_180 rfl ?_
  refine n_init (c9 := 204) (c2 := 210) (bk := 28) (bs := 180) (mc := 6) (ms := 36) (mi' := mX3_init) (d' := 1) (i := 203) dX10_init_181 (mem_g 192 (by decide +kernel) rfl) rfl (mem_g 8 (by decide +kernel) rfl) ⟨by decide +kernel, by decide +kernel, by decide +kernel⟩ (by decide) rfl (mem_g 191 (by decide +kernel) rfl) ml_X10_38 (Nat.le_of_ble_eq_true rfl) (by decide) rfl (k_X3 (x9 := 203) (n := 204) rfl rfl (by decide +kernel) (by decide) (by decide) (by decide +kernel)) ?_
  refine n_aast (j := 11) (y9 := 203) (C9 := "MurmurSheds$Standing") dX10_init_184 rfl (Or.inr ⟨rfl, rfl⟩) (fun _ => rfl) (x9 := 58) rfl (by decide) rfl (by decide) rfl rfl (by decide) (by unfold vp_in; decide) (fun _ => rfl) ?_
  refine n_iinc (x := 11) (v := 12) dX10_init_185 rfl (by decide) (by decide) rfl ?_
  refine n_goto (tgt := 163) dX10_init_188 (by decide) ?_
  refine n_iload_n (x := 12) dX10_init_163 rfl ?_
  refine n_aload_n (x := 0) dX10_init_164 rfl ?_
  refine n_getR (j := 2) dX10_init_165 fl_X10_59 rfl rfl (x9 := 0) rfl (by decide) (fun C T N h => by cases h; exact mem_g 292 (by decide +kernel) rfl) (by rfl) ?_
  refine n_alen (v := 16) dX10_init_168 rfl (Or.inr ⟨rfl, rfl⟩) (x9 := 58) rfl (by decide) (by decide) ?_
  refine n_icmp_ge (tgt := 191) dX10_init_169 (by decide) (fun c => absurd (by decide) c) (fun _ => ?_)
  refine n_aload_n (x := 0) dX10_init_172 rfl ?_
  refine n_getR (j := 2) dX10_init_173 fl_X10_59 rfl rfl (x9 := 0) rfl (by decide) (fun C T N h => by cases h; exact mem_g 292 (by decide +kernel) rfl) (by rfl) ?_
  refine n_iload_n (x := 12) dX10_init_176 rfl ?_
  refine n_new (c9 := 210) (bk := 27) (bs := 171) (i := 210) dX10_init_177 kc3 rfl rfl rfl (by decide) (mem_g 188 (by decide +kernel) rfl) (mem_g 189 (by decide +kernel) rfl) (mem_g 8 (by decide +kernel) rfl) ?_
  refine n_dup dX10_init_180 rfl ?_
  refine n_init (c9 := 211) (c2 := 217) (bk := 21) (bs := 135) (mc := 6) (ms := 36) (mi' := mX3_init) (d' := 1) (i := 210) dX10_init_181 (mem_g 192 (by decide +kernel) rfl) rfl (mem_g 8 (by decide +kernel) rfl) ⟨by decide +kernel, by decide +kernel, by decide +kernel⟩ (by decide) rfl (mem_g 191 (by decide +kernel) rfl) ml_X10_38 (Nat.le_of_ble_eq_true rfl) (by decide) rfl (k_X3 (x9 := 210) (n := 211) rfl rfl (by decide +kernel) (by decide) (by decide) (by decide +kernel)) ?_
  refine n_aast (j := 12) (y9 := 210) (C9 := "MurmurSheds$Standing") dX10_init_184 rfl (Or.inr ⟨rfl, rfl⟩) (fun _ => rfl) (x9 := 58) rfl (by decide) rfl (by decide) rfl rfl (by decide) (by unfold vp_in; decide) (fun _ => rfl) ?_
  refine n_iinc (x := 12) (v := 13) dX10_init_185 rfl (by decide) (by decide) rfl ?_
  refine n_goto (tgt := 163) dX10_init_188 (by decide) ?_
  refine n_iload_n (x := 13) dX10_init_163 rfl ?_
  refine n_aload_n (x := 0) dX10_init_164 rfl ?_
  refine n_getR (j := 2) dX10_init_165 fl_X10_59 rfl rfl (x9 := 0) rfl (by decide) (fun C T N h => by cases h; exact mem_g 292 (by decide +kernel) rfl) (by rfl) ?_
  refine n_alen (v := 16) dX10_init_168 rfl (Or.inr ⟨rfl, rfl⟩) (x9 := 58) rfl (by decide) (by decide) ?_
  refine n_icmp_ge (tgt := 191) dX10_init_169 (by decide) (fun c => absurd (by decide) c) (fun _ => ?_)
  refine n_aload_n (x := 0) dX10_init_172 rfl ?_
  refine n_getR (j := 2) dX10_init_173 fl_X10_59 rfl rfl (x9 := 0) rfl (by decide) (fun C T N h => by cases h; exact mem_g 292 (by decide +kernel) rfl) (by rfl) ?_
  refine n_iload_n (x := 13) dX10_init_176 rfl ?_
  refine n_new (c9 := 217) (bk := 20) (bs := 126) (i := 217) dX10_init_177 kc3 rfl rfl rfl (by decide) (mem_g 188 (by decide +kernel) rfl) (mem_g 189 (by decide +kernel) rfl) (mem_g 8 (by decide +kernel) rfl) ?_
  refine n_dup dX10_init_180 rfl ?_
  refine n_init (c9 := 218) (c2 := 224) (bk := 14) (bs := 90) (mc := 6) (ms := 36) (mi' := mX3_init) (d' := 1) (i := 217) dX10_init_181 (mem_g 192 (by decide +kernel) rfl) rfl (mem_g 8 (by decide +kernel) rfl) ⟨by decide +kernel, by decide +kernel, by decide +kernel⟩ (by decide) rfl (mem_g 191 (by decide +kernel) rfl) ml_X10_38 (Nat.le_of_ble_eq_true rfl) (by decide) rfl (k_X3 (x9 := 217) (n := 218) rfl rfl (by decide +kernel) (by decide) (by decide) (by decide +kernel)) ?_
  refine n_aast (j := 13) (y9 := 217) (C9 := "MurmurSheds$Standing") dX10_init_184 rfl (Or.inr ⟨rfl, rfl⟩) (fun _ => rfl) (x9 := 58) rfl (by decide) rfl (by decide) rfl rfl (by decide) (by unfold vp_in; decide) (fun _ => rfl) ?_
  refine n_iinc (x := 13) (v := 14) dX10_init_185 rfl (by decide) (by decide) rfl ?_
  refine n_goto (tgt := 163) dX10_init_188 (by decide) ?_
  refine n_iload_n (x := 14) dX10_init_163 rfl ?_
  refine n_aload_n (x := 0) dX10_init_164 rfl ?_
  refine n_getR (j := 2) dX10_init_165 fl_X10_59 rfl rfl (x9 := 0) rfl (by decide) (fun C T N h => by cases h; exact mem_g 292 (by decide +kernel) rfl) (by rfl) ?_
  refine n_alen (v := 16) dX10_init_168 rfl (Or.inr ⟨rfl, rfl⟩) (x9 := 58) rfl (by decide) (by decide) ?_
  refine n_icmp_ge (tgt := 191) dX10_init_169 (by decide) (fun c => absurd (by decide) c) (fun _ => ?_)
  refine n_aload_n (x := 0) dX10_init_172 rfl ?_
  refine n_getR (j := 2) dX10_init_173 fl_X10_59 rfl rfl (x9 := 0) rfl (by decide) (fun C T N h => by cases h; exact mem_g 292 (by decide +kernel) rfl) (by rfl) ?_
  refine n_iload_n (x := 14) dX10_init_176 rfl ?_
  refine n_new (c9 := 224) (bk := 13) (bs := 81) (i := 224) dX10_init_177 kc3 rfl rfl rfl (by decide) (mem_g 188 (by decide +kernel) rfl) (mem_g 189 (by decide +kernel) rfl) (mem_g 8 (by decide +kernel) rfl) ?_
  refine n_dup dX10_init_180 rfl ?_
  refine n_init (c9 := 225) (c2 := 231) (bk := 7) (bs := 45) (mc := 6) (ms := 36) (mi' := mX3_init) (d' := 1) (i := 224) dX10_init_181 (mem_g 192 (by decide +kernel) rfl) rfl (mem_g 8 (by decide +kernel) rfl) ⟨by decide +kernel, by decide +kernel, by decide +kernel⟩ (by decide) rfl (mem_g 191 (by decide +kernel) rfl) ml_X10_38 (Nat.le_of_ble_eq_true rfl) (by decide) rfl (k_X3 (x9 := 224) (n := 225) rfl rfl (by decide +kernel) (by decide) (by decide) (by decide +kernel)) ?_
  refine n_aast (j := 14) (y9 := 224) (C9 := "MurmurSheds$Standing") dX10_init_184 rfl (Or.inr ⟨rfl, rfl⟩) (fun _ => rfl) (x9 := 58) rfl (by decide) rfl (by decide) rfl rfl (by decide) (by unfold vp_in; decide) (fun _ => rfl) ?_
  refine n_iinc (x := 14) (v := 15) dX10_init_185 rfl (by decide) (by decide) rfl ?_
  refine n_goto (tgt := 163) dX10_init_188 (by decide) ?_
  refine n_iload_n (x := 15) dX10_init_163 rfl ?_
  refine n_aload_n (x := 0) dX10_init_164 rfl ?_
  refine n_getR (j := 2) dX10_init_165 fl_X10_59 rfl rfl (x9 := 0) rfl (by decide) (fun C T N h => by cases h; exact mem_g 292 (by decide +kernel) rfl) (by rfl) ?_
  refine n_alen (v := 16) dX10_init_168 rfl (Or.inr ⟨rfl, rfl⟩) (x9 := 58) rfl (by decide) (by decide) ?_
  refine n_icmp_ge (tgt := 191) dX10_init_169 (by decide) (fun c => absurd (by decide) c) (fun _ => ?_)
  refine n_aload_n (x := 0) dX10_init_172 rfl ?_
  refine n_getR (j := 2) dX10_init_173 fl_X10_59 rfl rfl (x9 := 0) rfl (by decide) (fun C T N h => by cases h; exact mem_g 292 (by decide +kernel) rfl) (by rfl) ?_
  refine n_iload_n (x := 15) dX10_init_176 rfl ?_
  refine n_new (c9 := 231) (bk := 6) (bs := 36) (i := 231) dX10_init_177 kc3 rfl rfl rfl (by decide) (mem_g 188 (by decide +kernel) rfl) (mem_g 189 (by decide +kernel) rfl) (mem_g 8 (by decide +kernel) rfl) ?_
  refine n_dup dX10_init_180 rfl ?_
  refine n_init (c9 := 232) (c2 := 238) (bk := 0) (bs := 0) (mc := 6) (ms := 36) (mi' := mX3_init) (d' := 1) (i := 231) dX10_init_181 (mem_g 192 (by decide +kernel) rfl) rfl (mem_g 8 (by decide +kernel) rfl) ⟨by decide +kernel, by decide +kernel, by decide +kernel⟩ (by decide) rfl (mem_g 191 (by decide +kernel) rfl) ml_X10_38 (Nat.le_of_ble_eq_true rfl) (by decide) rfl (k_X3 (x9 := 231) (n := 232) rfl rfl (by decide +kernel) (by decide) (by decide) (by decide +kernel)) ?_
  refine n_aast (j := 15) (y9 := 231) (C9 := "MurmurSheds$Standing") dX10_init_184 rfl (Or.inr ⟨rfl, rfl⟩) (fun _ => rfl) (x9 := 58) rfl (by decide) rfl (by decide) rfl rfl (by decide) (by unfold vp_in; decide) (fun _ => rfl) ?_
  refine n_iinc (x := 15) (v := 16) dX10_init_185 rfl (by decide) (by decide) rfl ?_
  refine n_goto (tgt := 163) dX10_init_188 (by decide) ?_
  refine n_iload_n (x := 16) dX10_init_163 rfl ?_
  refine n_aload_n (x := 0) dX10_init_164 rfl ?_
  refine n_getR (j := 2) dX10_init_165 fl_X10_59 rfl rfl (x9 := 0) rfl (by decide) (fun C T N h => by cases h; exact mem_g 292 (by decide +kernel) rfl) (by rfl) ?_
  refine n_alen (v := 16) dX10_init_168 rfl (Or.inr ⟨rfl, rfl⟩) (x9 := 58) rfl (by decide) (by decide) ?_
  refine n_icmp_ge (tgt := 191) dX10_init_169 (by decide) (fun _ => ?_) (fun c => absurd c (by decide))
  exact n_exit ⟨dX10_init_191, rfl, rfl, rfl⟩
end NC3
