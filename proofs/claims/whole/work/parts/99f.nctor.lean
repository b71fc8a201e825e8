section NCT
theorem ac_int : Jvm.Cond.arrayClass .int ∈ lw_g := mem_g 76 (by decide +kernel) rfl
theorem ac_long : Jvm.Cond.arrayClass .long ∈ lw_g := mem_g 104 (by decide +kernel) rfl
theorem ac_bool : Jvm.Cond.arrayClass .boolean ∈ lw_g := mem_g 1358 (by decide +kernel) rfl
def F_X0 (F : Pf) (i : Nat) : Pf := (pf1 (pf1 (pf1 F i 0) i 2) i 3)
set_option maxHeartbeats 1000000 in
set_option maxRecDepth 20000 in
theorem k_X0 {b0 : Nat} {G : Gt} {n : Nat} {M : Mm} {F : Pf} {i x9 : Nat} (hx9 : alN x9 = i) (hs : shp i = (0, 0, [(2, i + 1), (0, 0), (2, i + 2), (2, i + 3)])) (h1 : shp (i + 1) = (1, 1000, [])) (h2 : shp (i + 2) = (1, 4, [])) (h3 : shp (i + 3) = (1, 25, [])) (hx8 : x9 < n) (hNN : n + 3 ≤ NN) (hal : ∀ k, k < 3 → alN (n + k) = i + 1 + k) : CallN b0 3 1029 G 1 mX0_init i n M F (n + 3) M (F_X0 F i) := by
  refine CallN.intro rfl (Nat.le_of_ble_eq_true rfl) rfl ?_
  show EvN _ _ _ G _ mX0_init 0 [.ref i] [] _ _ _ _
  refine n_aload_n (x := i) dX0_init_0 rfl ?_
  refine n_obj dX0_init_1 (mem_g 88 (by decide +kernel) rfl) rfl (by decide) ?_
  refine n_aload_n (x := i) dX0_init_4 rfl ?_
  refine n_sipush (v := 1000) dX0_init_5 (by decide) ?_
  refine n_newarr (bk := 2) (bs := 29) (N' := 1000) (i := i + 1) dX0_init_8 h1 (hal 0 (by decide)) (by omega) (by decide) (by decide) (by decide) ac_int ?_
  refine n_putR dX0_init_10 fl_X0_9 hs rfl hx9 (by omega) (by omega) rfl (fun C T N h => by cases h; rfl) (fun C T N h => by cases h; exact mem_g 89 (by decide +kernel) rfl) rfl rfl ?_
  refine n_aload_n (x := i) dX0_init_13 rfl ?_
  refine n_iconst (v := 4) dX0_init_14 (by decide) ?_
  refine n_newarr (bk := 1) (bs := 25) (N' := 4) (i := i + 2) dX0_init_15 h2 (hal 1 (by decide)) (by omega) (by decide) (by decide) (by decide) ac_int ?_
  refine n_putR dX0_init_17 fl_X0_15 hs rfl hx9 (by omega) (by omega) rfl (fun C T N h => by cases h; rfl) (fun C T N h => by cases h; exact mem_g 93 (by decide +kernel) rfl) rfl rfl ?_
  refine n_aload_n (x := i) dX0_init_20 rfl ?_
  refine n_bipush (v := 25) dX0_init_21 (by decide) ?_
  refine n_newarr (bk := 0) (bs := 0) (N' := 25) (i := i + 3) dX0_init_23 h3 (hal 2 (by decide)) (by omega) (by decide) (by decide) (by decide) ac_int ?_
  refine n_putR dX0_init_25 fl_X0_18 hs rfl hx9 (by omega) (by omega) rfl (fun C T N h => by cases h; rfl) (fun C T N h => by cases h; exact mem_g 94 (by decide +kernel) rfl) rfl rfl ?_
  exact n_exit ⟨dX0_init_28, rfl, rfl, rfl⟩
def F_X2 (F : Pf) (i : Nat) : Pf := (pf1 (pf1 (pf1 F i 0) i 1) i 2)
set_option maxHeartbeats 1000000 in
set_option maxRecDepth 20000 in
theorem k_X2 {b0 : Nat} {G : Gt} {n : Nat} {M : Mm} {F : Pf} {i x9 : Nat} (hx9 : alN x9 = i) (hs : shp i = (0, 2, [(2, i + 1), (2, i + 2), (2, i + 3), (0, 0)])) (hsh : ∀ k, k < 3 → shp (i + 1 + k) = (1, 8, [])) (hx8 : x9 < n) (hNN : n + 3 ≤ NN) (hal : ∀ k, k < 3 → alN (n + k) = i + 1 + k) : CallN b0 3 24 G 1 mX2_init i n M F (n + 3) M (F_X2 F i) := by
  refine CallN.intro rfl (Nat.le_of_ble_eq_true rfl) rfl ?_
  show EvN _ _ _ G _ mX2_init 0 [.ref i] [] _ _ _ _
  refine n_aload_n (x := i) dX2_init_0 rfl ?_
  refine n_obj dX2_init_1 (mem_g 235 (by decide +kernel) rfl) rfl (by decide) ?_
  refine n_aload_n (x := i) dX2_init_4 rfl ?_
  refine n_bipush (v := 8) dX2_init_5 (by decide) ?_
  refine n_newarr (bk := 2) (bs := 16) (N' := 8) (i := i + 1) dX2_init_7 (hsh 0 (by decide)) (hal 0 (by decide)) (by omega) (by decide) (by decide) (by decide) ac_int ?_
  refine n_putR dX2_init_9 fl_X2_9 hs rfl hx9 (by omega) (by omega) rfl (fun C T N h => by cases h; rfl) (fun C T N h => by cases h; exact mem_g 236 (by decide +kernel) rfl) rfl rfl ?_
  refine n_aload_n (x := i) dX2_init_12 rfl ?_
  refine n_bipush (v := 8) dX2_init_13 (by decide) ?_
  refine n_newarr (bk := 1) (bs := 8) (N' := 8) (i := i + 2) dX2_init_15 (hsh 1 (by decide)) (hal 1 (by decide)) (by omega) (by decide) (by decide) (by decide) ac_int ?_
  refine n_putR dX2_init_17 fl_X2_15 hs rfl hx9 (by omega) (by omega) rfl (fun C T N h => by cases h; rfl) (fun C T N h => by cases h; exact mem_g 238 (by decide +kernel) rfl) rfl rfl ?_
  refine n_aload_n (x := i) dX2_init_20 rfl ?_
  refine n_bipush (v := 8) dX2_init_21 (by decide) ?_
  refine n_newarr (bk := 0) (bs := 0) (N' := 8) (i := i + 3) dX2_init_23 (hsh 2 (by decide)) (hal 2 (by decide)) (by omega) (by decide) (by decide) (by decide) ac_int ?_
  refine n_putR dX2_init_25 fl_X2_18 hs rfl hx9 (by omega) (by omega) rfl (fun C T N h => by cases h; rfl) (fun C T N h => by cases h; exact mem_g 240 (by decide +kernel) rfl) rfl rfl ?_
  exact n_exit ⟨dX2_init_28, rfl, rfl, rfl⟩
def F_X3 (F : Pf) (i : Nat) : Pf := (pf1 (pf1 (pf1 (pf1 (pf1 (pf1 F i 3) i 4) i 5) i 6) i 7) i 8)
set_option maxHeartbeats 1000000 in
set_option maxRecDepth 20000 in
theorem k_X3 {b0 : Nat} {G : Gt} {n : Nat} {M : Mm} {F : Pf} {i x9 : Nat} (hx9 : alN x9 = i) (hs : shp i = (0, 3, [(0, 0), (0, 0), (0, 0), (2, i + 1), (2, i + 2), (2, i + 3), (2, i + 4), (2, i + 5), (2, i + 6)])) (hsh : ∀ k, k < 6 → shp (i + 1 + k) = (1, 6, [])) (hx8 : x9 < n) (hNN : n + 6 ≤ NN) (hal : ∀ k, k < 6 → alN (n + k) = i + 1 + k) : CallN b0 6 36 G 1 mX3_init i n M F (n + 6) M (F_X3 F i) := by
  refine CallN.intro rfl (Nat.le_of_ble_eq_true rfl) rfl ?_
  show EvN _ _ _ G _ mX3_init 0 [.ref i] [] _ _ _ _
  refine n_aload_n (x := i) dX3_init_0 rfl ?_
  refine n_obj dX3_init_1 (mem_g 193 (by decide +kernel) rfl) rfl (by decide) ?_
  refine n_aload_n (x := i) dX3_init_4 rfl ?_
  refine n_bipush (v := 6) dX3_init_5 (by decide) ?_
  refine n_newarr (bk := 5) (bs := 30) (N' := 6) (i := i + 1) dX3_init_7 (hsh 0 (by decide)) (hal 0 (by decide)) (by omega) (by decide) (by decide) (by decide) ac_int ?_
  refine n_putR dX3_init_9 fl_X3_9 hs rfl hx9 (by omega) (by omega) rfl (fun C T N h => by cases h; rfl) (fun C T N h => by cases h; exact mem_g 200 (by decide +kernel) rfl) rfl rfl ?_
  refine n_aload_n (x := i) dX3_init_12 rfl ?_
  refine n_bipush (v := 6) dX3_init_13 (by decide) ?_
  refine n_newarr (bk := 4) (bs := 24) (N' := 6) (i := i + 2) dX3_init_15 (hsh 1 (by decide)) (hal 1 (by decide)) (by omega) (by decide) (by decide) (by decide) ac_int ?_
  refine n_putR dX3_init_17 fl_X3_15 hs rfl hx9 (by omega) (by omega) rfl (fun C T N h => by cases h; rfl) (fun C T N h => by cases h; exact mem_g 202 (by decide +kernel) rfl) rfl rfl ?_
  refine n_aload_n (x := i) dX3_init_20 rfl ?_
  refine n_bipush (v := 6) dX3_init_21 (by decide) ?_
  refine n_newarr (bk := 3) (bs := 18) (N' := 6) (i := i + 3) dX3_init_23 (hsh 2 (by decide)) (hal 2 (by decide)) (by omega) (by decide) (by decide) (by decide) ac_int ?_
  refine n_putR dX3_init_25 fl_X3_18 hs rfl hx9 (by omega) (by omega) rfl (fun C T N h => by cases h; rfl) (fun C T N h => by cases h; exact mem_g 204 (by decide +kernel) rfl) rfl rfl ?_
  refine n_aload_n (x := i) dX3_init_28 rfl ?_
  refine n_bipush (v := 6) dX3_init_29 (by decide) ?_
  refine n_newarr (bk := 2) (bs := 12) (N' := 6) (i := i + 4) dX3_init_31 (hsh 3 (by decide)) (hal 3 (by decide)) (by omega) (by decide) (by decide) (by decide) ac_int ?_
  refine n_putR dX3_init_33 fl_X3_21 hs rfl hx9 (by omega) (by omega) rfl (fun C T N h => by cases h; rfl) (fun C T N h => by cases h; exact mem_g 206 (by decide +kernel) rfl) rfl rfl ?_
  refine n_aload_n (x := i) dX3_init_36 rfl ?_
  refine n_bipush (v := 6) dX3_init_37 (by decide) ?_
  refine n_newarr (bk := 1) (bs := 6) (N' := 6) (i := i + 5) dX3_init_39 (hsh 4 (by decide)) (hal 4 (by decide)) (by omega) (by decide) (by decide) (by decide) ac_int ?_
  refine n_putR dX3_init_41 fl_X3_24 hs rfl hx9 (by omega) (by omega) rfl (fun C T N h => by cases h; rfl) (fun C T N h => by cases h; exact mem_g 208 (by decide +kernel) rfl) rfl rfl ?_
  refine n_aload_n (x := i) dX3_init_44 rfl ?_
  refine n_bipush (v := 6) dX3_init_45 (by decide) ?_
  refine n_newarr (bk := 0) (bs := 0) (N' := 6) (i := i + 6) dX3_init_47 (hsh 5 (by decide)) (hal 5 (by decide)) (by omega) (by decide) (by decide) (by decide) ac_int ?_
  refine n_putR dX3_init_49 fl_X3_27 hs rfl hx9 (by omega) (by omega) rfl (fun C T N h => by cases h; rfl) (fun C T N h => by cases h; exact mem_g 209 (by decide +kernel) rfl) rfl rfl ?_
  exact n_exit ⟨dX3_init_52, rfl, rfl, rfl⟩
def F_X4 (F : Pf) (i : Nat) : Pf := pf1 (pf1 F i 0) i 8
set_option maxHeartbeats 1000000 in
set_option maxRecDepth 20000 in
theorem k_X4 {b0 : Nat} {G : Gt} {n : Nat} {M : Mm} {F : Pf} {i x9 : Nat} (hx9 : alN x9 = i) (hs : shp i = (0, 4, [(2, i + 1), (0, 0), (0, 0), (0, 0), (0, 0), (0, 0), (0, 0), (1, 0), (3, 0), (0, 0)])) (hsh : ∀ k, k < 1 → shp (i + 1 + k) = (1, 1000, [])) (hx8 : x9 < n) (hNN : n + 1 ≤ NN) (hal : ∀ k, k < 1 → alN (n + k) = i + 1 + k) : CallN b0 1 1000 G 1 mX4_init i n M F (n + 1) (setP M i 8 2000) (F_X4 F i) := by
  refine CallN.intro rfl (Nat.le_of_ble_eq_true rfl) rfl ?_
  show EvN _ _ _ G _ mX4_init 0 [.ref i] [] _ _ _ _
  refine n_aload_n (x := i) dX4_init_0 rfl ?_
  refine n_obj dX4_init_1 (mem_g 38 (by decide +kernel) rfl) rfl (by decide) ?_
  refine n_aload_n (x := i) dX4_init_4 rfl ?_
  refine n_sipush (v := 1000) dX4_init_5 (by decide) ?_
  refine n_newarr (bk := 0) (bs := 0) (N' := 1000) (i := i + 1) dX4_init_8 (hsh 0 (by decide)) (hal 0 (by decide)) (by omega) (by decide) (by decide) (by decide) ac_int ?_
  refine n_putR dX4_init_10 fl_X4_9 hs rfl hx9 (by omega) (by omega) rfl (fun C T N h => by cases h; rfl) (fun C T N h => by cases h; exact mem_g 41 (by decide +kernel) rfl) rfl rfl ?_
  refine n_aload_n (x := i) dX4_init_13 rfl ?_
  refine n_getW (i := 0) dX4_init_14 (by decide) (mem_g 39 (by decide +kernel) rfl) ?_
  refine n_putP (v := 2000) dX4_init_17 fl_X4_21 hs rfl hx9 (by omega) (by omega) (fun C T N h => by cases h; exact mem_g 51 (by decide +kernel) rfl) rfl rfl ?_
  exact n_exit ⟨dX4_init_20, rfl, rfl, rfl⟩
def F_X5 (F : Pf) (i : Nat) : Pf := (pf1 (pf1 (pf1 F i 0) i 1) i 2)
set_option maxHeartbeats 1000000 in
set_option maxRecDepth 20000 in
theorem k_X5 {b0 : Nat} {G : Gt} {n : Nat} {M : Mm} {F : Pf} {i x9 : Nat} (hx9 : alN x9 = i) (hs : shp i = (0, 5, [(2, i + 1), (2, i + 2), (2, i + 3), (0, 0)])) (hsh : ∀ k, k < 3 → shp (i + 1 + k) = (1, 40, [])) (hx8 : x9 < n) (hNN : n + 3 ≤ NN) (hal : ∀ k, k < 3 → alN (n + k) = i + 1 + k) : CallN b0 3 120 G 1 mX5_init i n M F (n + 3) M (F_X5 F i) := by
  refine CallN.intro rfl (Nat.le_of_ble_eq_true rfl) rfl ?_
  show EvN _ _ _ G _ mX5_init 0 [.ref i] [] _ _ _ _
  refine n_aload_n (x := i) dX5_init_0 rfl ?_
  refine n_obj dX5_init_1 (mem_g 172 (by decide +kernel) rfl) rfl (by decide) ?_
  refine n_aload_n (x := i) dX5_init_4 rfl ?_
  refine n_bipush (v := 40) dX5_init_5 (by decide) ?_
  refine n_newarr (bk := 2) (bs := 80) (N' := 40) (i := i + 1) dX5_init_7 (hsh 0 (by decide)) (hal 0 (by decide)) (by omega) (by decide) (by decide) (by decide) ac_int ?_
  refine n_putR dX5_init_9 fl_X5_9 hs rfl hx9 (by omega) (by omega) rfl (fun C T N h => by cases h; rfl) (fun C T N h => by cases h; exact mem_g 173 (by decide +kernel) rfl) rfl rfl ?_
  refine n_aload_n (x := i) dX5_init_12 rfl ?_
  refine n_bipush (v := 40) dX5_init_13 (by decide) ?_
  refine n_newarr (bk := 1) (bs := 40) (N' := 40) (i := i + 2) dX5_init_15 (hsh 1 (by decide)) (hal 1 (by decide)) (by omega) (by decide) (by decide) (by decide) ac_int ?_
  refine n_putR dX5_init_17 fl_X5_15 hs rfl hx9 (by omega) (by omega) rfl (fun C T N h => by cases h; rfl) (fun C T N h => by cases h; exact mem_g 174 (by decide +kernel) rfl) rfl rfl ?_
  refine n_aload_n (x := i) dX5_init_20 rfl ?_
  refine n_bipush (v := 40) dX5_init_21 (by decide) ?_
  refine n_newarr (bk := 0) (bs := 0) (N' := 40) (i := i + 3) dX5_init_23 (hsh 2 (by decide)) (hal 2 (by decide)) (by omega) (by decide) (by decide) (by decide) ac_int ?_
  refine n_putR dX5_init_25 fl_X5_18 hs rfl hx9 (by omega) (by omega) rfl (fun C T N h => by cases h; rfl) (fun C T N h => by cases h; exact mem_g 175 (by decide +kernel) rfl) rfl rfl ?_
  exact n_exit ⟨dX5_init_28, rfl, rfl, rfl⟩
def F_X8 (F : Pf) (i : Nat) : Pf := pf1 (F_X0 (pf1 (pf1 (pf1 (pf1 (pf1 (pf1 (pf1 (pf1 (pf1 F i 0) i 1) i 2) i 3) i 4) i 6) i 7) i 8) i 10) (i + 10)) i 13
set_option maxHeartbeats 1000000 in
set_option maxRecDepth 20000 in
theorem k_X8 {b0 : Nat} {G : Gt} {n : Nat} {M : Mm} {F : Pf} {i x9 : Nat} (hx9 : alN x9 = i) (hs : shp i = (0, 6, [(2, i + 1), (2, i + 2), (2, i + 3), (2, i + 4), (2, i + 5), (0, 0), (2, i + 6), (2, i + 7), (2, i + 8), (0, 0), (2, i + 9), (0, 0), (0, 0), (2, i + 10)])) (h1 : shp (i + 1) = (2, 6, [])) (h2 : shp (i + 2) = (1, 6, [])) (h3 : shp (i + 3) = (1, 6, [])) (h4 : shp (i + 4) = (1, 6, [])) (h5 : shp (i + 5) = (1, 6, [])) (h6 : shp (i + 6) = (2, 5, [])) (h7 : shp (i + 7) = (1, 5, [])) (h8 : shp (i + 8) = (1, 5, [])) (h9 : shp (i + 9) = (1, 12, [])) (h10 : shp (i + 10) = (0, 0, [(2, i + 11), (0, 0), (2, i + 12), (2, i + 13)])) (h11 : shp (i + 11) = (1, 1000, [])) (h12 : shp (i + 12) = (1, 4, [])) (h13 : shp (i + 13) = (1, 25, [])) (hx8 : x9 < n) (hNN : n + 13 ≤ NN) (hal : ∀ k, k < 13 → alN (n + k) = i + 1 + k) : CallN b0 13 1090 G 2 mX8_init i n M F (n + 13) (setI M i 12 30) (F_X8 F i) := by
  refine CallN.intro rfl (Nat.le_of_ble_eq_true rfl) rfl ?_
  show EvN _ _ _ G _ mX8_init 0 [.ref i] [] _ _ _ _
  refine n_aload_n (x := i) dX8_init_0 rfl ?_
  refine n_obj dX8_init_1 (mem_g 82 (by decide +kernel) rfl) rfl (by decide) ?_
  refine n_aload_n (x := i) dX8_init_4 rfl ?_
  refine n_bipush (v := 6) dX8_init_5 (by decide) ?_
  refine n_newarrL (bk := 12) (bs := 1084) (N' := 6) (i := i + 1) dX8_init_7 h1 (hal 0 (by decide)) (by omega) (by decide) (by decide) (by decide) ac_long ?_
  refine n_putR dX8_init_9 fl_X8_9 hs rfl hx9 (by omega) (by omega) rfl (fun C T N h => by cases h; rfl) (fun C T N h => by cases h; exact mem_g 105 (by decide +kernel) rfl) rfl rfl ?_
  refine n_aload_n (x := i) dX8_init_12 rfl ?_
  refine n_bipush (v := 6) dX8_init_13 (by decide) ?_
  refine n_newarr (bk := 11) (bs := 1078) (N' := 6) (i := i + 2) dX8_init_15 h2 (hal 1 (by decide)) (by omega) (by decide) (by decide) (by decide) ac_int ?_
  refine n_putR dX8_init_17 fl_X8_15 hs rfl hx9 (by omega) (by omega) rfl (fun C T N h => by cases h; rfl) (fun C T N h => by cases h; exact mem_g 106 (by decide +kernel) rfl) rfl rfl ?_
  refine n_aload_n (x := i) dX8_init_20 rfl ?_
  refine n_bipush (v := 6) dX8_init_21 (by decide) ?_
  refine n_newarr (bk := 10) (bs := 1072) (N' := 6) (i := i + 3) dX8_init_23 h3 (hal 2 (by decide)) (by omega) (by decide) (by decide) (by decide) ac_int ?_
  refine n_putR dX8_init_25 fl_X8_19 hs rfl hx9 (by omega) (by omega) rfl (fun C T N h => by cases h; rfl) (fun C T N h => by cases h; exact mem_g 109 (by decide +kernel) rfl) rfl rfl ?_
  refine n_aload_n (x := i) dX8_init_28 rfl ?_
  refine n_bipush (v := 6) dX8_init_29 (by decide) ?_
  refine n_newarr (bk := 9) (bs := 1066) (N' := 6) (i := i + 4) dX8_init_31 h4 (hal 3 (by decide)) (by omega) (by decide) (by decide) (by decide) ac_int ?_
  refine n_putR dX8_init_33 fl_X8_22 hs rfl hx9 (by omega) (by omega) rfl (fun C T N h => by cases h; rfl) (fun C T N h => by cases h; exact mem_g 111 (by decide +kernel) rfl) rfl rfl ?_
  refine n_aload_n (x := i) dX8_init_36 rfl ?_
  refine n_bipush (v := 6) dX8_init_37 (by decide) ?_
  refine n_newarr (bk := 8) (bs := 1060) (N' := 6) (i := i + 5) dX8_init_39 h5 (hal 4 (by decide)) (by omega) (by decide) (by decide) (by decide) ac_int ?_
  refine n_putR dX8_init_41 fl_X8_25 hs rfl hx9 (by omega) (by omega) rfl (fun C T N h => by cases h; rfl) (fun C T N h => by cases h; exact mem_g 113 (by decide +kernel) rfl) rfl rfl ?_
  refine n_aload_n (x := i) dX8_init_44 rfl ?_
  refine n_iconst (v := 5) dX8_init_45 (by decide) ?_
  refine n_newarrL (bk := 7) (bs := 1055) (N' := 5) (i := i + 6) dX8_init_46 h6 (hal 5 (by decide)) (by omega) (by decide) (by decide) (by decide) ac_long ?_
  refine n_putR dX8_init_48 fl_X8_28 hs rfl hx9 (by omega) (by omega) rfl (fun C T N h => by cases h; rfl) (fun C T N h => by cases h; exact mem_g 120 (by decide +kernel) rfl) rfl rfl ?_
  refine n_aload_n (x := i) dX8_init_51 rfl ?_
  refine n_iconst (v := 5) dX8_init_52 (by decide) ?_
  refine n_newarr (bk := 6) (bs := 1050) (N' := 5) (i := i + 7) dX8_init_53 h7 (hal 6 (by decide)) (by omega) (by decide) (by decide) (by decide) ac_int ?_
  refine n_putR dX8_init_55 fl_X8_31 hs rfl hx9 (by omega) (by omega) rfl (fun C T N h => by cases h; rfl) (fun C T N h => by cases h; exact mem_g 121 (by decide +kernel) rfl) rfl rfl ?_
  refine n_aload_n (x := i) dX8_init_58 rfl ?_
  refine n_iconst (v := 5) dX8_init_59 (by decide) ?_
  refine n_newarr (bk := 5) (bs := 1045) (N' := 5) (i := i + 8) dX8_init_60 h8 (hal 7 (by decide)) (by omega) (by decide) (by decide) (by decide) ac_int ?_
  refine n_putR dX8_init_62 fl_X8_34 hs rfl hx9 (by omega) (by omega) rfl (fun C T N h => by cases h; rfl) (fun C T N h => by cases h; exact mem_g 123 (by decide +kernel) rfl) rfl rfl ?_
  refine n_aload_n (x := i) dX8_init_65 rfl ?_
  refine n_bipush (v := 12) dX8_init_66 (by decide) ?_
  refine n_newarr (bk := 4) (bs := 1033) (N' := 12) (i := i + 9) dX8_init_68 h9 (hal 8 (by decide)) (by omega) (by decide) (by decide) (by decide) ac_int ?_
  refine n_putR dX8_init_70 fl_X8_37 hs rfl hx9 (by omega) (by omega) rfl (fun C T N h => by cases h; rfl) (fun C T N h => by cases h; exact mem_g 128 (by decide +kernel) rfl) rfl rfl ?_
  refine n_aload_n (x := i) dX8_init_73 rfl ?_
  refine n_bipush (v := 30) dX8_init_74 (by decide) ?_
  refine n_putI (v := 30) dX8_init_76 fl_X8_40 hs rfl hx9 (by omega) (by omega) (fun C T N h => by cases h; exact mem_g 131 (by decide +kernel) rfl) rfl rfl ?_
  refine n_aload_n (x := i) dX8_init_79 rfl ?_
  refine n_new (bk := 3) (bs := 1029) (i := i + 10) dX8_init_80 kc0 h10 rfl (hal 9 (by decide)) (by omega) (mem_g 83 (by decide +kernel) rfl) (mem_g 84 (by decide +kernel) rfl) (mem_g 6 (by decide +kernel) rfl) ?_
  refine n_dup dX8_init_83 rfl ?_
  refine n_init (bk := 0) (bs := 0) (mc := 3) (ms := 1029) (mi' := mX0_init) (d' := 1) (i := i + 10) dX8_init_84 (mem_g 87 (by decide +kernel) rfl) rfl (mem_g 6 (by decide +kernel) rfl) ⟨by decide +kernel, by decide +kernel, by decide +kernel⟩ (by decide) rfl (mem_g 86 (by decide +kernel) rfl) ml_X8_46 (Nat.le_of_ble_eq_true rfl) (by decide) rfl (k_X0 (x9 := n + 9) (n := n + 10) (hal 9 (by decide)) h10 h11 h12 h13 (by omega) (by omega) (fun k hk => by have h := hal (k + 10) (by omega); rw [show n + 10 + k = n + (k + 10) by omega, h]; omega)) ?_
  refine n_putR dX8_init_87 fl_X8_47 hs rfl hx9 (by omega) (by omega) rfl (fun C T N h => by cases h; rfl) (fun C T N h => by cases h; exact mem_g 135 (by decide +kernel) rfl) rfl rfl ?_
  exact n_exit ⟨dX8_init_90, rfl, rfl, rfl⟩
def F_X1 (F : Pf) (i : Nat) : Pf := pf1 (F_X2 (pf1 (F_X5 (pf1 (F_X3 F (i + 1)) i 1) (i + 8)) i 2) (i + 12)) i 3
set_option maxHeartbeats 1000000 in
set_option maxRecDepth 20000 in
theorem k_X1 {b0 : Nat} {G : Gt} {n : Nat} {M : Mm} {F : Pf} {i x9 : Nat} (hx9 : alN x9 = i) (hs : shp i = (0, 1, [(0, 0), (2, i + 1), (2, i + 8), (2, i + 12)])) (h1 : shp (i + 1) = (0, 3, [(0, 0), (0, 0), (0, 0), (2, i + 2), (2, i + 3), (2, i + 4), (2, i + 5), (2, i + 6), (2, i + 7)])) (h2 : shp (i + 2) = (1, 6, [])) (h3 : shp (i + 3) = (1, 6, [])) (h4 : shp (i + 4) = (1, 6, [])) (h5 : shp (i + 5) = (1, 6, [])) (h6 : shp (i + 6) = (1, 6, [])) (h7 : shp (i + 7) = (1, 6, [])) (h8 : shp (i + 8) = (0, 5, [(2, i + 9), (2, i + 10), (2, i + 11), (0, 0)])) (h9 : shp (i + 9) = (1, 40, [])) (h10 : shp (i + 10) = (1, 40, [])) (h11 : shp (i + 11) = (1, 40, [])) (h12 : shp (i + 12) = (0, 2, [(2, i + 13), (2, i + 14), (2, i + 15), (0, 0)])) (h13 : shp (i + 13) = (1, 8, [])) (h14 : shp (i + 14) = (1, 8, [])) (h15 : shp (i + 15) = (1, 8, [])) (hx8 : x9 < n) (hNN : n + 15 ≤ NN) (hal : ∀ k, k < 15 → alN (n + k) = i + 1 + k) : CallN b0 15 197 G 2 mX1_init i n M F (n + 15) M (F_X1 F i) := by
  refine CallN.intro rfl (Nat.le_of_ble_eq_true rfl) rfl ?_
  show EvN _ _ _ G _ mX1_init 0 [.ref i] [] _ _ _ _
  refine n_aload_n (x := i) dX1_init_0 rfl ?_
  refine n_obj dX1_init_1 (mem_g 260 (by decide +kernel) rfl) rfl (by decide) ?_
  refine n_aload_n (x := i) dX1_init_4 rfl ?_
  refine n_new (bk := 14) (bs := 188) (i := i + 1) dX1_init_5 kc3 h1 rfl (hal 0 (by decide)) (by omega) (mem_g 261 (by decide +kernel) rfl) (mem_g 189 (by decide +kernel) rfl) (mem_g 8 (by decide +kernel) rfl) ?_
  refine n_dup dX1_init_8 rfl ?_
  refine n_init (bk := 8) (bs := 152) (mc := 6) (ms := 36) (mi' := mX3_init) (d' := 1) (i := i + 1) dX1_init_9 (mem_g 192 (by decide +kernel) rfl) rfl (mem_g 8 (by decide +kernel) rfl) ⟨by decide +kernel, by decide +kernel, by decide +kernel⟩ (by decide) rfl (mem_g 191 (by decide +kernel) rfl) ml_X1_9 (Nat.le_of_ble_eq_true rfl) (by decide) rfl (k_X3 (x9 := n + 0) (n := n + 1) (hal 0 (by decide)) h1 (fun k hk => by rcases k with _ | k; exact h2; rcases k with _ | k; exact h3; rcases k with _ | k; exact h4; rcases k with _ | k; exact h5; rcases k with _ | k; exact h6; rcases k with _ | k; exact h7; omega) (by omega) (by omega) (fun k hk => by have h := hal (k + 1) (by omega); rw [show n + 1 + k = n + (k + 1) by omega, h]; omega)) ?_
  refine n_putR dX1_init_12 fl_X1_10 hs rfl hx9 (by omega) (by omega) rfl (fun C T N h => by cases h; rfl) (fun C T N h => by cases h; exact mem_g 268 (by decide +kernel) rfl) rfl rfl ?_
  refine n_aload_n (x := i) dX1_init_15 rfl ?_
  refine n_new (bk := 7) (bs := 148) (i := i + 8) dX1_init_16 kc5 h8 rfl (hal 7 (by decide)) (by omega) (mem_g 263 (by decide +kernel) rfl) (mem_g 168 (by decide +kernel) rfl) (mem_g 7 (by decide +kernel) rfl) ?_
  refine n_dup dX1_init_19 rfl ?_
  refine n_init (bk := 4) (bs := 28) (mc := 3) (ms := 120) (mi' := mX5_init) (d' := 1) (i := i + 8) dX1_init_20 (mem_g 171 (by decide +kernel) rfl) rfl (mem_g 7 (by decide +kernel) rfl) ⟨by decide +kernel, by decide +kernel, by decide +kernel⟩ (by decide) rfl (mem_g 170 (by decide +kernel) rfl) ml_X1_18 (Nat.le_of_ble_eq_true rfl) (by decide) rfl (k_X5 (x9 := n + 7) (n := n + 8) (hal 7 (by decide)) h8 (fun k hk => by rcases k with _ | k; exact h9; rcases k with _ | k; exact h10; rcases k with _ | k; exact h11; omega) (by omega) (by omega) (fun k hk => by have h := hal (k + 8) (by omega); rw [show n + 8 + k = n + (k + 8) by omega, h]; omega)) ?_
  refine n_putR dX1_init_23 fl_X1_19 hs rfl hx9 (by omega) (by omega) rfl (fun C T N h => by cases h; rfl) (fun C T N h => by cases h; exact mem_g 270 (by decide +kernel) rfl) rfl rfl ?_
  refine n_aload_n (x := i) dX1_init_26 rfl ?_
  refine n_new (bk := 3) (bs := 24) (i := i + 12) dX1_init_27 kc2 h12 rfl (hal 11 (by decide)) (by omega) (mem_g 265 (by decide +kernel) rfl) (mem_g 231 (by decide +kernel) rfl) (mem_g 9 (by decide +kernel) rfl) ?_
  refine n_dup dX1_init_30 rfl ?_
  refine n_init (bk := 0) (bs := 0) (mc := 3) (ms := 24) (mi' := mX2_init) (d' := 1) (i := i + 12) dX1_init_31 (mem_g 234 (by decide +kernel) rfl) rfl (mem_g 9 (by decide +kernel) rfl) ⟨by decide +kernel, by decide +kernel, by decide +kernel⟩ (by decide) rfl (mem_g 233 (by decide +kernel) rfl) ml_X1_25 (Nat.le_of_ble_eq_true rfl) (by decide) rfl (k_X2 (x9 := n + 11) (n := n + 12) (hal 11 (by decide)) h12 (fun k hk => by rcases k with _ | k; exact h13; rcases k with _ | k; exact h14; rcases k with _ | k; exact h15; omega) (by omega) (by omega) (fun k hk => by have h := hal (k + 12) (by omega); rw [show n + 12 + k = n + (k + 12) by omega, h]; omega)) ?_
  refine n_putR dX1_init_34 fl_X1_26 hs rfl hx9 (by omega) (by omega) rfl (fun C T N h => by cases h; rfl) (fun C T N h => by cases h; exact mem_g 272 (by decide +kernel) rfl) rfl rfl ?_
  exact n_exit ⟨dX1_init_37, rfl, rfl, rfl⟩
end NCT
