section YLP
theorem r_thrown {G : Gt} {M : Mm} : Call G 1 mX11_thrown [.ref 238] M (eqQ (some (.int (M.1 238 0))) M) := by
  refine Call.intro rfl (Nat.le_of_ble_eq_true rfl) ?_
  show Ev G _ mX11_thrown 0 [.ref 238] [] M _
  refine e_aload_n dX11_thrown_0 rfl ?_
  refine e_getI dX11_thrown_1 fl_X11_153 rfl rfl ?_
  exact e_iret dX11_thrown_4 rfl ⟨rfl, rfl⟩
theorem EvL.more {tb : List ExceptionTableEntry} {b9 : Nat} {G : Gt} {d : Nat} {mi : Mi} {pc : Nat} {ls st : List Value} {M : Mm} {Q : Option Value → Mm → Prop} (h : EvL tb b9 G d mi pc ls st M Q) : EvL tb (b9 + 1) G d mi pc ls st M Q := by
  intro p e s m args below meth c R Z k0 n0 H locs lsA C hP hS hl
  obtain ⟨h1, ⟨r1, r2, r3, r4⟩, h3⟩ := C
  exact h p e s m args below meth c R Z k0 n0 H locs lsA ⟨h1, ⟨r1, r2, by omega, by omega⟩, fun pc H locs lsA r M a1 a2 a3 a4 => W_widen (by omega) (by omega) (h3 pc H locs lsA r M a1 a2 a3 a4)⟩ hP hS hl
theorem and63 (x : Int32) : ∃ m, m ≤ 63 ∧ x &&& 63 = nI m := by
  obtain ⟨m, hm, e⟩ := pk_andE x (m := 63) 6 (by decide)
  exact ⟨m, by omega, e⟩
theorem lp_gt {L n : Nat} (hL : L ≤ 3584) (hn : n ≤ 3600) : (nI L - 7 < nI n) ↔ L < n + 7 := by
  rcases Nat.lt_or_ge L 7 with h | h
  · have key : ∀ l, l < 7 → nI l - 7 < 0 := by decide +kernel
    exact ⟨fun _ => by omega, fun _ => Int32.lt_of_lt_of_le (key L h) (nI_pos' (by omega))⟩
  · rw [show (7 : Int32) = nI 7 from rfl, nI_subN h, nI_ltI (by omega) (by omega)]
    omega
theorem xr_285 {M : Mm} {E : Gs} {v : Int64} (hI : XI M E ∧ RJ M E) : XI (setL M 285 0 v) E ∧ RJ (setL M 285 0 v) E := by
  refine ⟨hI.1.fr (fun _ _ => rfl) (fun i hi => by funext z; rw [setL_21, if_neg (by omega)]) rfl, hI.2.fr (fun _ _ _ => rfl) (fun i _ hi => by funext z; rw [setL_21, if_neg (by omega)])⟩
set_option maxHeartbeats 2000000 in
set_option maxRecDepth 20000 in
theorem w_rests {tb9 : List ExceptionTableEntry} {G : Gt} {M : Mm} {E : Gs} {T j b9 : Nat} {u5 u6 : Value} {Q : Option Value → Mm → Prop} (hl9 : G.1.stackTraces = false) (hI : INV M E T) (hT : T < 2 ^ 29) (hj : 7 * j + 6 < G.L) (hL : G.L ≤ 3584) (k : ∀ M' E' T' u5 u6, T' ≤ T + 1 → XI M' E' → RJ M' E' → IV E' T' → EvL tb9 b9 G 110 mL_law 1473 (lsL j u5 u6) [] M' Q) : EvL tb9 (b9 + 1) G 110 mL_law 1254 (lsL j u5 u6) [] M Q := by
  refine y_aload_n (x := 0) dL_law_1254 rfl ?_
  refine y_aload_n (x := 2200) dL_law_1255 rfl ?_
  refine y_iload (x := nI (7 * j)) dL_law_1256 rfl ?_
  refine y_iconst (v := nI 1) dL_law_1258 (by decide) ?_
  refine y_iaddN dL_law_1259 ?_
  refine y_sld dL_law_1260 (lw_in (by omega) hL) ?_
  refine y_aload_n (x := 2200) dL_law_1261 rfl ?_
  refine y_iload (x := nI (7 * j)) dL_law_1262 rfl ?_
  refine y_iconst (v := nI 2) dL_law_1264 (by decide) ?_
  refine y_iaddN dL_law_1265 ?_
  refine y_sld dL_law_1266 (lw_in (by omega) hL) ?_
  refine y_aload_n (x := 2200) dL_law_1267 rfl ?_
  refine y_iload (x := nI (7 * j)) dL_law_1268 rfl ?_
  refine y_iconst (v := nI 3) dL_law_1270 (by decide) ?_
  refine y_iaddN dL_law_1271 ?_
  refine y_sld dL_law_1272 (lw_in (by omega) hL) ?_
  refine y_aload_n (x := 2200) dL_law_1273 rfl ?_
  refine y_iload (x := nI (7 * j)) dL_law_1274 rfl ?_
  refine y_iconst (v := nI 4) dL_law_1276 (by decide) ?_
  refine y_iaddN dL_law_1277 ?_
  refine y_sld dL_law_1278 (lw_in (by omega) hL) ?_
  refine y_aload_n (x := 285) dL_law_1279 rfl ?_
  refine y_callST (mi' := mL_rests) (hh9 := hhLr) (n := 6) (as := [.ref 0, .int (sx G (7 * j + 1)), .int (sx G (7 * j + 2)), .int (sx G (7 * j + 3)), .int (sx G (7 * j + 4)), .ref 285]) (st := []) dL_law_1280 co_L_rests (mem_g 0 (by decide +kernel) rfl) ⟨by decide +kernel, by decide +kernel, by decide +kernel⟩ (by decide) (mem_g 1079 (by decide +kernel) rfl) (mem_g 1078 (by decide +kernel) rfl) rfl rfl (Nat.le_of_ble_eq_true rfl) (d' := 7) (by omega) (y_rests hl9 (Nat.le_refl _)) ?_
  intro r M1 h
  have hx : XI M1 E ∧ RJ M1 E := by
    rcases h with ⟨-, rfl, -⟩ | ⟨v, -, rfl, -⟩
    · exact ⟨hI.1, hI.2.1⟩
    · exact xr_285 ⟨hI.1, hI.2.1⟩
  obtain ⟨kk, hk⟩ : ∃ kk : Int32, r = some (.int kk) := by
    rcases h with ⟨-, -, h⟩ | ⟨v, -, -, h⟩ <;> exact ⟨_, h⟩
  subst hk
  dsimp only [Option.toList, List.cons_append, List.nil_append]
  refine y_istore (ls' := lsL j (.int kk) u6) dL_law_1283 (by decide) rfl ?_
  refine y_aload_n (x := 238) dL_law_1285 rfl ?_
  refine y_aload_n (x := 2200) dL_law_1286 rfl ?_
  refine y_iload (x := nI (7 * j)) dL_law_1287 rfl ?_
  refine y_iconst (v := nI 1) dL_law_1289 (by decide) ?_
  refine y_iaddN dL_law_1290 ?_
  refine y_sld dL_law_1291 (lw_in (by omega) hL) ?_
  refine y_aload_n (x := 2200) dL_law_1292 rfl ?_
  refine y_iload (x := nI (7 * j)) dL_law_1293 rfl ?_
  refine y_iconst (v := nI 2) dL_law_1295 (by decide) ?_
  refine y_iaddN dL_law_1296 ?_
  refine y_sld dL_law_1297 (lw_in (by omega) hL) ?_
  refine y_aload_n (x := 2200) dL_law_1298 rfl ?_
  refine y_iload (x := nI (7 * j)) dL_law_1299 rfl ?_
  refine y_iconst (v := nI 3) dL_law_1301 (by decide) ?_
  refine y_iaddN dL_law_1302 ?_
  refine y_sld dL_law_1303 (lw_in (by omega) hL) ?_
  refine y_aload_n (x := 2200) dL_law_1304 rfl ?_
  refine y_iload (x := nI (7 * j)) dL_law_1305 rfl ?_
  refine y_iconst (v := nI 4) dL_law_1307 (by decide) ?_
  refine y_iaddN dL_law_1308 ?_
  refine y_sld dL_law_1309 (lw_in (by omega) hL) ?_
  refine ycV4x dL_law_1310 mo_X11_rests ml_L_178 rfl rfl (Nat.le_of_ble_eq_true rfl) (by omega) r_rests ?_
  rintro r M2 ⟨hC, hR⟩
  have hy : RFn M1 M2 E := RFn.rc hx.2 hC
  rcases h with ⟨hn, hM, hk⟩ | ⟨v, hn, hM, hk⟩
  · cases hk
    obtain ⟨hr, ht⟩ := hR.2 hn
    subst hr
    dsimp only [Option.toList, List.cons_append, List.nil_append]
    refine y_istore (ls' := lsL j (.int 1) (.int 0)) dL_law_1313 (by decide) rfl ?_
    refine y_aload_n (x := 238) dL_law_1315 rfl ?_
    refine ycV0r dL_law_1316 mo_X11_thrown ml_L_179 rfl rfl (Nat.le_of_ble_eq_true rfl) (by omega) r_thrown ?_
    rw [ht]
    refine y_iload (x := 1) dL_law_1319 rfl ?_
    refine y_icmp_eq (tgt := 1326) dL_law_1321 (by decide) (fun _ => ?_) (fun c => absurd rfl c)
    refine y_iload (x := 1) dL_law_1326 rfl ?_
    refine y_if_ne (tgt := 1343) dL_law_1328 (by decide) (fun _ => ?_) (fun c => absurd c (by decide))
    refine y_goto (tgt := 1473) dL_law_1343 (by decide) ?_
    exact k _ _ _ _ _ (by omega) (hx.1.r hy) hy.1 hI.2.2
  · cases hk
    obtain ⟨hr, ht⟩ := hR.1 v hn
    subst hr
    dsimp only [Option.toList, List.cons_append, List.nil_append]
    refine y_istore (ls' := lsL j (.int 0) (.int v)) dL_law_1313 (by decide) rfl ?_
    refine y_aload_n (x := 238) dL_law_1315 rfl ?_
    refine ycV0r dL_law_1316 mo_X11_thrown ml_L_179 rfl rfl (Nat.le_of_ble_eq_true rfl) (by omega) r_thrown ?_
    rw [ht]
    refine y_iload (x := 0) dL_law_1319 rfl ?_
    refine y_icmp_eq (tgt := 1326) dL_law_1321 (by decide) (fun _ => ?_) (fun c => absurd rfl c)
    refine y_iload (x := 0) dL_law_1326 rfl ?_
    refine y_if_ne (tgt := 1343) dL_law_1328 (by decide) (fun c => absurd rfl c) (fun _ => ?_)
    refine y_aload_n (x := 285) dL_law_1331 rfl ?_
    refine y_iconst (v := 0) dL_law_1332 (by decide) ?_
    refine y_lald (i := 285) (j := 0) dL_law_1333 rfl (by unfold vp_in; decide) ?_
    refine y_iload (x := v) dL_law_1334 rfl ?_
    refine y_i2l dL_law_1336 ?_
    refine y_lcmp dL_law_1337 ?_
    have e9 : M2.2.1 285 (Int32.toNatClampNeg 0) = v.toInt64 := by
      rw [(hy.2.1 285 (Or.inr (Nat.le_refl _))).2, hM]
      rfl
    rw [e9]
    refine y_if_eq (tgt := 1343) dL_law_1338 (by decide) (fun _ => ?_) (fun c => absurd ((lg_cmp_eq _ _).mpr rfl) c)
    refine y_goto (tgt := 1473) dL_law_1343 (by decide) ?_
    exact k _ _ _ _ _ (by omega) (hx.1.r hy) hy.1 hI.2.2
set_option maxHeartbeats 2000000 in
set_option maxRecDepth 20000 in
theorem w_loop {tb9 : List ExceptionTableEntry} {G : Gt} {b : Nat} (hb9 : 35 ≤ b ∧ b ≤ 40) (hl9 : G.1.stackTraces = false) (hL : G.L ≤ 3584) : ∀ (f j T : Nat) (M : Mm) (E : Gs) (u5 u6 : Value), INV M E T → T ≤ j → G.L ≤ 7 * (j + f) + 6 → j ≤ 512 → EvL tb9 f G 110 mL_law 23 (lsL j u5 u6) [] M (fun r _ => r = some (.int 1)) := by
  intro f
  induction f with
  | zero =>
    intro j T M E u5 u6 hI hT hf hj
    refine y_iload (x := nI (7 * j)) dL_law_23 rfl ?_
    refine y_aload_n (x := 2200) dL_law_25 rfl ?_
    refine y_slen dL_law_26 ?_
    refine y_bipush (v := 7) dL_law_27 (by decide) ?_
    refine y_isub dL_law_29 ?_
    refine y_icmp_gt (tgt := 1479) dL_law_30 (by decide) (fun _ => ?_) (fun c => absurd ((lp_gt hL (by omega)).mpr (by omega)) c)
    refine y_iconst (v := 1) dL_law_1479 (by decide) ?_
    exact y_zret dL_law_1480 rfl rfl rfl
  | succ f ih =>
    intro j T M E u5 u6 hI hT hf hj
    refine y_iload (x := nI (7 * j)) dL_law_23 rfl ?_
    refine y_aload_n (x := 2200) dL_law_25 rfl ?_
    refine y_slen dL_law_26 ?_
    refine y_bipush (v := 7) dL_law_27 (by decide) ?_
    refine y_isub dL_law_29 ?_
    refine y_icmp_gt (tgt := 1479) dL_law_30 (by decide) (fun _ => ?_) (fun c => ?_)
    · refine y_iconst (v := 1) dL_law_1479 (by decide) ?_
      exact y_zret dL_law_1480 rfl rfl rfl
    · have hj6 : 7 * j + 6 < G.L := by
        rcases Nat.lt_or_ge (7 * j + 6) G.L with q | q
        · exact q
        · exact absurd ((lp_gt hL (by omega)).mpr (by omega)) c
      have hT9 : T < 2 ^ 29 := by omega
      have kk : ∀ M' E' T' u5 u6, T' ≤ T + 1 → XI M' E' → RJ M' E' → IV E' T' → EvL tb9 f G 110 mL_law 1473 (lsL j u5 u6) [] M' (fun r _ => r = some (.int 1)) := by
        intro M' E' T' u5 u6 q1 q2 q3 q4
        refine y_iinc (x := nI (7 * j)) (v := nI (7 * (j + 1))) (ls' := lsL (j + 1) u5 u6) dL_law_1473 rfl (nI_add (7 * j) 7) (by decide) rfl ?_
        refine y_goto (tgt := 23) dL_law_1476 (by decide) ?_
        exact ih (j + 1) T' M' E' u5 u6 ⟨q2, q3, q4⟩ (by omega) (by omega) (by omega)
      have km : ∀ M' E' T', T' ≤ T + 1 → XI M' E' → RJ M' E' → IV E' T' → EvL tb9 f G 110 mL_law 1473 (lsL j u5 u6) [] M' (fun r _ => r = some (.int 1)) := fun M' E' T' => kk M' E' T' u5 u6
      refine y_aload_n (x := 2200) dL_law_33 rfl ?_
      refine y_iload (x := nI (7 * j)) dL_law_34 rfl ?_
      refine y_sld dL_law_36 (lw_in (by omega) hL) ?_
      refine y_bipush (v := 63) dL_law_37 (by decide) ?_
      refine y_iand dL_law_39 ?_
      obtain ⟨m, hm, e⟩ := and63 (G.xs (Int32.toNatClampNeg (nI (7 * j))))
      rw [e]
      by_cases h40 : 40 ≤ m
      · refine EvL.more (y_tableOut (tgt := 1473) dL_law_40 (Or.inr ?_) (by decide) (km M E T (by omega) hI.1 hI.2.1 hI.2.2))
        rw [nI_toInt (by omega)]
        omega
      by_cases h0 : m = 0
      · subst h0
        exact EvL.more (y_tableIn (tgt := 216) dL_law_40 (by decide) (by decide) rfl (by decide) (w_feed hI hT9 hj6 hL km))
      by_cases h1 : m = 1
      · subst h1
        exact EvL.more (y_tableIn (tgt := 363) dL_law_40 (by decide) (by decide) rfl (by decide) (w_yard hb9 hI hT9 hj6 hL km))
      by_cases h2 : m = 2
      · subst h2
        exact EvL.more (y_tableIn (tgt := 376) dL_law_40 (by decide) (by decide) rfl (by decide) (w_week hI hT9 hj6 hL km))
      by_cases h3 : m = 3
      · subst h3
        exact EvL.more (y_tableIn (tgt := 389) dL_law_40 (by decide) (by decide) rfl (by decide) (w_shed hI hT9 hj6 hL km))
      by_cases h4 : m = 4
      · subst h4
        exact EvL.more (y_tableIn (tgt := 426) dL_law_40 (by decide) (by decide) rfl (by decide) (w_stage hI hT9 hj6 hL km))
      by_cases h5 : m = 5
      · subst h5
        exact EvL.more (y_tableIn (tgt := 463) dL_law_40 (by decide) (by decide) rfl (by decide) (w_night hI hT9 hj6 hL km))
      by_cases h6 : m = 6
      · subst h6
        exact EvL.more (y_tableIn (tgt := 476) dL_law_40 (by decide) (by decide) rfl (by decide) (w_heat hI hT9 hj6 hL km))
      by_cases h7 : m = 7
      · subst h7
        exact EvL.more (y_tableIn (tgt := 513) dL_law_40 (by decide) (by decide) rfl (by decide) (w_light hI hT9 hj6 hL km))
      by_cases h8 : m = 8
      · subst h8
        exact EvL.more (y_tableIn (tgt := 538) dL_law_40 (by decide) (by decide) rfl (by decide) (w_pull hI hT9 hj6 hL km))
      by_cases h9 : m = 9
      · subst h9
        exact EvL.more (y_tableIn (tgt := 575) dL_law_40 (by decide) (by decide) rfl (by decide) (w_undo hI hT9 hj6 hL km))
      by_cases h10 : m = 10
      · subst h10
        exact EvL.more (y_tableIn (tgt := 588) dL_law_40 (by decide) (by decide) rfl (by decide) (w_judged hI hT9 hj6 hL km))
      by_cases h11 : m = 11
      · subst h11
        exact EvL.more (y_tableIn (tgt := 613) dL_law_40 (by decide) (by decide) rfl (by decide) (w_later hI hT9 hj6 hL km))
      by_cases h12 : m = 12
      · subst h12
        exact EvL.more (y_tableIn (tgt := 650) dL_law_40 (by decide) (by decide) rfl (by decide) (w_creak hI hT9 hj6 hL km))
      by_cases h13 : m = 13
      · subst h13
        exact EvL.more (y_tableIn (tgt := 687) dL_law_40 (by decide) (by decide) rfl (by decide) (w_pops hI hT9 hj6 hL km))
      by_cases h14 : m = 14
      · subst h14
        exact EvL.more (y_tableIn (tgt := 712) dL_law_40 (by decide) (by decide) rfl (by decide) (w_first hI hT9 hj6 hL km))
      by_cases h15 : m = 15
      · subst h15
        exact EvL.more (y_tableIn (tgt := 725) dL_law_40 (by decide) (by decide) rfl (by decide) (w_riot hI hT9 hj6 hL km))
      by_cases h16 : m = 16
      · subst h16
        exact EvL.more (y_tableIn (tgt := 750) dL_law_40 (by decide) (by decide) rfl (by decide) (w_calm hI hT9 hj6 hL km))
      by_cases h17 : m = 17
      · subst h17
        exact EvL.more (y_tableIn (tgt := 775) dL_law_40 (by decide) (by decide) rfl (by decide) (w_roofed hI hT9 hj6 hL km))
      by_cases h18 : m = 18
      · subst h18
        exact EvL.more (y_tableIn (tgt := 788) dL_law_40 (by decide) (by decide) rfl (by decide) (w_had hI hT9 hj6 hL km))
      by_cases h19 : m = 19
      · subst h19
        exact EvL.more (y_tableIn (tgt := 813) dL_law_40 (by decide) (by decide) rfl (by decide) (w_waits hI hT9 hj6 hL km))
      by_cases h20 : m = 20
      · subst h20
        exact EvL.more (y_tableIn (tgt := 838) dL_law_40 (by decide) (by decide) rfl (by decide) (w_plays hI hT9 hj6 hL km))
      by_cases h21 : m = 21
      · subst h21
        exact EvL.more (y_tableIn (tgt := 863) dL_law_40 (by decide) (by decide) rfl (by decide) (w_blend hI hT9 hj6 hL km))
      by_cases h22 : m = 22
      · subst h22
        exact EvL.more (y_tableIn (tgt := 888) dL_law_40 (by decide) (by decide) rfl (by decide) (w_aim hI hT9 hj6 hL km))
      by_cases h23 : m = 23
      · subst h23
        exact EvL.more (y_tableIn (tgt := 937) dL_law_40 (by decide) (by decide) rfl (by decide) (w_reach hI hT9 hj6 hL km))
      by_cases h24 : m = 24
      · subst h24
        exact EvL.more (y_tableIn (tgt := 962) dL_law_40 (by decide) (by decide) rfl (by decide) (w_far hI hT9 hj6 hL km))
      by_cases h25 : m = 25
      · subst h25
        exact EvL.more (y_tableIn (tgt := 999) dL_law_40 (by decide) (by decide) rfl (by decide) (w_parts hI hT9 hj6 hL km))
      by_cases h26 : m = 26
      · subst h26
        exact EvL.more (y_tableIn (tgt := 1012) dL_law_40 (by decide) (by decide) rfl (by decide) (w_heard hI hT9 hj6 hL km))
      by_cases h27 : m = 27
      · subst h27
        exact EvL.more (y_tableIn (tgt := 1037) dL_law_40 (by decide) (by decide) rfl (by decide) (w_news hI hT9 hj6 hL km))
      by_cases h28 : m = 28
      · subst h28
        exact EvL.more (y_tableIn (tgt := 1050) dL_law_40 (by decide) (by decide) rfl (by decide) (w_loud hI hT9 hj6 hL km))
      by_cases h29 : m = 29
      · subst h29
        exact EvL.more (y_tableIn (tgt := 1063) dL_law_40 (by decide) (by decide) rfl (by decide) (w_tall hI hT9 hj6 hL km))
      by_cases h30 : m = 30
      · subst h30
        exact EvL.more (y_tableIn (tgt := 1076) dL_law_40 (by decide) (by decide) rfl (by decide) (w_yields hI hT9 hj6 hL km))
      by_cases h31 : m = 31
      · subst h31
        exact EvL.more (y_tableIn (tgt := 1101) dL_law_40 (by decide) (by decide) rfl (by decide) (w_see hI hT9 hj6 hL km))
      by_cases h32 : m = 32
      · subst h32
        exact EvL.more (y_tableIn (tgt := 1166) dL_law_40 (by decide) (by decide) rfl (by decide) (w_who hI hT9 hj6 hL km))
      by_cases h33 : m = 33
      · subst h33
        exact EvL.more (y_tableIn (tgt := 1179) dL_law_40 (by decide) (by decide) rfl (by decide) (w_ask hI hT9 hj6 hL km))
      by_cases h34 : m = 34
      · subst h34
        exact EvL.more (y_tableIn (tgt := 1192) dL_law_40 (by decide) (by decide) rfl (by decide) (w_stick hI hT9 hj6 hL km))
      by_cases h35 : m = 35
      · subst h35
        exact EvL.more (y_tableIn (tgt := 1205) dL_law_40 (by decide) (by decide) rfl (by decide) (w_chance hI hT9 hj6 hL km))
      by_cases h36 : m = 36
      · subst h36
        exact y_tableIn (tgt := 1254) dL_law_40 (by decide) (by decide) rfl (by decide) (w_rests hl9 hI hT9 hj6 hL kk)
      by_cases h37 : m = 37
      · subst h37
        exact EvL.more (y_tableIn (tgt := 1346) dL_law_40 (by decide) (by decide) rfl (by decide) (w_weeks hI hT9 hj6 hL km))
      by_cases h38 : m = 38
      · subst h38
        exact EvL.more (y_tableIn (tgt := 1395) dL_law_40 (by decide) (by decide) rfl (by decide) (w_mark hI hT9 hj6 hL km))
      by_cases h39 : m = 39
      · subst h39
        exact EvL.more (y_tableIn (tgt := 1448) dL_law_40 (by decide) (by decide) rfl (by decide) (w_count hI hT9 hj6 hL km))
      omega
end YLP
