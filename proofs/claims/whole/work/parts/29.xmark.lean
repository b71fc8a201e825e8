section XMK
def undoE (E : Gs) : Gs := (E.setS (E.us (E.un - 1))).setU (E.un - 1, E.us)
theorem XJ.und {M M' : Mm} {E : Gs} {y y' w w' p : Nat} (hX : XJ M E y y' w w' p) (h0 : 0 < E.un) (h2 : M'.2 = M.2) (hf : ∀ i, ¬ (44 ≤ i ∧ i ≤ 50) → ¬ i = 0 → M'.1 i = M.1 i) (hS : SX M' 44 E.Y.n (E.us (E.un - 1)))
    (h10 : M'.1 0 10 = nI ((p + 15) % 16)) (h11 : M'.1 0 11 = nI (E.un - 1)) : XJ M' (undoE E) y y' w w' ((p + 15) % 16) := by
  obtain ⟨⟨hld, hsl, hy, hy', hyy⟩, ⟨hpl, hsp, hw, hw', hww⟩, hY, hW, hS0, hV, hK, ⟨hpt, hp16, hun, hu16, hU⟩, ⟨htl, htl2, htc⟩⟩ := hX
  have hyl := yd_le hy
  refine ⟨⟨by rw [h2]; exact hld, by rw [h2]; exact hsl, hy, hy', hyy⟩, ⟨by rw [h2]; exact hpl, by rw [h2]; exact hsp, hw, hw', hww⟩, hY.congr h2 (fun i a b => hf i (by omega) (by omega)), hW.congr (fun q a b => hf q (by omega) (by omega)), hS, hV.congr (fun q a b => hf q (by omega) (by omega)), fun k hk => (hK k hk).congr (fun i a b => hf i (by omega) (by omega)), ⟨h10, Nat.mod_lt _ (by decide), h11, by show E.un - 1 ≤ 16; omega, fun k hk => ?_⟩, ⟨by rw [hf 6 (by omega) (by omega)]; exact htl, htl2, fun k hk => by rw [hf 7 (by omega) (by omega)]; exact htc k hk⟩⟩
  have hk2 : k < E.un - 1 := hk
  show SX M' (rng ((p + 15) % 16) (E.un - 1) k) E.Y.n (E.us k)
  rw [show rng ((p + 15) % 16) (E.un - 1) k = rng p E.un k from by unfold rng; omega]
  exact (hU k (by omega)).congr (fun q a b => hf q (by have := rng_ge p E.un k; omega) (by have := rng_ge p E.un k; omega))
set_option maxHeartbeats 4000000 in
set_option maxRecDepth 20000 in
theorem c_undo {G : Gt} {M : Mm} {E : Gs} {y y' w w' p : Nat} (hX : XJ M E y y' w w' p) : Call G 3 mX10_undo [.ref 0] M (fun r M' => (0 < E.un → r = some (.int 1) ∧ XE M M' (undoE E)) ∧ (E.un = 0 → r = some (.int 0) ∧ M' = M)) := by
  obtain ⟨⟨hld, hsl, hy, hy', hyy⟩, ⟨hpl, hsp, hw, hw', hww⟩, hY, hW, hS, hV, hK, ⟨hpt, hp16, hun, hu16, hU⟩, ⟨htl, htl2, htc⟩⟩ := id hX
  have h6 := hY.1.2
  have hs5 := hY.2.1.2
  refine Call.intro rfl (Nat.le_of_ble_eq_true rfl) ?_
  show Ev G _ mX10_undo 0 [.ref 0, RA] [] M _
  refine e_aload_n dX10_undo_0 rfl ?_
  refine e_getI dX10_undo_1 fl_X10_114 sh_x rfl ?_
  refine e_if_gt (tgt := 9) dX10_undo_4 (by decide) (fun c4 => ?_) (fun c4 => ?_)
  · -- 4 jumps
    rw [hun] at c4
    have h0 : 0 < E.un := (nI_ltI (a := 0) (by omega) (by omega)).mp c4
    have hqs : 126 + 7 * ((p + 15) % 16) ∈ stA := by
      have h := rng_st ((p + 15) % 16) 16 0
      unfold rng at h
      rw [show 126 + 7 * (((p + 15) % 16 + 16 - 16 + 0) % 16) = 126 + 7 * ((p + 15) % 16) by omega] at h
      exact h
    refine e_aload_n dX10_undo_9 rfl ?_
    refine e_aload_n dX10_undo_10 rfl ?_
    refine e_getI dX10_undo_11 fl_X10_217 sh_x rfl ?_
    rw [hpt]
    refine e_bipush (v := 16) dX10_undo_14 (by decide) ?_
    refine e_iadd dX10_undo_16 ?_
    rw [show nI p + 16 = nI (p + 16) from nI_add p 16]
    refine e_iconst (v := 1) dX10_undo_17 (by decide) ?_
    refine e_isub dX10_undo_18 ?_
    rw [show nI (p + 16) - 1 = nI (p + 15) from nI_sub1 _]
    refine e_bipush (v := 16) dX10_undo_19 (by decide) ?_
    refine e_irem dX10_undo_21 (by decide) ?_
    rw [show nI (p + 15) - nI (p + 15) / 16 * 16 = nI ((p + 15) % 16) from pk_rem (d := 16) (by omega) (by omega) (by omega)]
    refine e_putI dX10_undo_22 fl_X10_217 sh_x rfl rfl rfl ?_
    refine e_aload_n dX10_undo_25 rfl ?_
    refine e_dup dX10_undo_26 rfl ?_
    refine e_getI dX10_undo_27 fl_X10_114 sh_x rfl ?_
    rw [setI_1, if_neg (by omega), hun]
    refine e_iconst (v := 1) dX10_undo_30 (by decide) ?_
    refine e_isub dX10_undo_31 ?_
    rw [show nI E.un - 1 = nI (E.un - 1) from pk_sub (b := 1) (by omega)]
    refine e_putI dX10_undo_32 fl_X10_114 sh_x rfl rfl rfl ?_
    refine e_aload_n dX10_undo_35 rfl ?_
    refine e_aload_n dX10_undo_36 rfl ?_
    refine e_getI dX10_undo_37 fl_X10_217 sh_x rfl ?_
    rw [setI_1, if_neg (by omega), setI_1, if_pos ⟨rfl, rfl⟩]
    refine cV1r dX10_undo_40 mo_X10_pastAt ml_X10_220 sh_x rfl (Nat.le_of_ble_eq_true rfl) (by omega) (c_pastAt (p := (p + 15) % 16) (Nat.mod_lt _ (by decide))) ?_
    refine e_astore_n (ls' := [_, _]) dX10_undo_43 (by decide) rfl ?_
    refine e_aload_n dX10_undo_44 rfl ?_
    refine e_ifnull dX10_undo_45 ?_
    refine e_aload_n dX10_undo_48 rfl ?_
    refine e_getR dX10_undo_49 fl_X10_39 sh_x rfl ?_
    refine e_aload_n dX10_undo_52 rfl ?_
    refine cV1x dX10_undo_53 mo_X3_copyFrom ml_X10_224 (sh_st (by first | assumption | exact mk_st (by assumption) | decide)) rfl (Nat.le_of_ble_eq_true rfl) (by omega) (c_copyS (o := 44) (q := 126 + 7 * ((p + 15) % 16)) (by decide) hqs (by omega)) ?_
    rintro r M1 ⟨rfl, h2, hf, hc⟩
    dsimp only [Option.toList, List.cons_append, List.nil_append]
    refine e_iconst (v := 1) dX10_undo_56 (by decide) ?_
    refine e_zret dX10_undo_57 rfl (by first | rfl | exact b2i_nar _) ?_
    refine ⟨fun _ => ⟨rfl, ⟨y, y', w, w', (p + 15) % 16, hX.und h0 h2 (fun i a b => ?_) ?_ ?_ ?_⟩, fun i hi => ⟨?_, by rw [h2]; rfl, by rw [h2]; rfl⟩⟩, fun h => absurd h (by omega)⟩
    · rw [hf i (by omega)]; funext k; rw [setI_1, if_neg (fun e => b e.1), setI_1, if_neg (fun e => b e.1)]
    · refine hc _ _ h6 ?_
      have hu := hU (E.un - 1) (by omega)
      rw [show rng p E.un (E.un - 1) = 126 + 7 * ((p + 15) % 16) from by unfold rng; omega] at hu
      exact hu.congr (fun q a b => by funext k; rw [setI_1, if_neg (by omega), setI_1, if_neg (by omega)])
    · rw [hf 0 (by omega), setI_1, if_neg (by omega), setI_1, if_pos ⟨rfl, rfl⟩]
    · rw [hf 0 (by omega), setI_1, if_pos ⟨rfl, rfl⟩]
    · rw [hf i (by omega)]; funext k; rw [setI_1, if_neg (by omega), setI_1, if_neg (by omega)]
  · -- 4 goes on
    rw [hun] at c4
    refine e_iconst (v := 0) dX10_undo_7 (by decide) ?_
    refine e_zret dX10_undo_8 rfl (by first | rfl | exact b2i_nar _) ?_
    exact ⟨fun h => absurd h (by rw [np0 (by omega) c4]; omega), fun _ => ⟨rfl, rfl⟩⟩
set_option maxHeartbeats 4000000 in
set_option maxRecDepth 20000 in
theorem c_markAt {G : Gt} {M : Mm} {k : Nat} (hk : k < 4) : Call G 1 mX10_markAt [.ref 0, .int (nI k)] M (eqQ (some (.ref (62 + 16 * k))) M) := by
  refine Call.intro rfl (Nat.le_of_ble_eq_true rfl) ?_
  show Ev G _ mX10_markAt 0 [.ref 0, .int (nI k)] [] M _
  refine e_iload_n dX10_markAt_0 rfl ?_
  refine e_if_lt (tgt := 22) dX10_markAt_1 (by decide) (fun c1 => absurd c1 (nI_pos (by omega))) (fun c1 => ?_)
  refine e_iload_n dX10_markAt_4 rfl ?_
  refine e_aload_n dX10_markAt_5 rfl ?_
  refine e_getR dX10_markAt_6 fl_X10_55 sh_x rfl ?_
  refine e_alenM dX10_markAt_9 (sa_x_marks) rfl ?_
  refine e_icmp_ge (tgt := 22) dX10_markAt_10 (by decide) (fun c10 => absurd c10 (fun q => q ((nI_ltI (b := 4) (by omega) (by omega)).mpr hk))) (fun c10 => ?_)
  refine e_aload_n dX10_markAt_13 rfl ?_
  refine e_getR dX10_markAt_14 fl_X10_55 sh_x rfl ?_
  refine e_iload_n dX10_markAt_17 rfl ?_
  refine e_mald dX10_markAt_18 (sa_x_marks) (in_of (by decide) hk) ?_
  rw [nI_clamp (by omega)]
  refine e_goto (tgt := 23) dX10_markAt_19 (by decide) ?_
  refine e_aret dX10_markAt_23 rfl ?_
  exact ⟨rfl, rfl⟩
set_option maxHeartbeats 4000000 in
set_option maxRecDepth 20000 in
theorem c_markAtN {G : Gt} {M : Mm} {i : Int32} (hk : ¬ (¬ i < 0 ∧ i < nI 4)) : Call G 1 mX10_markAt [.ref 0, .int i] M (eqQ (some .null) M) := by
  refine Call.intro rfl (Nat.le_of_ble_eq_true rfl) ?_
  show Ev G _ mX10_markAt 0 [.ref 0, .int i] [] M _
  refine e_iload_n dX10_markAt_0 rfl ?_
  refine e_if_lt (tgt := 22) dX10_markAt_1 (by decide) (fun c1 => ?_) (fun c1 => ?_)
  · -- 1 jumps
    refine e_anull dX10_markAt_22 ?_
    refine e_aretN dX10_markAt_23 rfl ?_
    exact ⟨rfl, rfl⟩
  · -- 1 goes on
    refine e_iload_n dX10_markAt_4 rfl ?_
    refine e_aload_n dX10_markAt_5 rfl ?_
    refine e_getR dX10_markAt_6 fl_X10_55 sh_x rfl ?_
    refine e_alenM dX10_markAt_9 (sa_x_marks) rfl ?_
    refine e_icmp_ge (tgt := 22) dX10_markAt_10 (by decide) (fun c10 => ?_) (fun c10 => absurd c10 (fun q => hk ⟨c1, q⟩))
    refine e_anull dX10_markAt_22 ?_
    refine e_aretN dX10_markAt_23 rfl ?_
    exact ⟨rfl, rfl⟩
theorem mk_id {k : Nat} (hk : k < 4) : 62 + 16 * k ∈ mkA := by
  rcases (show k = 0 ∨ k = 1 ∨ k = 2 ∨ k = 3 by omega) with rfl | rfl | rfl | rfl <;> decide
def layE (E : Gs) (k : Nat) : Gs := E.setK (fun q => if q = k then some (E.S, E.W, E.V) else E.K q)
def backE (E : Gs) (q : Sv × Rv × Rv) : Gs := (((E.setS q.1).setW q.2.1).setV q.2.2).setU (0, E.us)
set_option maxHeartbeats 4000000 in
set_option maxRecDepth 20000 in
theorem c_markN {G : Gt} {M : Mm} {E : Gs} {y y' w w' p : Nat} (hX : XJ M E y y' w w' p) {i b : Int32} (hk0 : ¬ (¬ i < 0 ∧ i < nI 4)) : Call G 3 mX10_mark [.ref 0, .int i, .int b] M (eqQ (some (.int 0)) M) := by
  obtain ⟨⟨hld, hsl, hy, hy', hyy⟩, ⟨hpl, hsp, hw, hw', hww⟩, hY, hW, hS, hV, hK, ⟨hpt, hp16, hun, hu16, hU⟩, ⟨htl, htl2, htc⟩⟩ := id hX
  have h6 := hY.1.2
  have hs5 := hY.2.1.2
  refine Call.intro rfl (Nat.le_of_ble_eq_true rfl) ?_
  show Ev G _ mX10_mark 0 [.ref 0, .int i, .int b, RA] [] M _
  refine e_aload_n dX10_mark_0 rfl ?_
  refine e_iload_n dX10_mark_1 rfl ?_
  refine cV1r dX10_mark_2 mo_X10_markAt ml_X10_117 sh_x rfl (Nat.le_of_ble_eq_true rfl) (by omega) (c_markAtN hk0) ?_
  refine e_astore_nN (ls' := [_, _, _, _]) dX10_mark_5 (by decide) rfl ?_
  refine e_aload_nN dX10_mark_6 rfl ?_
  refine e_ifnullN (tgt := 21) dX10_mark_7 (by decide) ?_
  refine e_iconst (v := 0) dX10_mark_21 (by decide) ?_
  refine e_zret dX10_mark_22 rfl (by first | rfl | exact b2i_nar _) ?_
  exact ⟨rfl, rfl⟩
set_option maxHeartbeats 4000000 in
set_option maxRecDepth 20000 in
theorem c_markL {G : Gt} {M : Mm} {E : Gs} {y y' w w' p : Nat} (hX : XJ M E y y' w w' p) {k : Nat} {b : Int32} (hk : k < 4) (hb : b = 0) : Call G 3 mX10_mark [.ref 0, .int (nI k), .int b] M (fun r M' => r = some (.int 1) ∧ XE M M' (layE E k)) := by
  obtain ⟨⟨hld, hsl, hy, hy', hyy⟩, ⟨hpl, hsp, hw, hw', hww⟩, hY, hW, hS, hV, hK, ⟨hpt, hp16, hun, hu16, hU⟩, ⟨htl, htl2, htc⟩⟩ := id hX
  have h6 := hY.1.2
  have hs5 := hY.2.1.2
  have hmk := mk_id hk
  have hyl := yd_le hy
  refine Call.intro rfl (Nat.le_of_ble_eq_true rfl) ?_
  show Ev G _ mX10_mark 0 [.ref 0, .int (nI k), .int b, RA] [] M _
  refine e_aload_n dX10_mark_0 rfl ?_
  refine e_iload_n dX10_mark_1 rfl ?_
  refine cV1r dX10_mark_2 mo_X10_markAt ml_X10_117 sh_x rfl (Nat.le_of_ble_eq_true rfl) (by omega) (c_markAt hk) ?_
  refine e_astore_n (ls' := [_, _, _, _]) dX10_mark_5 (by decide) rfl ?_
  refine e_aload_n dX10_mark_6 rfl ?_
  refine e_ifnull dX10_mark_7 ?_
  refine e_iload_n dX10_mark_10 rfl ?_
  refine e_if_eq (tgt := 23) dX10_mark_11 (by decide) (fun c11 => ?_) (fun c11 => absurd c11 (fun q => q hb))
  refine e_iload_n dX10_mark_23 rfl ?_
  refine e_if_eq (tgt := 68) dX10_mark_24 (by decide) (fun c24 => ?_) (fun c24 => absurd c24 (fun q => q hb))
  refine e_aload_n dX10_mark_68 rfl ?_
  refine e_getR dX10_mark_69 fl_X10_234 (sh_mk (by first | assumption | decide)) rfl ?_
  refine e_aload_n dX10_mark_72 rfl ?_
  refine e_getR dX10_mark_73 fl_X10_39 sh_x rfl ?_
  refine cV1x dX10_mark_76 mo_X3_copyFrom ml_X10_224 (sh_st (by first | assumption | exact mk_st (by assumption) | decide)) rfl (Nat.le_of_ble_eq_true rfl) (by omega) (c_copyS (o := 62 + 16 * k + 1) (q := 44) (by first | decide | exact mk_st (mk_id hk)) (by first | decide | exact mk_st (mk_id hk)) (by omega)) ?_
  rintro r M1 ⟨rfl, h2, hf, hc⟩
  dsimp only [Option.toList, List.cons_append, List.nil_append]
  have hld0 := hld
  have hpl0 := hpl
  have hld : M1.2.2 0 1 = y := by rw [h2]; exact hld
  have hpl : M1.2.2 0 3 = w := by rw [h2]; exact hpl
  refine e_aload_n dX10_mark_79 rfl ?_
  refine e_getR dX10_mark_80 fl_X10_237 (sh_mk (by first | assumption | decide)) rfl ?_
  refine e_aload_n dX10_mark_83 rfl ?_
  refine e_getP dX10_mark_84 fl_X10_29 sh_x rfl ?_
  first | rw [hpl] | (simp only [setI_2, setI_22, setL_22]; rw [hpl])
  refine cV1x dX10_mark_87 mo_X5_copyFrom ml_X10_238 (sh_wk (by first | assumption | exact wk2 (by assumption) | exact mk_wk (by assumption) | decide)) rfl (Nat.le_of_ble_eq_true rfl) (by omega) (c_copyW (o := 62 + 16 * k + 8) (q := w) (by first | exact wk2 hw | exact mk_wk (mk_id hk)) (by first | exact wk2 hw | exact mk_wk (mk_id hk)) (by omega)) ?_
  rintro r M2 ⟨rfl, h22, hf2, hc2⟩
  dsimp only [Option.toList, List.cons_append, List.nil_append]
  refine e_aload_n dX10_mark_90 rfl ?_
  refine e_getR dX10_mark_91 fl_X10_241 (sh_mk (by first | assumption | decide)) rfl ?_
  refine e_aload_n dX10_mark_94 rfl ?_
  refine e_getR dX10_mark_95 fl_X10_49 sh_x rfl ?_
  refine cV1x dX10_mark_98 mo_X2_copyFrom ml_X10_242 (sh_sn (by first | assumption | exact mk_sn (by assumption) | decide)) rfl (Nat.le_of_ble_eq_true rfl) (by omega) (c_copyV (o := 62 + 16 * k + 12) (q := 58) (by first | decide | exact mk_sn (mk_id hk)) (by first | decide | exact mk_sn (mk_id hk)) (by omega)) ?_
  rintro r M3 ⟨rfl, h23, hf3, hc3⟩
  dsimp only [Option.toList, List.cons_append, List.nil_append]
  refine e_aload_n dX10_mark_101 rfl ?_
  refine e_iconst (v := 1) dX10_mark_102 (by decide) ?_
  refine e_putI dX10_mark_103 fl_X10_121 (sh_mk (by first | assumption | decide)) rfl (by first | rfl | exact b2i_nar _ | assumption) rfl ?_
  refine e_iconst (v := 1) dX10_mark_106 (by decide) ?_
  refine e_zret dX10_mark_107 rfl (by first | rfl | exact b2i_nar _) ?_
  have hall : ∀ i, ¬ (62 + 16 * k ≤ i ∧ i ≤ 62 + 16 * k + 15) → (setI M3 (62 + 16 * k) 0 1).1 i = M.1 i := fun i hi => by
    funext q
    rw [setI_1, if_neg (by omega), hf3 i (by omega), hf2 i (by omega), hf i (by omega)]
  refine ⟨rfl, ⟨y, y', w, w', p, ⟨by show M3.2.2 0 1 = y; rw [h23, h22, h2]; exact hld0, by show M3.2.2 0 2 = y'; rw [h23, h22, h2]; exact hsl, hy, hy', hyy⟩, ⟨by show M3.2.2 0 3 = w; rw [h23, h22, h2]; exact hpl0, by show M3.2.2 0 4 = w'; rw [h23, h22, h2]; exact hsp, hw, hw', hww⟩, hY.congr (by show M3.2 = M.2; rw [h23, h22, h2]) (fun i a b => hall i (by omega)), hW.congr (fun i a b => hall i (by omega)), hS.congr (fun i a b => hall i (by omega)), hV.congr (fun i a b => hall i (by omega)), fun q hq => ?_, ⟨by rw [hall 0 (by omega)]; exact hpt, hp16, by rw [hall 0 (by omega)]; exact hun, hu16, fun q hq => (hU q hq).congr (fun i a b => hall i (by have := rng_ge p E.un q; omega))⟩, ⟨by rw [hall 6 (by omega)]; exact htl, htl2, fun q hq => by rw [hall 7 (by omega)]; exact htc q hq⟩⟩, fun i hi => ⟨hall i (by omega), by show M3.2.1 i = _; rw [h23, h22, h2], by show M3.2.2 i = _; rw [h23, h22, h2]⟩⟩
  by_cases e : q = k
  · subst e
    show MX _ q E.Y.n (if q = q then some (E.S, E.W, E.V) else E.K q)
    rw [if_pos rfl]
    refine ⟨by rw [setI_1, if_pos ⟨rfl, rfl⟩], ?_, ?_, ?_⟩
    · exact (hc _ _ h6 hS).congr (fun i a b => by funext z; rw [setI_1, if_neg (by omega), hf3 i (by omega), hf2 i (by omega)])
    · exact (hc2 _ (hW.congr (fun i a b => hf i (by omega)))).congr (fun i a b => by funext z; rw [setI_1, if_neg (by omega), hf3 i (by omega)])
    · exact (hc3 _ (hV.congr (fun i a b => by rw [hf2 i (by omega), hf i (by omega)]))).congr (fun i a b => by funext z; rw [setI_1, if_neg (by omega)])
  · show MX _ q E.Y.n (if q = k then some (E.S, E.W, E.V) else E.K q)
    rw [if_neg e]
    exact (hK q hq).congr (fun i a b => hall i (by omega))
set_option maxHeartbeats 4000000 in
set_option maxRecDepth 20000 in
theorem c_markB {G : Gt} {M : Mm} {E : Gs} {y y' w w' p : Nat} (hX : XJ M E y y' w w' p) {k : Nat} {b : Int32} (hk : k < 4) (hb : b = 1) : Call G 3 mX10_mark [.ref 0, .int (nI k), .int b] M (fun r M' => match E.K k with
    | none => r = some (.int 0) ∧ M' = M
    | some q => r = some (.int 1) ∧ XE M M' (backE E q)) := by
  obtain ⟨⟨hld, hsl, hy, hy', hyy⟩, ⟨hpl, hsp, hw, hw', hww⟩, hY, hW, hS, hV, hK, ⟨hpt, hp16, hun, hu16, hU⟩, ⟨htl, htl2, htc⟩⟩ := id hX
  have h6 := hY.1.2
  have hs5 := hY.2.1.2
  have hmk := mk_id hk
  have hyl := yd_le hy
  have hKk := hK k hk
  refine Call.intro rfl (Nat.le_of_ble_eq_true rfl) ?_
  show Ev G _ mX10_mark 0 [.ref 0, .int (nI k), .int b, RA] [] M _
  refine e_aload_n dX10_mark_0 rfl ?_
  refine e_iload_n dX10_mark_1 rfl ?_
  refine cV1r dX10_mark_2 mo_X10_markAt ml_X10_117 sh_x rfl (Nat.le_of_ble_eq_true rfl) (by omega) (c_markAt hk) ?_
  refine e_astore_n (ls' := [_, _, _, _]) dX10_mark_5 (by decide) rfl ?_
  refine e_aload_n dX10_mark_6 rfl ?_
  refine e_ifnull dX10_mark_7 ?_
  refine e_iload_n dX10_mark_10 rfl ?_
  refine e_if_eq (tgt := 23) dX10_mark_11 (by decide) (fun c11 => absurd c11 (by rw [hb]; decide)) (fun c11 => ?_)
  refine e_aload_n dX10_mark_14 rfl ?_
  refine e_getI dX10_mark_15 fl_X10_121 (sh_mk (by first | assumption | decide)) rfl ?_
  refine e_if_ne (tgt := 23) dX10_mark_18 (by decide) (fun c18 => ?_) (fun c18 => ?_)
  · -- 18 jumps
    obtain ⟨q, hkq⟩ : ∃ q, E.K k = some q := by
      cases hq : E.K k with
      | none => rw [hq] at hKk; exact absurd hKk c18
      | some q => exact ⟨q, rfl⟩
    rw [hkq] at hKk
    refine e_iload_n dX10_mark_23 rfl ?_
    refine e_if_eq (tgt := 68) dX10_mark_24 (by decide) (fun c24 => absurd c24 (by rw [hb]; decide)) (fun c24 => ?_)
    refine e_aload_n dX10_mark_27 rfl ?_
    refine e_getR dX10_mark_28 fl_X10_39 sh_x rfl ?_
    refine e_aload_n dX10_mark_31 rfl ?_
    refine e_getR dX10_mark_32 fl_X10_234 (sh_mk (by first | assumption | decide)) rfl ?_
    refine cV1x dX10_mark_35 mo_X3_copyFrom ml_X10_224 (sh_st (by first | assumption | exact mk_st (by assumption) | decide)) rfl (Nat.le_of_ble_eq_true rfl) (by omega) (c_copyS (o := 44) (q := 62 + 16 * k + 1) (by first | decide | exact mk_st (mk_id hk)) (by first | decide | exact mk_st (mk_id hk)) (by omega)) ?_
    rintro r M1 ⟨rfl, h2, hf, hc⟩
    dsimp only [Option.toList, List.cons_append, List.nil_append]
    have hld0 := hld
    have hpl0 := hpl
    have hld : M1.2.2 0 1 = y := by rw [h2]; exact hld
    have hpl : M1.2.2 0 3 = w := by rw [h2]; exact hpl
    refine e_aload_n dX10_mark_38 rfl ?_
    refine e_getP dX10_mark_39 fl_X10_29 sh_x rfl ?_
    first | rw [hpl] | (simp only [setI_2, setI_22, setL_22]; rw [hpl])
    refine e_aload_n dX10_mark_42 rfl ?_
    refine e_getR dX10_mark_43 fl_X10_237 (sh_mk (by first | assumption | decide)) rfl ?_
    refine cV1x dX10_mark_46 mo_X5_copyFrom ml_X10_238 (sh_wk (by first | assumption | exact wk2 (by assumption) | exact mk_wk (by assumption) | decide)) rfl (Nat.le_of_ble_eq_true rfl) (by omega) (c_copyW (o := w) (q := 62 + 16 * k + 8) (by first | exact wk2 hw | exact mk_wk (mk_id hk)) (by first | exact wk2 hw | exact mk_wk (mk_id hk)) (by omega)) ?_
    rintro r M2 ⟨rfl, h22, hf2, hc2⟩
    dsimp only [Option.toList, List.cons_append, List.nil_append]
    refine e_aload_n dX10_mark_49 rfl ?_
    refine e_getR dX10_mark_50 fl_X10_49 sh_x rfl ?_
    refine e_aload_n dX10_mark_53 rfl ?_
    refine e_getR dX10_mark_54 fl_X10_241 (sh_mk (by first | assumption | decide)) rfl ?_
    refine cV1x dX10_mark_57 mo_X2_copyFrom ml_X10_242 (sh_sn (by first | assumption | exact mk_sn (by assumption) | decide)) rfl (Nat.le_of_ble_eq_true rfl) (by omega) (c_copyV (o := 58) (q := 62 + 16 * k + 12) (by first | decide | exact mk_sn (mk_id hk)) (by first | decide | exact mk_sn (mk_id hk)) (by omega)) ?_
    rintro r M3 ⟨rfl, h23, hf3, hc3⟩
    dsimp only [Option.toList, List.cons_append, List.nil_append]
    refine e_aload_n dX10_mark_60 rfl ?_
    refine e_iconst (v := 0) dX10_mark_61 (by decide) ?_
    refine e_putI dX10_mark_62 fl_X10_114 sh_x rfl rfl rfl ?_
    refine e_goto (tgt := 106) dX10_mark_65 (by decide) ?_
    refine e_iconst (v := 1) dX10_mark_106 (by decide) ?_
    refine e_zret dX10_mark_107 rfl (by first | rfl | exact b2i_nar _) ?_
    rw [hkq]
    have hall : ∀ i, ¬ (44 ≤ i ∧ i ≤ 48) → ¬ (w ≤ i ∧ i ≤ w + 3) → ¬ (58 ≤ i ∧ i ≤ 61) → ¬ i = 0 → (setI M3 0 11 0).1 i = M.1 i := fun i h1 h3 h4 h5 => by
      funext q
      rw [setI_1, if_neg (by omega), hf3 i (by omega), hf2 i (by omega), hf i (by omega)]
    refine ⟨rfl, ⟨y, y', w, w', p, ⟨by show M3.2.2 0 1 = y; rw [h23, h22, h2]; exact hld0, by show M3.2.2 0 2 = y'; rw [h23, h22, h2]; exact hsl, hy, hy', hyy⟩, ⟨by show M3.2.2 0 3 = w; rw [h23, h22, h2]; exact hpl0, by show M3.2.2 0 4 = w'; rw [h23, h22, h2]; exact hsp, hw, hw', hww⟩, hY.congr (by show M3.2 = M.2; rw [h23, h22, h2]) (fun i a b => hall i (by omega) (by omega) (by omega) (by omega)), ?_, ?_, ?_, fun q hq => (hK q hq).congr (fun i a b => hall i (by omega) (by omega) (by omega) (by omega)), ⟨by rw [setI_1, if_neg (by omega), hf3 0 (by omega), hf2 0 (by omega), hf 0 (by omega)]; exact hpt, hp16, by rw [setI_1, if_pos ⟨rfl, rfl⟩]; rfl, by show 0 ≤ 16; omega, fun q hq => absurd hq (Nat.not_lt_zero _)⟩, ⟨by rw [hall 6 (by omega) (by omega) (by omega) (by omega)]; exact htl, htl2, fun q hq => by rw [hall 7 (by omega) (by omega) (by omega) (by omega)]; exact htc q hq⟩⟩, fun i hi => ⟨hall i (by omega) (by omega) (by omega) (by omega), by show M3.2.1 i = _; rw [h23, h22, h2], by show M3.2.2 i = _; rw [h23, h22, h2]⟩⟩
    · exact (hc2 _ (hKk.2.2.1.congr (fun i a b => hf i (by omega)))).congr (fun i a b => by funext z; rw [setI_1, if_neg (by omega), hf3 i (by omega)])
    · exact (hc _ _ h6 hKk.2.1).congr (fun i a b => by funext z; rw [setI_1, if_neg (by omega), hf3 i (by omega), hf2 i (by omega)])
    · exact (hc3 _ (hKk.2.2.2.congr (fun i a b => by rw [hf2 i (by omega), hf i (by omega)]))).congr (fun i a b => by funext z; rw [setI_1, if_neg (by omega)])
  · -- 18 goes on
    refine e_iconst (v := 0) dX10_mark_21 (by decide) ?_
    refine e_zret dX10_mark_22 rfl (by first | rfl | exact b2i_nar _) ?_
    cases hq : E.K k with
    | none => exact ⟨rfl, rfl⟩
    | some q => exact absurd c18 (by rw [hq] at hKk; rw [hKk.1]; decide)
end XMK
