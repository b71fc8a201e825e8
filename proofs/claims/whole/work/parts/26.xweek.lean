section XWK
def litV (S : Sv) (i : Int32) : Sv := (S.1, S.lit ||| b1 i, S.2.2)
def loseV (S : Sv) (j : Nat) (v : Int32) : Sv := (S.1, S.2.1, S.heat, (fun q => if q = j then S.crow j - v else S.crow q), (fun q => if q = j ∧ S.crow j - v = 0 then 0 else S.high q), S.hear)
theorem SX.lit {M : Mm} {o n : Nat} {S : Sv} {i : Int32} (h : SX M o n S) : SX (setI M o 2 (M.1 o 2 ||| b1 i)) o n (litV S i) := by
  refine ⟨by rw [setI_1, if_neg (by omega)]; exact h.1, by rw [setI_1, if_neg (by omega)]; exact h.2.1, by rw [setI_1, if_pos ⟨rfl, rfl⟩, h.2.2.1]; rfl, fun j hj => ⟨?_, ?_, ?_, ?_⟩⟩
  · rw [setI_1, if_neg (by omega)]; exact (h.2.2.2 j hj).1
  · rw [setI_1, if_neg (by omega)]; exact (h.2.2.2 j hj).2.1
  · rw [setI_1, if_neg (by omega)]; exact (h.2.2.2 j hj).2.2.1
  · rw [setI_1, if_neg (by omega)]; exact (h.2.2.2 j hj).2.2.2
theorem SX.heat {M : Mm} {o n j : Nat} {S : Sv} {v : Int32} (h : SX M o n S) : SX (setI M (o + 2) j v) o n (heatV S j v) := by
  refine ⟨by rw [setI_1, if_neg (by omega)]; exact h.1, by rw [setI_1, if_neg (by omega)]; exact h.2.1, by rw [setI_1, if_neg (by omega)]; exact h.2.2.1, fun q hq => ⟨?_, ?_, ?_, ?_⟩⟩
  · rw [setI_1]; show _ = if q = j then _ else _
    by_cases e : q = j
    · rw [if_pos ⟨rfl, e⟩, if_pos e]
    · rw [if_neg (fun x => e x.2), if_neg e]; exact (h.2.2.2 q hq).1
  · rw [setI_1, if_neg (by omega)]; exact (h.2.2.2 q hq).2.1
  · rw [setI_1, if_neg (by omega)]; exact (h.2.2.2 q hq).2.2.1
  · rw [setI_1, if_neg (by omega)]; exact (h.2.2.2 q hq).2.2.2
theorem loseM_fr {M : Mm} {o j : Nat} {v : Int32} {i : Nat} (h1 : ¬ i = o + 1) (h3 : ¬ i = o + 3) : (loseM M o j v).1 i = M.1 i := by
  funext k
  unfold loseM
  split
  · rw [setI_1, if_neg (fun e => h1 e.1), setI_1, if_neg (fun e => h3 e.1)]
  · rw [setI_1, if_neg (fun e => h3 e.1)]
theorem loseM_2 {M : Mm} {o j : Nat} {v : Int32} : (loseM M o j v).2 = M.2 := by
  unfold loseM
  split <;> rfl
theorem loseM_c {M : Mm} {o j q : Nat} {v : Int32} : (loseM M o j v).1 (o + 3) q = if q = j then M.1 (o + 3) j - v else M.1 (o + 3) q := by
  unfold loseM
  split
  · rw [setI_1, if_neg (by omega), setI_1]
    by_cases e : q = j
    · rw [if_pos ⟨rfl, e⟩, if_pos e]
    · rw [if_neg (fun x => e x.2), if_neg e]
  · rw [setI_1]
    by_cases e : q = j
    · rw [if_pos ⟨rfl, e⟩, if_pos e]
    · rw [if_neg (fun x => e x.2), if_neg e]
theorem loseM_h {M : Mm} {o j q : Nat} {v : Int32} : (loseM M o j v).1 (o + 1) q = if q = j ∧ M.1 (o + 3) j - v = 0 then 0 else M.1 (o + 1) q := by
  unfold loseM
  split
  · rename_i hz
    rw [setI_1]
    by_cases e : q = j
    · rw [if_pos ⟨rfl, e⟩, if_pos ⟨e, hz⟩]
    · rw [if_neg (fun x => e x.2), if_neg (fun x => e x.1), setI_1, if_neg (by omega)]
  · rename_i hz
    rw [setI_1, if_neg (by omega), if_neg (fun x => hz x.2)]
theorem SX.lose {M : Mm} {o n j : Nat} {S : Sv} {v : Int32} (h : SX M o n S) (hj : j < n) : SX (loseM M o j v) o n (loseV S j v) := by
  refine ⟨by rw [loseM_fr (by omega) (by omega)]; exact h.1, by rw [loseM_fr (by omega) (by omega)]; exact h.2.1, by rw [loseM_fr (by omega) (by omega)]; exact h.2.2.1, fun q hq => ⟨?_, ?_, ?_, ?_⟩⟩
  · rw [loseM_fr (by omega) (by omega)]; exact (h.2.2.2 q hq).1
  · rw [loseM_c, (h.2.2.2 j hj).2.1, (h.2.2.2 q hq).2.1]; rfl
  · rw [loseM_h, (h.2.2.2 j hj).2.1, (h.2.2.2 q hq).2.2.1]; rfl
  · rw [loseM_fr (by omega) (by omega)]; exact (h.2.2.2 q hq).2.2.2
theorem SI.lit {Y : Yv} {S : Sv} {T : Nat} {i : Int32} (h : SI Y S T) : SI Y (litV S i) T := h
theorem SI.lose {Y : Yv} {S : Sv} {T j a : Nat} (h : SI Y S T) (hj : j < Y.n) (ha : a < 2 ^ 31) (hc : ¬ S.crow j < nI a) : SI Y (loseV S j (nI a)) T := by
  obtain ⟨r, h1, h2, h3, h4⟩ := h
  refine ⟨r, h1, h2, fun q hq => ?_, h4⟩
  obtain ⟨c, g, c1, c2, c3, c4⟩ := h3 q hq
  have e1 : (loseV S j (nI a)).crow q = if q = j then S.crow j - nI a else S.crow q := rfl
  have e2 : (loseV S j (nI a)).high q = if q = j ∧ S.crow j - nI a = 0 then 0 else S.high q := rfl
  rw [e1, e2]
  by_cases e : q = j
  · subst e
    rw [c1] at hc ⊢
    have hle : a ≤ c := ge_of (by omega) ha hc
    rw [if_pos rfl, pk_sub hle]
    refine ⟨c - a, if c - a = 0 then 0 else g, rfl, by omega, ?_, by split <;> omega⟩
    by_cases z : c - a = 0
    · rw [if_pos ⟨rfl, by rw [z]; rfl⟩, if_pos z]; rfl
    · rw [if_neg (fun x => nI_ne0 (Nat.pos_of_ne_zero z) (by omega) x.2), if_neg z]; exact c3
  · rw [if_neg e, if_neg (fun x => e x.1)]
    exact ⟨c, g, c1, c2, c3, c4⟩
def canB (S : Sv) (j : Nat) (v : Int32) : Bool := decide (¬ S.crow j < v ∧ ¬ S.high j < 10)
/-- a draw -/
def drG (g : Nat) : Nat := (g * 1103515245 + 12345) % 2147483648
def drV (g m : Nat) : Nat := drG g / 65536 % m
theorem drG_lt (g : Nat) : drG g < 2147483648 := Nat.mod_lt _ (by decide)
theorem drV_lt {g m : Nat} (h : 0 < m) : drV g m < m := Nat.mod_lt _ h
/-- what a drawn night does ahead of it -/
def livV (Y : Yv) (q : Sv × Nat) : Sv × Nat :=
  if Y.n = 0 then q else
  if drV (drG q.2) 5 = 0 then (litV q.1 (nI (drV q.2 Y.n)), drG (drG q.2))
  else if drV (drG q.2) 5 = 1 then (heatV q.1 (drV q.2 Y.n) (nI (drV (drG (drG q.2)) 10)), drG (drG (drG q.2)))
  else if drV (drG q.2) 5 = 2 then (if canB q.1 (drV q.2 Y.n) (nI (drV (drG (drG q.2)) 5 + 1)) = true then loseV q.1 (drV q.2 Y.n) (nI (drV (drG (drG q.2)) 5 + 1)) else q.1, drG (drG (drG q.2)))
  else (q.1, drG (drG q.2))
def wkN (Y : Yv) (S : Sv) (g : Nat) : Nat → (Sv × Nat) × Nat
  | 0 => ((S, g), 0)
  | k + 1 => ((nightV Y (livV Y (wkN Y S g k).1).1, (livV Y (wkN Y S g k).1).2), (wkN Y S g k).2 + pcN (popN Y (livV Y (wkN Y S g k).1).1).toNatClampNeg)
def weeksQ (E : Gs) (g t q : Int32) : Int32 := if vWi g 0 9999 ∧ vWi t 1 99 ∧ vWi q 0 2 then
  (if q = 0 then nI (wkN E.Y E.S g.toNatClampNeg t.toNatClampNeg).2 else if q = 1 then sumI (wkN E.Y E.S g.toNatClampNeg t.toNatClampNeg).1.1.crow E.Y.n else sumI (murS (wkN E.Y E.S g.toNatClampNeg t.toNatClampNeg).1.1) E.Y.n) else -1
theorem SI.liv {Y : Yv} {q : Sv × Nat} {T : Nat} (h : SI Y q.1 T) : SI Y (livV Y q).1 T := by
  unfold livV
  by_cases h0 : Y.n = 0
  · rw [if_pos h0]; exact h
  · rw [if_neg h0]
    split
    · exact h.lit
    · split
      · exact h.heat
      · split
        · dsimp only
          split
          · rename_i hc
            have hl := drV_lt (g := drG (drG q.2)) (m := 5) (by decide)
            exact h.lose (drV_lt (by omega)) (by omega) (of_decide_eq_true hc).1
          · exact h
        · exact h
theorem liv_lt {Y : Yv} {q : Sv × Nat} (h : q.2 < 2147483648) : (livV Y q).2 < 2147483648 := by
  unfold livV
  by_cases h0 : Y.n = 0
  · rw [if_pos h0]; exact h
  · rw [if_neg h0]
    split
    · exact drG_lt _
    · split
      · exact drG_lt _
      · split
        · exact drG_lt _
        · exact drG_lt _
theorem SI.wk {Y : Yv} {S : Sv} {T g : Nat} (h : SI Y S T) (h6 : Y.n ≤ 6) (k : Nat) : SI Y (wkN Y S g k).1.1 (T + k) := by
  induction k with
  | zero => exact h
  | succ k ih => exact SI.pass ih.liv h6
theorem wk_lt {Y : Yv} {S : Sv} {g : Nat} (hg : g < 2147483648) (k : Nat) : (wkN Y S g k).1.2 < 2147483648 := by
  induction k with
  | zero => exact hg
  | succ k ih => exact liv_lt ih
theorem setL_21 (M : Mm) (i k : Nat) (v : Int64) (j q : Nat) : (setL M i k v).2.1 j q = if j = i ∧ q = k then v else M.2.1 j q := rfl
theorem SC.setg {M : Mm} {v : Int64} : SC M (setL M 0 16 v) := ⟨rfl, fun i hi => by funext k; rw [setL_21, if_neg (fun e => hi e.1)], fun _ _ => rfl, fun _ _ => rfl⟩
theorem drg_eq {g : Nat} (hg : g < 2147483648) : (lN g * 1103515245 + 12345) - (lN g * 1103515245 + 12345) / 2147483648 * 2147483648 = lN (drG g) := by
  have e1 : lN g * 1103515245 + 12345 = lN (g * 1103515245 + 12345) := by
    rw [show (1103515245 : Int64) = lN 1103515245 from rfl, lN_mul, show (12345 : Int64) = lN 12345 from rfl, lN_add]
  rw [e1, show (2147483648 : Int64) = lN 2147483648 from rfl, pk_lRem (by omega) (by omega) (by omega)]
  rfl
theorem drv_eq {g m : Nat} (hg : g < 2147483648) (hm : 0 < m) (hm2 : m < 2 ^ 31) : ((lN g / 65536) - (lN g / 65536) / lN m * lN m).toInt32 = nI (g / 65536 % m) := by
  rw [show (65536 : Int64) = lN 65536 from rfl, pk_lDiv (by omega) (by omega) (by omega), pk_lRem (by omega) hm (by omega), lN_i]
set_option maxHeartbeats 4000000 in
set_option maxRecDepth 20000 in
theorem c_draw {G : Gt} {M : Mm} {g m : Nat} (hg : M.2.1 0 16 = lN g) (hg2 : g < 2147483648) (hm : 0 < m) (hm2 : m < 2 ^ 31) : Call G 1 mX10_draw [.ref 0, .int (nI m)] M (eqQ (some (.int (nI (drV g m)))) (setL M 0 16 (lN (drG g)))) := by
  refine Call.intro rfl (Nat.le_of_ble_eq_true rfl) ?_
  show Ev G _ mX10_draw 0 [.ref 0, .int (nI m)] [] M _
  refine e_aload_n dX10_draw_0 rfl ?_
  refine e_aload_n dX10_draw_1 rfl ?_
  refine e_getL dX10_draw_2 fl_X10_374 sh_x rfl ?_
  rw [hg]
  refine e_ldc2 dX10_draw_5 kl_X10_384 ?_
  refine e_lmul dX10_draw_8 ?_
  refine e_ldc2 dX10_draw_9 kl_X10_386 ?_
  refine e_ladd dX10_draw_12 ?_
  refine e_ldc2 dX10_draw_13 kl_X10_388 ?_
  refine e_lrem dX10_draw_16 (by decide) ?_
  rw [drg_eq hg2]
  refine e_putL dX10_draw_17 fl_X10_374 sh_x rfl rfl rfl ?_
  refine e_iload_n dX10_draw_20 rfl ?_
  refine e_if_le (tgt := 39) dX10_draw_21 (by decide) (fun c21 => ?_) (fun c21 => ?_)
  · -- 21 jumps
    refine e_iconst (v := 0) dX10_draw_39 (by decide) ?_
    refine e_iret dX10_draw_40 rfl ?_
    exact absurd ((nI_ltI (a := 0) (by omega) hm2).mpr hm) c21
  · -- 21 goes on
    refine e_aload_n dX10_draw_24 rfl ?_
    refine e_getL dX10_draw_25 fl_X10_374 sh_x rfl ?_
    rw [setL_21, if_pos ⟨rfl, rfl⟩]
    refine e_ldc2 dX10_draw_28 kl_X10_390 ?_
    refine e_ldiv dX10_draw_31 (by decide) ?_
    refine e_iload_n dX10_draw_32 rfl ?_
    refine e_i2l dX10_draw_33 ?_
    rw [nI_l hm2]
    refine e_lrem dX10_draw_34 (by intro e; exact absurd (congrArg Int64.toInt e) (by rw [lN_toInt hm2]; show ¬ (m : Int) = 0; omega)) ?_
    refine e_l2i dX10_draw_35 ?_
    refine e_goto (tgt := 40) dX10_draw_36 (by decide) ?_
    refine e_iret dX10_draw_40 rfl ?_
    exact ⟨congrArg (fun v => some (Value.int v)) (drv_eq (drG_lt g) hm hm2), rfl⟩
set_option maxHeartbeats 4000000 in
set_option maxRecDepth 20000 in
theorem c_meddle {G : Gt} {M : Mm} {E : Gs} {y y' w w' p : Nat} (hX : XJ M E y y' w w' p) {S : Sv} {g : Nat} (hT : SX M 51 E.Y.n S) (hg : M.2.1 0 16 = lN g) (hg2 : g < 2147483648) (hn : 0 < E.Y.n) : Call G 3 mX10_meddle [.ref 0] M (fun r M' => r = none ∧ SC M M' ∧ SX M' 51 E.Y.n (livV E.Y (S, g)).1 ∧ M'.2.1 0 16 = lN (livV E.Y (S, g)).2) := by
  obtain ⟨⟨hld, hsl, hy, hy', hyy⟩, ⟨hpl, hsp, hw, hw', hww⟩, hY, hW, hS, hV, hK, ⟨hpt, hp16, hun, hu16, hU⟩, ⟨htl, htl2, htc⟩⟩ := id hX
  have h6 := hY.1.2
  have hs5 := hY.2.1.2
  have hj := drV_lt (g := g) hn
  refine Call.intro rfl (Nat.le_of_ble_eq_true rfl) ?_
  show Ev G _ mX10_meddle 0 [.ref 0, RA, RA, RA] [] M _
  refine e_aload_n dX10_meddle_0 rfl ?_
  refine e_aload_n dX10_meddle_1 rfl ?_
  refine e_getP dX10_meddle_2 fl_X10_19 sh_x rfl ?_
  first | rw [hld] | (simp only [setI_2, setI_22, setL_22]; rw [hld])
  refine e_getI dX10_meddle_5 fl_X10_74 (sh_yd (by first | assumption | decide)) rfl ?_
  rw [hY.1.1]
  refine cV1r dX10_meddle_8 mo_X10_draw ml_X10_381 sh_x rfl (Nat.le_of_ble_eq_true rfl) (by omega) (c_draw hg hg2 hn (by omega)) ?_
  refine e_istore_n (ls' := [_, _, _, _]) dX10_meddle_11 (by decide) rfl ?_
  refine e_aload_n dX10_meddle_12 rfl ?_
  refine e_iconst (v := 5) dX10_meddle_13 (by decide) ?_
  refine cV1r dX10_meddle_14 mo_X10_draw ml_X10_381 sh_x rfl (Nat.le_of_ble_eq_true rfl) (by omega) (c_draw (g := drG g) (by rw [setL_21, if_pos ⟨rfl, rfl⟩]) (drG_lt _) (by decide) (by decide)) ?_
  refine e_istore_n (ls' := [_, _, _, _]) dX10_meddle_17 (by decide) rfl ?_
  have hS2 : SX (setL (setL M 0 16 (lN (drG g))) 0 16 (lN (drG (drG g)))) 51 E.Y.n S := hT
  refine e_iload_n dX10_meddle_18 rfl ?_
  refine e_if_ne (tgt := 34) dX10_meddle_19 (by decide) (fun c19 => ?_) (fun c19 => ?_)
  · -- 19 jumps
    have d0 : ¬ drV (drG g) 5 = 0 := fun e => c19 (by rw [e]; rfl)
    refine e_iload_n dX10_meddle_34 rfl ?_
    refine e_iconst (v := 1) dX10_meddle_35 (by decide) ?_
    refine e_icmp_ne (tgt := 56) dX10_meddle_36 (by decide) (fun c36 => ?_) (fun c36 => ?_)
    · -- 36 jumps
      have d1 : ¬ drV (drG g) 5 = 1 := fun e => c36 (by rw [e]; rfl)
      refine e_iload_n dX10_meddle_56 rfl ?_
      refine e_iconst (v := 2) dX10_meddle_57 (by decide) ?_
      refine e_icmp_ne (tgt := 90) dX10_meddle_58 (by decide) (fun c58 => ?_) (fun c58 => ?_)
      · -- 58 jumps
        have d2 : ¬ drV (drG g) 5 = 2 := fun e => c58 (by rw [e]; rfl)
        refine e_vret dX10_meddle_90 rfl ?_
        have e : livV E.Y (S, g) = (S, drG (drG g)) := by unfold livV; rw [if_neg (by omega)]; exact (if_neg d0).trans ((if_neg d1).trans (if_neg d2))
        rw [e]
        exact ⟨rfl, SC.setg.trans SC.setg, hT, rfl⟩
      · -- 58 goes on
        have d2 : drV (drG g) 5 = 2 := (nI_eq (b := 2) (by have := drV_lt (g := drG g) (m := 5) (by decide); omega) (by decide)).mp c58
        refine e_aload_n dX10_meddle_61 rfl ?_
        refine e_iconst (v := 5) dX10_meddle_62 (by decide) ?_
        refine cV1r dX10_meddle_63 mo_X10_draw ml_X10_381 sh_x rfl (Nat.le_of_ble_eq_true rfl) (by omega) (c_draw (g := drG (drG g)) (by rw [setL_21, if_pos ⟨rfl, rfl⟩]) (drG_lt _) (by decide) (by decide)) ?_
        refine e_iconst (v := 1) dX10_meddle_66 (by decide) ?_
        refine e_iadd dX10_meddle_67 ?_
        rw [nI_1]
        refine e_istore_n (ls' := [_, _, _, _]) dX10_meddle_68 (by decide) rfl ?_
        refine e_aload_n dX10_meddle_69 rfl ?_
        refine e_getR dX10_meddle_70 fl_X10_43 sh_x rfl ?_
        refine e_iload_n dX10_meddle_73 rfl ?_
        refine e_iload_n dX10_meddle_74 rfl ?_
        refine cV2r dX10_meddle_75 mo_X3_canLose ml_X10_210 (sh_st (by first | assumption | decide)) rfl (Nat.le_of_ble_eq_true rfl) (by omega) (c_canLose (by first | assumption | decide) (by omega)) ?_
        rw [show (setL (setL (setL M 0 16 (lN (drG g))) 0 16 (lN (drG (drG g)))) 0 16 (lN (drG (drG (drG g))))).1 (51 + 3) (drV g E.Y.n) = S.crow (drV g E.Y.n) from (hT.2.2.2 _ hj).2.1, show (setL (setL (setL M 0 16 (lN (drG g))) 0 16 (lN (drG (drG g)))) 0 16 (lN (drG (drG (drG g))))).1 (51 + 1) (drV g E.Y.n) = S.high (drV g E.Y.n) from (hT.2.2.2 _ hj).2.2.1]
        refine e_if_eq (tgt := 90) dX10_meddle_78 (by decide) (fun c78 => ?_) (fun c78 => ?_)
        · -- 78 jumps
          have c78 := b2i_eq0.mp c78
          refine e_vret dX10_meddle_90 rfl ?_
          have e : livV E.Y (S, g) = (S, drG (drG (drG g))) := by unfold livV; rw [if_neg (by omega)]; refine (if_neg d0).trans ((if_neg d1).trans ((if_pos d2).trans ?_)); dsimp only; rw [if_neg (by unfold canB; rw [decide_eq_false c78]; decide)]
          rw [e]
          exact ⟨rfl, SC.setg.trans (SC.setg.trans SC.setg), hT, rfl⟩
        · -- 78 goes on
          have c78 : ¬ S.crow (drV g E.Y.n) < nI (drV (drG (drG g)) 5 + 1) ∧ ¬ S.high (drV g E.Y.n) < 10 := by
            by_cases h : (¬ S.crow (drV g E.Y.n) < nI (drV (drG (drG g)) 5 + 1) ∧ ¬ S.high (drV g E.Y.n) < 10)
            · exact h
            · exact absurd (b2i_f h) c78
          refine e_aload_n dX10_meddle_81 rfl ?_
          refine e_getR dX10_meddle_82 fl_X10_43 sh_x rfl ?_
          refine e_iload_n dX10_meddle_85 rfl ?_
          refine e_iload_n dX10_meddle_86 rfl ?_
          refine cV2v dX10_meddle_87 mo_X3_lose ml_X10_214 (sh_st (by first | assumption | decide)) rfl (Nat.le_of_ble_eq_true rfl) (by omega) (c_lose (by first | assumption | decide) (by omega)) ?_
          refine e_vret dX10_meddle_90 rfl ?_
          have e : livV E.Y (S, g) = (loseV S (drV g E.Y.n) (nI (drV (drG (drG g)) 5 + 1)), drG (drG (drG g))) := by unfold livV; rw [if_neg (by omega)]; refine (if_neg d0).trans ((if_neg d1).trans ((if_pos d2).trans ?_)); dsimp only; rw [if_pos (by unfold canB; exact decide_eq_true c78)]
          rw [e]
          refine ⟨rfl, SC.setg.trans (SC.setg.trans (SC.setg.trans (SC.of loseM_2 (fun i hi => loseM_fr (by unfold scr at hi; omega) (by unfold scr at hi; omega))))), SX.lose (M := setL (setL (setL M 0 16 (lN (drG g))) 0 16 (lN (drG (drG g)))) 0 16 (lN (drG (drG (drG g))))) hT hj, ?_⟩
          rw [loseM_2]; rfl
    · -- 36 goes on
      have d1 : drV (drG g) 5 = 1 := (nI_eq (b := 1) (by have := drV_lt (g := drG g) (m := 5) (by decide); omega) (by decide)).mp c36
      refine e_aload_n dX10_meddle_39 rfl ?_
      refine e_getR dX10_meddle_40 fl_X10_43 sh_x rfl ?_
      refine e_iload_n dX10_meddle_43 rfl ?_
      refine e_aload_n dX10_meddle_44 rfl ?_
      refine e_bipush (v := 10) dX10_meddle_45 (by decide) ?_
      refine cV1r dX10_meddle_47 mo_X10_draw ml_X10_381 sh_x rfl (Nat.le_of_ble_eq_true rfl) (by omega) (c_draw (g := drG (drG g)) (by rw [setL_21, if_pos ⟨rfl, rfl⟩]) (drG_lt _) (by decide) (by decide)) ?_
      refine cV2v dX10_meddle_50 mo_X3_heatTo ml_X10_203 (sh_st (by first | assumption | decide)) rfl (Nat.le_of_ble_eq_true rfl) (by omega) (c_heatTo (by first | assumption | decide) (by omega)) ?_
      refine e_goto (tgt := 90) dX10_meddle_53 (by decide) ?_
      refine e_vret dX10_meddle_90 rfl ?_
      have e : livV E.Y (S, g) = (heatV S (drV g E.Y.n) (nI (drV (drG (drG g)) 10)), drG (drG (drG g))) := by unfold livV; rw [if_neg (by omega)]; exact (if_neg d0).trans (if_pos d1)
      rw [e]
      exact ⟨rfl, SC.setg.trans (SC.setg.trans (SC.setg.trans (SC.of rfl (fun i hi => by funext k; rw [setI_1, if_neg (by unfold scr at hi; omega)])))), SX.heat (M := setL (setL (setL M 0 16 (lN (drG g))) 0 16 (lN (drG (drG g)))) 0 16 (lN (drG (drG (drG g))))) hT, rfl⟩
  · -- 19 goes on
    have d0 : drV (drG g) 5 = 0 := (nI_eq (b := 0) (by have := drV_lt (g := drG g) (m := 5) (by decide); omega) (by decide)).mp c19
    refine e_aload_n dX10_meddle_22 rfl ?_
    refine e_getR dX10_meddle_23 fl_X10_43 sh_x rfl ?_
    refine e_iload_n dX10_meddle_26 rfl ?_
    refine cV1r dX10_meddle_27 mo_X3_lightUp ml_X10_207 (sh_st (by first | assumption | decide)) rfl (Nat.le_of_ble_eq_true rfl) (by omega) (c_lightUp (by first | assumption | decide)) ?_
    refine e_pop dX10_meddle_30 rfl ?_
    refine e_goto (tgt := 90) dX10_meddle_31 (by decide) ?_
    refine e_vret dX10_meddle_90 rfl ?_
    have e : livV E.Y (S, g) = (litV S (nI (drV g E.Y.n)), drG (drG g)) := by unfold livV; rw [if_neg (by omega)]; exact if_pos d0
    rw [e]
    exact ⟨rfl, SC.setg.trans (SC.setg.trans (SC.of rfl (fun i hi => by funext k; rw [setI_1, if_neg (by unfold scr at hi; omega)]))), hS2.lit, rfl⟩
def wkI (M Mc : Mm) (Y : Yv) (S : Sv) (g i : Nat) : Prop := SC M Mc ∧ SX Mc 51 Y.n (wkN Y S g i).1.1 ∧ Mc.2.1 0 16 = lN (wkN Y S g i).1.2
theorem pop_nat (Y : Yv) (S : Sv) (h6 : Y.n ≤ 6) : ∃ s, s < 64 ∧ popN Y S = nI s := by
  obtain ⟨s, hs, e⟩ := setB_nat (fun j => decide (S.high j < 10) && !decide (S.high j + growV Y S (frV Y S.nights) j < 10)) Y.n h6
  exact ⟨s, by have := (pow6 h6).2.2; omega, e⟩
theorem wk_pop (Y : Yv) (S : Sv) (g k : Nat) : (wkN Y S g k).2 ≤ 6 * k := by
  induction k with
  | zero => exact Nat.le_refl _
  | succ k ih =>
    have := pc_le (popN Y (livV Y (wkN Y S g k).1).1).toNatClampNeg
    simp only [wkN]
    omega
set_option maxHeartbeats 4000000 in
set_option maxRecDepth 20000 in
theorem c_passTrialg {G : Gt} {M : Mm} {E : Gs} {y y' w w' p : Nat} (hX : XJ M E y y' w w' p) {S : Sv} {T : Nat} (hT : SX M 51 E.Y.n S) (hI : SI E.Y S T) (hT2 : T < 2 ^ 31) : Call G 5 mX10_passTrial [.ref 0] M (fun r M' => r = some (.int (popN E.Y S)) ∧ SC M M' ∧ SX M' 51 E.Y.n (nightV E.Y S) ∧ (∀ j, j < E.Y.n → M'.1 57 j = growV E.Y S (frV E.Y S.nights) j * S.crow j) ∧ M'.2.1 0 16 = M.2.1 0 16) := by
  obtain ⟨⟨hld, hsl, hy, hy', hyy⟩, ⟨hpl, hsp, hw, hw', hww⟩, hY, hW, hS, hV, hK, ⟨hpt, hp16, hun, hu16, hU⟩, ⟨htl, htl2, htc⟩⟩ := id hX
  have h6 := hY.1.2
  have hs5 := hY.2.1.2
  obtain ⟨r0, hr0, hr6, hs0, t, ht, htT⟩ := id hI
  refine Call.intro rfl (Nat.le_of_ble_eq_true rfl) ?_
  show Ev G _ mX10_passTrial 0 [.ref 0] [] M _
  refine e_aload_n dX10_passTrial_0 rfl ?_
  refine e_getR dX10_passTrial_1 fl_X10_43 sh_x rfl ?_
  refine e_aload_n dX10_passTrial_4 rfl ?_
  refine e_getP dX10_passTrial_5 fl_X10_19 sh_x rfl ?_
  first | rw [hld] | (simp only [setI_2, setI_22, setL_22]; rw [hld])
  refine e_aload_n dX10_passTrial_8 rfl ?_
  refine e_getP dX10_passTrial_9 fl_X10_19 sh_x rfl ?_
  first | rw [hld] | (simp only [setI_2, setI_22, setL_22]; rw [hld])
  refine e_aload_n dX10_passTrial_12 rfl ?_
  refine e_getR dX10_passTrial_13 fl_X10_43 sh_x rfl ?_
  refine e_getI dX10_passTrial_16 fl_X10_169 (sh_st (by first | assumption | decide)) rfl ?_
  rw [hT.2.1, ht]
  refine cV1r dX10_passTrial_19 mo_X8_frostOf ml_X10_172 (sh_yd (by first | assumption | decide)) rfl (Nat.le_of_ble_eq_true rfl) (by omega) (c_frostOf (by first | assumption | decide) (by assumption) (by omega)) ?_
  refine cV2x dX10_passTrial_22 mo_X3_pass ml_X10_195 (sh_st (by first | assumption | decide)) rfl (Nat.le_of_ble_eq_true rfl) (by omega) (c_pass (o := 51) (by decide) hy hY hT hI) ?_
  rintro r M1 ⟨rfl, h2, hf, hS1, hcr⟩
  dsimp only [Option.toList, List.cons_append, List.nil_append]
  refine e_iret dX10_passTrial_25 rfl ?_
  exact ⟨by unfold popN; rw [ht], SC.of h2 (fun i hi => hf i (by unfold scr at hi; omega) (by unfold scr at hi; rcases yd_two hy with e | e <;> omega) (by unfold scr at hi; rcases yd_two hy with e | e <;> omega)), by unfold nightV; rw [ht]; exact hS1, hcr, by rw [h2]⟩
set_option maxHeartbeats 4000000 in
set_option maxRecDepth 20000 in
theorem l_weeks {G : Gt} {M : Mm} {E : Gs} {y y' w w' p : Nat} (hX : XJ M E y y' w w' p) {T : Nat} (hI : SI E.Y E.S T) (hT : T < 2 ^ 30) {g t : Nat} {q : Int32} (hg : g < 2147483648) (ht : t ≤ 99) : ∀ (k : Nat) (i : Nat) (Mc : Mm), (i ≤ t) → (t < i + k) → (wkI M Mc E.Y E.S g i) → Ev G 6 mX10_weeks 48 [.ref 0, .int (nI g), .int (nI t), .int q, .int (nI (wkN E.Y E.S g i).2), .int (nI i)] [] Mc (fun r M' => r = some (.int (if q = 0 then nI (wkN E.Y E.S g t).2 else if q = 1 then sumI (wkN E.Y E.S g t).1.1.crow E.Y.n else sumI (murS (wkN E.Y E.S g t).1.1) E.Y.n)) ∧ SC M M') := by
  intro k
  induction k with
  | zero => intro i Mc hi hk hv; exact absurd hk (by omega)
  | succ k ih =>
    intro i Mc hi hk hv
    obtain ⟨⟨hld, hsl, hy, hy', hyy⟩, ⟨hpl, hsp, hw, hw', hww⟩, hY, hW, hS, hV, hK, ⟨hpt, hp16, hun, hu16, hU⟩, ⟨htl, htl2, htc⟩⟩ := id (hv.1.keep hX)
    have h6 := hY.1.2
    refine e_iload dX10_weeks_48 rfl ?_
    refine e_iload_n dX10_weeks_50 rfl ?_
    refine e_icmp_ge (tgt := 86) dX10_weeks_51 (by decide) (fun c51 => ?_) (fun c51 => ?_)
    · -- 51 jumps
      have hin : i = t := by have := ge_of (by omega) (by omega) c51; omega
      subst hin
      refine e_iload_n dX10_weeks_86 rfl ?_
      refine e_if_ne (tgt := 93) dX10_weeks_87 (by decide) (fun c87 => ?_) (fun c87 => ?_)
      · -- 87 jumps
        refine e_iload_n dX10_weeks_93 rfl ?_
        refine e_iconst (v := 1) dX10_weeks_94 (by decide) ?_
        refine e_icmp_ne (tgt := 108) dX10_weeks_95 (by decide) (fun c95 => ?_) (fun c95 => ?_)
        · -- 95 jumps
          refine e_aload_n dX10_weeks_108 rfl ?_
          refine e_getR dX10_weeks_109 fl_X10_43 sh_x rfl ?_
          refine cV0r dX10_weeks_112 mo_X3_murmursOfAll ml_X10_270 (sh_st (by first | assumption | decide)) rfl (Nat.le_of_ble_eq_true rfl) (by omega) (c_murmursOfAll (o := 51) (by decide) hv.2.1.1 hY.1.2) ?_
          refine e_iret dX10_weeks_115 rfl ?_
          exact ⟨by rw [if_neg c87, if_neg c95, sumI_murS hv.2.1], hv.1⟩
        · -- 95 goes on
          refine e_aload_n dX10_weeks_98 rfl ?_
          refine e_getR dX10_weeks_99 fl_X10_43 sh_x rfl ?_
          refine cV0r dX10_weeks_102 mo_X3_crownsOfAll ml_X10_178 (sh_st (by first | assumption | decide)) rfl (Nat.le_of_ble_eq_true rfl) (by omega) (c_crownsOfAll (o := 51) (by decide) hv.2.1.1 hY.1.2) ?_
          refine e_goto (tgt := 115) dX10_weeks_105 (by decide) ?_
          refine e_iret dX10_weeks_115 rfl ?_
          exact ⟨by rw [if_neg c87, if_pos c95, sumI_crow hv.2.1], hv.1⟩
      · -- 87 goes on
        refine e_iload dX10_weeks_90 rfl ?_
        refine e_iret dX10_weeks_92 rfl ?_
        exact ⟨by rw [if_pos c87], hv.1⟩
    · -- 51 goes on
      have hlt : i < t := lt_of (by omega) (by omega) c51
      refine e_aload_n dX10_weeks_54 rfl ?_
      refine e_getP dX10_weeks_55 fl_X10_19 sh_x rfl ?_
      first | rw [hld] | (simp only [setI_2, setI_22, setL_22]; rw [hld])
      refine e_getI dX10_weeks_58 fl_X10_74 (sh_yd (by first | assumption | decide)) rfl ?_
      refine e_if_le (tgt := 68) dX10_weeks_61 (by decide) (fun c61 => ?_) (fun c61 => ?_)
      · -- 61 jumps
        rw [hY.1.1] at c61
        have hn0 : E.Y.n = 0 := np0 (by omega) c61
        have hsm := hv.1
        have hlv : livV E.Y (wkN E.Y E.S g i).1 = (wkN E.Y E.S g i).1 := by unfold livV; rw [if_pos hn0]
        have hmx : SX Mc 51 E.Y.n (livV E.Y (wkN E.Y E.S g i).1).1 := by rw [hlv]; exact hv.2.1
        have hmg : Mc.2.1 0 16 = lN (livV E.Y (wkN E.Y E.S g i).1).2 := by rw [hlv]; exact hv.2.2
        refine e_iload dX10_weeks_68 rfl ?_
        refine e_aload_n dX10_weeks_70 rfl ?_
        refine cV0x dX10_weeks_71 mo_X10_passTrial ml_X10_252 sh_x rfl (Nat.le_of_ble_eq_true rfl) (by omega) (c_passTrialg (hsm.keep hX) (S := (livV E.Y (wkN E.Y E.S g i).1).1) hmx (hI.wk hY.1.2 i).liv (by omega)) ?_
        rintro r M1 ⟨rfl, h1, h2, h3, hgg⟩
        dsimp only [Option.toList, List.cons_append, List.nil_append]
        have hgl : M1.2.1 0 16 = lN (livV E.Y (wkN E.Y E.S g i).1).2 := hgg.trans hmg
        obtain ⟨s, hs64, es⟩ := pop_nat E.Y (livV E.Y (wkN E.Y E.S g i).1).1 h6
        rw [es]
        refine cS1r dX10_weeks_74 mo_J6_bitCount_0f7a4 ml_X10_298 (Nat.le_of_ble_eq_true rfl) (by omega) (c_bitCount (by omega)) ?_
        refine e_iadd dX10_weeks_77 ?_
        refine e_istore (ls' := [_, _, _, _, _, _]) dX10_weeks_78 (by decide) rfl ?_
        refine e_iinc (ls' := [_, _, _, _, _, _]) dX10_weeks_80 rfl (nI_i1 _) (by decide) rfl ?_
        refine e_goto (tgt := 48) dX10_weeks_83 (by decide) ?_
        have hh := ih (i + 1) M1 (by omega) (by omega) ⟨(hsm.trans h1), h2, hgl⟩
        rw [show nI (wkN E.Y E.S g (i + 1)).2 = nI (wkN E.Y E.S g i).2 + nI (pcN s) from by rw [nI_add]; simp only [wkN]; rw [es, nI_clamp (by omega)]] at hh
        exact hh
      · -- 61 goes on
        rw [hY.1.1] at c61
        have hn0 : 0 < E.Y.n := (nI_ltI (a := 0) (by omega) (by omega)).mp c61
        refine e_aload_n dX10_weeks_64 rfl ?_
        refine cV0x dX10_weeks_65 mo_X10_meddle ml_X10_378 sh_x rfl (Nat.le_of_ble_eq_true rfl) (by omega) (c_meddle (hv.1.keep hX) hv.2.1 hv.2.2 (wk_lt hg i) hn0) ?_
        rintro r Mm1 ⟨rfl, hm1, hm2, hm3⟩
        dsimp only [Option.toList, List.cons_append, List.nil_append]
        have hsm := hv.1.trans hm1
        have hmx := hm2
        have hmg := hm3
        refine e_iload dX10_weeks_68 rfl ?_
        refine e_aload_n dX10_weeks_70 rfl ?_
        refine cV0x dX10_weeks_71 mo_X10_passTrial ml_X10_252 sh_x rfl (Nat.le_of_ble_eq_true rfl) (by omega) (c_passTrialg (hsm.keep hX) (S := (livV E.Y (wkN E.Y E.S g i).1).1) hmx (hI.wk hY.1.2 i).liv (by omega)) ?_
        rintro r M1 ⟨rfl, h1, h2, h3, hgg⟩
        dsimp only [Option.toList, List.cons_append, List.nil_append]
        have hgl : M1.2.1 0 16 = lN (livV E.Y (wkN E.Y E.S g i).1).2 := hgg.trans hmg
        obtain ⟨s, hs64, es⟩ := pop_nat E.Y (livV E.Y (wkN E.Y E.S g i).1).1 h6
        rw [es]
        refine cS1r dX10_weeks_74 mo_J6_bitCount_0f7a4 ml_X10_298 (Nat.le_of_ble_eq_true rfl) (by omega) (c_bitCount (by omega)) ?_
        refine e_iadd dX10_weeks_77 ?_
        refine e_istore (ls' := [_, _, _, _, _, _]) dX10_weeks_78 (by decide) rfl ?_
        refine e_iinc (ls' := [_, _, _, _, _, _]) dX10_weeks_80 rfl (nI_i1 _) (by decide) rfl ?_
        refine e_goto (tgt := 48) dX10_weeks_83 (by decide) ?_
        have hh := ih (i + 1) M1 (by omega) (by omega) ⟨(hsm.trans h1), h2, hgl⟩
        rw [show nI (wkN E.Y E.S g (i + 1)).2 = nI (wkN E.Y E.S g i).2 + nI (pcN s) from by rw [nI_add]; simp only [wkN]; rw [es, nI_clamp (by omega)]] at hh
        exact hh
set_option maxHeartbeats 4000000 in
set_option maxRecDepth 20000 in
theorem c_beginTrialg {G : Gt} {M : Mm} {E : Gs} {y y' w w' p : Nat} (hX : XJ M E y y' w w' p) : Call G 3 mX10_beginTrial [.ref 0] M (fun r M' => r = none ∧ SC M M' ∧ SX M' 51 E.Y.n E.S ∧ M'.2.1 0 16 = M.2.1 0 16) := by
  obtain ⟨⟨hld, hsl, hy, hy', hyy⟩, ⟨hpl, hsp, hw, hw', hww⟩, hY, hW, hS, hV, hK, ⟨hpt, hp16, hun, hu16, hU⟩, ⟨htl, htl2, htc⟩⟩ := id hX
  have h6 := hY.1.2
  have hs5 := hY.2.1.2
  refine Call.intro rfl (Nat.le_of_ble_eq_true rfl) ?_
  show Ev G _ mX10_beginTrial 0 [.ref 0] [] M _
  refine e_aload_n dX10_beginTrial_0 rfl ?_
  refine e_getR dX10_beginTrial_1 fl_X10_43 sh_x rfl ?_
  refine e_aload_n dX10_beginTrial_4 rfl ?_
  refine e_getR dX10_beginTrial_5 fl_X10_39 sh_x rfl ?_
  refine cV1x dX10_beginTrial_8 mo_X3_copyFrom ml_X10_224 (sh_st (by first | assumption | decide)) rfl (Nat.le_of_ble_eq_true rfl) (by omega) (c_copyS (o := 51) (q := 44) (by decide) (by decide) (by omega)) ?_
  rintro r M1 ⟨rfl, h2, hf, hc⟩
  dsimp only [Option.toList, List.cons_append, List.nil_append]
  refine e_vret dX10_beginTrial_11 rfl ?_
  exact ⟨rfl, SC.of h2 (fun i hi => hf i (by unfold scr at hi; omega)), hc _ _ hY.1.2 hS, by rw [h2]⟩
set_option maxHeartbeats 4000000 in
set_option maxRecDepth 20000 in
theorem c_weeks {G : Gt} {M : Mm} {E : Gs} {y y' w w' p : Nat} (hX : XJ M E y y' w w' p) {T : Nat} (hI : SI E.Y E.S T) (hT : T < 2 ^ 30) {g t q : Int32} : Call G 6 mX10_weeks [.ref 0, .int g, .int t, .int q] M (fun r M' => r = some (.int (weeksQ E g t q)) ∧ SC M M') := by
  obtain ⟨⟨hld, hsl, hy, hy', hyy⟩, ⟨hpl, hsp, hw, hw', hww⟩, hY, hW, hS, hV, hK, ⟨hpt, hp16, hun, hu16, hU⟩, ⟨htl, htl2, htc⟩⟩ := id hX
  have h6 := hY.1.2
  have hs5 := hY.2.1.2
  refine Call.intro rfl (Nat.le_of_ble_eq_true rfl) ?_
  show Ev G _ mX10_weeks 0 [.ref 0, .int g, .int t, .int q, RA, RA] [] M _
  refine e_iload_n dX10_weeks_0 rfl ?_
  refine e_iconst (v := 0) dX10_weeks_1 (by decide) ?_
  refine e_sipush (v := 9999) dX10_weeks_2 (by decide) ?_
  refine cS3r dX10_weeks_5 mo_X10_within ml_X10_199 (Nat.le_of_ble_eq_true rfl) (by omega) (c_within) ?_
  refine e_if_eq (tgt := 30) dX10_weeks_8 (by decide) (fun c8 => ?_) (fun c8 => ?_)
  · -- 8 jumps
    refine e_iconst (v := (-1)) dX10_weeks_30 (by decide) ?_
    refine e_iret dX10_weeks_31 rfl ?_
    exact ⟨by unfold weeksQ; rw [if_neg (fun h => absurd h.1 (b2i_eq0.mp c8))], SC.rfl'⟩
  · -- 8 goes on
    have c8 : vWi g 0 9999 := by
      by_cases h : (vWi g 0 9999)
      · exact h
      · exact absurd (b2i_f h) c8
    refine e_iload_n dX10_weeks_11 rfl ?_
    refine e_iconst (v := 1) dX10_weeks_12 (by decide) ?_
    refine e_bipush (v := 99) dX10_weeks_13 (by decide) ?_
    refine cS3r dX10_weeks_15 mo_X10_within ml_X10_199 (Nat.le_of_ble_eq_true rfl) (by omega) (c_within) ?_
    refine e_if_eq (tgt := 30) dX10_weeks_18 (by decide) (fun c18 => ?_) (fun c18 => ?_)
    · -- 18 jumps
      refine e_iconst (v := (-1)) dX10_weeks_30 (by decide) ?_
      refine e_iret dX10_weeks_31 rfl ?_
      exact ⟨by unfold weeksQ; rw [if_neg (fun h => absurd h.2.1 (b2i_eq0.mp c18))], SC.rfl'⟩
    · -- 18 goes on
      have c18 : vWi t 1 99 := by
        by_cases h : (vWi t 1 99)
        · exact h
        · exact absurd (b2i_f h) c18
      refine e_iload_n dX10_weeks_21 rfl ?_
      refine e_iconst (v := 0) dX10_weeks_22 (by decide) ?_
      refine e_iconst (v := 2) dX10_weeks_23 (by decide) ?_
      refine cS3r dX10_weeks_24 mo_X10_within ml_X10_199 (Nat.le_of_ble_eq_true rfl) (by omega) (c_within) ?_
      refine e_if_ne (tgt := 32) dX10_weeks_27 (by decide) (fun c27 => ?_) (fun c27 => ?_)
      · -- 27 jumps
        have c27 : vWi q 0 2 := by
          by_cases h : (vWi q 0 2)
          · exact h
          · exact absurd (b2i_f h) c27
        obtain ⟨g, hg9, -, rfl⟩ := wi_of (a := 0) (b := 9999) (by decide) (by decide) c8
        obtain ⟨t, ht99, hlo, rfl⟩ := wi_of (a := 1) (b := 99) (by decide) (by decide) c18
        refine e_iconst (v := 0) dX10_weeks_32 (by decide) ?_
        refine e_istore (ls' := [_, _, _, _, _, _]) dX10_weeks_33 (by decide) rfl ?_
        refine e_aload_n dX10_weeks_35 rfl ?_
        refine e_iload_n dX10_weeks_36 rfl ?_
        refine e_i2l dX10_weeks_37 ?_
        rw [nI_l (by omega)]
        refine e_putL dX10_weeks_38 fl_X10_374 sh_x rfl rfl rfl ?_
        have hgX := SC.setg (v := lN g) |>.keep hX
        refine e_aload_n dX10_weeks_41 rfl ?_
        refine cV0x dX10_weeks_42 mo_X10_beginTrial ml_X10_249 sh_x rfl (Nat.le_of_ble_eq_true rfl) (by omega) (c_beginTrialg hgX) ?_
        rintro r M0 ⟨rfl, hsc0, hT0, hg0⟩
        dsimp only [Option.toList, List.cons_append, List.nil_append]
        refine e_iconst (v := 0) dX10_weeks_45 (by decide) ?_
        refine e_istore (ls' := [_, _, _, _, _, _]) dX10_weeks_46 (by decide) rfl ?_
        unfold weeksQ
        rw [if_pos ⟨c8, c18, c27⟩, nI_clamp (by omega), nI_clamp (by omega)]
        exact l_weeks hX hI hT (by omega) ht99 (t + 1) 0 M0 (by omega) (by omega) ⟨SC.setg.trans hsc0, hT0, hg0⟩
      · -- 27 goes on
        refine e_iconst (v := (-1)) dX10_weeks_30 (by decide) ?_
        refine e_iret dX10_weeks_31 rfl ?_
        exact ⟨by unfold weeksQ; rw [if_neg (fun h => absurd h.2.2 (b2i_eq0.mp c27))], SC.rfl'⟩
end XWK
