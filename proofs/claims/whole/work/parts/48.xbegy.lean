section XBY
/-- a new yard's beginning: what it changes -/
def byC (w i : Nat) : Prop := i = 0 ∨ (44 ≤ i ∧ i ≤ 48) ∨ i = w ∨ i = 58 ∨ i = 62 ∨ i = 78 ∨ i = 94 ∨ i = 110
def BY (M M' : Mm) (w i : Nat) (Y : Yv) : Prop := M'.2 = M.2 ∧ (∀ q, ¬ byC w q → M'.1 q = M.1 q) ∧ (∀ k, ¬ k = 11 → M'.1 0 k = M.1 0 k) ∧ SX M' 44 Y.n (begV Y) ∧ M'.1 w 3 = 0 ∧ M'.1 58 3 = 0 ∧ M'.1 0 11 = 0 ∧ ∀ k, k < i → M'.1 (62 + 16 * k) 0 = 0
set_option maxHeartbeats 4000000 in
set_option maxRecDepth 20000 in
theorem c_snClear {G : Gt} {M : Mm} {o : Nat} (ho : o ∈ snA) : Call G 1 mX2_clear [.ref o] M (eqQ none (setI M o 3 0)) := by
  refine Call.intro rfl (Nat.le_of_ble_eq_true rfl) ?_
  show Ev G _ mX2_clear 0 [.ref o] [] M _
  refine e_aload_n dX2_clear_0 rfl ?_
  refine e_iconst (v := 0) dX2_clear_1 (by decide) ?_
  refine e_putI dX2_clear_2 fl_X2_21 (sh_sn (by first | assumption | exact mk_sn (by assumption) | decide)) rfl rfl rfl ?_
  refine e_vret dX2_clear_5 rfl ?_
  exact ⟨rfl, rfl⟩
set_option maxHeartbeats 4000000 in
set_option maxRecDepth 20000 in
theorem l_by {G : Gt} {M : Mm} {w : Nat} {Y : Yv} (hw : w = 36 ∨ w = 40) : ∀ (k : Nat) (i : Nat) (Mc : Mm) (u : Value), (i ≤ 4) → (4 < i + k) → (BY M Mc w i Y) → Ev G 3 mX10_beginYard 32 [.ref 0, .int (nI i), u] [] Mc (fun r M' => r = none ∧ BY M M' w 4 Y) := by
  intro k
  induction k with
  | zero => intro i Mc u hi hk hv; exact absurd hk (by omega)
  | succ k ih =>
    intro i Mc u hi hk hv
    refine e_iload_n dX10_beginYard_32 rfl ?_
    refine e_iconst (v := 4) dX10_beginYard_33 (by decide) ?_
    refine e_icmp_ge (tgt := 58) dX10_beginYard_34 (by decide) (fun c34 => ?_) (fun c34 => ?_)
    · -- 34 jumps
      have hin : i = 4 := by have := ge_of (n := 4) (by omega) (by omega) c34; omega
      subst hin
      refine e_vret dX10_beginYard_58 rfl ?_
      exact ⟨rfl, hv⟩
    · -- 34 goes on
      have hlt : i < 4 := lt_of (n := 4) (by omega) (by omega) c34
      have hmk := mk_id hlt
      refine e_aload_n dX10_beginYard_37 rfl ?_
      refine e_iload_n dX10_beginYard_38 rfl ?_
      refine cV1r dX10_beginYard_39 mo_X10_markAt ml_X10_117 sh_x rfl (Nat.le_of_ble_eq_true rfl) (by omega) (c_markAt hlt) ?_
      refine e_astore_n (ls' := [_, _, _]) dX10_beginYard_42 (by decide) rfl ?_
      refine e_aload_n dX10_beginYard_43 rfl ?_
      refine e_ifnull dX10_beginYard_44 ?_
      refine e_aload_n dX10_beginYard_47 rfl ?_
      refine e_iconst (v := 0) dX10_beginYard_48 (by decide) ?_
      refine e_putI dX10_beginYard_49 fl_X10_121 (sh_mk (by first | assumption | decide)) rfl (by first | rfl | exact b2i_nar _ | assumption) rfl ?_
      refine e_iinc (ls' := [_, _, _]) dX10_beginYard_52 rfl (nI_i1 _) (by decide) rfl ?_
      refine e_goto (tgt := 32) dX10_beginYard_55 (by decide) ?_
      obtain ⟨b1, b2, b3, b4, b5, b6, b7, b8⟩ := hv
      refine ih (i + 1) _ _ (by omega) (by omega) ⟨b1, fun q hq => ?_, fun k hk => ?_, b4.congr (fun q a b => ?_), ?_, ?_, ?_, fun k hk => ?_⟩
      · funext z; rw [setI_1, if_neg (by unfold byC at hq; omega), b2 q hq]
      · rw [setI_1, if_neg (by omega)]; exact b3 k hk
      · funext z; rw [setI_1, if_neg (by omega)]
      · rw [setI_1, if_neg (by omega)]; exact b5
      · rw [setI_1, if_neg (by omega)]; exact b6
      · rw [setI_1, if_neg (by omega)]; exact b7
      · rw [setI_1]
        split
        · rfl
        · exact b8 k (by omega)
set_option maxHeartbeats 4000000 in
set_option maxRecDepth 20000 in
theorem c_beginYard {G : Gt} {M : Mm} {y w : Nat} {Y : Yv} (hld : M.2.2 0 1 = y) (hpl : M.2.2 0 3 = w) (hy : y ∈ ydA) (hw : w = 36 ∨ w = 40) (hY : YX M y Y) : Call G 3 mX10_beginYard [.ref 0] M (fun r M' => r = none ∧ BY M M' w 4 Y) := by
  have hwk := wk2 hw
  refine Call.intro rfl (Nat.le_of_ble_eq_true rfl) ?_
  show Ev G _ mX10_beginYard 0 [.ref 0, RA, RA] [] M _
  refine e_aload_n dX10_beginYard_0 rfl ?_
  refine e_getR dX10_beginYard_1 fl_X10_39 sh_x rfl ?_
  refine e_aload_n dX10_beginYard_4 rfl ?_
  refine e_getP dX10_beginYard_5 fl_X10_19 sh_x rfl ?_
  first | rw [hld] | (simp only [setI_2, setI_22, setL_22]; rw [hld])
  refine cV1x dX10_beginYard_8 mo_X3_begin ml_X10_106 (sh_st (by first | assumption | exact mk_st (by assumption) | decide)) rfl (Nat.le_of_ble_eq_true rfl) (by omega) (c_begin (o := 44) (by decide) hy hY) ?_
  rintro r M1 ⟨rfl, h2, hf, hS1⟩
  dsimp only [Option.toList, List.cons_append, List.nil_append]
  have hpl0 := hpl
  have hpl : M1.2.2 0 3 = w := by rw [h2]; exact hpl0
  refine e_aload_n dX10_beginYard_11 rfl ?_
  refine e_getP dX10_beginYard_12 fl_X10_29 sh_x rfl ?_
  first | rw [hpl] | (simp only [setI_2, setI_22, setL_22]; rw [hpl])
  refine cV0v dX10_beginYard_15 mo_X5_clear ml_X10_110 (sh_wk (by first | assumption | exact wk2 (by assumption) | exact mk_wk (by assumption) | decide)) rfl (Nat.le_of_ble_eq_true rfl) (by omega) (c_wkClear (wk2 hw)) ?_
  refine e_aload_n dX10_beginYard_18 rfl ?_
  refine e_getR dX10_beginYard_19 fl_X10_49 sh_x rfl ?_
  refine cV0v dX10_beginYard_22 mo_X2_clear ml_X10_113 (sh_sn (by first | assumption | exact mk_sn (by assumption) | decide)) rfl (Nat.le_of_ble_eq_true rfl) (by omega) (c_snClear (o := 58) (by decide)) ?_
  refine e_aload_n dX10_beginYard_25 rfl ?_
  refine e_iconst (v := 0) dX10_beginYard_26 (by decide) ?_
  refine e_putI dX10_beginYard_27 fl_X10_114 sh_x rfl rfl rfl ?_
  refine e_iconst (v := 0) dX10_beginYard_30 (by decide) ?_
  refine e_istore_n (ls' := [_, _, _]) dX10_beginYard_31 (by decide) rfl ?_
  refine l_by hw 5 0 _ _ (by omega) (by omega) ⟨h2, fun q hq => ?_, fun k hk => ?_, hS1.congr (fun q a b => ?_), ?_, ?_, ?_, fun k hk => absurd hk (Nat.not_lt_zero k)⟩
  · funext z; rw [setI_1, if_neg (by unfold byC at hq; omega), setI_1, if_neg (by unfold byC at hq; omega), setI_1, if_neg (by unfold byC at hq; omega), hf q (by unfold byC at hq; omega)]
  · rw [setI_1, if_neg (by omega), setI_1, if_neg (by omega), setI_1, if_neg (by omega), hf 0 (by omega)]
  · funext z; rw [setI_1, if_neg (by omega), setI_1, if_neg (by omega), setI_1, if_neg (by omega)]
  · rw [setI_1, if_neg (by omega), setI_1, if_neg (by omega), setI_1, if_pos ⟨rfl, rfl⟩]
  · rw [setI_1, if_neg (by omega), setI_1, if_pos ⟨rfl, rfl⟩]
  · rw [setI_1, if_pos ⟨rfl, rfl⟩]
end XBY
