section XCP
theorem Ev.weaken {G : Gt} {d : Nat} {mi : Mi} {pc : Nat} {ls st : List Value} {M : Mm} {Q Q' : Option Value → Mm → Prop} (h : Ev G d mi pc ls st M Q) (hq : ∀ r M', Q r M' → Q' r M') : Ev G d mi pc ls st M Q' := by
  intro p e s m args below meth c R Z k0 n0 H locs lsA C hP hS hl
  exact h p e s m args below meth c R Z k0 n0 H locs lsA ⟨C.1, C.2.1, fun pc H locs lsA r M h1 h2 h3 h4 => C.2.2 pc H locs lsA r M h1 (hq r M h2) h3 h4⟩ hP hS hl
theorem cpI_1 (M : Mm) (a b n i k : Nat) : (cpI M a b n).1 i k = if i = b ∧ k < n then M.1 a k else M.1 i k := rfl
theorem cpI_2 (M : Mm) (a b n : Nat) : (cpI M a b n).2 = M.2 := rfl
/-- rows told: how many, three numbers each (a week's lines, what is seen) -/
abbrev Rv : Type := Nat × (Nat → Int32) × (Nat → Int32) × (Nat → Int32)
def RX (M : Mm) (i c : Nat) (R : Rv) : Prop := M.1 i 3 = nI R.1 ∧ R.1 ≤ c ∧ ∀ k, k < R.1 → M.1 (i + 1) k = R.2.1 k ∧ M.1 (i + 2) k = R.2.2.1 k ∧ M.1 (i + 3) k = R.2.2.2 k
theorem RX.congr {M M' : Mm} {i c : Nat} {R : Rv} (h : RX M i c R) (h1 : ∀ q, i ≤ q → q ≤ i + 3 → M'.1 q = M.1 q) : RX M' i c R := by
  unfold RX
  rw [h1 i (by omega) (by omega), h1 (i + 1) (by omega) (by omega), h1 (i + 2) (by omega) (by omega), h1 (i + 3) (by omega) (by omega)]
  exact h
set_option maxHeartbeats 4000000 in
set_option maxRecDepth 20000 in
theorem c_copyS {G : Gt} {M : Mm} {o q : Nat} (ho : o ∈ stA) (hq : q ∈ stA) (hd : o + 6 < q ∨ q + 6 < o) : Call G 2 mX3_copyFrom [.ref o, .ref q] M (fun r M' => r = none ∧ M'.2 = M.2 ∧ (∀ i, ¬ (o ≤ i ∧ i ≤ o + 4) → M'.1 i = M.1 i) ∧ ∀ n S, n ≤ 6 → SX M q n S → SX M' o n S) := by
  refine Call.intro rfl (Nat.le_of_ble_eq_true rfl) ?_
  show Ev G _ mX3_copyFrom 0 [.ref o, .ref q] [] M _
  refine e_aload_n dX3_copyFrom_0 rfl ?_
  refine e_aload_n dX3_copyFrom_1 rfl ?_
  refine e_getI dX3_copyFrom_2 fl_X3_36 (sh_st (by first | assumption | decide)) rfl ?_
  refine e_putI dX3_copyFrom_5 fl_X3_36 (sh_st (by first | assumption | decide)) rfl rfl rfl ?_
  refine e_aload_n dX3_copyFrom_8 rfl ?_
  refine e_aload_n dX3_copyFrom_9 rfl ?_
  refine e_getI dX3_copyFrom_10 fl_X3_37 (sh_st (by first | assumption | decide)) rfl ?_
  refine e_putI dX3_copyFrom_13 fl_X3_37 (sh_st (by first | assumption | decide)) rfl rfl rfl ?_
  refine e_aload_n dX3_copyFrom_16 rfl ?_
  refine e_aload_n dX3_copyFrom_17 rfl ?_
  refine e_getI dX3_copyFrom_18 fl_X3_40 (sh_st (by first | assumption | decide)) rfl ?_
  refine e_putI dX3_copyFrom_21 fl_X3_40 (sh_st (by first | assumption | decide)) rfl rfl rfl ?_
  refine e_aload_n dX3_copyFrom_24 rfl ?_
  refine e_getR dX3_copyFrom_25 fl_X3_9 (sh_st (by first | assumption | decide)) rfl ?_
  refine e_aload_n dX3_copyFrom_28 rfl ?_
  refine e_getR dX3_copyFrom_29 fl_X3_9 (sh_st (by first | assumption | decide)) rfl ?_
  refine cS2v dX3_copyFrom_32 mo_X10_copyRow ml_X3_44 (Nat.le_of_ble_eq_true rfl) (by omega) (c_copyRow (sa_st_heights (by first | assumption | decide)) (sa_st_heights (by first | assumption | decide)) (by decide)) ?_
  refine e_aload_n dX3_copyFrom_35 rfl ?_
  refine e_getR dX3_copyFrom_36 fl_X3_15 (sh_st (by first | assumption | decide)) rfl ?_
  refine e_aload_n dX3_copyFrom_39 rfl ?_
  refine e_getR dX3_copyFrom_40 fl_X3_15 (sh_st (by first | assumption | decide)) rfl ?_
  refine cS2v dX3_copyFrom_43 mo_X10_copyRow ml_X3_44 (Nat.le_of_ble_eq_true rfl) (by omega) (c_copyRow (sa_st_heats (by first | assumption | decide)) (sa_st_heats (by first | assumption | decide)) (by decide)) ?_
  refine e_aload_n dX3_copyFrom_46 rfl ?_
  refine e_getR dX3_copyFrom_47 fl_X3_18 (sh_st (by first | assumption | decide)) rfl ?_
  refine e_aload_n dX3_copyFrom_50 rfl ?_
  refine e_getR dX3_copyFrom_51 fl_X3_18 (sh_st (by first | assumption | decide)) rfl ?_
  refine cS2v dX3_copyFrom_54 mo_X10_copyRow ml_X3_44 (Nat.le_of_ble_eq_true rfl) (by omega) (c_copyRow (sa_st_crowns (by first | assumption | decide)) (sa_st_crowns (by first | assumption | decide)) (by decide)) ?_
  refine e_aload_n dX3_copyFrom_57 rfl ?_
  refine e_getR dX3_copyFrom_58 fl_X3_21 (sh_st (by first | assumption | decide)) rfl ?_
  refine e_aload_n dX3_copyFrom_61 rfl ?_
  refine e_getR dX3_copyFrom_62 fl_X3_21 (sh_st (by first | assumption | decide)) rfl ?_
  refine cS2v dX3_copyFrom_65 mo_X10_copyRow ml_X3_44 (Nat.le_of_ble_eq_true rfl) (by omega) (c_copyRow (sa_st_heard (by first | assumption | decide)) (sa_st_heard (by first | assumption | decide)) (by decide)) ?_
  refine e_vret dX3_copyFrom_68 rfl ?_
  refine ⟨rfl, rfl, fun i hi => ?_, fun n S hn hS => ⟨?_, ?_, ?_, fun j hj => ⟨?_, ?_, ?_, ?_⟩⟩⟩
  · funext k; (repeat (first | rw [if_neg (by omega)] | rw [if_pos (by omega)] | rw [cpI_1] | rw [setI_1]))
  · (repeat (first | rw [if_neg (by omega)] | rw [if_pos (by omega)] | rw [cpI_1] | rw [setI_1])); exact hS.1
  · (repeat (first | rw [if_neg (by omega)] | rw [if_pos (by omega)] | rw [cpI_1] | rw [setI_1])); exact hS.2.1
  · (repeat (first | rw [if_neg (by omega)] | rw [if_pos (by omega)] | rw [cpI_1] | rw [setI_1])); exact hS.2.2.1
  · (repeat (first | rw [if_neg (by omega)] | rw [if_pos (by omega)] | rw [cpI_1] | rw [setI_1])); exact (hS.2.2.2 j hj).1
  · (repeat (first | rw [if_neg (by omega)] | rw [if_pos (by omega)] | rw [cpI_1] | rw [setI_1])); exact (hS.2.2.2 j hj).2.1
  · (repeat (first | rw [if_neg (by omega)] | rw [if_pos (by omega)] | rw [cpI_1] | rw [setI_1])); exact (hS.2.2.2 j hj).2.2.1
  · (repeat (first | rw [if_neg (by omega)] | rw [if_pos (by omega)] | rw [cpI_1] | rw [setI_1])); exact (hS.2.2.2 j hj).2.2.2
set_option maxHeartbeats 4000000 in
set_option maxRecDepth 20000 in
theorem c_copyW {G : Gt} {M : Mm} {o q : Nat} (ho : o ∈ wkA) (hq : q ∈ wkA) (hd : o + 3 < q ∨ q + 3 < o) : Call G 2 mX5_copyFrom [.ref o, .ref q] M (fun r M' => r = none ∧ M'.2 = M.2 ∧ (∀ i, ¬ (o ≤ i ∧ i ≤ o + 3) → M'.1 i = M.1 i) ∧ ∀ R, RX M q 40 R → RX M' o 40 R) := by
  refine Call.intro rfl (Nat.le_of_ble_eq_true rfl) ?_
  show Ev G _ mX5_copyFrom 0 [.ref o, .ref q] [] M _
  refine e_aload_n dX5_copyFrom_0 rfl ?_
  refine e_aload_n dX5_copyFrom_1 rfl ?_
  refine e_getI dX5_copyFrom_2 fl_X5_21 (sh_wk (by first | assumption | decide)) rfl ?_
  refine e_putI dX5_copyFrom_5 fl_X5_21 (sh_wk (by first | assumption | decide)) rfl rfl rfl ?_
  refine e_aload_n dX5_copyFrom_8 rfl ?_
  refine e_getR dX5_copyFrom_9 fl_X5_9 (sh_wk (by first | assumption | decide)) rfl ?_
  refine e_aload_n dX5_copyFrom_12 rfl ?_
  refine e_getR dX5_copyFrom_13 fl_X5_9 (sh_wk (by first | assumption | decide)) rfl ?_
  refine cS2v dX5_copyFrom_16 mo_X10_copyRow ml_X5_29 (Nat.le_of_ble_eq_true rfl) (by omega) (c_copyRow (sa_wk_deeds (by first | assumption | decide)) (sa_wk_deeds (by first | assumption | decide)) (by decide)) ?_
  refine e_aload_n dX5_copyFrom_19 rfl ?_
  refine e_getR dX5_copyFrom_20 fl_X5_15 (sh_wk (by first | assumption | decide)) rfl ?_
  refine e_aload_n dX5_copyFrom_23 rfl ?_
  refine e_getR dX5_copyFrom_24 fl_X5_15 (sh_wk (by first | assumption | decide)) rfl ?_
  refine cS2v dX5_copyFrom_27 mo_X10_copyRow ml_X5_29 (Nat.le_of_ble_eq_true rfl) (by omega) (c_copyRow (sa_wk_places (by first | assumption | decide)) (sa_wk_places (by first | assumption | decide)) (by decide)) ?_
  refine e_aload_n dX5_copyFrom_30 rfl ?_
  refine e_getR dX5_copyFrom_31 fl_X5_18 (sh_wk (by first | assumption | decide)) rfl ?_
  refine e_aload_n dX5_copyFrom_34 rfl ?_
  refine e_getR dX5_copyFrom_35 fl_X5_18 (sh_wk (by first | assumption | decide)) rfl ?_
  refine cS2v dX5_copyFrom_38 mo_X10_copyRow ml_X5_29 (Nat.le_of_ble_eq_true rfl) (by omega) (c_copyRow (sa_wk_numbers (by first | assumption | decide)) (sa_wk_numbers (by first | assumption | decide)) (by decide)) ?_
  refine e_vret dX5_copyFrom_41 rfl ?_
  refine ⟨rfl, rfl, fun i hi => ?_, fun R hR => ⟨?_, hR.2.1, fun k hk => ?_⟩⟩
  · funext k; (repeat (first | rw [if_neg (by omega)] | rw [if_pos (by omega)] | rw [cpI_1] | rw [setI_1]))
  · (repeat (first | rw [if_neg (by omega)] | rw [if_pos (by omega)] | rw [cpI_1] | rw [setI_1])); exact hR.1
  · have hk2 := hR.2.1
    refine ⟨?_, ?_, ?_⟩
    · (repeat (first | rw [if_neg (by omega)] | rw [if_pos (by omega)] | rw [cpI_1] | rw [setI_1])); exact (hR.2.2 k hk).1
    · (repeat (first | rw [if_neg (by omega)] | rw [if_pos (by omega)] | rw [cpI_1] | rw [setI_1])); exact (hR.2.2 k hk).2.1
    · (repeat (first | rw [if_neg (by omega)] | rw [if_pos (by omega)] | rw [cpI_1] | rw [setI_1])); exact (hR.2.2 k hk).2.2
set_option maxHeartbeats 4000000 in
set_option maxRecDepth 20000 in
theorem c_copyV {G : Gt} {M : Mm} {o q : Nat} (ho : o ∈ snA) (hq : q ∈ snA) (hd : o + 3 < q ∨ q + 3 < o) : Call G 2 mX2_copyFrom [.ref o, .ref q] M (fun r M' => r = none ∧ M'.2 = M.2 ∧ (∀ i, ¬ (o ≤ i ∧ i ≤ o + 3) → M'.1 i = M.1 i) ∧ ∀ R, RX M q 8 R → RX M' o 8 R) := by
  refine Call.intro rfl (Nat.le_of_ble_eq_true rfl) ?_
  show Ev G _ mX2_copyFrom 0 [.ref o, .ref q] [] M _
  refine e_aload_n dX2_copyFrom_0 rfl ?_
  refine e_aload_n dX2_copyFrom_1 rfl ?_
  refine e_getI dX2_copyFrom_2 fl_X2_21 (sh_sn (by first | assumption | decide)) rfl ?_
  refine e_putI dX2_copyFrom_5 fl_X2_21 (sh_sn (by first | assumption | decide)) rfl rfl rfl ?_
  refine e_aload_n dX2_copyFrom_8 rfl ?_
  refine e_getR dX2_copyFrom_9 fl_X2_9 (sh_sn (by first | assumption | decide)) rfl ?_
  refine e_aload_n dX2_copyFrom_12 rfl ?_
  refine e_getR dX2_copyFrom_13 fl_X2_9 (sh_sn (by first | assumption | decide)) rfl ?_
  refine cS2v dX2_copyFrom_16 mo_X10_copyRow ml_X2_29 (Nat.le_of_ble_eq_true rfl) (by omega) (c_copyRow (sa_sn_nights (by first | assumption | decide)) (sa_sn_nights (by first | assumption | decide)) (by decide)) ?_
  refine e_aload_n dX2_copyFrom_19 rfl ?_
  refine e_getR dX2_copyFrom_20 fl_X2_15 (sh_sn (by first | assumption | decide)) rfl ?_
  refine e_aload_n dX2_copyFrom_23 rfl ?_
  refine e_getR dX2_copyFrom_24 fl_X2_15 (sh_sn (by first | assumption | decide)) rfl ?_
  refine cS2v dX2_copyFrom_27 mo_X10_copyRow ml_X2_29 (Nat.le_of_ble_eq_true rfl) (by omega) (c_copyRow (sa_sn_much (by first | assumption | decide)) (sa_sn_much (by first | assumption | decide)) (by decide)) ?_
  refine e_aload_n dX2_copyFrom_30 rfl ?_
  refine e_getR dX2_copyFrom_31 fl_X2_18 (sh_sn (by first | assumption | decide)) rfl ?_
  refine e_aload_n dX2_copyFrom_34 rfl ?_
  refine e_getR dX2_copyFrom_35 fl_X2_18 (sh_sn (by first | assumption | decide)) rfl ?_
  refine cS2v dX2_copyFrom_38 mo_X10_copyRow ml_X2_29 (Nat.le_of_ble_eq_true rfl) (by omega) (c_copyRow (sa_sn_more (by first | assumption | decide)) (sa_sn_more (by first | assumption | decide)) (by decide)) ?_
  refine e_vret dX2_copyFrom_41 rfl ?_
  refine ⟨rfl, rfl, fun i hi => ?_, fun R hR => ⟨?_, hR.2.1, fun k hk => ?_⟩⟩
  · funext k; (repeat (first | rw [if_neg (by omega)] | rw [if_pos (by omega)] | rw [cpI_1] | rw [setI_1]))
  · (repeat (first | rw [if_neg (by omega)] | rw [if_pos (by omega)] | rw [cpI_1] | rw [setI_1])); exact hR.1
  · have hk2 := hR.2.1
    refine ⟨?_, ?_, ?_⟩
    · (repeat (first | rw [if_neg (by omega)] | rw [if_pos (by omega)] | rw [cpI_1] | rw [setI_1])); exact (hR.2.2 k hk).1
    · (repeat (first | rw [if_neg (by omega)] | rw [if_pos (by omega)] | rw [cpI_1] | rw [setI_1])); exact (hR.2.2 k hk).2.1
    · (repeat (first | rw [if_neg (by omega)] | rw [if_pos (by omega)] | rw [cpI_1] | rw [setI_1])); exact (hR.2.2 k hk).2.2
/-- a yard as told, at its first night -/
def begV (Y : Yv) : Sv := (0, 0, Y.heat, Y.crow, fun _ => 0, fun j => b1 (nI j))
set_option maxHeartbeats 4000000 in
set_option maxRecDepth 20000 in
theorem l_begin {G : Gt} {M : Mm} {o y : Nat} (ho : o ∈ stA) : ∀ (k : Nat) (i : Nat) (Mc : Mm), (i ≤ 6) → (6 < i + k) → (Mc.2 = M.2 ∧ (∀ q, ¬ q = o + 1 → ¬ q = o + 4 → Mc.1 q = M.1 q) ∧ ∀ q, q < i → Mc.1 (o + 1) q = 0 ∧ Mc.1 (o + 4) q = b1 (nI q)) → Ev G 2 mX3_begin 42 [.ref o, .ref y, .int (nI i)] [] Mc (fun r M' => r = none ∧ M'.2 = M.2 ∧ (∀ q, ¬ q = o + 1 → ¬ q = o + 4 → M'.1 q = M.1 q) ∧ ∀ q, q < 6 → M'.1 (o + 1) q = 0 ∧ M'.1 (o + 4) q = b1 (nI q)) := by
  intro k
  induction k with
  | zero => intro i Mc hi hk hv; exact absurd hk (by omega)
  | succ k ih =>
    intro i Mc hi hk hv
    refine e_iload_n dX3_begin_42 rfl ?_
    refine e_bipush (v := 6) dX3_begin_43 (by decide) ?_
    refine e_icmp_ge (tgt := 74) dX3_begin_45 (by decide) (fun c45 => ?_) (fun c45 => ?_)
    · -- 45 jumps
      have hin : i = 6 := by have := ge_of (n := 6) (by omega) (by omega) c45; omega
      subst hin
      refine e_vret dX3_begin_74 rfl ?_
      exact ⟨rfl, hv.1, hv.2.1, hv.2.2⟩
    · -- 45 goes on
      have hlt : i < 6 := lt_of (n := 6) (by omega) (by omega) c45
      refine e_aload_n dX3_begin_48 rfl ?_
      refine e_getR dX3_begin_49 fl_X3_9 (sh_st (by first | assumption | decide)) rfl ?_
      refine e_iload_n dX3_begin_52 rfl ?_
      refine e_iconst (v := 0) dX3_begin_53 (by decide) ?_
      refine cS3v dX3_begin_54 mo_X10_put ml_X3_49 (Nat.le_of_ble_eq_true rfl) (by omega) (c_putN (sa_st_heights (by first | assumption | decide)) (by decide) (by first | omega | decide)) ?_
      refine e_aload_n dX3_begin_57 rfl ?_
      refine e_getR dX3_begin_58 fl_X3_21 (sh_st (by first | assumption | decide)) rfl ?_
      refine e_iload_n dX3_begin_61 rfl ?_
      refine e_iconst (v := 1) dX3_begin_62 (by decide) ?_
      refine e_iload_n dX3_begin_63 rfl ?_
      refine e_ishl dX3_begin_64 ?_
      refine cS3v dX3_begin_65 mo_X10_put ml_X3_49 (Nat.le_of_ble_eq_true rfl) (by omega) (c_putN (sa_st_heard (by first | assumption | decide)) (by decide) (by first | omega | decide)) ?_
      refine e_iinc (ls' := [_, _, _]) dX3_begin_68 rfl (nI_i1 _) (by decide) rfl ?_
      refine e_goto (tgt := 42) dX3_begin_71 (by decide) ?_
      refine ih (i + 1) _ (by omega) (by omega) ⟨hv.1, fun q q1 q2 => ?_, fun q hq => ⟨?_, ?_⟩⟩
      · funext k; rw [setI_1, if_neg (by omega), setI_1, if_neg (by omega), hv.2.1 q q1 q2]
      · rw [setI_1, if_neg (by omega), setI_1]
        by_cases e : q = i
        · rw [if_pos ⟨rfl, e⟩]
        · rw [if_neg (fun x => e x.2)]; exact (hv.2.2 q (by omega)).1
      · rw [setI_1]
        by_cases e : q = i
        · subst e; rw [if_pos ⟨rfl, rfl⟩]
        · rw [if_neg (fun x => e x.2), setI_1, if_neg (by omega)]; exact (hv.2.2 q (by omega)).2
set_option maxHeartbeats 4000000 in
set_option maxRecDepth 20000 in
theorem c_begin {G : Gt} {M : Mm} {o y : Nat} {Y : Yv} (ho : o ∈ stA) (hy : y ∈ ydA) (hY : YX M y Y) : Call G 2 mX3_begin [.ref o, .ref y] M (fun r M' => r = none ∧ M'.2 = M.2 ∧ (∀ i, ¬ (o ≤ i ∧ i ≤ o + 4) → M'.1 i = M.1 i) ∧ SX M' o Y.n (begV Y)) := by
  have hrg := st_ge ho
  have hyl := yd_le hy
  have h6 := hY.1.2
  refine Call.intro rfl (Nat.le_of_ble_eq_true rfl) ?_
  show Ev G _ mX3_begin 0 [.ref o, .ref y, RA] [] M _
  refine e_aload_n dX3_begin_0 rfl ?_
  refine e_aload_n dX3_begin_1 rfl ?_
  refine e_getI dX3_begin_2 fl_X3_30 (sh_yd (by first | assumption | decide)) rfl ?_
  refine e_putI dX3_begin_5 fl_X3_36 (sh_st (by first | assumption | decide)) rfl rfl rfl ?_
  refine e_aload_n dX3_begin_8 rfl ?_
  refine e_iconst (v := 0) dX3_begin_9 (by decide) ?_
  refine e_putI dX3_begin_10 fl_X3_37 (sh_st (by first | assumption | decide)) rfl rfl rfl ?_
  refine e_aload_n dX3_begin_13 rfl ?_
  refine e_iconst (v := 0) dX3_begin_14 (by decide) ?_
  refine e_putI dX3_begin_15 fl_X3_40 (sh_st (by first | assumption | decide)) rfl rfl rfl ?_
  refine e_aload_n dX3_begin_18 rfl ?_
  refine e_getR dX3_begin_19 fl_X3_43 (sh_yd (by first | assumption | decide)) rfl ?_
  refine e_aload_n dX3_begin_22 rfl ?_
  refine e_getR dX3_begin_23 fl_X3_15 (sh_st (by first | assumption | decide)) rfl ?_
  refine cS2v dX3_begin_26 mo_X10_copyRow ml_X3_44 (Nat.le_of_ble_eq_true rfl) (by omega) (c_copyRow (sa_yd_heats (by first | assumption | decide)) (sa_st_heats (by first | assumption | decide)) (by decide)) ?_
  refine e_aload_n dX3_begin_29 rfl ?_
  refine e_getR dX3_begin_30 fl_X3_48 (sh_yd (by first | assumption | decide)) rfl ?_
  refine e_aload_n dX3_begin_33 rfl ?_
  refine e_getR dX3_begin_34 fl_X3_18 (sh_st (by first | assumption | decide)) rfl ?_
  refine cS2v dX3_begin_37 mo_X10_copyRow ml_X3_44 (Nat.le_of_ble_eq_true rfl) (by omega) (c_copyRow (sa_yd_crowns (by first | assumption | decide)) (sa_st_crowns (by first | assumption | decide)) (by decide)) ?_
  refine e_iconst (v := 0) dX3_begin_40 (by decide) ?_
  refine e_istore_n (ls' := [_, _, _]) dX3_begin_41 (by decide) rfl ?_
  refine (fun (h : Ev G 2 mX3_begin 42 _ [] _ _) => h) ?_
  refine Ev.weaken (l_begin ho 7 0 _ (by omega) (by omega) ⟨rfl, fun _ _ _ => rfl, fun q hq => absurd hq (by omega)⟩) ?_
  rintro r M1 ⟨rfl, h2, hf, hz⟩
  refine ⟨rfl, h2.trans rfl, fun i hi => ?_, ?_, ?_, ?_, fun j hj => ⟨?_, ?_, (hz j (by omega)).1, (hz j (by omega)).2⟩⟩
  · rw [hf i (by omega) (by omega)]; funext k; (repeat (first | rw [if_neg (by omega)] | rw [if_pos (by omega)] | rw [cpI_1] | rw [setI_1]))
  · rw [hf o (by omega) (by omega)]; (repeat (first | rw [if_neg (by omega)] | rw [if_pos (by omega)] | rw [cpI_1] | rw [setI_1])); exact hY.1.1
  · rw [hf o (by omega) (by omega)]; (repeat (first | rw [if_neg (by omega)] | rw [if_pos (by omega)] | rw [cpI_1] | rw [setI_1])); rfl
  · rw [hf o (by omega) (by omega)]; (repeat (first | rw [if_neg (by omega)] | rw [if_pos (by omega)] | rw [cpI_1] | rw [setI_1])); rfl
  · rw [hf (o + 2) (by omega) (by omega)]; (repeat (first | rw [if_neg (by omega)] | rw [if_pos (by omega)] | rw [cpI_1] | rw [setI_1])); exact (hY.2.2.2.2.1 j hj).2.1
  · rw [hf (o + 3) (by omega) (by omega)]; (repeat (first | rw [if_neg (by omega)] | rw [if_pos (by omega)] | rw [cpI_1] | rw [setI_1])); exact (hY.2.2.2.2.1 j hj).2.2.1
end XCP
