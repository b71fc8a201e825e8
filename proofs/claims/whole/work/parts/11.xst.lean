section XST
set_option maxHeartbeats 4000000 in
set_option maxRecDepth 20000 in
theorem c_isLit {G : Gt} {M : Mm} {o : Nat} {i : Int32} (ho : o ∈ stA) : Call G 1 mX3_isLit [.ref o, .int i] M (eqQ (some (.int (b2i (bitI (M.1 o 2) i)))) M) := by
  refine Call.intro rfl (Nat.le_of_ble_eq_true rfl) ?_
  show Ev G _ mX3_isLit 0 [.ref o, .int i] [] M _
  refine e_aload_n dX3_isLit_0 rfl ?_
  refine e_getI dX3_isLit_1 fl_X3_40 (sh_st (by first | assumption | decide)) rfl ?_
  refine e_iload_n dX3_isLit_4 rfl ?_
  refine e_ishr dX3_isLit_5 ?_
  refine e_iconst (v := 1) dX3_isLit_6 (by decide) ?_
  refine e_iand dX3_isLit_7 ?_
  refine e_iconst (v := 1) dX3_isLit_8 (by decide) ?_
  refine e_icmp_ne (tgt := 16) dX3_isLit_9 (by decide) (fun c9 => ?_) (fun c9 => ?_)
  · -- 9 jumps
    refine e_iconst (v := 0) dX3_isLit_16 (by decide) ?_
    refine e_zret dX3_isLit_17 rfl (by first | rfl | exact b2i_nar _) ?_
    exact ⟨by rw [b2i_f c9], rfl⟩
  · -- 9 goes on
    refine e_iconst (v := 1) dX3_isLit_12 (by decide) ?_
    refine e_goto (tgt := 17) dX3_isLit_13 (by decide) ?_
    refine e_zret dX3_isLit_17 rfl (by first | rfl | exact b2i_nar _) ?_
    exact ⟨by rw [b2i_t c9], rfl⟩
set_option maxHeartbeats 4000000 in
set_option maxRecDepth 20000 in
theorem c_lightUp {G : Gt} {M : Mm} {o : Nat} {i : Int32} (ho : o ∈ stA) : Call G 2 mX3_lightUp [.ref o, .int i] M (eqQ (some (.int (b2i (¬ bitI (M.1 o 2) i)))) (setI M o 2 (M.1 o 2 ||| b1 i))) := by
  refine Call.intro rfl (Nat.le_of_ble_eq_true rfl) ?_
  show Ev G _ mX3_lightUp 0 [.ref o, .int i, RA] [] M _
  refine e_aload_n dX3_lightUp_0 rfl ?_
  refine e_iload_n dX3_lightUp_1 rfl ?_
  refine cV1r dX3_lightUp_2 mo_X3_isLit ml_X3_65 (sh_st (by first | assumption | decide)) rfl (Nat.le_of_ble_eq_true rfl) (by omega) (c_isLit (by first | assumption | decide)) ?_
  refine e_if_ne (tgt := 12) dX3_lightUp_5 (by decide) (fun c5 => ?_) (fun c5 => ?_)
  · -- 5 jumps
    refine e_iconst (v := 0) dX3_lightUp_12 (by decide) ?_
    refine e_istore_n (ls' := [_, _, _]) dX3_lightUp_13 (by decide) rfl ?_
    refine e_aload_n dX3_lightUp_14 rfl ?_
    refine e_dup dX3_lightUp_15 rfl ?_
    refine e_getI dX3_lightUp_16 fl_X3_40 (sh_st (by first | assumption | decide)) rfl ?_
    refine e_iconst (v := 1) dX3_lightUp_19 (by decide) ?_
    refine e_iload_n dX3_lightUp_20 rfl ?_
    refine e_ishl dX3_lightUp_21 ?_
    refine e_ior dX3_lightUp_22 ?_
    refine e_putI dX3_lightUp_23 fl_X3_40 (sh_st (by first | assumption | decide)) rfl rfl rfl ?_
    refine e_iload_n dX3_lightUp_26 rfl ?_
    refine e_zret dX3_lightUp_27 rfl (by first | rfl | exact b2i_nar _) ?_
    exact ⟨by rw [b2i_f (fun q => absurd (b2i_f q) c5)], rfl⟩
  · -- 5 goes on
    refine e_iconst (v := 1) dX3_lightUp_8 (by decide) ?_
    refine e_goto (tgt := 13) dX3_lightUp_9 (by decide) ?_
    refine e_istore_n (ls' := [_, _, _]) dX3_lightUp_13 (by decide) rfl ?_
    refine e_aload_n dX3_lightUp_14 rfl ?_
    refine e_dup dX3_lightUp_15 rfl ?_
    refine e_getI dX3_lightUp_16 fl_X3_40 (sh_st (by first | assumption | decide)) rfl ?_
    refine e_iconst (v := 1) dX3_lightUp_19 (by decide) ?_
    refine e_iload_n dX3_lightUp_20 rfl ?_
    refine e_ishl dX3_lightUp_21 ?_
    refine e_ior dX3_lightUp_22 ?_
    refine e_putI dX3_lightUp_23 fl_X3_40 (sh_st (by first | assumption | decide)) rfl rfl rfl ?_
    refine e_iload_n dX3_lightUp_26 rfl ?_
    refine e_zret dX3_lightUp_27 rfl (by first | rfl | exact b2i_nar _) ?_
    exact ⟨by rw [b2i_t (b2i_eq0.mp c5)], rfl⟩
set_option maxHeartbeats 4000000 in
set_option maxRecDepth 20000 in
theorem c_heatTo {G : Gt} {M : Mm} {o j : Nat} {v : Int32} (ho : o ∈ stA) (hj : j < 6) : Call G 2 mX3_heatTo [.ref o, .int (nI j), .int v] M (eqQ none (setI M (o + 2) j v)) := by
  refine Call.intro rfl (Nat.le_of_ble_eq_true rfl) ?_
  show Ev G _ mX3_heatTo 0 [.ref o, .int (nI j), .int v] [] M _
  refine e_aload_n dX3_heatTo_0 rfl ?_
  refine e_getR dX3_heatTo_1 fl_X3_15 (sh_st (by first | assumption | decide)) rfl ?_
  refine e_iload_n dX3_heatTo_4 rfl ?_
  refine e_iload_n dX3_heatTo_5 rfl ?_
  refine cS3v dX3_heatTo_6 mo_X10_put ml_X3_49 (Nat.le_of_ble_eq_true rfl) (by omega) (c_putN (sa_st_heats (by first | assumption | decide)) (by decide) (by omega)) ?_
  refine e_vret dX3_heatTo_9 rfl ?_
  exact ⟨rfl, rfl⟩
set_option maxHeartbeats 4000000 in
set_option maxRecDepth 20000 in
theorem c_canLose {G : Gt} {M : Mm} {o j : Nat} {v : Int32} (ho : o ∈ stA) (hj : j < 6) : Call G 2 mX3_canLose [.ref o, .int (nI j), .int v] M (eqQ (some (.int (b2i (¬ M.1 (o + 3) j < v ∧ ¬ M.1 (o + 1) j < 10)))) M) := by
  refine Call.intro rfl (Nat.le_of_ble_eq_true rfl) ?_
  show Ev G _ mX3_canLose 0 [.ref o, .int (nI j), .int v] [] M _
  refine e_aload_n dX3_canLose_0 rfl ?_
  refine e_getR dX3_canLose_1 fl_X3_18 (sh_st (by first | assumption | decide)) rfl ?_
  refine e_iload_n dX3_canLose_4 rfl ?_
  refine cS2r dX3_canLose_5 mo_X10_at ml_X3_53 (Nat.le_of_ble_eq_true rfl) (by omega) (c_atN (sa_st_crowns (by first | assumption | decide)) (by decide) (by omega)) ?_
  refine e_iload_n dX3_canLose_8 rfl ?_
  refine e_icmp_lt (tgt := 29) dX3_canLose_9 (by decide) (fun c9 => ?_) (fun c9 => ?_)
  · -- 9 jumps
    refine e_iconst (v := 0) dX3_canLose_29 (by decide) ?_
    refine e_zret dX3_canLose_30 rfl (by first | rfl | exact b2i_nar _) ?_
    exact ⟨by rw [b2i_f (fun q => by first | exact absurd (by assumption) q.1 | exact absurd (by assumption) q.2)], rfl⟩
  · -- 9 goes on
    refine e_aload_n dX3_canLose_12 rfl ?_
    refine e_getR dX3_canLose_13 fl_X3_9 (sh_st (by first | assumption | decide)) rfl ?_
    refine e_iload_n dX3_canLose_16 rfl ?_
    refine cS2r dX3_canLose_17 mo_X10_at ml_X3_53 (Nat.le_of_ble_eq_true rfl) (by omega) (c_atN (sa_st_heights (by first | assumption | decide)) (by decide) (by omega)) ?_
    refine e_bipush (v := 10) dX3_canLose_20 (by decide) ?_
    refine e_icmp_lt (tgt := 29) dX3_canLose_22 (by decide) (fun c22 => ?_) (fun c22 => ?_)
    · -- 22 jumps
      refine e_iconst (v := 0) dX3_canLose_29 (by decide) ?_
      refine e_zret dX3_canLose_30 rfl (by first | rfl | exact b2i_nar _) ?_
      exact ⟨by rw [b2i_f (fun q => by first | exact absurd (by assumption) q.1 | exact absurd (by assumption) q.2)], rfl⟩
    · -- 22 goes on
      refine e_iconst (v := 1) dX3_canLose_25 (by decide) ?_
      refine e_goto (tgt := 30) dX3_canLose_26 (by decide) ?_
      refine e_zret dX3_canLose_30 rfl (by first | rfl | exact b2i_nar _) ?_
      exact ⟨by rw [b2i_t ⟨by assumption, by assumption⟩], rfl⟩
def loseM (M : Mm) (o j : Nat) (v : Int32) : Mm := if M.1 (o + 3) j - v = 0 then setI (setI M (o + 3) j (M.1 (o + 3) j - v)) (o + 1) j 0 else setI M (o + 3) j (M.1 (o + 3) j - v)
theorem setI_same (M : Mm) (i k : Nat) (v : Int32) : (setI M i k v).1 i k = v := by simp [setI]
theorem setI_1 (M : Mm) (i k : Nat) (v : Int32) (j q : Nat) : (setI M i k v).1 j q = if j = i ∧ q = k then v else M.1 j q := rfl
theorem setI_2 (M : Mm) (i k : Nat) (v : Int32) : (setI M i k v).2 = M.2 := rfl
set_option maxHeartbeats 4000000 in
set_option maxRecDepth 20000 in
theorem c_lose {G : Gt} {M : Mm} {o j : Nat} {v : Int32} (ho : o ∈ stA) (hj : j < 6) : Call G 2 mX3_lose [.ref o, .int (nI j), .int v] M (eqQ none (loseM M o j v)) := by
  refine Call.intro rfl (Nat.le_of_ble_eq_true rfl) ?_
  show Ev G _ mX3_lose 0 [.ref o, .int (nI j), .int v] [] M _
  refine e_aload_n dX3_lose_0 rfl ?_
  refine e_getR dX3_lose_1 fl_X3_18 (sh_st (by first | assumption | decide)) rfl ?_
  refine e_iload_n dX3_lose_4 rfl ?_
  refine e_aload_n dX3_lose_5 rfl ?_
  refine e_getR dX3_lose_6 fl_X3_18 (sh_st (by first | assumption | decide)) rfl ?_
  refine e_iload_n dX3_lose_9 rfl ?_
  refine cS2r dX3_lose_10 mo_X10_at ml_X3_53 (Nat.le_of_ble_eq_true rfl) (by omega) (c_atN (sa_st_crowns (by first | assumption | decide)) (by decide) (by omega)) ?_
  refine e_iload_n dX3_lose_13 rfl ?_
  refine e_isub dX3_lose_14 ?_
  refine cS3v dX3_lose_15 mo_X10_put ml_X3_49 (Nat.le_of_ble_eq_true rfl) (by omega) (c_putN (sa_st_crowns (by first | assumption | decide)) (by decide) (by omega)) ?_
  refine e_aload_n dX3_lose_18 rfl ?_
  refine e_getR dX3_lose_19 fl_X3_18 (sh_st (by first | assumption | decide)) rfl ?_
  refine e_iload_n dX3_lose_22 rfl ?_
  refine cS2r dX3_lose_23 mo_X10_at ml_X3_53 (Nat.le_of_ble_eq_true rfl) (by omega) (c_atN (sa_st_crowns (by first | assumption | decide)) (by decide) (by omega)) ?_
  refine e_if_ne (tgt := 38) dX3_lose_26 (by decide) (fun c26 => ?_) (fun c26 => ?_)
  · -- 26 jumps
    refine e_vret dX3_lose_38 rfl ?_
    rw [setI_same] at c26
    exact ⟨rfl, by simp only [loseM]; rw [if_neg c26]⟩
  · -- 26 goes on
    refine e_aload_n dX3_lose_29 rfl ?_
    refine e_getR dX3_lose_30 fl_X3_9 (sh_st (by first | assumption | decide)) rfl ?_
    refine e_iload_n dX3_lose_33 rfl ?_
    refine e_iconst (v := 0) dX3_lose_34 (by decide) ?_
    refine cS3v dX3_lose_35 mo_X10_put ml_X3_49 (Nat.le_of_ble_eq_true rfl) (by omega) (c_putN (sa_st_heights (by first | assumption | decide)) (by decide) (by omega)) ?_
    refine e_vret dX3_lose_38 rfl ?_
    rw [setI_same] at c26
    exact ⟨rfl, by simp only [loseM]; rw [if_pos c26]⟩
set_option maxHeartbeats 4000000 in
set_option maxRecDepth 20000 in
theorem c_murmurOf {G : Gt} {M : Mm} {h c : Int32} : Call G 2 mX3_murmurOf [.int h, .int c] M (eqQ (some (.int (murV h c))) M) := by
  refine Call.intro rfl (Nat.le_of_ble_eq_true rfl) ?_
  show Ev G _ mX3_murmurOf 0 [.int h, .int c] [] M _
  refine e_sipush (v := 999) dX3_murmurOf_0 (by decide) ?_
  refine e_iload_n dX3_murmurOf_3 rfl ?_
  refine e_iload_n dX3_murmurOf_4 rfl ?_
  refine e_imul dX3_murmurOf_5 ?_
  refine e_bipush (v := 10) dX3_murmurOf_6 (by decide) ?_
  refine e_idiv dX3_murmurOf_8 (by decide) ?_
  refine e_min dX3_murmurOf_9 (mem_g 731 (by decide +kernel) rfl) (mem_g 425 (by decide +kernel) rfl) (mem_g 15 (by decide +kernel) rfl) (mem_g 426 (by decide +kernel) rfl) (Nat.le_of_ble_eq_true rfl) (by omega) ?_
  refine e_iret dX3_murmurOf_12 rfl ?_
  exact ⟨rfl, rfl⟩
set_option maxHeartbeats 4000000 in
set_option maxRecDepth 20000 in
theorem c_murmur {G : Gt} {M : Mm} {o j : Nat} (ho : o ∈ stA) (hj : j < 6) : Call G 3 mX3_murmur [.ref o, .int (nI j)] M (eqQ (some (.int (murV (M.1 (o + 1) j) (M.1 (o + 3) j)))) M) := by
  refine Call.intro rfl (Nat.le_of_ble_eq_true rfl) ?_
  show Ev G _ mX3_murmur 0 [.ref o, .int (nI j)] [] M _
  refine e_aload_n dX3_murmur_0 rfl ?_
  refine e_getR dX3_murmur_1 fl_X3_9 (sh_st (by first | assumption | decide)) rfl ?_
  refine e_iload_n dX3_murmur_4 rfl ?_
  refine cS2r dX3_murmur_5 mo_X10_at ml_X3_53 (Nat.le_of_ble_eq_true rfl) (by omega) (c_atN (sa_st_heights (by first | assumption | decide)) (by decide) (by omega)) ?_
  refine e_aload_n dX3_murmur_8 rfl ?_
  refine e_getR dX3_murmur_9 fl_X3_18 (sh_st (by first | assumption | decide)) rfl ?_
  refine e_iload_n dX3_murmur_12 rfl ?_
  refine cS2r dX3_murmur_13 mo_X10_at ml_X3_53 (Nat.le_of_ble_eq_true rfl) (by omega) (c_atN (sa_st_crowns (by first | assumption | decide)) (by decide) (by omega)) ?_
  refine cS2r dX3_murmur_16 mo_X3_murmurOf ml_X3_105 (Nat.le_of_ble_eq_true rfl) (by omega) (c_murmurOf) ?_
  refine e_iret dX3_murmur_19 rfl ?_
  exact ⟨rfl, rfl⟩
set_option maxHeartbeats 4000000 in
set_option maxRecDepth 20000 in
theorem l_murmursOfAll {G : Gt} {M : Mm} {o n : Nat} (ho : o ∈ stA) (hn : M.1 o 0 = nI n) (h6 : n ≤ 6) : ∀ (k : Nat) (i : Nat) , (i ≤ n) → (n < i + k) → Ev G 4 mX3_murmursOfAll 4 [.ref o, .int (sumI (fun i => murV (M.1 (o + 1) i) (M.1 (o + 3) i)) i), .int (nI i)] [] M (eqQ (some (.int (sumI (fun i => murV (M.1 (o + 1) i) (M.1 (o + 3) i)) n))) M) := by
  intro k
  induction k with
  | zero => intro i hi hk; exact absurd hk (by omega)
  | succ k ih =>
    intro i hi hk
    refine e_iload_n dX3_murmursOfAll_4 rfl ?_
    refine e_aload_n dX3_murmursOfAll_5 rfl ?_
    refine e_getI dX3_murmursOfAll_6 fl_X3_36 (sh_st (by first | assumption | decide)) rfl ?_
    refine e_icmp_ge (tgt := 26) dX3_murmursOfAll_9 (by decide) (fun c9 => ?_) (fun c9 => ?_)
    · -- 9 jumps
      rw [hn] at c9
      have hin : i = n := by have := ge_of (by omega) (by omega) c9; omega
      subst hin
      refine e_iload_n dX3_murmursOfAll_26 rfl ?_
      refine e_iret dX3_murmursOfAll_27 rfl ?_
      exact ⟨rfl, rfl⟩
    · -- 9 goes on
      rw [hn] at c9
      have hlt : i < n := lt_of (by omega) (by omega) c9
      refine e_iload_n dX3_murmursOfAll_12 rfl ?_
      refine e_aload_n dX3_murmursOfAll_13 rfl ?_
      refine e_iload_n dX3_murmursOfAll_14 rfl ?_
      refine cV1r dX3_murmursOfAll_15 mo_X3_murmur ml_X3_108 (sh_st (by first | assumption | decide)) rfl (Nat.le_of_ble_eq_true rfl) (by omega) (c_murmur (by first | assumption | decide) (by omega)) ?_
      refine e_iadd dX3_murmursOfAll_18 ?_
      refine e_istore_n (ls' := [_, _, _]) dX3_murmursOfAll_19 (by decide) rfl ?_
      refine e_iinc (ls' := [_, _, _]) dX3_murmursOfAll_20 rfl (nI_i1 _) (by decide) rfl ?_
      refine e_goto (tgt := 4) dX3_murmursOfAll_23 (by decide) ?_
      exact ih (i + 1) (by omega) (by omega)
set_option maxHeartbeats 4000000 in
set_option maxRecDepth 20000 in
theorem c_murmursOfAll {G : Gt} {M : Mm} {o n : Nat} (ho : o ∈ stA) (hn : M.1 o 0 = nI n) (h6 : n ≤ 6) : Call G 4 mX3_murmursOfAll [.ref o] M (eqQ (some (.int (sumI (fun i => murV (M.1 (o + 1) i) (M.1 (o + 3) i)) n))) M) := by
  refine Call.intro rfl (Nat.le_of_ble_eq_true rfl) ?_
  show Ev G _ mX3_murmursOfAll 0 [.ref o, RA, RA] [] M _
  refine e_iconst (v := 0) dX3_murmursOfAll_0 (by decide) ?_
  refine e_istore_n (ls' := [_, _, _]) dX3_murmursOfAll_1 (by decide) rfl ?_
  refine e_iconst (v := 0) dX3_murmursOfAll_2 (by decide) ?_
  refine e_istore_n (ls' := [_, _, _]) dX3_murmursOfAll_3 (by decide) rfl ?_
  exact l_murmursOfAll ho hn h6 (n + 1) 0 (by omega) (by omega)
set_option maxHeartbeats 4000000 in
set_option maxRecDepth 20000 in
theorem l_crownsOfAll {G : Gt} {M : Mm} {o n : Nat} (ho : o ∈ stA) (hn : M.1 o 0 = nI n) (h6 : n ≤ 6) : ∀ (k : Nat) (i : Nat) , (i ≤ n) → (n < i + k) → Ev G 2 mX3_crownsOfAll 4 [.ref o, .int (sumI (M.1 (o + 3)) i), .int (nI i)] [] M (eqQ (some (.int (sumI (M.1 (o + 3)) n))) M) := by
  intro k
  induction k with
  | zero => intro i hi hk; exact absurd hk (by omega)
  | succ k ih =>
    intro i hi hk
    refine e_iload_n dX3_crownsOfAll_4 rfl ?_
    refine e_aload_n dX3_crownsOfAll_5 rfl ?_
    refine e_getI dX3_crownsOfAll_6 fl_X3_36 (sh_st (by first | assumption | decide)) rfl ?_
    refine e_icmp_ge (tgt := 29) dX3_crownsOfAll_9 (by decide) (fun c9 => ?_) (fun c9 => ?_)
    · -- 9 jumps
      rw [hn] at c9
      have hin : i = n := by have := ge_of (by omega) (by omega) c9; omega
      subst hin
      refine e_iload_n dX3_crownsOfAll_29 rfl ?_
      refine e_iret dX3_crownsOfAll_30 rfl ?_
      exact ⟨rfl, rfl⟩
    · -- 9 goes on
      rw [hn] at c9
      have hlt : i < n := lt_of (by omega) (by omega) c9
      refine e_iload_n dX3_crownsOfAll_12 rfl ?_
      refine e_aload_n dX3_crownsOfAll_13 rfl ?_
      refine e_getR dX3_crownsOfAll_14 fl_X3_18 (sh_st (by first | assumption | decide)) rfl ?_
      refine e_iload_n dX3_crownsOfAll_17 rfl ?_
      refine cS2r dX3_crownsOfAll_18 mo_X10_at ml_X3_53 (Nat.le_of_ble_eq_true rfl) (by omega) (c_atN (sa_st_crowns (by first | assumption | decide)) (by decide) (by omega)) ?_
      refine e_iadd dX3_crownsOfAll_21 ?_
      refine e_istore_n (ls' := [_, _, _]) dX3_crownsOfAll_22 (by decide) rfl ?_
      refine e_iinc (ls' := [_, _, _]) dX3_crownsOfAll_23 rfl (nI_i1 _) (by decide) rfl ?_
      refine e_goto (tgt := 4) dX3_crownsOfAll_26 (by decide) ?_
      exact ih (i + 1) (by omega) (by omega)
set_option maxHeartbeats 4000000 in
set_option maxRecDepth 20000 in
theorem c_crownsOfAll {G : Gt} {M : Mm} {o n : Nat} (ho : o ∈ stA) (hn : M.1 o 0 = nI n) (h6 : n ≤ 6) : Call G 2 mX3_crownsOfAll [.ref o] M (eqQ (some (.int (sumI (M.1 (o + 3)) n))) M) := by
  refine Call.intro rfl (Nat.le_of_ble_eq_true rfl) ?_
  show Ev G _ mX3_crownsOfAll 0 [.ref o, RA, RA] [] M _
  refine e_iconst (v := 0) dX3_crownsOfAll_0 (by decide) ?_
  refine e_istore_n (ls' := [_, _, _]) dX3_crownsOfAll_1 (by decide) rfl ?_
  refine e_iconst (v := 0) dX3_crownsOfAll_2 (by decide) ?_
  refine e_istore_n (ls' := [_, _, _]) dX3_crownsOfAll_3 (by decide) rfl ?_
  exact l_crownsOfAll ho hn h6 (n + 1) 0 (by omega) (by omega)
/-- all of the first n -/
def allN (p : Nat → Bool) : Nat → Bool
  | 0 => true
  | k + 1 => allN p k && p k
theorem allN_iff {p : Nat → Bool} {n : Nat} : allN p n = true ↔ ∀ j, j < n → p j = true := by
  induction n with
  | zero => simp [allN]
  | succ n ih =>
    simp only [allN, Bool.and_eq_true, ih]
    constructor
    · rintro ⟨h1, h2⟩ j hj
      by_cases e : j = n
      · subst e; exact h2
      · exact h1 j (by omega)
    · exact fun h => ⟨fun j hj => h j (by omega), h n (by omega)⟩
theorem allN_f {p : Nat → Bool} {n j : Nat} (hj : j < n) (h : p j = false) : ¬ (∀ i, i < n → p i = true) := fun q => by rw [q j hj] at h; cases h
theorem allN_congr {p q : Nat → Bool} {n : Nat} (h : ∀ j, j < n → p j = q j) : allN p n = allN q n := by
  induction n with
  | zero => rfl
  | succ n ih => simp only [allN]; rw [ih (fun j hj => h j (by omega)), h n (by omega)]
set_option maxHeartbeats 4000000 in
set_option maxRecDepth 20000 in
theorem l_allAtRoof {G : Gt} {M : Mm} {o n : Nat} (ho : o ∈ stA) (hn : M.1 o 0 = nI n) (h6 : n ≤ 6) {r : Int32} : ∀ (k : Nat) (i : Nat) , (i ≤ n) → (n < i + k) → (∀ j, j < i → (fun i => !(decide (0 < M.1 (o + 3) i) && decide (M.1 (o + 1) i < r))) j = true) → Ev G 2 mX3_allAtRoof 2 [.ref o, .int r, .int (nI i)] [] M (eqQ (some (.int (b2i (∀ j, j < n → (fun i => !(decide (0 < M.1 (o + 3) i) && decide (M.1 (o + 1) i < r))) j = true)))) M) := by
  intro k
  induction k with
  | zero => intro i hi hk ha; exact absurd hk (by omega)
  | succ k ih =>
    intro i hi hk ha
    refine e_iload_n dX3_allAtRoof_2 rfl ?_
    refine e_aload_n dX3_allAtRoof_3 rfl ?_
    refine e_getI dX3_allAtRoof_4 fl_X3_36 (sh_st (by first | assumption | decide)) rfl ?_
    refine e_icmp_ge (tgt := 41) dX3_allAtRoof_7 (by decide) (fun c7 => ?_) (fun c7 => ?_)
    · -- 7 jumps
      rw [hn] at c7
      have hin : i = n := by have := ge_of (by omega) (by omega) c7; omega
      subst hin
      refine e_iconst (v := 1) dX3_allAtRoof_41 (by decide) ?_
      refine e_zret dX3_allAtRoof_42 rfl rfl ?_
      exact ⟨by rw [b2i_t ha], rfl⟩
    · -- 7 goes on
      rw [hn] at c7
      have hlt : i < n := lt_of (by omega) (by omega) c7
      refine e_aload_n dX3_allAtRoof_10 rfl ?_
      refine e_getR dX3_allAtRoof_11 fl_X3_18 (sh_st (by first | assumption | decide)) rfl ?_
      refine e_iload_n dX3_allAtRoof_14 rfl ?_
      refine cS2r dX3_allAtRoof_15 mo_X10_at ml_X3_53 (Nat.le_of_ble_eq_true rfl) (by omega) (c_atN (sa_st_crowns (by first | assumption | decide)) (by decide) (by omega)) ?_
      refine e_if_le (tgt := 35) dX3_allAtRoof_18 (by decide) (fun c18 => ?_) (fun c18 => ?_)
      · -- 18 jumps
        refine e_iinc (ls' := [_, _, _]) dX3_allAtRoof_35 rfl (nI_i1 _) (by decide) rfl ?_
        refine e_goto (tgt := 2) dX3_allAtRoof_38 (by decide) ?_
        exact ih (i + 1) (by omega) (by omega) (lt_s ha (by first | (simp only [decide_eq_false c18]; rfl) | (simp only [decide_eq_true c18, decide_eq_false c30]; rfl)))
      · -- 18 goes on
        refine e_aload_n dX3_allAtRoof_21 rfl ?_
        refine e_getR dX3_allAtRoof_22 fl_X3_9 (sh_st (by first | assumption | decide)) rfl ?_
        refine e_iload_n dX3_allAtRoof_25 rfl ?_
        refine cS2r dX3_allAtRoof_26 mo_X10_at ml_X3_53 (Nat.le_of_ble_eq_true rfl) (by omega) (c_atN (sa_st_heights (by first | assumption | decide)) (by decide) (by omega)) ?_
        refine e_iload_n dX3_allAtRoof_29 rfl ?_
        refine e_icmp_ge (tgt := 35) dX3_allAtRoof_30 (by decide) (fun c30 => ?_) (fun c30 => ?_)
        · -- 30 jumps
          refine e_iinc (ls' := [_, _, _]) dX3_allAtRoof_35 rfl (nI_i1 _) (by decide) rfl ?_
          refine e_goto (tgt := 2) dX3_allAtRoof_38 (by decide) ?_
          exact ih (i + 1) (by omega) (by omega) (lt_s ha (by first | (simp only [decide_eq_false c18]; rfl) | (simp only [decide_eq_true c18, decide_eq_false c30]; rfl)))
        · -- 30 goes on
          refine e_iconst (v := 0) dX3_allAtRoof_33 (by decide) ?_
          refine e_zret dX3_allAtRoof_34 rfl rfl ?_
          exact ⟨by rw [b2i_f (allN_f hlt (by simp only [decide_eq_true c18, decide_eq_true c30]; rfl))], rfl⟩
set_option maxHeartbeats 4000000 in
set_option maxRecDepth 20000 in
theorem c_allAtRoof {G : Gt} {M : Mm} {o n : Nat} (ho : o ∈ stA) (hn : M.1 o 0 = nI n) (h6 : n ≤ 6) {r : Int32} : Call G 2 mX3_allAtRoof [.ref o, .int r] M (eqQ (some (.int (b2i (∀ j, j < n → (fun i => !(decide (0 < M.1 (o + 3) i) && decide (M.1 (o + 1) i < r))) j = true)))) M) := by
  refine Call.intro rfl (Nat.le_of_ble_eq_true rfl) ?_
  show Ev G _ mX3_allAtRoof 0 [.ref o, .int r, RA] [] M _
  refine e_iconst (v := 0) dX3_allAtRoof_0 (by decide) ?_
  refine e_istore_n (ls' := [_, _, _]) dX3_allAtRoof_1 (by decide) rfl ?_
  exact l_allAtRoof ho hn h6 (n + 1) 0 (by omega) (by omega) lt_0
end XST
