section XPT
/-- who has heard of whom by a night, read off the rows -/
def hrow (M : Mm) (o y q n : Nat) : Int32 := orF (fun i => decide (0 < M.1 (o + 6) i) && decide (bitI (M.1 (y + 5) i) (nI q))) (M.1 (o + 4)) (M.1 (o + 4) q) n
def hInv (M Mc : Mm) (o y n i j : Nat) : Prop := Mc.2 = M.2 ∧ (∀ q, ¬ q = o + 4 → ¬ q = o + 5 → Mc.1 q = M.1 q) ∧ (∀ q, q < 6 → Mc.1 (o + 5) q = M.1 (o + 4) q) ∧ ∀ q, q < n → Mc.1 (o + 4) q = if q < j then hrow M o y q (i + 1) else hrow M o y q i
theorem hInv.next {M Mc : Mm} {o y n i : Nat} (h : hInv M Mc o y n i n) : hInv M Mc o y n (i + 1) 0 :=
  ⟨h.1, h.2.1, h.2.2.1, fun q hq => by rw [h.2.2.2 q hq, if_pos hq, if_neg (by omega)]⟩
theorem hInv.skip {M Mc : Mm} {o y n i j : Nat} (h : hInv M Mc o y n i j) (e : hrow M o y j (i + 1) = hrow M o y j i) : hInv M Mc o y n i (j + 1) :=
  ⟨h.1, h.2.1, h.2.2.1, fun q hq => by
    rw [h.2.2.2 q hq]
    by_cases hj : q = j
    · subst hj; rw [if_neg (by omega), if_pos (by omega), e]
    · by_cases hl : q < j
      · rw [if_pos hl, if_pos (by omega)]
      · rw [if_neg hl, if_neg (by omega)]⟩
theorem hInv.take {M Mc : Mm} {o y n i j : Nat} {v : Int32} (h : hInv M Mc o y n i j) (e : hrow M o y j (i + 1) = v) : hInv M (setI Mc (o + 4) j v) o y n i (j + 1) := by
  refine ⟨by rw [setI_2]; exact h.1, fun q q1 q2 => ?_, fun q hq => ?_, fun q hq => ?_⟩
  · rw [← h.2.1 q q1 q2]; funext k; rw [setI_1, if_neg (fun e => q1 e.1)]
  · rw [setI_1, if_neg (by omega)]; exact h.2.2.1 q hq
  · rw [setI_1]
    by_cases hj : q = j
    · subst hj; rw [if_pos ⟨rfl, rfl⟩, if_pos (by omega), e]
    · rw [if_neg (fun e => hj e.2), h.2.2.2 q hq]
      by_cases hl : q < j
      · rw [if_pos hl, if_pos (by omega)]
      · rw [if_neg hl, if_neg (by omega)]
set_option maxHeartbeats 4000000 in
set_option maxRecDepth 20000 in
theorem l_hear2 {G : Gt} {M : Mm} {o y n : Nat} (ho : o ∈ stA) (hy : y ∈ ydA) (hn : M.1 o 0 = nI n) (h6 : n ≤ 6) {i : Nat} (hin : i < n) (hK : ∀ (Mc : Mm) (u : Value), hInv M Mc o y n (i + 1) 0 → Ev G 3 mX3_passOnHearsay 82 [.ref o, .ref y, .int (nI i), u] [] Mc (fun r M' => r = none ∧ M'.2 = M.2 ∧ (∀ q, ¬ q = o + 4 → ¬ q = o + 5 → M'.1 q = M.1 q) ∧ ∀ q, q < n → M'.1 (o + 4) q = hrow M o y q n)) : ∀ (k : Nat) (j : Nat) (Mc : Mm), (j ≤ n) → (n < j + k) → (hInv M Mc o y n i j) → Ev G 3 mX3_passOnHearsay 23 [.ref o, .ref y, .int (nI i), .int (nI j)] [] Mc (fun r M' => r = none ∧ M'.2 = M.2 ∧ (∀ q, ¬ q = o + 4 → ¬ q = o + 5 → M'.1 q = M.1 q) ∧ ∀ q, q < n → M'.1 (o + 4) q = hrow M o y q n) := by
  intro k
  induction k with
  | zero => intro j Mc hj hk hv; exact absurd hk (by omega)
  | succ k ih =>
    intro j Mc hj hk hv
    have hrg := st_ge ho
    have hyl := yd_le hy
    refine e_iload_n dX3_passOnHearsay_23 rfl ?_
    refine e_aload_n dX3_passOnHearsay_24 rfl ?_
    refine e_getI dX3_passOnHearsay_25 fl_X3_36 (sh_st (by first | assumption | decide)) rfl ?_
    refine e_icmp_ge (tgt := 82) dX3_passOnHearsay_28 (by decide) (fun c28 => ?_) (fun c28 => ?_)
    · -- 28 jumps
      rw [hv.2.1 o (by omega) (by omega), hn] at c28
      have hjn : j = n := by have := ge_of (by omega) (by omega) c28; omega
      subst hjn
      exact hK Mc _ hv.next
    · -- 28 goes on
      rw [hv.2.1 o (by omega) (by omega), hn] at c28
      have hlt : j < n := lt_of (by omega) (by omega) c28
      refine e_aload_n dX3_passOnHearsay_31 rfl ?_
      refine e_getR dX3_passOnHearsay_32 fl_X3_27 (sh_st (by first | assumption | decide)) rfl ?_
      refine e_iload_n dX3_passOnHearsay_35 rfl ?_
      refine cS2r dX3_passOnHearsay_36 mo_X10_at ml_X3_53 (Nat.le_of_ble_eq_true rfl) (by omega) (c_atN (sa_st_creaks (by first | assumption | decide)) (by decide) (by first | omega | decide)) ?_
      rw [hv.2.1 (o + 6) (by omega) (by omega)]
      refine e_if_le (tgt := 76) dX3_passOnHearsay_39 (by decide) (fun c39 => ?_) (fun c39 => ?_)
      · -- 39 jumps
        refine e_iinc (ls' := [_, _, _, _]) dX3_passOnHearsay_76 rfl (nI_i1 _) (by decide) rfl ?_
        refine e_goto (tgt := 23) dX3_passOnHearsay_79 (by decide) ?_
        exact ih (j + 1) Mc (by omega) (by omega) (hv.skip (by unfold hrow; rw [orF_f (by simp only [decide_eq_false c39]; rfl)]))
      · -- 39 goes on
        refine e_aload_n dX3_passOnHearsay_42 rfl ?_
        refine e_iload_n dX3_passOnHearsay_43 rfl ?_
        refine e_iload_n dX3_passOnHearsay_44 rfl ?_
        refine cV2r dX3_passOnHearsay_45 mo_X8_areNear ml_X3_101 (sh_yd (by first | assumption | decide)) rfl (Nat.le_of_ble_eq_true rfl) (by omega) (c_areNear (by first | assumption | decide) (by omega)) ?_
        rw [hv.2.1 (y + 5) (by omega) (by omega)]
        refine e_if_eq (tgt := 76) dX3_passOnHearsay_48 (by decide) (fun c48 => ?_) (fun c48 => ?_)
        · -- 48 jumps
          refine e_iinc (ls' := [_, _, _, _]) dX3_passOnHearsay_76 rfl (nI_i1 _) (by decide) rfl ?_
          refine e_goto (tgt := 23) dX3_passOnHearsay_79 (by decide) ?_
          have c48 := b2i_eq0.mp c48
          exact ih (j + 1) Mc (by omega) (by omega) (hv.skip (by unfold hrow; rw [orF_f (by simp only [decide_eq_true c39, decide_eq_false c48]; rfl)]))
        · -- 48 goes on
          refine e_aload_n dX3_passOnHearsay_51 rfl ?_
          refine e_getR dX3_passOnHearsay_52 fl_X3_21 (sh_st (by first | assumption | decide)) rfl ?_
          refine e_iload_n dX3_passOnHearsay_55 rfl ?_
          refine e_aload_n dX3_passOnHearsay_56 rfl ?_
          refine e_getR dX3_passOnHearsay_57 fl_X3_21 (sh_st (by first | assumption | decide)) rfl ?_
          refine e_iload_n dX3_passOnHearsay_60 rfl ?_
          refine cS2r dX3_passOnHearsay_61 mo_X10_at ml_X3_53 (Nat.le_of_ble_eq_true rfl) (by omega) (c_atN (sa_st_heard (by first | assumption | decide)) (by decide) (by first | omega | decide)) ?_
          refine e_aload_n dX3_passOnHearsay_64 rfl ?_
          refine e_getR dX3_passOnHearsay_65 fl_X3_24 (sh_st (by first | assumption | decide)) rfl ?_
          refine e_iload_n dX3_passOnHearsay_68 rfl ?_
          refine cS2r dX3_passOnHearsay_69 mo_X10_at ml_X3_53 (Nat.le_of_ble_eq_true rfl) (by omega) (c_atN (sa_st_heardAhead (by first | assumption | decide)) (by decide) (by first | omega | decide)) ?_
          refine e_ior dX3_passOnHearsay_72 ?_
          refine cS3v dX3_passOnHearsay_73 mo_X10_put ml_X3_49 (Nat.le_of_ble_eq_true rfl) (by omega) (c_putN (sa_st_heard (by first | assumption | decide)) (by decide) (by first | omega | decide)) ?_
          refine e_iinc (ls' := [_, _, _, _]) dX3_passOnHearsay_76 rfl (nI_i1 _) (by decide) rfl ?_
          refine e_goto (tgt := 23) dX3_passOnHearsay_79 (by decide) ?_
          have c48 : bitI (M.1 (y + 5) i) (nI j) := by
            by_cases h : bitI (M.1 (y + 5) i) (nI j)
            · exact h
            · exact absurd (b2i_f h) c48
          refine ih (j + 1) _ (by omega) (by omega) (hv.take ?_)
          rw [hv.2.2.2 j hlt, if_neg (by omega), hv.2.2.1 i (by omega)]
          unfold hrow
          rw [orF_t (by simp only [decide_eq_true c39, decide_eq_true c48]; rfl)]
set_option maxHeartbeats 4000000 in
set_option maxRecDepth 20000 in
theorem l_hear1 {G : Gt} {M : Mm} {o y n : Nat} (ho : o ∈ stA) (hy : y ∈ ydA) (hn : M.1 o 0 = nI n) (h6 : n ≤ 6) : ∀ (k : Nat) (i : Nat) (Mc : Mm) (u : Value), (i ≤ n) → (n < i + k) → (hInv M Mc o y n i 0) → Ev G 3 mX3_passOnHearsay 13 [.ref o, .ref y, .int (nI i), u] [] Mc (fun r M' => r = none ∧ M'.2 = M.2 ∧ (∀ q, ¬ q = o + 4 → ¬ q = o + 5 → M'.1 q = M.1 q) ∧ ∀ q, q < n → M'.1 (o + 4) q = hrow M o y q n) := by
  intro k
  induction k with
  | zero => intro i Mc u hi hk hv; exact absurd hk (by omega)
  | succ k ih =>
    intro i Mc u hi hk hv
    have hrg := st_ge ho
    have hyl := yd_le hy
    refine e_iload_n dX3_passOnHearsay_13 rfl ?_
    refine e_aload_n dX3_passOnHearsay_14 rfl ?_
    refine e_getI dX3_passOnHearsay_15 fl_X3_36 (sh_st (by first | assumption | decide)) rfl ?_
    refine e_icmp_ge (tgt := 88) dX3_passOnHearsay_18 (by decide) (fun c18 => ?_) (fun c18 => ?_)
    · -- 18 jumps
      rw [hv.2.1 o (by omega) (by omega), hn] at c18
      have hin : i = n := by have := ge_of (by omega) (by omega) c18; omega
      subst hin
      refine e_vret dX3_passOnHearsay_88 rfl ?_
      exact ⟨rfl, hv.1, hv.2.1, fun q hq => by rw [hv.2.2.2 q hq, if_neg (by omega)]⟩
    · -- 18 goes on
      rw [hv.2.1 o (by omega) (by omega), hn] at c18
      have hlt : i < n := lt_of (by omega) (by omega) c18
      refine e_iconst (v := 0) dX3_passOnHearsay_21 (by decide) ?_
      refine e_istore_n (ls' := [_, _, _, _]) dX3_passOnHearsay_22 (by decide) rfl ?_
      refine l_hear2 (M := M) ho hy hn h6 (i := i) (by omega) (fun Mc2 u2 hv2 => ?_) (n + 1) 0 Mc (by omega) (by omega) hv
      refine e_iinc (ls' := [_, _, _, _]) dX3_passOnHearsay_82 rfl (nI_i1 _) (by decide) rfl ?_
      refine e_goto (tgt := 13) dX3_passOnHearsay_85 (by decide) ?_
      exact ih (i + 1) Mc2 u2 (by omega) (by omega) hv2
set_option maxHeartbeats 4000000 in
set_option maxRecDepth 20000 in
theorem c_hear {G : Gt} {M : Mm} {o y n : Nat} (ho : o ∈ stA) (hy : y ∈ ydA) (hn : M.1 o 0 = nI n) (h6 : n ≤ 6) : Call G 3 mX3_passOnHearsay [.ref o, .ref y] M (fun r M' => r = none ∧ M'.2 = M.2 ∧ (∀ q, ¬ q = o + 4 → ¬ q = o + 5 → M'.1 q = M.1 q) ∧ ∀ q, q < n → M'.1 (o + 4) q = hrow M o y q n) := by
  refine Call.intro rfl (Nat.le_of_ble_eq_true rfl) ?_
  show Ev G _ mX3_passOnHearsay 0 [.ref o, .ref y, RA, RA] [] M _
  refine e_aload_n dX3_passOnHearsay_0 rfl ?_
  refine e_getR dX3_passOnHearsay_1 fl_X3_21 (sh_st (by first | assumption | decide)) rfl ?_
  refine e_aload_n dX3_passOnHearsay_4 rfl ?_
  refine e_getR dX3_passOnHearsay_5 fl_X3_24 (sh_st (by first | assumption | decide)) rfl ?_
  refine cS2v dX3_passOnHearsay_8 mo_X10_copyRow ml_X3_44 (Nat.le_of_ble_eq_true rfl) (by omega) (c_copyRow (sa_st_heard (by first | assumption | decide)) (sa_st_heardAhead (by first | assumption | decide)) (by decide)) ?_
  refine e_iconst (v := 0) dX3_passOnHearsay_11 (by decide) ?_
  refine e_istore_n (ls' := [_, _, _, _]) dX3_passOnHearsay_12 (by decide) rfl ?_
  refine l_hear1 ho hy hn h6 (n + 1) 0 _ _ (by omega) (by omega) ⟨rfl, fun q q1 q2 => ?_, fun q hq => ?_, fun q hq => ?_⟩
  · funext k; simp only [cpI]; rw [if_neg (fun e => q2 e.1)]
  · simp only [cpI]; rw [if_pos ⟨trivial, hq⟩]
  · simp only [cpI]; rw [if_neg (by omega), if_neg (by omega)]; rfl
end XPT
