section XGA
def xorI (g : Nat → Int32) : Nat → Int32
  | 0 => 0
  | k + 1 => xorI g k ^^^ g k
def r4 (x : Int32) : Int32 := x - x / 4 * 4
def stkP (c bal : Int32) (m : Nat) : Bool := decide (¬ c < nI m) && decide (bal ^^^ r4 c ^^^ r4 (c - nI m) = 0)
def stkN (c bal : Int32) : Option Nat := fstN (stkP c bal) 1 3
def stickV (n : Nat) (c : Nat → Int32) : Int32 := match fstN (fun i => (stkN (c i) (xorI (fun j => r4 (c j)) n)).isSome) 0 n with
  | none => -1
  | some i => 4 * nI i + oI (stkN (c i) (xorI (fun j => r4 (c j)) n))
theorem fst_none {P : Nat → Bool} : ∀ (k a : Nat), (∀ j, a ≤ j → j < a + k → P j = false) → fstN P a k = none := by
  intro k
  induction k with
  | zero => intro a _; rfl
  | succ k ih =>
    intro a h
    rw [fstN, if_neg (by rw [h a (by omega) (by omega)]; decide)]
    exact ih (a + 1) (fun j h1 h2 => h j (by omega) (by omega))
theorem stk0 {c : Nat} (hc : c ≤ 20) : stkN (nI c) 0 = none := by
  have key : ∀ c, c < 21 → ∀ m, m < 4 → stkP (nI c) 0 (m + 0) = true → m = 0 := by decide +kernel
  refine fst_none 3 1 (fun j h1 h2 => ?_)
  refine Bool.eq_false_iff.mpr (fun q => ?_)
  have := key c (by omega) j (by omega) q
  omega
theorem stick0 {n : Nat} {c : Nat → Int32} (h : ∀ j, j < n → ∃ q, c j = nI q ∧ q ≤ 20) (hb : xorI (fun j => r4 (c j)) n = 0) : stickV n c = -1 := by
  unfold stickV
  rw [hb, fst_none n 0 (fun j h1 h2 => by obtain ⟨q, e, hq⟩ := h j (by omega); rw [e, stk0 hq]; rfl)]
set_option maxHeartbeats 4000000 in
set_option maxRecDepth 20000 in
theorem l_stick3 {G : Gt} {M : Mm} {E : Gs} {y y' w w' p : Nat} (hX : XJ M E y y' w w' p) (hcr : ∀ j, j < E.Y.n → ∃ q, E.S.crow j = nI q ∧ q ≤ 20) {i : Nat} (hi : i < E.Y.n) (hr0 : fstN (fun i => (stkN (E.S.crow i) (xorI (fun j => r4 (E.S.crow j)) E.Y.n)).isSome) 0 E.Y.n = fstN (fun i => (stkN (E.S.crow i) (xorI (fun j => r4 (E.S.crow j)) E.Y.n)).isSome) i (E.Y.n - i)) (hCo : ∀ (u3 u4 : Value), (stkN (E.S.crow i) (xorI (fun j => r4 (E.S.crow j)) E.Y.n)).isSome = false → Ev G 2 mX10_stick 111 [.ref 0, .int (xorI (fun j => r4 (E.S.crow j)) E.Y.n), .int (nI i), u3, u4] [] M (eqQ (some (.int (stickV E.Y.n E.S.crow))) M)) : ∀ (k : Nat) (m : Nat), (1 ≤ m ∧ m ≤ 4) → (4 < m + k) → (stkN (E.S.crow i) (xorI (fun j => r4 (E.S.crow j)) E.Y.n) = fstN (stkP (E.S.crow i) (xorI (fun j => r4 (E.S.crow j)) E.Y.n)) m (4 - m)) → Ev G 2 mX10_stick 71 [.ref 0, .int (xorI (fun j => r4 (E.S.crow j)) E.Y.n), .int (nI i), .int (E.S.crow i), .int (nI m)] [] M (eqQ (some (.int (stickV E.Y.n E.S.crow))) M) := by
  intro k
  induction k with
  | zero => intro m hm hk hr; exact absurd hk (by omega)
  | succ k ih =>
    intro m hm hk hr
    obtain ⟨⟨hld, hsl, hy, hy', hyy⟩, ⟨hpl, hsp, hw, hw', hww⟩, hY, hW, hS, hV, hK, ⟨hpt, hp16, hun, hu16, hU⟩, ⟨htl, htl2, htc⟩⟩ := id hX
    have h6 := hY.1.2
    have hs5 := hY.2.1.2
    refine e_iload dX10_stick_71 rfl ?_
    refine e_iconst (v := 3) dX10_stick_73 (by decide) ?_
    refine e_icmp_gt (tgt := 111) dX10_stick_74 (by decide) (fun c74 => ?_) (fun c74 => ?_)
    · -- 74 jumps
      exact hCo _ _ (by rw [hr, show m = 4 by have := lt_of (i := 3) (n := m) (by omega) (by omega) c74; omega]; rfl)
    · -- 74 goes on
      refine e_iload dX10_stick_77 rfl ?_
      refine e_iload_n dX10_stick_79 rfl ?_
      refine e_icmp_gt (tgt := 111) dX10_stick_80 (by decide) (fun c80 => ?_) (fun c80 => ?_)
      · -- 80 jumps
        obtain ⟨q, eq, hq⟩ := hcr i hi
        exact hCo _ _ (by rw [hr, fst_none _ _ (fun j h1 h2 => by unfold stkP; rw [decide_eq_false (fun h => h (by rw [eq] at c80 ⊢; exact (nI_ltI (by omega) (by omega)).mpr (Nat.lt_of_lt_of_le (lt_of (by omega) (by omega) c80) h1)))]; rfl)]; rfl)
      · -- 80 goes on
        have hm4 : m < 4 := by have := ge_of (i := 3) (n := m) (by omega) (by omega) c74; omega
        refine e_iload_n dX10_stick_83 rfl ?_
        refine e_iload_n dX10_stick_84 rfl ?_
        refine e_iconst (v := 4) dX10_stick_85 (by decide) ?_
        refine e_irem dX10_stick_86 (by decide) ?_
        refine e_ixor dX10_stick_87 ?_
        refine e_iload_n dX10_stick_88 rfl ?_
        refine e_iload dX10_stick_89 rfl ?_
        refine e_isub dX10_stick_91 ?_
        refine e_iconst (v := 4) dX10_stick_92 (by decide) ?_
        refine e_irem dX10_stick_93 (by decide) ?_
        refine e_ixor dX10_stick_94 ?_
        refine e_if_ne (tgt := 105) dX10_stick_95 (by decide) (fun c95 => ?_) (fun c95 => ?_)
        · -- 95 jumps
          refine e_iinc (ls' := [_, _, _, _, _]) dX10_stick_105 rfl (nI_i1 _) (by decide) rfl ?_
          refine e_goto (tgt := 71) dX10_stick_108 (by decide) ?_
          exact ih (m + 1) (by omega) (by omega) (hr.trans (fst_f (by omega) (by unfold stkP; rw [decide_eq_false (show ¬ (xorI (fun j => r4 (E.S.crow j)) E.Y.n ^^^ r4 (E.S.crow i) ^^^ r4 (E.S.crow i - nI m) = 0) from c95)]; simp)))
        · -- 95 goes on
          refine e_iconst (v := 4) dX10_stick_98 (by decide) ?_
          refine e_iload_n dX10_stick_99 rfl ?_
          refine e_imul dX10_stick_100 ?_
          refine e_iload dX10_stick_101 rfl ?_
          refine e_iadd dX10_stick_103 ?_
          refine e_iret dX10_stick_104 rfl ?_
          have hm4 : m < 4 := by have := ge_of (i := 3) (n := m) (by omega) (by omega) c74; omega
          rw [fst_t hm4 (by unfold stkP; rw [decide_eq_true c80, decide_eq_true (show xorI (fun j => r4 (E.S.crow j)) E.Y.n ^^^ r4 (E.S.crow i) ^^^ r4 (E.S.crow i - nI m) = 0 from c95)]; rfl)] at hr
          refine ⟨?_, rfl⟩
          unfold stickV
          rw [hr0, fst_t hi (by rw [hr]; rfl)]
          simp only [hr]
          rfl
set_option maxHeartbeats 4000000 in
set_option maxRecDepth 20000 in
theorem l_stick2 {G : Gt} {M : Mm} {E : Gs} {y y' w w' p : Nat} (hX : XJ M E y y' w w' p) (hcr : ∀ j, j < E.Y.n → ∃ q, E.S.crow j = nI q ∧ q ≤ 20) : ∀ (k : Nat) (i : Nat) (u3 : Value) (u4 : Value), (i ≤ E.Y.n) → (E.Y.n < i + k) → (fstN (fun i => (stkN (E.S.crow i) (xorI (fun j => r4 (E.S.crow j)) E.Y.n)).isSome) 0 E.Y.n = fstN (fun i => (stkN (E.S.crow i) (xorI (fun j => r4 (E.S.crow j)) E.Y.n)).isSome) i (E.Y.n - i)) → Ev G 2 mX10_stick 45 [.ref 0, .int (xorI (fun j => r4 (E.S.crow j)) E.Y.n), .int (nI i), u3, u4] [] M (eqQ (some (.int (stickV E.Y.n E.S.crow))) M) := by
  intro k
  induction k with
  | zero => intro i u3 u4 hi hk hr; exact absurd hk (by omega)
  | succ k ih =>
    intro i u3 u4 hi hk hr
    obtain ⟨⟨hld, hsl, hy, hy', hyy⟩, ⟨hpl, hsp, hw, hw', hww⟩, hY, hW, hS, hV, hK, ⟨hpt, hp16, hun, hu16, hU⟩, ⟨htl, htl2, htc⟩⟩ := id hX
    have h6 := hY.1.2
    have hs5 := hY.2.1.2
    refine e_iload_n dX10_stick_45 rfl ?_
    refine e_aload_n dX10_stick_46 rfl ?_
    refine e_getP dX10_stick_47 fl_X10_19 sh_x rfl ?_
    first | rw [hld] | (simp only [setI_2, setI_22, setL_22]; rw [hld])
    refine e_getI dX10_stick_50 fl_X10_74 (sh_yd (by first | assumption | decide)) rfl ?_
    refine e_icmp_ge (tgt := 117) dX10_stick_53 (by decide) (fun c53 => ?_) (fun c53 => ?_)
    · -- 53 jumps
      rw [hY.1.1] at c53
      have hin : i = E.Y.n := by have := ge_of (by omega) (by omega) c53; omega
      subst hin
      refine e_iconst (v := (-1)) dX10_stick_117 (by decide) ?_
      refine e_iret dX10_stick_118 rfl ?_
      exact ⟨by unfold stickV; rw [hr, fst_e], rfl⟩
    · -- 53 goes on
      rw [hY.1.1] at c53
      have hlt : i < E.Y.n := lt_of (by omega) (by omega) c53
      refine e_aload_n dX10_stick_56 rfl ?_
      refine e_getR dX10_stick_57 fl_X10_39 sh_x rfl ?_
      refine e_getR dX10_stick_60 fl_X10_144 (sh_st (by first | assumption | decide)) rfl ?_
      refine e_iload_n dX10_stick_63 rfl ?_
      refine cS2r dX10_stick_64 mo_X10_at ml_X10_137 (Nat.le_of_ble_eq_true rfl) (by omega) (c_atN (sa_st_crowns (by first | assumption | decide)) (by decide) (by first | omega | decide)) ?_
      rw [(hS.2.2.2 i hlt).2.1]
      refine e_istore_n (ls' := [_, _, _, _, _]) dX10_stick_67 (by decide) rfl ?_
      refine e_iconst (v := 1) dX10_stick_68 (by decide) ?_
      refine e_istore (ls' := [_, _, _, _, _]) dX10_stick_69 (by decide) rfl ?_
      refine l_stick3 hX hcr hlt hr (fun v3 v4 hn => ?_) 5 1 (by omega) (by omega) rfl
      refine e_iinc (ls' := [_, _, _, _, _]) dX10_stick_111 rfl (nI_i1 _) (by decide) rfl ?_
      refine e_goto (tgt := 45) dX10_stick_114 (by decide) ?_
      exact ih (i + 1) _ _ (by omega) (by omega) (hr.trans (fst_f hlt hn))
set_option maxHeartbeats 4000000 in
set_option maxRecDepth 20000 in
theorem l_stick1 {G : Gt} {M : Mm} {E : Gs} {y y' w w' p : Nat} (hX : XJ M E y y' w w' p) (hcr : ∀ j, j < E.Y.n → ∃ q, E.S.crow j = nI q ∧ q ≤ 20) : ∀ (k : Nat) (i : Nat), (i ≤ E.Y.n) → (E.Y.n < i + k) → Ev G 2 mX10_stick 4 [.ref 0, .int (xorI (fun j => r4 (E.S.crow j)) i), .int (nI i), RA, RA] [] M (eqQ (some (.int (stickV E.Y.n E.S.crow))) M) := by
  intro k
  induction k with
  | zero => intro i hi hk; exact absurd hk (by omega)
  | succ k ih =>
    intro i hi hk
    obtain ⟨⟨hld, hsl, hy, hy', hyy⟩, ⟨hpl, hsp, hw, hw', hww⟩, hY, hW, hS, hV, hK, ⟨hpt, hp16, hun, hu16, hU⟩, ⟨htl, htl2, htc⟩⟩ := id hX
    have h6 := hY.1.2
    have hs5 := hY.2.1.2
    refine e_iload_n dX10_stick_4 rfl ?_
    refine e_aload_n dX10_stick_5 rfl ?_
    refine e_getP dX10_stick_6 fl_X10_19 sh_x rfl ?_
    first | rw [hld] | (simp only [setI_2, setI_22, setL_22]; rw [hld])
    refine e_getI dX10_stick_9 fl_X10_74 (sh_yd (by first | assumption | decide)) rfl ?_
    refine e_icmp_ge (tgt := 37) dX10_stick_12 (by decide) (fun c12 => ?_) (fun c12 => ?_)
    · -- 12 jumps
      rw [hY.1.1] at c12
      have hin : i = E.Y.n := by have := ge_of (by omega) (by omega) c12; omega
      subst hin
      refine e_iload_n dX10_stick_37 rfl ?_
      refine e_if_ne (tgt := 43) dX10_stick_38 (by decide) (fun c38 => ?_) (fun c38 => ?_)
      · -- 38 jumps
        refine e_iconst (v := 0) dX10_stick_43 (by decide) ?_
        refine e_istore_n (ls' := [_, _, _, _, _]) dX10_stick_44 (by decide) rfl ?_
        exact l_stick2 hX hcr (E.Y.n + 1) 0 _ _ (by omega) (by omega) rfl
      · -- 38 goes on
        refine e_iconst (v := (-1)) dX10_stick_41 (by decide) ?_
        refine e_iret dX10_stick_42 rfl ?_
        exact ⟨by rw [stick0 hcr c38], rfl⟩
    · -- 12 goes on
      rw [hY.1.1] at c12
      have hlt : i < E.Y.n := lt_of (by omega) (by omega) c12
      refine e_iload_n dX10_stick_15 rfl ?_
      refine e_aload_n dX10_stick_16 rfl ?_
      refine e_getR dX10_stick_17 fl_X10_39 sh_x rfl ?_
      refine e_getR dX10_stick_20 fl_X10_144 (sh_st (by first | assumption | decide)) rfl ?_
      refine e_iload_n dX10_stick_23 rfl ?_
      refine cS2r dX10_stick_24 mo_X10_at ml_X10_137 (Nat.le_of_ble_eq_true rfl) (by omega) (c_atN (sa_st_crowns (by first | assumption | decide)) (by decide) (by first | omega | decide)) ?_
      rw [(hS.2.2.2 i hlt).2.1]
      refine e_iconst (v := 4) dX10_stick_27 (by decide) ?_
      refine e_irem dX10_stick_28 (by decide) ?_
      refine e_ixor dX10_stick_29 ?_
      refine e_istore_n (ls' := [_, _, _, _, _]) dX10_stick_30 (by decide) rfl ?_
      refine e_iinc (ls' := [_, _, _, _, _]) dX10_stick_31 rfl (nI_i1 _) (by decide) rfl ?_
      refine e_goto (tgt := 4) dX10_stick_34 (by decide) ?_
      exact ih (i + 1) (by omega) (by omega)
set_option maxHeartbeats 4000000 in
set_option maxRecDepth 20000 in
theorem c_stick {G : Gt} {M : Mm} {E : Gs} {y y' w w' p : Nat} (hX : XJ M E y y' w w' p) {T : Nat} (hI : SI E.Y E.S T) : Call G 2 mX10_stick [.ref 0] M (eqQ (some (.int (stickV E.Y.n E.S.crow))) M) := by
  obtain ⟨⟨hld, hsl, hy, hy', hyy⟩, ⟨hpl, hsp, hw, hw', hww⟩, hY, hW, hS, hV, hK, ⟨hpt, hp16, hun, hu16, hU⟩, ⟨htl, htl2, htc⟩⟩ := id hX
  have h6 := hY.1.2
  have hs5 := hY.2.1.2
  have hcr : ∀ j, j < E.Y.n → ∃ q, E.S.crow j = nI q ∧ q ≤ 20 := by
    obtain ⟨r0, hr0, hr6, hs0, -⟩ := hI
    intro j hj
    obtain ⟨c, q, hc, hc2, -⟩ := hs0 j hj
    exact ⟨c, hc, hc2⟩
  refine Call.intro rfl (Nat.le_of_ble_eq_true rfl) ?_
  show Ev G _ mX10_stick 0 [.ref 0, RA, RA, RA, RA] [] M _
  refine e_iconst (v := 0) dX10_stick_0 (by decide) ?_
  refine e_istore_n (ls' := [_, _, _, _, _]) dX10_stick_1 (by decide) rfl ?_
  refine e_iconst (v := 0) dX10_stick_2 (by decide) ?_
  refine e_istore_n (ls' := [_, _, _, _, _]) dX10_stick_3 (by decide) rfl ?_
  exact l_stick1 hX hcr (E.Y.n + 1) 0 (by omega) (by omega)
def coldB (w k : Nat) : Bool := decide (bitI (nI w) (nI k))
def wtN (q w : Nat) : Nat → Nat
  | 0 => 1
  | k + 1 => wtN q w k * (if coldB w k then q else 10 - q)
def itF (Y : Yv) (S : Sv) (w : Nat) : Nat → Sv
  | 0 => S
  | k + 1 => passV Y (itF Y S w k) (if coldB w k then 9 else 0)
def lkN (Y : Yv) (S : Sv) (j t q w : Nat) : Nat := if (itF Y S w t).high j = Y.roof then wtN q w t else 0
def chN (Y : Yv) (S : Sv) (j t q : Nat) : Nat → Nat
  | 0 => 0
  | w + 1 => chN Y S j t q w + lkN Y S j t q w
def chanceQ (E : Gs) (i t q : Int32) : Int32 := if vSh E i ∧ vWi t 1 6 ∧ vWi q 0 10 then nI (chN E.Y E.S i.toNatClampNeg t.toNatClampNeg q.toNatClampNeg (2 ^ t.toNatClampNeg) * 10 ^ (6 - t.toNatClampNeg)) else -1
theorem wt_le {q w : Nat} (hq : q ≤ 10) : ∀ k, wtN q w k ≤ 10 ^ k := by
  intro k
  induction k with
  | zero => exact Nat.le_refl _
  | succ k ih =>
    simp only [wtN]
    rw [Nat.pow_succ]
    exact Nat.mul_le_mul ih (by split <;> omega)
theorem ch_le {Y : Yv} {S : Sv} {j t q : Nat} (hq : q ≤ 10) : ∀ w, chN Y S j t q w ≤ w * 10 ^ t := by
  intro w
  induction w with
  | zero => simp [chN]
  | succ w ih =>
    simp only [chN]
    have h1 : lkN Y S j t q w ≤ 10 ^ t := by
      unfold lkN
      split
      · exact wt_le hq t
      · exact Nat.zero_le _
    rw [Nat.succ_mul]
    omega
theorem SI.itF {Y : Yv} {S : Sv} {T w : Nat} (h : SI Y S T) (h6 : Y.n ≤ 6) (t : Nat) : SI Y (itF Y S w t) (T + t) := by
  induction t with
  | zero => exact h
  | succ t ih => exact SI.pass ih h6
theorem p10 {t : Nat} (ht : t ≤ 6) : 10 ^ t ≤ 1000000 := by
  have := Nat.pow_le_pow_right (n := 10) (by decide) ht
  exact this
set_option maxHeartbeats 4000000 in
set_option maxRecDepth 20000 in
theorem l_lk {G : Gt} {M : Mm} {E : Gs} {y y' w w' p : Nat} (hX : XJ M E y y' w w' p) {T : Nat} (hI : SI E.Y E.S T) (hT : T < 2 ^ 30) {j t q w : Nat} (hj : j < E.Y.n) (ht : t ≤ 6) (hq : q ≤ 10) : ∀ (k : Nat) (i : Nat) (Mc : Mm) (u7 : Value), (i ≤ t) → (t < i + k) → (SC M Mc ∧ SX Mc 51 E.Y.n (itF E.Y E.S w i)) → Ev G 5 mX10_likelihoodAtRoof 10 [.ref 0, .int (nI j), .int (nI t), .int (nI q), .int (nI w), .int (nI (wtN q w i)), .int (nI i), u7] [] Mc (fun r M' => r = some (.int (nI (lkN E.Y E.S j t q w))) ∧ SC M M') := by
  intro k
  induction k with
  | zero => intro i Mc u7 hi hk hv; exact absurd hk (by omega)
  | succ k ih =>
    intro i Mc u7 hi hk hv
    obtain ⟨⟨hld, hsl, hy, hy', hyy⟩, ⟨hpl, hsp, hw, hw', hww⟩, hY, hW, hS, hV, hK, ⟨hpt, hp16, hun, hu16, hU⟩, ⟨htl, htl2, htc⟩⟩ := id (hv.1.keep hX)
    have h6 := hY.1.2
    refine e_iload dX10_likelihoodAtRoof_10 rfl ?_
    refine e_iload_n dX10_likelihoodAtRoof_12 rfl ?_
    refine e_icmp_ge (tgt := 81) dX10_likelihoodAtRoof_13 (by decide) (fun c13 => ?_) (fun c13 => ?_)
    · -- 13 jumps
      have hin : i = t := by have := ge_of (by omega) (by omega) c13; omega
      subst hin
      refine e_aload_n dX10_likelihoodAtRoof_81 rfl ?_
      refine e_getR dX10_likelihoodAtRoof_82 fl_X10_43 sh_x rfl ?_
      refine e_getR dX10_likelihoodAtRoof_85 fl_X10_147 (sh_st (by first | assumption | decide)) rfl ?_
      refine e_iload_n dX10_likelihoodAtRoof_88 rfl ?_
      refine cS2r dX10_likelihoodAtRoof_89 mo_X10_at ml_X10_137 (Nat.le_of_ble_eq_true rfl) (by omega) (c_atN (sa_st_heights (by first | assumption | decide)) (by decide) (by first | omega | decide)) ?_
      refine e_aload_n dX10_likelihoodAtRoof_92 rfl ?_
      refine e_getP dX10_likelihoodAtRoof_93 fl_X10_19 sh_x rfl ?_
      first | rw [hld] | (simp only [setI_2, setI_22, setL_22]; rw [hld])
      refine e_getI dX10_likelihoodAtRoof_96 fl_X10_175 (sh_yd (by first | assumption | decide)) rfl ?_
      refine e_icmp_ne (tgt := 107) dX10_likelihoodAtRoof_99 (by decide) (fun c99 => ?_) (fun c99 => ?_)
      · -- 99 jumps
        refine e_iconst (v := 0) dX10_likelihoodAtRoof_107 (by decide) ?_
        refine e_iret dX10_likelihoodAtRoof_108 rfl ?_
        have hrf : ¬ (itF E.Y E.S w i).high j = E.Y.roof := by rw [← (hv.2.2.2.2 j hj).2.2.1, ← hY.2.2.2.1]; exact c99
        exact ⟨by unfold lkN; rw [if_neg hrf]; rfl, hv.1⟩
      · -- 99 goes on
        refine e_iload dX10_likelihoodAtRoof_102 rfl ?_
        refine e_goto (tgt := 108) dX10_likelihoodAtRoof_104 (by decide) ?_
        refine e_iret dX10_likelihoodAtRoof_108 rfl ?_
        have hrf : (itF E.Y E.S w i).high j = E.Y.roof := by rw [← (hv.2.2.2.2 j hj).2.2.1, ← hY.2.2.2.1]; exact c99
        exact ⟨by unfold lkN; rw [if_pos hrf], hv.1⟩
    · -- 13 goes on
      have hlt : i < t := lt_of (by omega) (by omega) c13
      refine e_iload dX10_likelihoodAtRoof_16 rfl ?_
      refine e_iload dX10_likelihoodAtRoof_18 rfl ?_
      refine e_ishr dX10_likelihoodAtRoof_20 ?_
      refine e_iconst (v := 1) dX10_likelihoodAtRoof_21 (by decide) ?_
      refine e_iand dX10_likelihoodAtRoof_22 ?_
      refine e_iconst (v := 1) dX10_likelihoodAtRoof_23 (by decide) ?_
      refine e_icmp_ne (tgt := 31) dX10_likelihoodAtRoof_24 (by decide) (fun c24 => ?_) (fun c24 => ?_)
      · -- 24 jumps
        refine e_iconst (v := 0) dX10_likelihoodAtRoof_31 (by decide) ?_
        refine e_istore (ls' := [_, _, _, _, _, _, _, _]) dX10_likelihoodAtRoof_32 (by decide) rfl ?_
        refine e_iload dX10_likelihoodAtRoof_34 rfl ?_
        refine e_iload dX10_likelihoodAtRoof_36 rfl ?_
        refine e_if_eq (tgt := 45) dX10_likelihoodAtRoof_38 (by decide) (fun c38 => ?_) (fun c38 => absurd c38 (by decide))
        refine e_bipush (v := 10) dX10_likelihoodAtRoof_45 (by decide) ?_
        refine e_iload_n dX10_likelihoodAtRoof_47 rfl ?_
        refine e_isub dX10_likelihoodAtRoof_48 ?_
        refine e_imul dX10_likelihoodAtRoof_49 ?_
        refine e_istore (ls' := [_, _, _, _, _, _, _, _]) dX10_likelihoodAtRoof_50 (by decide) rfl ?_
        refine e_aload_n dX10_likelihoodAtRoof_52 rfl ?_
        refine e_getR dX10_likelihoodAtRoof_53 fl_X10_43 sh_x rfl ?_
        refine e_aload_n dX10_likelihoodAtRoof_56 rfl ?_
        refine e_getP dX10_likelihoodAtRoof_57 fl_X10_19 sh_x rfl ?_
        first | rw [hld] | (simp only [setI_2, setI_22, setL_22]; rw [hld])
        refine e_iload dX10_likelihoodAtRoof_60 rfl ?_
        refine e_if_eq (tgt := 70) dX10_likelihoodAtRoof_62 (by decide) (fun c62 => ?_) (fun c62 => absurd c62 (by decide))
        refine e_iconst (v := 0) dX10_likelihoodAtRoof_70 (by decide) ?_
        refine cV2x dX10_likelihoodAtRoof_71 mo_X3_pass ml_X10_195 (sh_st (by first | assumption | decide)) rfl (Nat.le_of_ble_eq_true rfl) (by omega) (c_pass (o := 51) (fr := 0) (by decide) hy hY hv.2 (hI.itF h6 i)) ?_
        rintro r M1 ⟨rfl, h2, hf, hS1, hcr⟩
        dsimp only [Option.toList, List.cons_append, List.nil_append]
        refine e_pop dX10_likelihoodAtRoof_74 rfl ?_
        refine e_iinc (ls' := [_, _, _, _, _, _, _, _]) dX10_likelihoodAtRoof_75 rfl (nI_i1 _) (by decide) rfl ?_
        refine e_goto (tgt := 10) dX10_likelihoodAtRoof_78 (by decide) ?_
        have hcb : coldB w i = false := decide_eq_false c24
        have hh := ih (i + 1) M1 (.int 0) (by omega) (by omega) ⟨hv.1.trans (SC.of h2 (fun q hq => hf q (by unfold scr at hq; omega) (by unfold scr at hq; rcases yd_two hy with e | e <;> omega) (by unfold scr at hq; rcases yd_two hy with e | e <;> omega))), by simp only [itF, hcb]; exact hS1⟩
        rw [show nI (wtN q w (i + 1)) = nI (wtN q w i) * (10 - nI q) from by simp only [wtN, hcb]; rw [show (10 : Int32) - nI q = nI (10 - q) from pk_sub (a := 10) hq, pk_mul]; rfl] at hh
        exact hh
      · -- 24 goes on
        refine e_iconst (v := 1) dX10_likelihoodAtRoof_27 (by decide) ?_
        refine e_goto (tgt := 32) dX10_likelihoodAtRoof_28 (by decide) ?_
        refine e_istore (ls' := [_, _, _, _, _, _, _, _]) dX10_likelihoodAtRoof_32 (by decide) rfl ?_
        refine e_iload dX10_likelihoodAtRoof_34 rfl ?_
        refine e_iload dX10_likelihoodAtRoof_36 rfl ?_
        refine e_if_eq (tgt := 45) dX10_likelihoodAtRoof_38 (by decide) (fun c38 => absurd c38 (by decide)) (fun c38 => ?_)
        refine e_iload_n dX10_likelihoodAtRoof_41 rfl ?_
        refine e_goto (tgt := 49) dX10_likelihoodAtRoof_42 (by decide) ?_
        refine e_imul dX10_likelihoodAtRoof_49 ?_
        refine e_istore (ls' := [_, _, _, _, _, _, _, _]) dX10_likelihoodAtRoof_50 (by decide) rfl ?_
        refine e_aload_n dX10_likelihoodAtRoof_52 rfl ?_
        refine e_getR dX10_likelihoodAtRoof_53 fl_X10_43 sh_x rfl ?_
        refine e_aload_n dX10_likelihoodAtRoof_56 rfl ?_
        refine e_getP dX10_likelihoodAtRoof_57 fl_X10_19 sh_x rfl ?_
        first | rw [hld] | (simp only [setI_2, setI_22, setL_22]; rw [hld])
        refine e_iload dX10_likelihoodAtRoof_60 rfl ?_
        refine e_if_eq (tgt := 70) dX10_likelihoodAtRoof_62 (by decide) (fun c62 => absurd c62 (by decide)) (fun c62 => ?_)
        refine e_bipush (v := 9) dX10_likelihoodAtRoof_65 (by decide) ?_
        refine e_goto (tgt := 71) dX10_likelihoodAtRoof_67 (by decide) ?_
        refine cV2x dX10_likelihoodAtRoof_71 mo_X3_pass ml_X10_195 (sh_st (by first | assumption | decide)) rfl (Nat.le_of_ble_eq_true rfl) (by omega) (c_pass (o := 51) (fr := 9) (by decide) hy hY hv.2 (hI.itF h6 i)) ?_
        rintro r M1 ⟨rfl, h2, hf, hS1, hcr⟩
        dsimp only [Option.toList, List.cons_append, List.nil_append]
        refine e_pop dX10_likelihoodAtRoof_74 rfl ?_
        refine e_iinc (ls' := [_, _, _, _, _, _, _, _]) dX10_likelihoodAtRoof_75 rfl (nI_i1 _) (by decide) rfl ?_
        refine e_goto (tgt := 10) dX10_likelihoodAtRoof_78 (by decide) ?_
        have hcb : coldB w i = true := decide_eq_true c24
        have hh := ih (i + 1) M1 (.int 1) (by omega) (by omega) ⟨hv.1.trans (SC.of h2 (fun q hq => hf q (by unfold scr at hq; omega) (by unfold scr at hq; rcases yd_two hy with e | e <;> omega) (by unfold scr at hq; rcases yd_two hy with e | e <;> omega))), by simp only [itF, hcb]; exact hS1⟩
        rw [show nI (wtN q w (i + 1)) = nI (wtN q w i) * nI q from by simp only [wtN, hcb]; rw [pk_mul]; rfl] at hh
        exact hh
set_option maxHeartbeats 4000000 in
set_option maxRecDepth 20000 in
theorem c_lk {G : Gt} {M : Mm} {E : Gs} {y y' w w' p : Nat} (hX : XJ M E y y' w w' p) {T : Nat} (hI : SI E.Y E.S T) (hT : T < 2 ^ 30) {j t q w : Nat} (hj : j < E.Y.n) (ht : t ≤ 6) (hq : q ≤ 10) : Call G 5 mX10_likelihoodAtRoof [.ref 0, .int (nI j), .int (nI t), .int (nI q), .int (nI w)] M (fun r M' => r = some (.int (nI (lkN E.Y E.S j t q w))) ∧ SC M M') := by
  obtain ⟨⟨hld, hsl, hy, hy', hyy⟩, ⟨hpl, hsp, hw, hw', hww⟩, hY, hW, hS, hV, hK, ⟨hpt, hp16, hun, hu16, hU⟩, ⟨htl, htl2, htc⟩⟩ := id hX
  have h6 := hY.1.2
  have hs5 := hY.2.1.2
  refine Call.intro rfl (Nat.le_of_ble_eq_true rfl) ?_
  show Ev G _ mX10_likelihoodAtRoof 0 [.ref 0, .int (nI j), .int (nI t), .int (nI q), .int (nI w), RA, RA, RA] [] M _
  refine e_iconst (v := 1) dX10_likelihoodAtRoof_0 (by decide) ?_
  refine e_istore (ls' := [_, _, _, _, _, _, _, _]) dX10_likelihoodAtRoof_1 (by decide) rfl ?_
  refine e_aload_n dX10_likelihoodAtRoof_3 rfl ?_
  refine cV0x dX10_likelihoodAtRoof_4 mo_X10_beginTrial ml_X10_249 sh_x rfl (Nat.le_of_ble_eq_true rfl) (by omega) (c_beginTrial hX) ?_
  rintro r M0 ⟨rfl, hsc0, hT0⟩
  dsimp only [Option.toList, List.cons_append, List.nil_append]
  have hv0 : trI M M0 E.Y E.S 0 := ⟨hsc0, hT0, fun h => absurd h (by omega)⟩
  refine e_iconst (v := 0) dX10_likelihoodAtRoof_7 (by decide) ?_
  refine e_istore (ls' := [_, _, _, _, _, _, _, _]) dX10_likelihoodAtRoof_8 (by decide) rfl ?_
  exact l_lk hX hI hT hj ht hq (t + 1) 0 M0 _ (by omega) (by omega) ⟨hsc0, hT0⟩
set_option maxHeartbeats 4000000 in
set_option maxRecDepth 20000 in
theorem l_ch2 {G : Gt} {M : Mm} {E : Gs} {y y' w w' p : Nat} (hX : XJ M E y y' w w' p) {j t q : Nat} (hj : j < E.Y.n) (ht : t ≤ 6) (hq : q ≤ 10) : ∀ (k : Nat) (i : Nat), (t ≤ i ∧ i ≤ 6) → (6 < i + k) → Ev G 6 mX10_chance 67 [.ref 0, .int (nI j), .int (nI t), .int (nI q), .int (nI (chN E.Y E.S j t q (2 ^ t) * 10 ^ (i - t))), .int (nI i)] [] M (eqQ (some (.int (nI (chN E.Y E.S j t q (2 ^ t) * 10 ^ (6 - t))))) M) := by
  intro k
  induction k with
  | zero => intro i hi hk; exact absurd hk (by omega)
  | succ k ih =>
    intro i hi hk
    refine e_iload dX10_chance_67 rfl ?_
    refine e_bipush (v := 6) dX10_chance_69 (by decide) ?_
    refine e_icmp_ge (tgt := 87) dX10_chance_71 (by decide) (fun c71 => ?_) (fun c71 => ?_)
    · -- 71 jumps
      have hin : i = 6 := by have := ge_of (n := 6) (by omega) (by omega) c71; omega
      subst hin
      refine e_iload dX10_chance_87 rfl ?_
      refine e_iret dX10_chance_89 rfl ?_
      exact ⟨rfl, rfl⟩
    · -- 71 goes on
      have hlt : i < 6 := lt_of (n := 6) (by omega) (by omega) c71
      refine e_iload dX10_chance_74 rfl ?_
      refine e_bipush (v := 10) dX10_chance_76 (by decide) ?_
      refine e_imul dX10_chance_78 ?_
      refine e_istore (ls' := [_, _, _, _, _, _]) dX10_chance_79 (by decide) rfl ?_
      refine e_iinc (ls' := [_, _, _, _, _, _]) dX10_chance_81 rfl (nI_i1 _) (by decide) rfl ?_
      refine e_goto (tgt := 67) dX10_chance_84 (by decide) ?_
      have hh := ih (i + 1) (by omega) (by omega)
      rw [show nI (chN E.Y E.S j t q (2 ^ t) * 10 ^ (i + 1 - t)) = nI (chN E.Y E.S j t q (2 ^ t) * 10 ^ (i - t)) * 10 from by rw [show i + 1 - t = (i - t) + 1 by omega, Nat.pow_succ, ← Nat.mul_assoc, ← pk_mul]; rfl] at hh
      exact hh
set_option maxHeartbeats 4000000 in
set_option maxRecDepth 20000 in
theorem l_ch1 {G : Gt} {M : Mm} {E : Gs} {y y' w w' p : Nat} (hX : XJ M E y y' w w' p) {T : Nat} (hI : SI E.Y E.S T) (hT : T < 2 ^ 30) {j t q : Nat} (hj : j < E.Y.n) (ht : t ≤ 6) (hq : q ≤ 10) : ∀ (k : Nat) (i : Nat) (Mc : Mm), (i ≤ 2 ^ t) → (2 ^ t < i + k) → (SC M Mc) → Ev G 6 mX10_chance 36 [.ref 0, .int (nI j), .int (nI t), .int (nI q), .int (nI (chN E.Y E.S j t q i)), .int (nI i)] [] Mc (fun r M' => r = some (.int (nI (chN E.Y E.S j t q (2 ^ t) * 10 ^ (6 - t)))) ∧ SC M M') := by
  intro k
  induction k with
  | zero => intro i Mc hi hk hv; exact absurd hk (by omega)
  | succ k ih =>
    intro i Mc hi hk hv
    obtain ⟨⟨hld, hsl, hy, hy', hyy⟩, ⟨hpl, hsp, hw, hw', hww⟩, hY, hW, hS, hV, hK, ⟨hpt, hp16, hun, hu16, hU⟩, ⟨htl, htl2, htc⟩⟩ := id (hv.keep hX)
    have h6 := hY.1.2
    have hpw := pow6 ht
    refine e_iload dX10_chance_36 rfl ?_
    refine e_iconst (v := 1) dX10_chance_38 (by decide) ?_
    refine e_iload_n dX10_chance_39 rfl ?_
    refine e_ishl dX10_chance_40 ?_
    rw [hpw.1]
    refine e_icmp_ge (tgt := 64) dX10_chance_41 (by decide) (fun c41 => ?_) (fun c41 => ?_)
    · -- 41 jumps
      have hin : i = 2 ^ t := by have := ge_of (by omega) (by omega) c41; omega
      subst hin
      refine e_iload_n dX10_chance_64 rfl ?_
      refine e_istore (ls' := [_, _, _, _, _, _]) dX10_chance_65 (by decide) rfl ?_
      have hh := l_ch2 (M := Mc) (G := G) (hv.keep hX) hj ht hq (6 - t + 1) t ⟨by omega, ht⟩ (by omega)
      rw [Nat.sub_self, Nat.pow_zero, Nat.mul_one] at hh
      refine Ev.weaken hh ?_
      rintro r M1 ⟨rfl, rfl⟩
      exact ⟨rfl, hv⟩
    · -- 41 goes on
      have hlt : i < 2 ^ t := lt_of (by omega) (by omega) c41
      refine e_iload dX10_chance_44 rfl ?_
      refine e_aload_n dX10_chance_46 rfl ?_
      refine e_iload_n dX10_chance_47 rfl ?_
      refine e_iload_n dX10_chance_48 rfl ?_
      refine e_iload_n dX10_chance_49 rfl ?_
      refine e_iload dX10_chance_50 rfl ?_
      refine cV4x dX10_chance_52 mo_X10_likelihoodAtRoof ml_X10_354 sh_x rfl (Nat.le_of_ble_eq_true rfl) (by omega) (c_lk (hv.keep hX) hI hT hj ht hq) ?_
      rintro r M1 ⟨rfl, h1⟩
      dsimp only [Option.toList, List.cons_append, List.nil_append]
      refine e_iadd dX10_chance_55 ?_
      refine e_istore (ls' := [_, _, _, _, _, _]) dX10_chance_56 (by decide) rfl ?_
      refine e_iinc (ls' := [_, _, _, _, _, _]) dX10_chance_58 rfl (nI_i1 _) (by decide) rfl ?_
      refine e_goto (tgt := 36) dX10_chance_61 (by decide) ?_
      have hh := ih (i + 1) M1 (by omega) (by omega) (hv.trans h1)
      rw [show nI (chN E.Y E.S j t q (i + 1)) = nI (chN E.Y E.S j t q i) + nI (lkN E.Y E.S j t q i) from by rw [nI_add]; rfl] at hh
      exact hh
set_option maxHeartbeats 4000000 in
set_option maxRecDepth 20000 in
theorem c_chance {G : Gt} {M : Mm} {E : Gs} {y y' w w' p : Nat} (hX : XJ M E y y' w w' p) {T : Nat} (hI : SI E.Y E.S T) (hT : T < 2 ^ 30) {i t q : Int32} : Call G 6 mX10_chance [.ref 0, .int i, .int t, .int q] M (fun r M' => r = some (.int (chanceQ E i t q)) ∧ SC M M') := by
  obtain ⟨⟨hld, hsl, hy, hy', hyy⟩, ⟨hpl, hsp, hw, hw', hww⟩, hY, hW, hS, hV, hK, ⟨hpt, hp16, hun, hu16, hU⟩, ⟨htl, htl2, htc⟩⟩ := id hX
  have h6 := hY.1.2
  have hs5 := hY.2.1.2
  refine Call.intro rfl (Nat.le_of_ble_eq_true rfl) ?_
  show Ev G _ mX10_chance 0 [.ref 0, .int i, .int t, .int q, RA, RA] [] M _
  refine e_aload_n dX10_chance_0 rfl ?_
  refine e_iload_n dX10_chance_1 rfl ?_
  refine cV1r dX10_chance_2 mo_X10_isShed ml_X10_130 sh_x rfl (Nat.le_of_ble_eq_true rfl) (by omega) (c_isShed (by assumption)) ?_
  refine e_if_eq (tgt := 28) dX10_chance_5 (by decide) (fun c5 => ?_) (fun c5 => ?_)
  · -- 5 jumps
    refine e_iconst (v := (-1)) dX10_chance_28 (by decide) ?_
    refine e_iret dX10_chance_29 rfl ?_
    exact ⟨by unfold chanceQ; rw [if_neg (fun h => absurd h.1 (b2i_eq0.mp c5))], SC.rfl'⟩
  · -- 5 goes on
    have c5 : vSh E i := by
      by_cases h : (vSh E i)
      · exact h
      · exact absurd (b2i_f h) c5
    refine e_iload_n dX10_chance_8 rfl ?_
    refine e_iconst (v := 1) dX10_chance_9 (by decide) ?_
    refine e_bipush (v := 6) dX10_chance_10 (by decide) ?_
    refine cS3r dX10_chance_12 mo_X10_within ml_X10_199 (Nat.le_of_ble_eq_true rfl) (by omega) (c_within) ?_
    refine e_if_eq (tgt := 28) dX10_chance_15 (by decide) (fun c15 => ?_) (fun c15 => ?_)
    · -- 15 jumps
      refine e_iconst (v := (-1)) dX10_chance_28 (by decide) ?_
      refine e_iret dX10_chance_29 rfl ?_
      exact ⟨by unfold chanceQ; rw [if_neg (fun h => absurd h.2.1 (b2i_eq0.mp c15))], SC.rfl'⟩
    · -- 15 goes on
      have c15 : vWi t 1 6 := by
        by_cases h : (vWi t 1 6)
        · exact h
        · exact absurd (b2i_f h) c15
      refine e_iload_n dX10_chance_18 rfl ?_
      refine e_iconst (v := 0) dX10_chance_19 (by decide) ?_
      refine e_bipush (v := 10) dX10_chance_20 (by decide) ?_
      refine cS3r dX10_chance_22 mo_X10_within ml_X10_199 (Nat.le_of_ble_eq_true rfl) (by omega) (c_within) ?_
      refine e_if_ne (tgt := 30) dX10_chance_25 (by decide) (fun c25 => ?_) (fun c25 => ?_)
      · -- 25 jumps
        have c25 : vWi q 0 10 := by
          by_cases h : (vWi q 0 10)
          · exact h
          · exact absurd (b2i_f h) c25
        refine e_iconst (v := 0) dX10_chance_30 (by decide) ?_
        refine e_istore (ls' := [_, _, _, _, _, _]) dX10_chance_31 (by decide) rfl ?_
        refine e_iconst (v := 0) dX10_chance_33 (by decide) ?_
        refine e_istore (ls' := [_, _, _, _, _, _]) dX10_chance_34 (by decide) rfl ?_
        unfold chanceQ
        rw [if_pos ⟨c5, c15, c25⟩]
        obtain ⟨j, hj, rfl⟩ := shed_of (by omega) c5
        obtain ⟨t, ht60, hlo, rfl⟩ := wi_of (a := 1) (b := 6) (by decide) (by decide) c15
        obtain ⟨q, hq10, -, rfl⟩ := wi_of (a := 0) (b := 10) (by decide) (by decide) c25
        rw [nI_clamp (by omega), nI_clamp (by omega), nI_clamp (by omega)]
        have hpw := pow6 ht60
        exact l_ch1 hX hI hT hj ht60 hq10 (2 ^ t + 1) 0 M (by omega) (by omega) SC.rfl'
      · -- 25 goes on
        refine e_iconst (v := (-1)) dX10_chance_28 (by decide) ?_
        refine e_iret dX10_chance_29 rfl ?_
        exact ⟨by unfold chanceQ; rw [if_neg (fun h => absurd h.2.2 (b2i_eq0.mp c25))], SC.rfl'⟩
end XGA
