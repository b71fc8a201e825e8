section XSR
/-- the first place from a on, of k places, where P holds -/
def fstN (P : Nat → Bool) (a : Nat) : Nat → Option Nat
  | 0 => none
  | k + 1 => if P a then some a else fstN P (a + 1) k
def oI : Option Nat → Int32
  | none => -1
  | some j => nI j
theorem fst_t {P : Nat → Bool} {i N : Nat} (hi : i < N) (h : P i = true) : fstN P i (N - i) = some i := by
  rw [show N - i = (N - (i + 1)) + 1 by omega, fstN, if_pos h]
theorem fst_f {P : Nat → Bool} {i N : Nat} (hi : i < N) (h : P i = false) : fstN P i (N - i) = fstN P (i + 1) (N - (i + 1)) := by
  rw [show N - i = (N - (i + 1)) + 1 by omega, fstN, if_neg (by rw [h]; decide)]
theorem fst_e {P : Nat → Bool} {N : Nat} : fstN P N (N - N) = none := by rw [Nat.sub_self]; rfl
theorem fst_congr {P Q : Nat → Bool} : ∀ (k a : Nat), (∀ j, a ≤ j → j < a + k → P j = Q j) → fstN P a k = fstN Q a k := by
  intro k
  induction k with
  | zero => intro a _; rfl
  | succ k ih =>
    intro a h
    simp only [fstN]
    rw [h a (by omega) (by omega), ih (a + 1) (fun j h1 h2 => h j (by omega) (by omega))]
theorem fst_spec {P : Nat → Bool} : ∀ (k a : Nat), (match fstN P a k with
    | none => ∀ j, a ≤ j → j < a + k → P j = false
    | some t => a ≤ t ∧ t < a + k ∧ P t = true ∧ ∀ j, a ≤ j → j < t → P j = false) := by
  intro k
  induction k with
  | zero => intro a j h1 h2; omega
  | succ k ih =>
    intro a
    by_cases h : P a = true
    · simp only [fstN, h, if_true]
      exact ⟨Nat.le_refl _, by omega, by simp, fun j h1 h2 => by omega⟩
    · simp only [fstN]
      rw [if_neg h]
      have h3 := ih (a + 1)
      cases hq : fstN P (a + 1) k with
      | none =>
        rw [hq] at h3
        intro j h1 h2
        by_cases e : j = a
        · subst e; simpa using h
        · exact h3 j (by omega) (by omega)
      | some t =>
        rw [hq] at h3
        refine ⟨by omega, by omega, h3.2.2.1, fun j h1 h2 => ?_⟩
        by_cases e : j = a
        · subst e; simpa using h
        · exact h3.2.2.2 j (by omega) h2
def lowV (x : Int32) : Int32 := oI (fstN (fun k => decide (bitI x (nI k))) 0 6)
abbrev murS (S : Sv) (j : Nat) : Int32 := murV (S.high j) (S.crow j)
set_option maxHeartbeats 4000000 in
set_option maxRecDepth 20000 in
theorem l_lowest {G : Gt} {M : Mm} {x : Int32} : ∀ (k : Nat) (i : Nat), (i ≤ 6) → (6 < i + k) → (fstN (fun k => decide (bitI x (nI k))) 0 6 = fstN (fun k => decide (bitI x (nI k))) i (6 - i)) → Ev G 1 mX10_lowest 2 [.int x, .int (nI i)] [] M (eqQ (some (.int (lowV x))) M) := by
  intro k
  induction k with
  | zero => intro i hi hk hr; exact absurd hk (by omega)
  | succ k ih =>
    intro i hi hk hr
    refine e_iload_n dX10_lowest_2 rfl ?_
    refine e_bipush (v := 6) dX10_lowest_3 (by decide) ?_
    refine e_icmp_ge (tgt := 25) dX10_lowest_5 (by decide) (fun c5 => ?_) (fun c5 => ?_)
    · -- 5 jumps
      have hin : i = 6 := by have := ge_of (n := 6) (by omega) (by omega) c5; omega
      subst hin
      refine e_iconst (v := (-1)) dX10_lowest_25 (by decide) ?_
      refine e_iret dX10_lowest_26 rfl ?_
      exact ⟨by unfold lowV; rw [hr, fst_e]; rfl, rfl⟩
    · -- 5 goes on
      have hlt : i < 6 := lt_of (n := 6) (by omega) (by omega) c5
      refine e_iload_n dX10_lowest_8 rfl ?_
      refine e_iload_n dX10_lowest_9 rfl ?_
      refine e_ishr dX10_lowest_10 ?_
      refine e_iconst (v := 1) dX10_lowest_11 (by decide) ?_
      refine e_iand dX10_lowest_12 ?_
      refine e_iconst (v := 1) dX10_lowest_13 (by decide) ?_
      refine e_icmp_ne (tgt := 19) dX10_lowest_14 (by decide) (fun c14 => ?_) (fun c14 => ?_)
      · -- 14 jumps
        refine e_iinc (ls' := [_, _]) dX10_lowest_19 rfl (nI_i1 _) (by decide) rfl ?_
        refine e_goto (tgt := 2) dX10_lowest_22 (by decide) ?_
        exact ih (i + 1) (by omega) (by omega) (hr.trans (fst_f hlt (decide_eq_false c14)))
      · -- 14 goes on
        refine e_iload_n dX10_lowest_17 rfl ?_
        refine e_iret dX10_lowest_18 rfl ?_
        exact ⟨by unfold lowV; rw [hr, fst_t hlt (decide_eq_true c14)]; rfl, rfl⟩
set_option maxHeartbeats 4000000 in
set_option maxRecDepth 20000 in
theorem c_lowest {G : Gt} {M : Mm} {x : Int32} : Call G 1 mX10_lowest [.int x] M (eqQ (some (.int (lowV x))) M) := by
  refine Call.intro rfl (Nat.le_of_ble_eq_true rfl) ?_
  show Ev G _ mX10_lowest 0 [.int x, RA] [] M _
  refine e_iconst (v := 0) dX10_lowest_0 (by decide) ?_
  refine e_istore_n (ls' := [_, _]) dX10_lowest_1 (by decide) rfl ?_
  exact l_lowest 7 0 (by omega) (by omega) rfl
set_option maxHeartbeats 4000000 in
set_option maxRecDepth 20000 in
theorem l_pops {G : Gt} {M : Mm} {E : Gs} {y y' w w' p : Nat} (hX : XJ M E y y' w w' p) {T : Nat} (hI : SI E.Y E.S T) (hT : T < 2 ^ 30) {j : Nat} (hj : j < E.Y.n) : ∀ (k : Nat) (i : Nat) (Mc : Mm), (1 ≤ i) → (i ≤ 61) → (61 < i + k) → (fstN (fun t => decide (bitI (popN E.Y (itN E.Y E.S (t - 1))) (nI j))) 1 60 = fstN (fun t => decide (bitI (popN E.Y (itN E.Y E.S (t - 1))) (nI j))) i (61 - i)) → (trI M Mc E.Y E.S (i - 1)) → Ev G 6 mX10_pops 16 [.ref 0, .int (nI j), .int (nI i)] [] Mc (fun r M' => r = some (.int (oI (fstN (fun t => decide (bitI (popN E.Y (itN E.Y E.S (t - 1))) (nI j))) 1 60))) ∧ SC M M') := by
  intro k
  induction k with
  | zero => intro i Mc h1i hi hk hr hv; exact absurd hk (by omega)
  | succ k ih =>
    intro i Mc h1i hi hk hr hv
    obtain ⟨⟨hld, hsl, hy, hy', hyy⟩, ⟨hpl, hsp, hw, hw', hww⟩, hY, hW, hS, hV, hK, ⟨hpt, hp16, hun, hu16, hU⟩, ⟨htl, htl2, htc⟩⟩ := id (hv.1.keep hX)
    have h6 := hY.1.2
    have hs5 := hY.2.1.2
    refine e_iload_n dX10_pops_16 rfl ?_
    refine e_bipush (v := 60) dX10_pops_17 (by decide) ?_
    refine e_icmp_gt (tgt := 42) dX10_pops_19 (by decide) (fun c19 => ?_) (fun c19 => ?_)
    · -- 19 jumps
      have hin : i = 61 := by have := lt_of (i := 60) (n := i) (by omega) (by omega) c19; omega
      subst hin
      refine e_iconst (v := (-1)) dX10_pops_42 (by decide) ?_
      refine e_iret dX10_pops_43 rfl ?_
      exact ⟨by rw [hr, fst_e]; rfl, hv.1⟩
    · -- 19 goes on
      have hlt : i < 61 := by have := ge_of (i := 60) (n := i) (by omega) (by omega) c19; omega
      refine e_aload_n dX10_pops_22 rfl ?_
      refine cV0x dX10_pops_23 mo_X10_passTrial ml_X10_252 sh_x rfl (Nat.le_of_ble_eq_true rfl) (by omega) (c_passTrial (hv.1.keep hX) hv.2.1 (hI.it hY.1.2 (i - 1)) (by omega)) ?_
      rintro r M1 ⟨rfl, h1, h2, h3⟩
      dsimp only [Option.toList, List.cons_append, List.nil_append]
      refine e_iload_n dX10_pops_26 rfl ?_
      refine e_ishr dX10_pops_27 ?_
      refine e_iconst (v := 1) dX10_pops_28 (by decide) ?_
      refine e_iand dX10_pops_29 ?_
      refine e_iconst (v := 1) dX10_pops_30 (by decide) ?_
      refine e_icmp_ne (tgt := 36) dX10_pops_31 (by decide) (fun c31 => ?_) (fun c31 => ?_)
      · -- 31 jumps
        have hP : decide (bitI (popN E.Y (itN E.Y E.S (i - 1))) (nI j)) = false := decide_eq_false c31
        refine e_iinc (ls' := [_, _, _]) dX10_pops_36 rfl (nI_i1 _) (by decide) rfl ?_
        refine e_goto (tgt := 16) dX10_pops_39 (by decide) ?_
        exact ih (i + 1) M1 (by omega) (by omega) (by omega) (hr.trans (fst_f hlt hP)) (by rw [show i + 1 - 1 = (i - 1) + 1 by omega]; exact hv.next h1 h2 h3)
      · -- 31 goes on
        have hP : decide (bitI (popN E.Y (itN E.Y E.S (i - 1))) (nI j)) = true := decide_eq_true c31
        refine e_iload_n dX10_pops_34 rfl ?_
        refine e_iret dX10_pops_35 rfl ?_
        exact ⟨by rw [hr, fst_t hlt hP]; rfl, hv.1.trans h1⟩
def popsQ (E : Gs) (i : Int32) : Int32 := if vSh E i then oI (fstN (fun t => decide (bitI (popN E.Y (itN E.Y E.S (t - 1))) (nI i.toNatClampNeg))) 1 60) else -1
set_option maxHeartbeats 4000000 in
set_option maxRecDepth 20000 in
theorem c_pops {G : Gt} {M : Mm} {E : Gs} {y y' w w' p : Nat} (hX : XJ M E y y' w w' p) {T : Nat} (hI : SI E.Y E.S T) (hT : T < 2 ^ 30) {i : Int32} : Call G 6 mX10_pops [.ref 0, .int i] M (fun r M' => r = some (.int (popsQ E i)) ∧ SC M M') := by
  obtain ⟨⟨hld, hsl, hy, hy', hyy⟩, ⟨hpl, hsp, hw, hw', hww⟩, hY, hW, hS, hV, hK, ⟨hpt, hp16, hun, hu16, hU⟩, ⟨htl, htl2, htc⟩⟩ := id hX
  have h6 := hY.1.2
  have hs5 := hY.2.1.2
  refine Call.intro rfl (Nat.le_of_ble_eq_true rfl) ?_
  show Ev G _ mX10_pops 0 [.ref 0, .int i, RA] [] M _
  refine e_aload_n dX10_pops_0 rfl ?_
  refine e_iload_n dX10_pops_1 rfl ?_
  refine cV1r dX10_pops_2 mo_X10_isShed ml_X10_130 sh_x rfl (Nat.le_of_ble_eq_true rfl) (by omega) (c_isShed (by assumption)) ?_
  refine e_if_ne (tgt := 10) dX10_pops_5 (by decide) (fun c5 => ?_) (fun c5 => ?_)
  · -- 5 jumps
    have hsh5 : ¬ i < 0 ∧ i < nI E.Y.n := by
      by_cases h : (¬ i < 0 ∧ i < nI E.Y.n)
      · exact h
      · exact absurd (b2i_f h) c5
    obtain ⟨j, hj, rfl⟩ := shed_of (by omega) hsh5
    refine e_aload_n dX10_pops_10 rfl ?_
    refine cV0x dX10_pops_11 mo_X10_beginTrial ml_X10_249 sh_x rfl (Nat.le_of_ble_eq_true rfl) (by omega) (c_beginTrial hX) ?_
    rintro r M0 ⟨rfl, hsc0, hT0⟩
    dsimp only [Option.toList, List.cons_append, List.nil_append]
    have hv0 : trI M M0 E.Y E.S 0 := ⟨hsc0, hT0, fun h => absurd h (by omega)⟩
    refine e_iconst (v := 1) dX10_pops_14 (by decide) ?_
    refine e_istore_n (ls' := [_, _, _]) dX10_pops_15 (by decide) rfl ?_
    unfold popsQ
    rw [if_pos hsh5, nI_clamp (by omega)]
    exact l_pops hX hI hT hj 62 1 M0 (by omega) (by omega) (by omega) rfl hv0
  · -- 5 goes on
    refine e_iconst (v := (-1)) dX10_pops_8 (by decide) ?_
    refine e_iret dX10_pops_9 rfl ?_
    exact ⟨by unfold popsQ; rw [if_neg (b2i_eq0.mp c5)], SC.rfl'⟩
def firstQ (E : Gs) : Int32 := match fstN (fun t => !decide (popN E.Y (itN E.Y E.S (t - 1)) = 0)) 1 60 with
  | none => -1
  | some t => lowV (popN E.Y (itN E.Y E.S (t - 1)))
set_option maxHeartbeats 4000000 in
set_option maxRecDepth 20000 in
theorem l_first {G : Gt} {M : Mm} {E : Gs} {y y' w w' p : Nat} (hX : XJ M E y y' w w' p) {T : Nat} (hI : SI E.Y E.S T) (hT : T < 2 ^ 30) : ∀ (k : Nat) (i : Nat) (Mc : Mm) (u : Value), (1 ≤ i) → (i ≤ 61) → (61 < i + k) → (fstN (fun t => !decide (popN E.Y (itN E.Y E.S (t - 1)) = 0)) 1 60 = fstN (fun t => !decide (popN E.Y (itN E.Y E.S (t - 1)) = 0)) i (61 - i)) → (trI M Mc E.Y E.S (i - 1)) → Ev G 6 mX10_first 6 [.ref 0, .int (nI i), u] [] Mc (fun r M' => r = some (.int (firstQ E)) ∧ SC M M') := by
  intro k
  induction k with
  | zero => intro i Mc u h1i hi hk hr hv; exact absurd hk (by omega)
  | succ k ih =>
    intro i Mc u h1i hi hk hr hv
    obtain ⟨⟨hld, hsl, hy, hy', hyy⟩, ⟨hpl, hsp, hw, hw', hww⟩, hY, hW, hS, hV, hK, ⟨hpt, hp16, hun, hu16, hU⟩, ⟨htl, htl2, htc⟩⟩ := id (hv.1.keep hX)
    have h6 := hY.1.2
    refine e_iload_n dX10_first_6 rfl ?_
    refine e_bipush (v := 60) dX10_first_7 (by decide) ?_
    refine e_icmp_gt (tgt := 32) dX10_first_9 (by decide) (fun c9 => ?_) (fun c9 => ?_)
    · -- 9 jumps
      have hin : i = 61 := by have := lt_of (i := 60) (n := i) (by omega) (by omega) c9; omega
      subst hin
      refine e_iconst (v := (-1)) dX10_first_32 (by decide) ?_
      refine e_iret dX10_first_33 rfl ?_
      exact ⟨by unfold firstQ; rw [hr, fst_e], hv.1⟩
    · -- 9 goes on
      have hlt : i < 61 := by have := ge_of (i := 60) (n := i) (by omega) (by omega) c9; omega
      refine e_aload_n dX10_first_12 rfl ?_
      refine cV0x dX10_first_13 mo_X10_passTrial ml_X10_252 sh_x rfl (Nat.le_of_ble_eq_true rfl) (by omega) (c_passTrial (hv.1.keep hX) hv.2.1 (hI.it hY.1.2 (i - 1)) (by omega)) ?_
      rintro r M1 ⟨rfl, h1, h2, h3⟩
      dsimp only [Option.toList, List.cons_append, List.nil_append]
      refine e_istore_n (ls' := [_, _, _]) dX10_first_16 (by decide) rfl ?_
      refine e_iload_n dX10_first_17 rfl ?_
      refine e_if_eq (tgt := 26) dX10_first_18 (by decide) (fun c18 => ?_) (fun c18 => ?_)
      · -- 18 jumps
        refine e_iinc (ls' := [_, _, _]) dX10_first_26 rfl (nI_i1 _) (by decide) rfl ?_
        refine e_goto (tgt := 6) dX10_first_29 (by decide) ?_
        exact ih (i + 1) M1 _ (by omega) (by omega) (by omega) (hr.trans (fst_f hlt (by simp only [decide_eq_true c18]; rfl))) (by rw [show i + 1 - 1 = (i - 1) + 1 by omega]; exact hv.next h1 h2 h3)
      · -- 18 goes on
        refine e_iload_n dX10_first_21 rfl ?_
        refine cS1r dX10_first_22 mo_X10_lowest ml_X10_261 (Nat.le_of_ble_eq_true rfl) (by omega) (c_lowest) ?_
        refine e_iret dX10_first_25 rfl ?_
        exact ⟨by unfold firstQ; rw [hr, fst_t hlt (by simp only [decide_eq_false c18]; rfl)], hv.1.trans h1⟩
set_option maxHeartbeats 4000000 in
set_option maxRecDepth 20000 in
theorem c_first {G : Gt} {M : Mm} {E : Gs} {y y' w w' p : Nat} (hX : XJ M E y y' w w' p) {T : Nat} (hI : SI E.Y E.S T) (hT : T < 2 ^ 30) : Call G 6 mX10_first [.ref 0] M (fun r M' => r = some (.int (firstQ E)) ∧ SC M M') := by
  obtain ⟨⟨hld, hsl, hy, hy', hyy⟩, ⟨hpl, hsp, hw, hw', hww⟩, hY, hW, hS, hV, hK, ⟨hpt, hp16, hun, hu16, hU⟩, ⟨htl, htl2, htc⟩⟩ := id hX
  have h6 := hY.1.2
  have hs5 := hY.2.1.2
  refine Call.intro rfl (Nat.le_of_ble_eq_true rfl) ?_
  show Ev G _ mX10_first 0 [.ref 0, RA, RA] [] M _
  refine e_aload_n dX10_first_0 rfl ?_
  refine cV0x dX10_first_1 mo_X10_beginTrial ml_X10_249 sh_x rfl (Nat.le_of_ble_eq_true rfl) (by omega) (c_beginTrial hX) ?_
  rintro r M0 ⟨rfl, hsc0, hT0⟩
  dsimp only [Option.toList, List.cons_append, List.nil_append]
  have hv0 : trI M M0 E.Y E.S 0 := ⟨hsc0, hT0, fun h => absurd h (by omega)⟩
  refine e_iconst (v := 1) dX10_first_4 (by decide) ?_
  refine e_istore_n (ls' := [_, _, _]) dX10_first_5 (by decide) rfl ?_
  exact l_first hX hI hT 62 1 M0 _ (by omega) (by omega) (by omega) rfl hv0
set_option maxHeartbeats 4000000 in
set_option maxRecDepth 20000 in
theorem l_riot {G : Gt} {M : Mm} {E : Gs} {y y' w w' p : Nat} (hX : XJ M E y y' w w' p) {T : Nat} (hI : SI E.Y E.S T) (hT : T < 2 ^ 30) {j : Nat} (hj : j < E.Y.n) : ∀ (k : Nat) (i : Nat) (Mc : Mm), (i ≤ 61) → (61 < i + k) → (fstN (fun t => !decide (murS (itN E.Y E.S t) j < 60)) 0 61 = fstN (fun t => !decide (murS (itN E.Y E.S t) j < 60)) i (61 - i)) → (trI M Mc E.Y E.S i) → Ev G 6 mX10_riot 16 [.ref 0, .int (nI j), .int (nI i)] [] Mc (fun r M' => r = some (.int (oI (fstN (fun t => !decide (murS (itN E.Y E.S t) j < 60)) 0 61))) ∧ SC M M') := by
  intro k
  induction k with
  | zero => intro i Mc hi hk hr hv; exact absurd hk (by omega)
  | succ k ih =>
    intro i Mc hi hk hr hv
    obtain ⟨⟨hld, hsl, hy, hy', hyy⟩, ⟨hpl, hsp, hw, hw', hww⟩, hY, hW, hS, hV, hK, ⟨hpt, hp16, hun, hu16, hU⟩, ⟨htl, htl2, htc⟩⟩ := id (hv.1.keep hX)
    have h6 := hY.1.2
    have hs5 := hY.2.1.2
    refine e_iload_n dX10_riot_16 rfl ?_
    refine e_bipush (v := 60) dX10_riot_17 (by decide) ?_
    refine e_icmp_gt (tgt := 48) dX10_riot_19 (by decide) (fun c19 => ?_) (fun c19 => ?_)
    · -- 19 jumps
      have hin : i = 61 := by have := lt_of (i := 60) (n := i) (by omega) (by omega) c19; omega
      subst hin
      refine e_iconst (v := (-1)) dX10_riot_48 (by decide) ?_
      refine e_iret dX10_riot_49 rfl ?_
      exact ⟨by rw [hr, fst_e]; rfl, hv.1⟩
    · -- 19 goes on
      have hlt : i < 61 := by have := ge_of (i := 60) (n := i) (by omega) (by omega) c19; omega
      refine e_aload_n dX10_riot_22 rfl ?_
      refine e_getR dX10_riot_23 fl_X10_43 sh_x rfl ?_
      refine e_iload_n dX10_riot_26 rfl ?_
      refine cV1r dX10_riot_27 mo_X3_murmur ml_X10_156 (sh_st (by first | assumption | decide)) rfl (Nat.le_of_ble_eq_true rfl) (by omega) (c_murmur (by first | assumption | decide) (by omega)) ?_
      rw [(hv.2.1.2.2.2 j hj).2.2.1, (hv.2.1.2.2.2 j hj).2.1]
      refine e_bipush (v := 60) dX10_riot_30 (by decide) ?_
      refine e_icmp_lt (tgt := 37) dX10_riot_32 (by decide) (fun c32 => ?_) (fun c32 => ?_)
      · -- 32 jumps
        have hP : (!decide (murS (itN E.Y E.S i) j < 60)) = false := by simp only [decide_eq_true c32]; rfl
        refine e_aload_n dX10_riot_37 rfl ?_
        refine cV0x dX10_riot_38 mo_X10_passTrial ml_X10_252 sh_x rfl (Nat.le_of_ble_eq_true rfl) (by omega) (c_passTrial (hv.1.keep hX) hv.2.1 (hI.it hY.1.2 i) (by omega)) ?_
        rintro r M1 ⟨rfl, h1, h2, h3⟩
        dsimp only [Option.toList, List.cons_append, List.nil_append]
        refine e_pop dX10_riot_41 rfl ?_
        refine e_iinc (ls' := [_, _, _]) dX10_riot_42 rfl (nI_i1 _) (by decide) rfl ?_
        refine e_goto (tgt := 16) dX10_riot_45 (by decide) ?_
        exact ih (i + 1) M1 (by omega) (by omega) (hr.trans (fst_f hlt hP)) (hv.next h1 h2 h3)
      · -- 32 goes on
        have hP : (!decide (murS (itN E.Y E.S i) j < 60)) = true := by simp only [decide_eq_false c32]; rfl
        refine e_iload_n dX10_riot_35 rfl ?_
        refine e_iret dX10_riot_36 rfl ?_
        exact ⟨by rw [hr, fst_t hlt hP]; rfl, hv.1⟩
def riotQ (E : Gs) (i : Int32) : Int32 := if vSh E i then oI (fstN (fun t => !decide (murS (itN E.Y E.S t) i.toNatClampNeg < 60)) 0 61) else -1
set_option maxHeartbeats 4000000 in
set_option maxRecDepth 20000 in
theorem c_riot {G : Gt} {M : Mm} {E : Gs} {y y' w w' p : Nat} (hX : XJ M E y y' w w' p) {T : Nat} (hI : SI E.Y E.S T) (hT : T < 2 ^ 30) {i : Int32} : Call G 6 mX10_riot [.ref 0, .int i] M (fun r M' => r = some (.int (riotQ E i)) ∧ SC M M') := by
  obtain ⟨⟨hld, hsl, hy, hy', hyy⟩, ⟨hpl, hsp, hw, hw', hww⟩, hY, hW, hS, hV, hK, ⟨hpt, hp16, hun, hu16, hU⟩, ⟨htl, htl2, htc⟩⟩ := id hX
  have h6 := hY.1.2
  have hs5 := hY.2.1.2
  refine Call.intro rfl (Nat.le_of_ble_eq_true rfl) ?_
  show Ev G _ mX10_riot 0 [.ref 0, .int i, RA] [] M _
  refine e_aload_n dX10_riot_0 rfl ?_
  refine e_iload_n dX10_riot_1 rfl ?_
  refine cV1r dX10_riot_2 mo_X10_isShed ml_X10_130 sh_x rfl (Nat.le_of_ble_eq_true rfl) (by omega) (c_isShed (by assumption)) ?_
  refine e_if_ne (tgt := 10) dX10_riot_5 (by decide) (fun c5 => ?_) (fun c5 => ?_)
  · -- 5 jumps
    have hsh5 : ¬ i < 0 ∧ i < nI E.Y.n := by
      by_cases h : (¬ i < 0 ∧ i < nI E.Y.n)
      · exact h
      · exact absurd (b2i_f h) c5
    obtain ⟨j, hj, rfl⟩ := shed_of (by omega) hsh5
    refine e_aload_n dX10_riot_10 rfl ?_
    refine cV0x dX10_riot_11 mo_X10_beginTrial ml_X10_249 sh_x rfl (Nat.le_of_ble_eq_true rfl) (by omega) (c_beginTrial hX) ?_
    rintro r M0 ⟨rfl, hsc0, hT0⟩
    dsimp only [Option.toList, List.cons_append, List.nil_append]
    have hv0 : trI M M0 E.Y E.S 0 := ⟨hsc0, hT0, fun h => absurd h (by omega)⟩
    refine e_iconst (v := 0) dX10_riot_14 (by decide) ?_
    refine e_istore_n (ls' := [_, _, _]) dX10_riot_15 (by decide) rfl ?_
    unfold riotQ
    rw [if_pos hsh5, nI_clamp (by omega)]
    exact l_riot hX hI hT hj 62 0 M0 (by omega) (by omega) rfl hv0
  · -- 5 goes on
    refine e_iconst (v := (-1)) dX10_riot_8 (by decide) ?_
    refine e_iret dX10_riot_9 rfl ?_
    exact ⟨by unfold riotQ; rw [if_neg (b2i_eq0.mp c5)], SC.rfl'⟩
def roofV (Y : Yv) (S : Sv) : Bool := allN (fun j => !(decide (0 < S.crow j) && decide (S.high j < Y.roof))) Y.n
def roofedQ (E : Gs) : Int32 := oI (fstN (fun t => roofV E.Y (itN E.Y E.S t)) 0 61)
set_option maxHeartbeats 4000000 in
set_option maxRecDepth 20000 in
theorem l_roofed {G : Gt} {M : Mm} {E : Gs} {y y' w w' p : Nat} (hX : XJ M E y y' w w' p) {T : Nat} (hI : SI E.Y E.S T) (hT : T < 2 ^ 30)  : ∀ (k : Nat) (i : Nat) (Mc : Mm), (i ≤ 61) → (61 < i + k) → (fstN (fun t => roofV E.Y (itN E.Y E.S t)) 0 61 = fstN (fun t => roofV E.Y (itN E.Y E.S t)) i (61 - i)) → (trI M Mc E.Y E.S i) → Ev G 6 mX10_roofed 6 [.ref 0, .int (nI i)] [] Mc (fun r M' => r = some (.int (oI (fstN (fun t => roofV E.Y (itN E.Y E.S t)) 0 61))) ∧ SC M M') := by
  intro k
  induction k with
  | zero => intro i Mc hi hk hr hv; exact absurd hk (by omega)
  | succ k ih =>
    intro i Mc hi hk hr hv
    obtain ⟨⟨hld, hsl, hy, hy', hyy⟩, ⟨hpl, hsp, hw, hw', hww⟩, hY, hW, hS, hV, hK, ⟨hpt, hp16, hun, hu16, hU⟩, ⟨htl, htl2, htc⟩⟩ := id (hv.1.keep hX)
    have h6 := hY.1.2
    have hs5 := hY.2.1.2
    refine e_iload_n dX10_roofed_6 rfl ?_
    refine e_bipush (v := 60) dX10_roofed_7 (by decide) ?_
    refine e_icmp_gt (tgt := 42) dX10_roofed_9 (by decide) (fun c9 => ?_) (fun c9 => ?_)
    · -- 9 jumps
      have hin : i = 61 := by have := lt_of (i := 60) (n := i) (by omega) (by omega) c9; omega
      subst hin
      refine e_iconst (v := (-1)) dX10_roofed_42 (by decide) ?_
      refine e_iret dX10_roofed_43 rfl ?_
      exact ⟨by rw [hr, fst_e]; rfl, hv.1⟩
    · -- 9 goes on
      have hlt : i < 61 := by have := ge_of (i := 60) (n := i) (by omega) (by omega) c9; omega
      refine e_aload_n dX10_roofed_12 rfl ?_
      refine e_getR dX10_roofed_13 fl_X10_43 sh_x rfl ?_
      refine e_aload_n dX10_roofed_16 rfl ?_
      refine e_getP dX10_roofed_17 fl_X10_19 sh_x rfl ?_
      first | rw [hld] | (simp only [setI_2, setI_22, setL_22]; rw [hld])
      refine e_getI dX10_roofed_20 fl_X10_175 (sh_yd (by first | assumption | decide)) rfl ?_
      rw [hY.2.2.2.1]
      refine cV1r dX10_roofed_23 mo_X3_allAtRoof ml_X10_267 (sh_st (by first | assumption | decide)) rfl (Nat.le_of_ble_eq_true rfl) (by omega) (c_allAtRoof (o := 51) (by decide) hv.2.1.1 hY.1.2) ?_
      refine e_if_eq (tgt := 31) dX10_roofed_26 (by decide) (fun c26 => ?_) (fun c26 => ?_)
      · -- 26 jumps
        have hP : roofV E.Y (itN E.Y E.S i) = false := by
          refine Bool.eq_false_iff.mpr (fun q => ?_)
          unfold roofV at q
          rw [allN_iff] at q
          refine b2i_eq0.mp c26 (fun j hj => ?_)
          dsimp only
          rw [(hv.2.1.2.2.2 j hj).2.2.1, (hv.2.1.2.2.2 j hj).2.1]
          exact q j hj
        refine e_aload_n dX10_roofed_31 rfl ?_
        refine cV0x dX10_roofed_32 mo_X10_passTrial ml_X10_252 sh_x rfl (Nat.le_of_ble_eq_true rfl) (by omega) (c_passTrial (hv.1.keep hX) hv.2.1 (hI.it hY.1.2 i) (by omega)) ?_
        rintro r M1 ⟨rfl, h1, h2, h3⟩
        dsimp only [Option.toList, List.cons_append, List.nil_append]
        refine e_pop dX10_roofed_35 rfl ?_
        refine e_iinc (ls' := [_, _]) dX10_roofed_36 rfl (nI_i1 _) (by decide) rfl ?_
        refine e_goto (tgt := 6) dX10_roofed_39 (by decide) ?_
        exact ih (i + 1) M1 (by omega) (by omega) (hr.trans (fst_f hlt hP)) (hv.next h1 h2 h3)
      · -- 26 goes on
        have hP : roofV E.Y (itN E.Y E.S i) = true := by
          unfold roofV
          rw [allN_iff]
          have h := Classical.not_not.mp (fun q => c26 (b2i_f q))
          intro j hj
          have := h j hj
          dsimp only at this
          rw [(hv.2.1.2.2.2 j hj).2.2.1, (hv.2.1.2.2.2 j hj).2.1] at this
          exact this
        refine e_iload_n dX10_roofed_29 rfl ?_
        refine e_iret dX10_roofed_30 rfl ?_
        exact ⟨by rw [hr, fst_t hlt hP]; rfl, hv.1⟩
set_option maxHeartbeats 4000000 in
set_option maxRecDepth 20000 in
theorem c_roofed {G : Gt} {M : Mm} {E : Gs} {y y' w w' p : Nat} (hX : XJ M E y y' w w' p) {T : Nat} (hI : SI E.Y E.S T) (hT : T < 2 ^ 30) : Call G 6 mX10_roofed [.ref 0] M (fun r M' => r = some (.int (roofedQ E)) ∧ SC M M') := by
  obtain ⟨⟨hld, hsl, hy, hy', hyy⟩, ⟨hpl, hsp, hw, hw', hww⟩, hY, hW, hS, hV, hK, ⟨hpt, hp16, hun, hu16, hU⟩, ⟨htl, htl2, htc⟩⟩ := id hX
  have h6 := hY.1.2
  have hs5 := hY.2.1.2
  refine Call.intro rfl (Nat.le_of_ble_eq_true rfl) ?_
  show Ev G _ mX10_roofed 0 [.ref 0, RA] [] M _
  refine e_aload_n dX10_roofed_0 rfl ?_
  refine cV0x dX10_roofed_1 mo_X10_beginTrial ml_X10_249 sh_x rfl (Nat.le_of_ble_eq_true rfl) (by omega) (c_beginTrial hX) ?_
  rintro r M0 ⟨rfl, hsc0, hT0⟩
  dsimp only [Option.toList, List.cons_append, List.nil_append]
  have hv0 : trI M M0 E.Y E.S 0 := ⟨hsc0, hT0, fun h => absurd h (by omega)⟩
  refine e_iconst (v := 0) dX10_roofed_4 (by decide) ?_
  refine e_istore_n (ls' := [_, _]) dX10_roofed_5 (by decide) rfl ?_
  unfold roofedQ
  exact l_roofed hX hI hT 62 0 M0 (by omega) (by omega) rfl hv0
end XSR
