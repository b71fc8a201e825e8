section XNR
/-- those near a set, it too -/
def nearV (Y : Yv) (x : Int32) : Int32 := orF (fun i => decide (bitI x (nI i))) Y.near x Y.n
def nearN (Y : Yv) (x : Int32) : Nat → Int32
  | 0 => x
  | k + 1 => nearV Y (nearN Y x k)
def reachV (Y : Yv) (j : Nat) : Int32 := nearN Y (b1 (nI j)) 6
def reachQ (E : Gs) (i : Int32) : Int32 := if vSh E i then reachV E.Y i.toNatClampNeg else -1
def farQ (E : Gs) (i k : Int32) : Int32 := if vSh E i ∧ vSh E k then oI (fstN (fun t => decide (bitI (nearN E.Y (b1 i) t) k)) 0 6) else -1
def partsQ (E : Gs) : Int32 := cntI (fun j => decide (lowV (reachV E.Y j) = nI j)) E.Y.n
def heardQ (E : Gs) (i : Int32) : Int32 := if vSh E i then E.S.hear i.toNatClampNeg else -1
def newsV (Y : Yv) (S : Sv) : Bool := allN (fun j => decide (reachV Y j &&& (S.hear j ^^^ -1) = 0)) Y.n
def newsQ (E : Gs) : Int32 := oI (fstN (fun t => newsV E.Y (itN E.Y E.S t)) 0 61)
def calmQ (E : Gs) (i : Int32) : Int32 := if vSh E i then (match fstN (fun l => decide (murV (E.S.high i.toNatClampNeg) (E.S.crow i.toNatClampNeg - nI l) < 60)) 0 (E.S.crow i.toNatClampNeg).toNatClampNeg with
    | none => E.S.crow i.toNatClampNeg
    | some l => nI l) else -1
set_option maxHeartbeats 4000000 in
set_option maxRecDepth 20000 in
theorem l_reachOf {G : Gt} {M : Mm} {E : Gs} {y y' w w' p : Nat} (hX : XJ M E y y' w w' p) {x0 u : Int32} : ∀ (k : Nat) (i : Nat) , (i ≤ 6) → (6 < i + k) → Ev G 3 mX10_reachOf 6 [.ref 0, .int u, .int (nearN E.Y x0 i), .int (nI i)] [] M (eqQ (some (.int (nearN E.Y x0 6))) M) := by
  intro k
  induction k with
  | zero => intro i hi hk; exact absurd hk (by omega)
  | succ k ih =>
    intro i hi hk
    obtain ⟨⟨hld, hsl, hy, hy', hyy⟩, ⟨hpl, hsp, hw, hw', hww⟩, hY, hW, hS, hV, hK, ⟨hpt, hp16, hun, hu16, hU⟩, ⟨htl, htl2, htc⟩⟩ := id hX
    have h6 := hY.1.2
    have hs5 := hY.2.1.2
    refine e_iload_n dX10_reachOf_6 rfl ?_
    refine e_bipush (v := 6) dX10_reachOf_7 (by decide) ?_
    refine e_icmp_ge (tgt := 27) dX10_reachOf_9 (by decide) (fun c9 => ?_) (fun c9 => ?_)
    · -- 9 jumps
      have hin : i = 6 := by have := ge_of (n := 6) (by omega) (by omega) c9; omega
      subst hin
      refine e_iload_n dX10_reachOf_27 rfl ?_
      refine e_iret dX10_reachOf_28 rfl ?_
      exact ⟨rfl, rfl⟩
    · -- 9 goes on
      have hlt : i < 6 := lt_of (n := 6) (by omega) (by omega) c9
      refine e_aload_n dX10_reachOf_12 rfl ?_
      refine e_getP dX10_reachOf_13 fl_X10_19 sh_x rfl ?_
      first | rw [hld] | (simp only [setI_2, setI_22, setL_22]; rw [hld])
      refine e_iload_n dX10_reachOf_16 rfl ?_
      refine cV1r dX10_reachOf_17 mo_X8_withNear ml_X10_310 (sh_yd (by first | assumption | decide)) rfl (Nat.le_of_ble_eq_true rfl) (by omega) (c_withNear (by first | assumption | decide) (by assumption)) ?_
      refine e_istore_n (ls' := [_, _, _, _]) dX10_reachOf_20 (by decide) rfl ?_
      refine e_iinc (ls' := [_, _, _, _]) dX10_reachOf_21 rfl (nI_i1 _) (by decide) rfl ?_
      refine e_goto (tgt := 6) dX10_reachOf_24 (by decide) ?_
      exact ih (i + 1) (by omega) (by omega)
set_option maxHeartbeats 4000000 in
set_option maxRecDepth 20000 in
theorem c_reachOf {G : Gt} {M : Mm} {E : Gs} {y y' w w' p : Nat} (hX : XJ M E y y' w w' p) {j : Nat} : Call G 3 mX10_reachOf [.ref 0, .int (nI j)] M (eqQ (some (.int (reachV E.Y j))) M) := by
  obtain ⟨⟨hld, hsl, hy, hy', hyy⟩, ⟨hpl, hsp, hw, hw', hww⟩, hY, hW, hS, hV, hK, ⟨hpt, hp16, hun, hu16, hU⟩, ⟨htl, htl2, htc⟩⟩ := id hX
  have h6 := hY.1.2
  have hs5 := hY.2.1.2
  refine Call.intro rfl (Nat.le_of_ble_eq_true rfl) ?_
  show Ev G _ mX10_reachOf 0 [.ref 0, .int (nI j), RA, RA] [] M _
  refine e_iconst (v := 1) dX10_reachOf_0 (by decide) ?_
  refine e_iload_n dX10_reachOf_1 rfl ?_
  refine e_ishl dX10_reachOf_2 ?_
  refine e_istore_n (ls' := [_, _, _, _]) dX10_reachOf_3 (by decide) rfl ?_
  refine e_iconst (v := 0) dX10_reachOf_4 (by decide) ?_
  refine e_istore_n (ls' := [_, _, _, _]) dX10_reachOf_5 (by decide) rfl ?_
  exact l_reachOf hX 7 0 (by omega) (by omega)
set_option maxHeartbeats 4000000 in
set_option maxRecDepth 20000 in
theorem c_reach {G : Gt} {M : Mm} {E : Gs} {y y' w w' p : Nat} (hX : XJ M E y y' w w' p) {i : Int32} : Call G 4 mX10_reach [.ref 0, .int i] M (eqQ (some (.int (reachQ E i))) M) := by
  obtain ⟨⟨hld, hsl, hy, hy', hyy⟩, ⟨hpl, hsp, hw, hw', hww⟩, hY, hW, hS, hV, hK, ⟨hpt, hp16, hun, hu16, hU⟩, ⟨htl, htl2, htc⟩⟩ := id hX
  have h6 := hY.1.2
  have hs5 := hY.2.1.2
  refine Call.intro rfl (Nat.le_of_ble_eq_true rfl) ?_
  show Ev G _ mX10_reach 0 [.ref 0, .int i] [] M _
  refine e_aload_n dX10_reach_0 rfl ?_
  refine e_iload_n dX10_reach_1 rfl ?_
  refine cV1r dX10_reach_2 mo_X10_isShed ml_X10_130 sh_x rfl (Nat.le_of_ble_eq_true rfl) (by omega) (c_isShed (by assumption)) ?_
  refine e_if_eq (tgt := 16) dX10_reach_5 (by decide) (fun c5 => ?_) (fun c5 => ?_)
  · -- 5 jumps
    refine e_iconst (v := (-1)) dX10_reach_16 (by decide) ?_
    refine e_iret dX10_reach_17 rfl ?_
    exact ⟨by unfold reachQ; rw [if_neg (b2i_eq0.mp c5)], rfl⟩
  · -- 5 goes on
    have hsh5 : ¬ i < 0 ∧ i < nI E.Y.n := by
      by_cases h : (¬ i < 0 ∧ i < nI E.Y.n)
      · exact h
      · exact absurd (b2i_f h) c5
    obtain ⟨j, hj, rfl⟩ := shed_of (by omega) hsh5
    refine e_aload_n dX10_reach_8 rfl ?_
    refine e_iload_n dX10_reach_9 rfl ?_
    refine cV1r dX10_reach_10 mo_X10_reachOf ml_X10_313 sh_x rfl (Nat.le_of_ble_eq_true rfl) (by omega) (c_reachOf (by assumption)) ?_
    refine e_goto (tgt := 17) dX10_reach_13 (by decide) ?_
    refine e_iret dX10_reach_17 rfl ?_
    exact ⟨by unfold reachQ; rw [if_pos hsh5, nI_clamp (by omega)], rfl⟩
set_option maxHeartbeats 4000000 in
set_option maxRecDepth 20000 in
theorem c_heard {G : Gt} {M : Mm} {E : Gs} {y y' w w' p : Nat} (hX : XJ M E y y' w w' p) {i : Int32} : Call G 2 mX10_heard [.ref 0, .int i] M (eqQ (some (.int (heardQ E i))) M) := by
  obtain ⟨⟨hld, hsl, hy, hy', hyy⟩, ⟨hpl, hsp, hw, hw', hww⟩, hY, hW, hS, hV, hK, ⟨hpt, hp16, hun, hu16, hU⟩, ⟨htl, htl2, htc⟩⟩ := id hX
  have h6 := hY.1.2
  have hs5 := hY.2.1.2
  refine Call.intro rfl (Nat.le_of_ble_eq_true rfl) ?_
  show Ev G _ mX10_heard 0 [.ref 0, .int i] [] M _
  refine e_aload_n dX10_heard_0 rfl ?_
  refine e_iload_n dX10_heard_1 rfl ?_
  refine cV1r dX10_heard_2 mo_X10_isShed ml_X10_130 sh_x rfl (Nat.le_of_ble_eq_true rfl) (by omega) (c_isShed (by assumption)) ?_
  refine e_if_eq (tgt := 22) dX10_heard_5 (by decide) (fun c5 => ?_) (fun c5 => ?_)
  · -- 5 jumps
    refine e_iconst (v := (-1)) dX10_heard_22 (by decide) ?_
    refine e_iret dX10_heard_23 rfl ?_
    exact ⟨by unfold heardQ; rw [if_neg (b2i_eq0.mp c5)], rfl⟩
  · -- 5 goes on
    have hsh5 : ¬ i < 0 ∧ i < nI E.Y.n := by
      by_cases h : (¬ i < 0 ∧ i < nI E.Y.n)
      · exact h
      · exact absurd (b2i_f h) c5
    obtain ⟨j, hj, rfl⟩ := shed_of (by omega) hsh5
    refine e_aload_n dX10_heard_8 rfl ?_
    refine e_getR dX10_heard_9 fl_X10_39 sh_x rfl ?_
    refine e_getR dX10_heard_12 fl_X10_316 (sh_st (by first | assumption | decide)) rfl ?_
    refine e_iload_n dX10_heard_15 rfl ?_
    refine cS2r dX10_heard_16 mo_X10_at ml_X10_137 (Nat.le_of_ble_eq_true rfl) (by omega) (c_atN (sa_st_heard (by first | assumption | decide)) (by decide) (by first | omega | decide)) ?_
    refine e_goto (tgt := 23) dX10_heard_19 (by decide) ?_
    refine e_iret dX10_heard_23 rfl ?_
    exact ⟨by unfold heardQ; rw [if_pos hsh5, nI_clamp (by omega), (hS.2.2.2 j hj).2.2.2], rfl⟩
set_option maxHeartbeats 4000000 in
set_option maxRecDepth 20000 in
theorem l_far {G : Gt} {M : Mm} {E : Gs} {y y' w w' p : Nat} (hX : XJ M E y y' w w' p) {x0 kk u : Int32} : ∀ (k : Nat) (i : Nat), (i ≤ 6) → (6 < i + k) → (fstN (fun t => decide (bitI (nearN E.Y x0 t) kk)) 0 6 = fstN (fun t => decide (bitI (nearN E.Y x0 t) kk)) i (6 - i)) → Ev G 3 mX10_far 25 [.ref 0, .int u, .int kk, .int (nearN E.Y x0 i), .int (nI i)] [] M (eqQ (some (.int (oI (fstN (fun t => decide (bitI (nearN E.Y x0 t) kk)) 0 6)))) M) := by
  intro k
  induction k with
  | zero => intro i hi hk hr; exact absurd hk (by omega)
  | succ k ih =>
    intro i hi hk hr
    obtain ⟨⟨hld, hsl, hy, hy', hyy⟩, ⟨hpl, hsp, hw, hw', hww⟩, hY, hW, hS, hV, hK, ⟨hpt, hp16, hun, hu16, hU⟩, ⟨htl, htl2, htc⟩⟩ := id hX
    have h6 := hY.1.2
    have hs5 := hY.2.1.2
    refine e_iload dX10_far_25 rfl ?_
    refine e_bipush (v := 6) dX10_far_27 (by decide) ?_
    refine e_icmp_ge (tgt := 59) dX10_far_29 (by decide) (fun c29 => ?_) (fun c29 => ?_)
    · -- 29 jumps
      have hin : i = 6 := by have := ge_of (n := 6) (by omega) (by omega) c29; omega
      subst hin
      refine e_iconst (v := (-1)) dX10_far_59 (by decide) ?_
      refine e_iret dX10_far_60 rfl ?_
      exact ⟨by rw [hr, fst_e]; rfl, rfl⟩
    · -- 29 goes on
      have hlt : i < 6 := lt_of (n := 6) (by omega) (by omega) c29
      refine e_iload_n dX10_far_32 rfl ?_
      refine e_iload_n dX10_far_33 rfl ?_
      refine e_ishr dX10_far_34 ?_
      refine e_iconst (v := 1) dX10_far_35 (by decide) ?_
      refine e_iand dX10_far_36 ?_
      refine e_iconst (v := 1) dX10_far_37 (by decide) ?_
      refine e_icmp_ne (tgt := 44) dX10_far_38 (by decide) (fun c38 => ?_) (fun c38 => ?_)
      · -- 38 jumps
        refine e_aload_n dX10_far_44 rfl ?_
        refine e_getP dX10_far_45 fl_X10_19 sh_x rfl ?_
        first | rw [hld] | (simp only [setI_2, setI_22, setL_22]; rw [hld])
        refine e_iload_n dX10_far_48 rfl ?_
        refine cV1r dX10_far_49 mo_X8_withNear ml_X10_310 (sh_yd (by first | assumption | decide)) rfl (Nat.le_of_ble_eq_true rfl) (by omega) (c_withNear (by first | assumption | decide) (by assumption)) ?_
        refine e_istore_n (ls' := [_, _, _, _, _]) dX10_far_52 (by decide) rfl ?_
        refine e_iinc (ls' := [_, _, _, _, _]) dX10_far_53 rfl (nI_i1 _) (by decide) rfl ?_
        refine e_goto (tgt := 25) dX10_far_56 (by decide) ?_
        exact ih (i + 1) (by omega) (by omega) (hr.trans (fst_f hlt (decide_eq_false c38)))
      · -- 38 goes on
        refine e_iload dX10_far_41 rfl ?_
        refine e_iret dX10_far_43 rfl ?_
        exact ⟨by rw [hr, fst_t hlt (decide_eq_true c38)]; rfl, rfl⟩
set_option maxHeartbeats 4000000 in
set_option maxRecDepth 20000 in
theorem c_far {G : Gt} {M : Mm} {E : Gs} {y y' w w' p : Nat} (hX : XJ M E y y' w w' p) {i q : Int32} : Call G 3 mX10_far [.ref 0, .int i, .int q] M (eqQ (some (.int (farQ E i q))) M) := by
  obtain ⟨⟨hld, hsl, hy, hy', hyy⟩, ⟨hpl, hsp, hw, hw', hww⟩, hY, hW, hS, hV, hK, ⟨hpt, hp16, hun, hu16, hU⟩, ⟨htl, htl2, htc⟩⟩ := id hX
  have h6 := hY.1.2
  have hs5 := hY.2.1.2
  refine Call.intro rfl (Nat.le_of_ble_eq_true rfl) ?_
  show Ev G _ mX10_far 0 [.ref 0, .int i, .int q, RA, RA] [] M _
  refine e_aload_n dX10_far_0 rfl ?_
  refine e_iload_n dX10_far_1 rfl ?_
  refine cV1r dX10_far_2 mo_X10_isShed ml_X10_130 sh_x rfl (Nat.le_of_ble_eq_true rfl) (by omega) (c_isShed (by assumption)) ?_
  refine e_if_eq (tgt := 16) dX10_far_5 (by decide) (fun c5 => ?_) (fun c5 => ?_)
  · -- 5 jumps
    refine e_iconst (v := (-1)) dX10_far_16 (by decide) ?_
    refine e_iret dX10_far_17 rfl ?_
    exact ⟨by unfold farQ; rw [if_neg (fun h => absurd h.1 (b2i_eq0.mp c5))], rfl⟩
  · -- 5 goes on
    have c5 : vSh E i := by
      by_cases h : (vSh E i)
      · exact h
      · exact absurd (b2i_f h) c5
    refine e_aload_n dX10_far_8 rfl ?_
    refine e_iload_n dX10_far_9 rfl ?_
    refine cV1r dX10_far_10 mo_X10_isShed ml_X10_130 sh_x rfl (Nat.le_of_ble_eq_true rfl) (by omega) (c_isShed (by assumption)) ?_
    refine e_if_ne (tgt := 18) dX10_far_13 (by decide) (fun c13 => ?_) (fun c13 => ?_)
    · -- 13 jumps
      have c13 : vSh E q := by
        by_cases h : (vSh E q)
        · exact h
        · exact absurd (b2i_f h) c13
      refine e_iconst (v := 1) dX10_far_18 (by decide) ?_
      refine e_iload_n dX10_far_19 rfl ?_
      refine e_ishl dX10_far_20 ?_
      refine e_istore_n (ls' := [_, _, _, _, _]) dX10_far_21 (by decide) rfl ?_
      refine e_iconst (v := 0) dX10_far_22 (by decide) ?_
      refine e_istore (ls' := [_, _, _, _, _]) dX10_far_23 (by decide) rfl ?_
      unfold farQ
      rw [if_pos ⟨c5, c13⟩]
      exact l_far hX 7 0 (by omega) (by omega) rfl
    · -- 13 goes on
      refine e_iconst (v := (-1)) dX10_far_16 (by decide) ?_
      refine e_iret dX10_far_17 rfl ?_
      exact ⟨by unfold farQ; rw [if_neg (fun h => absurd h.2 (b2i_eq0.mp c13))], rfl⟩
set_option maxHeartbeats 4000000 in
set_option maxRecDepth 20000 in
theorem l_parts {G : Gt} {M : Mm} {E : Gs} {y y' w w' p : Nat} (hX : XJ M E y y' w w' p) : ∀ (k : Nat) (i : Nat) , (i ≤ E.Y.n) → (E.Y.n < i + k) → Ev G 4 mX10_parts 4 [.ref 0, .int (cntI (fun j => decide (lowV (reachV E.Y j) = nI j)) i), .int (nI i)] [] M (eqQ (some (.int (partsQ E))) M) := by
  intro k
  induction k with
  | zero => intro i hi hk; exact absurd hk (by omega)
  | succ k ih =>
    intro i hi hk
    obtain ⟨⟨hld, hsl, hy, hy', hyy⟩, ⟨hpl, hsp, hw, hw', hww⟩, hY, hW, hS, hV, hK, ⟨hpt, hp16, hun, hu16, hU⟩, ⟨htl, htl2, htc⟩⟩ := id hX
    have h6 := hY.1.2
    have hs5 := hY.2.1.2
    refine e_iload_n dX10_parts_4 rfl ?_
    refine e_aload_n dX10_parts_5 rfl ?_
    refine e_getP dX10_parts_6 fl_X10_19 sh_x rfl ?_
    first | rw [hld] | (simp only [setI_2, setI_22, setL_22]; rw [hld])
    refine e_getI dX10_parts_9 fl_X10_74 (sh_yd (by first | assumption | decide)) rfl ?_
    refine e_icmp_ge (tgt := 36) dX10_parts_12 (by decide) (fun c12 => ?_) (fun c12 => ?_)
    · -- 12 jumps
      rw [hY.1.1] at c12
      have hin : i = E.Y.n := by have := ge_of (by omega) (by omega) c12; omega
      subst hin
      refine e_iload_n dX10_parts_36 rfl ?_
      refine e_iret dX10_parts_37 rfl ?_
      exact ⟨rfl, rfl⟩
    · -- 12 goes on
      rw [hY.1.1] at c12
      have hlt : i < E.Y.n := lt_of (by omega) (by omega) c12
      refine e_aload_n dX10_parts_15 rfl ?_
      refine e_iload_n dX10_parts_16 rfl ?_
      refine cV1r dX10_parts_17 mo_X10_reachOf ml_X10_313 sh_x rfl (Nat.le_of_ble_eq_true rfl) (by omega) (c_reachOf (by assumption)) ?_
      refine cS1r dX10_parts_20 mo_X10_lowest ml_X10_261 (Nat.le_of_ble_eq_true rfl) (by omega) (c_lowest) ?_
      refine e_iload_n dX10_parts_23 rfl ?_
      refine e_icmp_ne (tgt := 30) dX10_parts_24 (by decide) (fun c24 => ?_) (fun c24 => ?_)
      · -- 24 jumps
        refine e_iinc (ls' := [_, _, _]) dX10_parts_30 rfl (nI_i1 _) (by decide) rfl ?_
        refine e_goto (tgt := 4) dX10_parts_33 (by decide) ?_
        have hh := ih (i + 1) (by omega) (by omega)
        rw [cntI_f (decide_eq_false c24)] at hh
        exact hh
      · -- 24 goes on
        refine e_iinc (ls' := [_, _, _]) dX10_parts_27 rfl (i_inc1 _) (by decide) rfl ?_
        refine e_iinc (ls' := [_, _, _]) dX10_parts_30 rfl (nI_i1 _) (by decide) rfl ?_
        refine e_goto (tgt := 4) dX10_parts_33 (by decide) ?_
        have hh := ih (i + 1) (by omega) (by omega)
        rw [cntI_t (decide_eq_true c24)] at hh
        exact hh
set_option maxHeartbeats 4000000 in
set_option maxRecDepth 20000 in
theorem c_parts {G : Gt} {M : Mm} {E : Gs} {y y' w w' p : Nat} (hX : XJ M E y y' w w' p) : Call G 4 mX10_parts [.ref 0] M (eqQ (some (.int (partsQ E))) M) := by
  obtain ⟨⟨hld, hsl, hy, hy', hyy⟩, ⟨hpl, hsp, hw, hw', hww⟩, hY, hW, hS, hV, hK, ⟨hpt, hp16, hun, hu16, hU⟩, ⟨htl, htl2, htc⟩⟩ := id hX
  have h6 := hY.1.2
  have hs5 := hY.2.1.2
  refine Call.intro rfl (Nat.le_of_ble_eq_true rfl) ?_
  show Ev G _ mX10_parts 0 [.ref 0, RA, RA] [] M _
  refine e_iconst (v := 0) dX10_parts_0 (by decide) ?_
  refine e_istore_n (ls' := [_, _, _]) dX10_parts_1 (by decide) rfl ?_
  refine e_iconst (v := 0) dX10_parts_2 (by decide) ?_
  refine e_istore_n (ls' := [_, _, _]) dX10_parts_3 (by decide) rfl ?_
  exact l_parts hX (E.Y.n + 1) 0 (by omega) (by omega)
set_option maxHeartbeats 4000000 in
set_option maxRecDepth 20000 in
theorem l_ahh {G : Gt} {M : Mm} {E : Gs} {y y' w w' p : Nat} (hX : XJ M E y y' w w' p) {S : Sv} (hT : SX M 51 E.Y.n S) : ∀ (k : Nat) (i : Nat) , (i ≤ E.Y.n) → (E.Y.n < i + k) → (∀ j, j < i → (fun j => decide (reachV E.Y j &&& (S.hear j ^^^ -1) = 0)) j = true) → Ev G 4 mX10_allHaveHeard 2 [.ref 0, .int (nI i)] [] M (eqQ (some (.int (b2i (newsV E.Y S = true)))) M) := by
  intro k
  induction k with
  | zero => intro i hi hk ha; exact absurd hk (by omega)
  | succ k ih =>
    intro i hi hk ha
    obtain ⟨⟨hld, hsl, hy, hy', hyy⟩, ⟨hpl, hsp, hw, hw', hww⟩, hY, hW, hS, hV, hK, ⟨hpt, hp16, hun, hu16, hU⟩, ⟨htl, htl2, htc⟩⟩ := id hX
    have h6 := hY.1.2
    have hs5 := hY.2.1.2
    refine e_iload_n dX10_allHaveHeard_2 rfl ?_
    refine e_aload_n dX10_allHaveHeard_3 rfl ?_
    refine e_getP dX10_allHaveHeard_4 fl_X10_19 sh_x rfl ?_
    first | rw [hld] | (simp only [setI_2, setI_22, setL_22]; rw [hld])
    refine e_getI dX10_allHaveHeard_7 fl_X10_74 (sh_yd (by first | assumption | decide)) rfl ?_
    refine e_icmp_ge (tgt := 43) dX10_allHaveHeard_10 (by decide) (fun c10 => ?_) (fun c10 => ?_)
    · -- 10 jumps
      rw [hY.1.1] at c10
      have hin : i = E.Y.n := by have := ge_of (by omega) (by omega) c10; omega
      subst hin
      refine e_iconst (v := 1) dX10_allHaveHeard_43 (by decide) ?_
      refine e_zret dX10_allHaveHeard_44 rfl rfl ?_
      exact ⟨by rw [b2i_t (by unfold newsV; rw [allN_iff]; exact ha)], rfl⟩
    · -- 10 goes on
      rw [hY.1.1] at c10
      have hlt : i < E.Y.n := lt_of (by omega) (by omega) c10
      refine e_aload_n dX10_allHaveHeard_13 rfl ?_
      refine e_iload_n dX10_allHaveHeard_14 rfl ?_
      refine cV1r dX10_allHaveHeard_15 mo_X10_reachOf ml_X10_313 sh_x rfl (Nat.le_of_ble_eq_true rfl) (by omega) (c_reachOf (by assumption)) ?_
      refine e_aload_n dX10_allHaveHeard_18 rfl ?_
      refine e_getR dX10_allHaveHeard_19 fl_X10_43 sh_x rfl ?_
      refine e_getR dX10_allHaveHeard_22 fl_X10_316 (sh_st (by first | assumption | decide)) rfl ?_
      refine e_iload_n dX10_allHaveHeard_25 rfl ?_
      refine cS2r dX10_allHaveHeard_26 mo_X10_at ml_X10_137 (Nat.le_of_ble_eq_true rfl) (by omega) (c_atN (sa_st_heard (by first | assumption | decide)) (by decide) (by first | omega | decide)) ?_
      rw [(hT.2.2.2 i hlt).2.2.2]
      refine e_iconst (v := (-1)) dX10_allHaveHeard_29 (by decide) ?_
      refine e_ixor dX10_allHaveHeard_30 ?_
      refine e_iand dX10_allHaveHeard_31 ?_
      refine e_if_eq (tgt := 37) dX10_allHaveHeard_32 (by decide) (fun c32 => ?_) (fun c32 => ?_)
      · -- 32 jumps
        refine e_iinc (ls' := [_, _]) dX10_allHaveHeard_37 rfl (nI_i1 _) (by decide) rfl ?_
        refine e_goto (tgt := 2) dX10_allHaveHeard_40 (by decide) ?_
        exact ih (i + 1) (by omega) (by omega) (lt_s ha (decide_eq_true c32))
      · -- 32 goes on
        refine e_iconst (v := 0) dX10_allHaveHeard_35 (by decide) ?_
        refine e_zret dX10_allHaveHeard_36 rfl rfl ?_
        exact ⟨by rw [b2i_f (by unfold newsV; rw [allN_iff]; exact allN_f hlt (decide_eq_false c32))], rfl⟩
set_option maxHeartbeats 4000000 in
set_option maxRecDepth 20000 in
theorem c_ahh {G : Gt} {M : Mm} {E : Gs} {y y' w w' p : Nat} (hX : XJ M E y y' w w' p) {S : Sv} (hT : SX M 51 E.Y.n S) : Call G 4 mX10_allHaveHeard [.ref 0] M (eqQ (some (.int (b2i (newsV E.Y S = true)))) M) := by
  obtain ⟨⟨hld, hsl, hy, hy', hyy⟩, ⟨hpl, hsp, hw, hw', hww⟩, hY, hW, hS, hV, hK, ⟨hpt, hp16, hun, hu16, hU⟩, ⟨htl, htl2, htc⟩⟩ := id hX
  have h6 := hY.1.2
  have hs5 := hY.2.1.2
  refine Call.intro rfl (Nat.le_of_ble_eq_true rfl) ?_
  show Ev G _ mX10_allHaveHeard 0 [.ref 0, RA] [] M _
  refine e_iconst (v := 0) dX10_allHaveHeard_0 (by decide) ?_
  refine e_istore_n (ls' := [_, _]) dX10_allHaveHeard_1 (by decide) rfl ?_
  exact l_ahh hX hT (E.Y.n + 1) 0 (by omega) (by omega) lt_0
set_option maxHeartbeats 4000000 in
set_option maxRecDepth 20000 in
theorem l_news {G : Gt} {M : Mm} {E : Gs} {y y' w w' p : Nat} (hX : XJ M E y y' w w' p) {T : Nat} (hI : SI E.Y E.S T) (hT : T < 2 ^ 30)  : ∀ (k : Nat) (i : Nat) (Mc : Mm), (i ≤ 61) → (61 < i + k) → (fstN (fun t => newsV E.Y (itN E.Y E.S t)) 0 61 = fstN (fun t => newsV E.Y (itN E.Y E.S t)) i (61 - i)) → (trI M Mc E.Y E.S i) → Ev G 6 mX10_news 6 [.ref 0, .int (nI i)] [] Mc (fun r M' => r = some (.int (oI (fstN (fun t => newsV E.Y (itN E.Y E.S t)) 0 61))) ∧ SC M M') := by
  intro k
  induction k with
  | zero => intro i Mc hi hk hr hv; exact absurd hk (by omega)
  | succ k ih =>
    intro i Mc hi hk hr hv
    obtain ⟨⟨hld, hsl, hy, hy', hyy⟩, ⟨hpl, hsp, hw, hw', hww⟩, hY, hW, hS, hV, hK, ⟨hpt, hp16, hun, hu16, hU⟩, ⟨htl, htl2, htc⟩⟩ := id (hv.1.keep hX)
    have h6 := hY.1.2
    have hs5 := hY.2.1.2
    refine e_iload_n dX10_news_6 rfl ?_
    refine e_bipush (v := 60) dX10_news_7 (by decide) ?_
    refine e_icmp_gt (tgt := 32) dX10_news_9 (by decide) (fun c9 => ?_) (fun c9 => ?_)
    · -- 9 jumps
      have hin : i = 61 := by have := lt_of (i := 60) (n := i) (by omega) (by omega) c9; omega
      subst hin
      refine e_iconst (v := (-1)) dX10_news_32 (by decide) ?_
      refine e_iret dX10_news_33 rfl ?_
      exact ⟨by rw [hr, fst_e]; rfl, hv.1⟩
    · -- 9 goes on
      have hlt : i < 61 := by have := ge_of (i := 60) (n := i) (by omega) (by omega) c9; omega
      refine e_aload_n dX10_news_12 rfl ?_
      refine cV0r dX10_news_13 mo_X10_allHaveHeard ml_X10_319 sh_x rfl (Nat.le_of_ble_eq_true rfl) (by omega) (c_ahh (hv.1.keep hX) hv.2.1) ?_
      refine e_if_eq (tgt := 21) dX10_news_16 (by decide) (fun c16 => ?_) (fun c16 => ?_)
      · -- 16 jumps
        have hP : newsV E.Y (itN E.Y E.S i) = false := Bool.eq_false_iff.mpr (b2i_eq0.mp c16)
        refine e_aload_n dX10_news_21 rfl ?_
        refine cV0x dX10_news_22 mo_X10_passTrial ml_X10_252 sh_x rfl (Nat.le_of_ble_eq_true rfl) (by omega) (c_passTrial (hv.1.keep hX) hv.2.1 (hI.it hY.1.2 i) (by omega)) ?_
        rintro r M1 ⟨rfl, h1, h2, h3⟩
        dsimp only [Option.toList, List.cons_append, List.nil_append]
        refine e_pop dX10_news_25 rfl ?_
        refine e_iinc (ls' := [_, _]) dX10_news_26 rfl (nI_i1 _) (by decide) rfl ?_
        refine e_goto (tgt := 6) dX10_news_29 (by decide) ?_
        exact ih (i + 1) M1 (by omega) (by omega) (hr.trans (fst_f hlt hP)) (hv.next h1 h2 h3)
      · -- 16 goes on
        have hP : newsV E.Y (itN E.Y E.S i) = true := Classical.not_not.mp (fun q => c16 (b2i_f q))
        refine e_iload_n dX10_news_19 rfl ?_
        refine e_iret dX10_news_20 rfl ?_
        exact ⟨by rw [hr, fst_t hlt hP]; rfl, hv.1⟩
set_option maxHeartbeats 4000000 in
set_option maxRecDepth 20000 in
theorem c_news {G : Gt} {M : Mm} {E : Gs} {y y' w w' p : Nat} (hX : XJ M E y y' w w' p) {T : Nat} (hI : SI E.Y E.S T) (hT : T < 2 ^ 30) : Call G 6 mX10_news [.ref 0] M (fun r M' => r = some (.int (newsQ E)) ∧ SC M M') := by
  obtain ⟨⟨hld, hsl, hy, hy', hyy⟩, ⟨hpl, hsp, hw, hw', hww⟩, hY, hW, hS, hV, hK, ⟨hpt, hp16, hun, hu16, hU⟩, ⟨htl, htl2, htc⟩⟩ := id hX
  have h6 := hY.1.2
  have hs5 := hY.2.1.2
  refine Call.intro rfl (Nat.le_of_ble_eq_true rfl) ?_
  show Ev G _ mX10_news 0 [.ref 0, RA] [] M _
  refine e_aload_n dX10_news_0 rfl ?_
  refine cV0x dX10_news_1 mo_X10_beginTrial ml_X10_249 sh_x rfl (Nat.le_of_ble_eq_true rfl) (by omega) (c_beginTrial hX) ?_
  rintro r M0 ⟨rfl, hsc0, hT0⟩
  dsimp only [Option.toList, List.cons_append, List.nil_append]
  have hv0 : trI M M0 E.Y E.S 0 := ⟨hsc0, hT0, fun h => absurd h (by omega)⟩
  refine e_iconst (v := 0) dX10_news_4 (by decide) ?_
  refine e_istore_n (ls' := [_, _]) dX10_news_5 (by decide) rfl ?_
  unfold newsQ
  exact l_news hX hI hT 62 0 M0 (by omega) (by omega) rfl hv0
set_option maxHeartbeats 4000000 in
set_option maxRecDepth 20000 in
theorem l_calm {G : Gt} {M : Mm} {E : Gs} {y y' w w' p : Nat} (hX : XJ M E y y' w w' p) {j c : Nat} (hj : j < E.Y.n) (hc : c ≤ 20) : ∀ (k : Nat) (i : Nat), (i ≤ c) → (c < i + k) → (fstN (fun l => decide (murV (E.S.high j) (nI c - nI l) < 60)) 0 c = fstN (fun l => decide (murV (E.S.high j) (nI c - nI l) < 60)) i (c - i)) → Ev G 3 mX10_calm 37 [.ref 0, .int (nI j), .int (nI c), .int (E.S.high j), .int (nI i)] [] M (eqQ (some (.int (match fstN (fun l => decide (murV (E.S.high j) (nI c - nI l) < 60)) 0 c with
    | none => nI c
    | some l => nI l))) M) := by
  intro k
  induction k with
  | zero => intro i hi hk hr; exact absurd hk (by omega)
  | succ k ih =>
    intro i hi hk hr
    obtain ⟨⟨hld, hsl, hy, hy', hyy⟩, ⟨hpl, hsp, hw, hw', hww⟩, hY, hW, hS, hV, hK, ⟨hpt, hp16, hun, hu16, hU⟩, ⟨htl, htl2, htc⟩⟩ := id hX
    have h6 := hY.1.2
    have hs5 := hY.2.1.2
    refine e_iload dX10_calm_37 rfl ?_
    refine e_iload_n dX10_calm_39 rfl ?_
    refine e_icmp_ge (tgt := 65) dX10_calm_40 (by decide) (fun c40 => ?_) (fun c40 => ?_)
    · -- 40 jumps
      have hin : i = c := by have := ge_of (by omega) (by omega) c40; omega
      subst hin
      refine e_iload_n dX10_calm_65 rfl ?_
      refine e_iret dX10_calm_66 rfl ?_
      exact ⟨by rw [hr, fst_e], rfl⟩
    · -- 40 goes on
      have hlt : i < c := lt_of (by omega) (by omega) c40
      refine e_iload_n dX10_calm_43 rfl ?_
      refine e_iload_n dX10_calm_44 rfl ?_
      refine e_iload dX10_calm_45 rfl ?_
      refine e_isub dX10_calm_47 ?_
      refine cS2r dX10_calm_48 mo_X3_murmurOf ml_X10_264 (Nat.le_of_ble_eq_true rfl) (by omega) (c_murmurOf) ?_
      refine e_bipush (v := 60) dX10_calm_51 (by decide) ?_
      refine e_icmp_ge (tgt := 59) dX10_calm_53 (by decide) (fun c53 => ?_) (fun c53 => ?_)
      · -- 53 jumps
        refine e_iinc (ls' := [_, _, _, _, _]) dX10_calm_59 rfl (nI_i1 _) (by decide) rfl ?_
        refine e_goto (tgt := 37) dX10_calm_62 (by decide) ?_
        exact ih (i + 1) (by omega) (by omega) (hr.trans (fst_f hlt (decide_eq_false c53)))
      · -- 53 goes on
        refine e_iload dX10_calm_56 rfl ?_
        refine e_iret dX10_calm_58 rfl ?_
        exact ⟨by rw [hr, fst_t hlt (decide_eq_true c53)], rfl⟩
set_option maxHeartbeats 4000000 in
set_option maxRecDepth 20000 in
theorem c_calm {G : Gt} {M : Mm} {E : Gs} {y y' w w' p : Nat} (hX : XJ M E y y' w w' p) {T : Nat} (hI : SI E.Y E.S T) {i : Int32} : Call G 3 mX10_calm [.ref 0, .int i] M (eqQ (some (.int (calmQ E i))) M) := by
  obtain ⟨⟨hld, hsl, hy, hy', hyy⟩, ⟨hpl, hsp, hw, hw', hww⟩, hY, hW, hS, hV, hK, ⟨hpt, hp16, hun, hu16, hU⟩, ⟨htl, htl2, htc⟩⟩ := id hX
  have h6 := hY.1.2
  have hs5 := hY.2.1.2
  refine Call.intro rfl (Nat.le_of_ble_eq_true rfl) ?_
  show Ev G _ mX10_calm 0 [.ref 0, .int i, RA, RA, RA] [] M _
  refine e_aload_n dX10_calm_0 rfl ?_
  refine e_iload_n dX10_calm_1 rfl ?_
  refine cV1r dX10_calm_2 mo_X10_isShed ml_X10_130 sh_x rfl (Nat.le_of_ble_eq_true rfl) (by omega) (c_isShed (by assumption)) ?_
  refine e_if_ne (tgt := 10) dX10_calm_5 (by decide) (fun c5 => ?_) (fun c5 => ?_)
  · -- 5 jumps
    have hsh5 : ¬ i < 0 ∧ i < nI E.Y.n := by
      by_cases h : (¬ i < 0 ∧ i < nI E.Y.n)
      · exact h
      · exact absurd (b2i_f h) c5
    obtain ⟨j, hj, rfl⟩ := shed_of (by omega) hsh5
    obtain ⟨r0, hr0, hr6, hs0, -⟩ := hI
    obtain ⟨c, q, hc, hc2, -⟩ := hs0 j hj
    refine e_aload_n dX10_calm_10 rfl ?_
    refine e_getR dX10_calm_11 fl_X10_39 sh_x rfl ?_
    refine e_getR dX10_calm_14 fl_X10_144 (sh_st (by first | assumption | decide)) rfl ?_
    refine e_iload_n dX10_calm_17 rfl ?_
    refine cS2r dX10_calm_18 mo_X10_at ml_X10_137 (Nat.le_of_ble_eq_true rfl) (by omega) (c_atN (sa_st_crowns (by first | assumption | decide)) (by decide) (by first | omega | decide)) ?_
    rw [(hS.2.2.2 j hj).2.1, hc]
    refine e_istore_n (ls' := [_, _, _, _, _]) dX10_calm_21 (by decide) rfl ?_
    refine e_aload_n dX10_calm_22 rfl ?_
    refine e_getR dX10_calm_23 fl_X10_39 sh_x rfl ?_
    refine e_getR dX10_calm_26 fl_X10_147 (sh_st (by first | assumption | decide)) rfl ?_
    refine e_iload_n dX10_calm_29 rfl ?_
    refine cS2r dX10_calm_30 mo_X10_at ml_X10_137 (Nat.le_of_ble_eq_true rfl) (by omega) (c_atN (sa_st_heights (by first | assumption | decide)) (by decide) (by first | omega | decide)) ?_
    rw [(hS.2.2.2 j hj).2.2.1]
    refine e_istore_n (ls' := [_, _, _, _, _]) dX10_calm_33 (by decide) rfl ?_
    refine e_iconst (v := 0) dX10_calm_34 (by decide) ?_
    refine e_istore (ls' := [_, _, _, _, _]) dX10_calm_35 (by decide) rfl ?_
    unfold calmQ
    rw [if_pos hsh5, nI_clamp (by omega), hc, nI_clamp (by omega)]
    exact l_calm hX hj hc2 (c + 1) 0 (by omega) (by omega) rfl
  · -- 5 goes on
    refine e_iconst (v := (-1)) dX10_calm_8 (by decide) ?_
    refine e_iret dX10_calm_9 rfl ?_
    exact ⟨by unfold calmQ; rw [if_neg (b2i_eq0.mp c5)], rfl⟩
end XNR
