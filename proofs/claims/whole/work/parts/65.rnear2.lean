section RNF
theorem oI_neg {o : Option Nat} {k : Nat} (hk : k < 2 ^ 31) (h : ∀ b, o = some b → b < k) : oI o < 0 ↔ o = none := by
  cases o with
  | none => exact ⟨fun _ => rfl, fun _ => by decide⟩
  | some b =>
    have hb := h b rfl
    constructor
    · intro q
      have q2 : nI b < nI 0 := q
      exact absurd ((nI_ltI (by omega) (by omega)).mp q2) (by omega)
    · intro q; cases q
theorem mur_nat {h c : Nat} (hh : h ≤ 60) (hc : c ≤ 20) : murV (nI h) (nI c) = nI (h * c / 10) := by
  have hm : h * c ≤ 60 * 20 := Nat.mul_le_mul hh hc
  have hd : h * c / 10 ≤ 120 := by omega
  unfold murV
  rw [pk_mul, show nI (h * c) / 10 = nI (h * c / 10) from pk_div (d := 10) (by omega) (by omega) (by omega), show (999 : Int32) = nI 999 from rfl, mn_nat (by omega) (by omega), Nat.min_eq_right (by omega)]
set_option maxHeartbeats 4000000 in
set_option maxRecDepth 20000 in
theorem l_rro2 {G : Gt} {M : Mm} {Y : Yv} (hY : RY M Y) {Q : Option Value → Mm → Prop} {j m : Nat} {x : Int32} (hK : ∀ (u : Value), Ev G 1 mX11_reachOf 56 [.ref 238, .int (nI j), .int (sqI Y x Y.n), .int (nI m), u] [] M Q) : ∀ (k : Nat) (o : Nat), (o ≤ Y.n) → (Y.n < o + k) → Ev G 1 mX11_reachOf 15 [.ref 238, .int (nI j), .int (sqI Y x o), .int (nI m), .int (nI o)] [] M (Q) := by
  intro k
  induction k with
  | zero => intro o ho hk; exact absurd hk (by omega)
  | succ k ih =>
    intro o ho hk
    have h6 := hY.1.2
    refine e_iload dX11_reachOf_15 rfl ?_
    refine e_aload_n dX11_reachOf_17 rfl ?_
    refine e_getR dX11_reachOf_18 fl_X11_13 sh_m rfl ?_
    refine e_iconst (v := 0) dX11_reachOf_21 (by decide) ?_
    refine e_ialdN (j := 0) dX11_reachOf_22 (sa_m_yard) (by decide) (by omega) ?_
    rw [hY.1.1]
    refine e_icmp_ge (tgt := 56) dX11_reachOf_23 (by decide) (fun c23 => ?_) (fun c23 => ?_)
    · -- 23 jumps
      have hin : o = Y.n := by have := ge_of (i := o) (n := Y.n) (by omega) (by omega) c23; omega
      subst hin
      exact hK _
    · -- 23 goes on
      have hlt : o < Y.n := lt_of (i := o) (n := Y.n) (by omega) (by omega) c23
      refine e_iload_n dX11_reachOf_26 rfl ?_
      refine e_iload_n dX11_reachOf_27 rfl ?_
      refine e_iload dX11_reachOf_28 rfl ?_
      refine e_ishr dX11_reachOf_30 ?_
      refine e_iconst (v := 1) dX11_reachOf_31 (by decide) ?_
      refine e_iand dX11_reachOf_32 ?_
      refine e_iconst (v := 1) dX11_reachOf_33 (by decide) ?_
      refine e_icmp_ne (tgt := 47) dX11_reachOf_34 (by decide) (fun c34 => ?_) (fun c34 => ?_)
      · -- 34 jumps
        refine e_iconst (v := 0) dX11_reachOf_47 (by decide) ?_
        refine e_ior dX11_reachOf_48 ?_
        refine e_istore_n (ls' := [_, _, _, _, _]) dX11_reachOf_49 (by decide) rfl ?_
        refine e_iinc (ls' := [_, _, _, _, _]) dX11_reachOf_50 rfl (nI_i1 _) (by decide) rfl ?_
        refine e_goto (tgt := 15) dX11_reachOf_53 (by decide) ?_
        have hh := ih (o + 1) (by omega) (by omega)
        rw [sqI, if_neg (by rw [decide_eq_false c34]; decide)] at hh
        rw [Int32.or_zero]
        exact hh
      · -- 34 goes on
        refine e_aload_n dX11_reachOf_37 rfl ?_
        refine e_getR dX11_reachOf_38 fl_X11_32 sh_m rfl ?_
        refine e_iload dX11_reachOf_41 rfl ?_
        refine e_ialdN (j := o) dX11_reachOf_43 (sa_m_near) (by decide) (by omega) ?_
        rw [(hY.2.2.2.2.1 o hlt).2.2.2.1]
        refine e_goto (tgt := 48) dX11_reachOf_44 (by decide) ?_
        refine e_ior dX11_reachOf_48 ?_
        refine e_istore_n (ls' := [_, _, _, _, _]) dX11_reachOf_49 (by decide) rfl ?_
        refine e_iinc (ls' := [_, _, _, _, _]) dX11_reachOf_50 rfl (nI_i1 _) (by decide) rfl ?_
        refine e_goto (tgt := 15) dX11_reachOf_53 (by decide) ?_
        have hh := ih (o + 1) (by omega) (by omega)
        rw [sqI, if_pos (decide_eq_true c34)] at hh
        exact hh
set_option maxHeartbeats 4000000 in
set_option maxRecDepth 20000 in
theorem l_rro1 {G : Gt} {M : Mm} {Y : Yv} (hY : RY M Y) {j : Nat} : ∀ (k : Nat) (i : Nat) (u : Value), (i ≤ 6) → (6 < i + k) → Ev G 1 mX11_reachOf 6 [.ref 238, .int (nI j), .int (sqIR Y (b1 (nI j)) i), .int (nI i), u] [] M (eqQ (some (.int (sqIR Y (b1 (nI j)) 6))) M) := by
  intro k
  induction k with
  | zero => intro i u hi hk; exact absurd hk (by omega)
  | succ k ih =>
    intro i u hi hk
    refine e_iload_n dX11_reachOf_6 rfl ?_
    refine e_bipush (v := 6) dX11_reachOf_7 (by decide) ?_
    refine e_icmp_ge (tgt := 62) dX11_reachOf_9 (by decide) (fun c9 => ?_) (fun c9 => ?_)
    · -- 9 jumps
      have hin : i = 6 := by have := ge_of (i := i) (n := 6) (by omega) (by omega) c9; omega
      subst hin
      refine e_iload_n dX11_reachOf_62 rfl ?_
      refine e_iret dX11_reachOf_63 rfl ?_
      exact ⟨rfl, rfl⟩
    · -- 9 goes on
      have hlt : i < 6 := lt_of (i := i) (n := 6) (by omega) (by omega) c9
      refine e_iconst (v := 0) dX11_reachOf_12 (by decide) ?_
      refine e_istore (ls' := [_, _, _, _, _]) dX11_reachOf_13 (by decide) rfl ?_
      refine l_rro2 hY (fun u2 => ?_) (Y.n + 1) 0 (by omega) (by omega)
      refine e_iinc (ls' := [_, _, _, _, _]) dX11_reachOf_56 rfl (nI_i1 _) (by decide) rfl ?_
      refine e_goto (tgt := 6) dX11_reachOf_59 (by decide) ?_
      exact ih (i + 1) u2 (by omega) (by omega)
set_option maxHeartbeats 4000000 in
set_option maxRecDepth 20000 in
theorem r_reachOf {G : Gt} {M : Mm} {Y : Yv} {j : Nat} (hY : RY M Y) (hB : NB Y) (hj : j < Y.n) : Call G 1 mX11_reachOf [.ref 238, .int (nI j)] M (eqQ (some (.int (reachV Y j))) M) := by
  have h6 := hY.1.2
  refine Call.intro rfl (Nat.le_of_ble_eq_true rfl) ?_
  show Ev G _ mX11_reachOf 0 [.ref 238, .int (nI j), RA, RA, RA] [] M _
  refine e_iconst (v := 1) dX11_reachOf_0 (by decide) ?_
  refine e_iload_n dX11_reachOf_1 rfl ?_
  refine e_ishl dX11_reachOf_2 ?_
  refine e_istore_n (ls' := [_, _, _, _, _]) dX11_reachOf_3 (by decide) rfl ?_
  refine e_iconst (v := 0) dX11_reachOf_4 (by decide) ?_
  refine e_istore_n (ls' := [_, _, _, _, _]) dX11_reachOf_5 (by decide) rfl ?_
  rw [← sqIR_reach hB h6 hj]
  exact l_rro1 hY 7 0 _ (by omega) (by omega)
set_option maxHeartbeats 4000000 in
set_option maxRecDepth 20000 in
theorem r_reach {G : Gt} {M : Mm} {E : Gs} (hJ : RJ M E) (hB : NB E.Y) {i : Int32} : Call G 2 mX11_reach [.ref 238, .int i] M (fun r M' => r = some (.int (reachQ E i)) ∧ RC M M') := by
  refine Call.intro rfl (Nat.le_of_ble_eq_true rfl) ?_
  show Ev G _ mX11_reach 0 [.ref 238, .int i] [] M _
  refine e_aload_n dX11_reach_0 rfl ?_
  refine e_iconst (v := 0) dX11_reach_1 (by decide) ?_
  refine e_putI dX11_reach_2 fl_X11_153 sh_m rfl rfl rfl ?_
  refine th0 (fun M1 hC1 => ?_)
  have hJ := hC1.keep hJ
  have hY := hJ.1
  have h6 := hY.1.2
  have hs5 := hY.2.1.2
  have hL := hJ.2.1
  have hS := hJ.2.2.1
  refine e_aload_n dX11_reach_5 rfl ?_
  refine e_iload_n dX11_reach_6 rfl ?_
  refine cV1r dX11_reach_7 mo_X11_isShed ml_X11_397 sh_m rfl (Nat.le_of_ble_eq_true rfl) (by omega) (r_isShed (by assumption)) ?_
  refine e_if_eq (tgt := 21) dX11_reach_10 (by decide) (fun c10 => ?_) (fun c10 => ?_)
  · -- 10 jumps
    refine e_iconst (v := (-1)) dX11_reach_21 (by decide) ?_
    refine e_iret dX11_reach_22 rfl ?_
    exact ⟨by unfold reachQ; rw [if_neg (b2i_eq0.mp c10)], hC1⟩
  · -- 10 goes on
    have hsh10 : ¬ i < 0 ∧ i < nI E.Y.n := by
      by_cases h : (¬ i < 0 ∧ i < nI E.Y.n)
      · exact h
      · exact absurd (b2i_f h) c10
    obtain ⟨j, hj, rfl⟩ := shed_of (by omega) hsh10
    refine e_aload_n dX11_reach_13 rfl ?_
    refine e_iload_n dX11_reach_14 rfl ?_
    refine cV1r dX11_reach_15 mo_X11_reachOf ml_X11_450 sh_m rfl (Nat.le_of_ble_eq_true rfl) (by omega) (r_reachOf hY hB hj) ?_
    refine e_goto (tgt := 22) dX11_reach_18 (by decide) ?_
    refine e_iret dX11_reach_22 rfl ?_
    exact ⟨by unfold reachQ; rw [if_pos hsh10, nI_clamp (by omega)], hC1⟩
set_option maxHeartbeats 4000000 in
set_option maxRecDepth 20000 in
theorem l_rfar2 {G : Gt} {M : Mm} {Y : Yv} (hY : RY M Y) {Q : Option Value → Mm → Prop} {a b : Value} {m : Nat} {x : Int32} (hK : ∀ (u : Value), Ev G 2 mX11_far 98 [.ref 238, a, b, .int x, .int (nI m), .int (nearV Y x), u] [] M Q) : ∀ (k : Nat) (o : Nat), (o ≤ Y.n) → (Y.n < o + k) → Ev G 2 mX11_far 55 [.ref 238, a, b, .int x, .int (nI m), .int (orF (fun i => decide (bitI x (nI i))) Y.near x o), .int (nI o)] [] M (Q) := by
  intro k
  induction k with
  | zero => intro o ho hk; exact absurd hk (by omega)
  | succ k ih =>
    intro o ho hk
    have h6 := hY.1.2
    refine e_iload dX11_far_55 rfl ?_
    refine e_aload_n dX11_far_57 rfl ?_
    refine e_getR dX11_far_58 fl_X11_13 sh_m rfl ?_
    refine e_iconst (v := 0) dX11_far_61 (by decide) ?_
    refine e_ialdN (j := 0) dX11_far_62 (sa_m_yard) (by decide) (by omega) ?_
    rw [hY.1.1]
    refine e_icmp_ge (tgt := 98) dX11_far_63 (by decide) (fun c63 => ?_) (fun c63 => ?_)
    · -- 63 jumps
      have hin : o = Y.n := by have := ge_of (i := o) (n := Y.n) (by omega) (by omega) c63; omega
      subst hin
      exact hK _
    · -- 63 goes on
      have hlt : o < Y.n := lt_of (i := o) (n := Y.n) (by omega) (by omega) c63
      refine e_iload dX11_far_66 rfl ?_
      refine e_iload_n dX11_far_68 rfl ?_
      refine e_iload dX11_far_69 rfl ?_
      refine e_ishr dX11_far_71 ?_
      refine e_iconst (v := 1) dX11_far_72 (by decide) ?_
      refine e_iand dX11_far_73 ?_
      refine e_iconst (v := 1) dX11_far_74 (by decide) ?_
      refine e_icmp_ne (tgt := 88) dX11_far_75 (by decide) (fun c75 => ?_) (fun c75 => ?_)
      · -- 75 jumps
        refine e_iconst (v := 0) dX11_far_88 (by decide) ?_
        refine e_ior dX11_far_89 ?_
        refine e_istore (ls' := [_, _, _, _, _, _, _]) dX11_far_90 (by decide) rfl ?_
        refine e_iinc (ls' := [_, _, _, _, _, _, _]) dX11_far_92 rfl (nI_i1 _) (by decide) rfl ?_
        refine e_goto (tgt := 55) dX11_far_95 (by decide) ?_
        have hh := ih (o + 1) (by omega) (by omega)
        rw [orF_f (decide_eq_false c75)] at hh
        rw [Int32.or_zero]
        exact hh
      · -- 75 goes on
        refine e_aload_n dX11_far_78 rfl ?_
        refine e_getR dX11_far_79 fl_X11_32 sh_m rfl ?_
        refine e_iload dX11_far_82 rfl ?_
        refine e_ialdN (j := o) dX11_far_84 (sa_m_near) (by decide) (by omega) ?_
        rw [(hY.2.2.2.2.1 o hlt).2.2.2.1]
        refine e_goto (tgt := 89) dX11_far_85 (by decide) ?_
        refine e_ior dX11_far_89 ?_
        refine e_istore (ls' := [_, _, _, _, _, _, _]) dX11_far_90 (by decide) rfl ?_
        refine e_iinc (ls' := [_, _, _, _, _, _, _]) dX11_far_92 rfl (nI_i1 _) (by decide) rfl ?_
        refine e_goto (tgt := 55) dX11_far_95 (by decide) ?_
        have hh := ih (o + 1) (by omega) (by omega)
        rw [orF_t (decide_eq_true c75)] at hh
        exact hh
set_option maxHeartbeats 4000000 in
set_option maxRecDepth 20000 in
theorem l_rfar1 {G : Gt} {M : Mm} {Y : Yv} (hY : RY M Y) {a b q : Int32} : ∀ (k : Nat) (i : Nat) (u v : Value), (i ≤ 6) → (6 < i + k) → (fstN (fun t => decide (bitI (nearN Y b t) q)) 0 6 = fstN (fun t => decide (bitI (nearN Y b t) q)) i (6 - i)) → Ev G 2 mX11_far 30 [.ref 238, .int a, .int q, .int (nearN Y b i), .int (nI i), u, v] [] M (eqQ (some (.int (oI (fstN (fun t => decide (bitI (nearN Y b t) q)) 0 6)))) M) := by
  intro k
  induction k with
  | zero => intro i u v hi hk hr; exact absurd hk (by omega)
  | succ k ih =>
    intro i u v hi hk hr
    refine e_iload dX11_far_30 rfl ?_
    refine e_bipush (v := 6) dX11_far_32 (by decide) ?_
    refine e_icmp_ge (tgt := 107) dX11_far_34 (by decide) (fun c34 => ?_) (fun c34 => ?_)
    · -- 34 jumps
      have hin : i = 6 := by have := ge_of (i := i) (n := 6) (by omega) (by omega) c34; omega
      subst hin
      refine e_iconst (v := (-1)) dX11_far_107 (by decide) ?_
      refine e_iret dX11_far_108 rfl ?_
      exact ⟨by rw [hr, fst_e]; rfl, rfl⟩
    · -- 34 goes on
      have hlt : i < 6 := lt_of (i := i) (n := 6) (by omega) (by omega) c34
      refine e_iload_n dX11_far_37 rfl ?_
      refine e_iload_n dX11_far_38 rfl ?_
      refine e_ishr dX11_far_39 ?_
      refine e_iconst (v := 1) dX11_far_40 (by decide) ?_
      refine e_iand dX11_far_41 ?_
      refine e_iconst (v := 1) dX11_far_42 (by decide) ?_
      refine e_icmp_ne (tgt := 49) dX11_far_43 (by decide) (fun c43 => ?_) (fun c43 => ?_)
      · -- 43 jumps
        refine e_iload_n dX11_far_49 rfl ?_
        refine e_istore (ls' := [_, _, _, _, _, _, _]) dX11_far_50 (by decide) rfl ?_
        refine e_iconst (v := 0) dX11_far_52 (by decide) ?_
        refine e_istore (ls' := [_, _, _, _, _, _, _]) dX11_far_53 (by decide) rfl ?_
        refine l_rfar2 hY (fun u2 => ?_) (Y.n + 1) 0 (by omega) (by omega)
        refine e_iload dX11_far_98 rfl ?_
        refine e_istore_n (ls' := [_, _, _, _, _, _, _]) dX11_far_100 (by decide) rfl ?_
        refine e_iinc (ls' := [_, _, _, _, _, _, _]) dX11_far_101 rfl (nI_i1 _) (by decide) rfl ?_
        refine e_goto (tgt := 30) dX11_far_104 (by decide) ?_
        exact ih (i + 1) _ u2 (by omega) (by omega) (hr.trans (fst_f hlt (decide_eq_false c43)))
      · -- 43 goes on
        refine e_iload dX11_far_46 rfl ?_
        refine e_iret dX11_far_48 rfl ?_
        exact ⟨by rw [hr, fst_t hlt (decide_eq_true c43)]; rfl, rfl⟩
set_option maxHeartbeats 4000000 in
set_option maxRecDepth 20000 in
theorem r_far {G : Gt} {M : Mm} {E : Gs} (hJ : RJ M E) {i q : Int32} : Call G 2 mX11_far [.ref 238, .int i, .int q] M (fun r M' => r = some (.int (farQ E i q)) ∧ RC M M') := by
  refine Call.intro rfl (Nat.le_of_ble_eq_true rfl) ?_
  show Ev G _ mX11_far 0 [.ref 238, .int i, .int q, RA, RA, RA, RA] [] M _
  refine e_aload_n dX11_far_0 rfl ?_
  refine e_iconst (v := 0) dX11_far_1 (by decide) ?_
  refine e_putI dX11_far_2 fl_X11_153 sh_m rfl rfl rfl ?_
  refine th0 (fun M1 hC1 => ?_)
  have hJ := hC1.keep hJ
  have hY := hJ.1
  have h6 := hY.1.2
  have hs5 := hY.2.1.2
  have hL := hJ.2.1
  have hS := hJ.2.2.1
  refine e_aload_n dX11_far_5 rfl ?_
  refine e_iload_n dX11_far_6 rfl ?_
  refine cV1r dX11_far_7 mo_X11_isShed ml_X11_397 sh_m rfl (Nat.le_of_ble_eq_true rfl) (by omega) (r_isShed (by assumption)) ?_
  refine e_if_eq (tgt := 21) dX11_far_10 (by decide) (fun c10 => ?_) (fun c10 => ?_)
  · -- 10 jumps
    refine e_iconst (v := (-1)) dX11_far_21 (by decide) ?_
    refine e_iret dX11_far_22 rfl ?_
    exact ⟨by unfold farQ; rw [if_neg (fun q => absurd q.1 (b2i_eq0.mp c10))], hC1⟩
  · -- 10 goes on
    have c10 : vSh E i := by
      by_cases h : (vSh E i)
      · exact h
      · exact absurd (b2i_f h) c10
    have hsh := c10
    refine e_aload_n dX11_far_13 rfl ?_
    refine e_iload_n dX11_far_14 rfl ?_
    refine cV1r dX11_far_15 mo_X11_isShed ml_X11_397 sh_m rfl (Nat.le_of_ble_eq_true rfl) (by omega) (r_isShed (by assumption)) ?_
    refine e_if_ne (tgt := 23) dX11_far_18 (by decide) (fun c18 => ?_) (fun c18 => ?_)
    · -- 18 jumps
      have c18 : vSh E q := by
        by_cases h : (vSh E q)
        · exact h
        · exact absurd (b2i_f h) c18
      refine e_iconst (v := 1) dX11_far_23 (by decide) ?_
      refine e_iload_n dX11_far_24 rfl ?_
      refine e_ishl dX11_far_25 ?_
      refine e_istore_n (ls' := [_, _, _, _, _, _, _]) dX11_far_26 (by decide) rfl ?_
      refine e_iconst (v := 0) dX11_far_27 (by decide) ?_
      refine e_istore (ls' := [_, _, _, _, _, _, _]) dX11_far_28 (by decide) rfl ?_
      unfold farQ
      rw [if_pos ⟨hsh, c18⟩]
      exact (l_rfar1 hY 7 0 _ _ (by omega) (by omega) rfl).weaken (fun r M2 h => ⟨h.1, by rw [h.2]; exact hC1⟩)
    · -- 18 goes on
      refine e_iconst (v := (-1)) dX11_far_21 (by decide) ?_
      refine e_iret dX11_far_22 rfl ?_
      exact ⟨by unfold farQ; rw [if_neg (fun q => absurd q.2 (b2i_eq0.mp c18))], hC1⟩
set_option maxHeartbeats 4000000 in
set_option maxRecDepth 20000 in
theorem l_rparts {G : Gt} {M : Mm} {Y : Yv} (hY : RY M Y) (hB : NB Y) : ∀ (k : Nat) (i : Nat) , (i ≤ Y.n) → (Y.n < i + k) → Ev G 2 mX11_parts 9 [.ref 238, .int (cntI (fun j => decide (lowV (reachV Y j) = nI j)) i), .int (nI i)] [] M (eqQ (some (.int (cntI (fun j => decide (lowV (reachV Y j) = nI j)) Y.n))) M) := by
  intro k
  induction k with
  | zero => intro i hi hk; exact absurd hk (by omega)
  | succ k ih =>
    intro i hi hk
    have h6 := hY.1.2
    refine e_iload_n dX11_parts_9 rfl ?_
    refine e_aload_n dX11_parts_10 rfl ?_
    refine e_getR dX11_parts_11 fl_X11_13 sh_m rfl ?_
    refine e_iconst (v := 0) dX11_parts_14 (by decide) ?_
    refine e_ialdN (j := 0) dX11_parts_15 (sa_m_yard) (by decide) (by omega) ?_
    rw [hY.1.1]
    refine e_icmp_ge (tgt := 45) dX11_parts_16 (by decide) (fun c16 => ?_) (fun c16 => ?_)
    · -- 16 jumps
      have hin : i = Y.n := by have := ge_of (n := Y.n) (by omega) (by omega) c16; omega
      subst hin
      refine e_iload_n dX11_parts_45 rfl ?_
      refine e_iret dX11_parts_46 rfl ?_
      exact ⟨rfl, rfl⟩
    · -- 16 goes on
      have hlt : i < Y.n := lt_of (n := Y.n) (by omega) (by omega) c16
      refine e_iload_n dX11_parts_19 rfl ?_
      refine e_aload_n dX11_parts_20 rfl ?_
      refine e_iload_n dX11_parts_21 rfl ?_
      refine cV1r dX11_parts_22 mo_X11_reachOf ml_X11_450 sh_m rfl (Nat.le_of_ble_eq_true rfl) (by omega) (r_reachOf hY hB hlt) ?_
      refine cS1r dX11_parts_25 mo_X11_lowest ml_X11_428 (Nat.le_of_ble_eq_true rfl) (by omega) (r_lowest) ?_
      refine e_iload_n dX11_parts_28 rfl ?_
      refine e_icmp_ne (tgt := 36) dX11_parts_29 (by decide) (fun c29 => ?_) (fun c29 => ?_)
      · -- 29 jumps
        refine e_iconst (v := 0) dX11_parts_36 (by decide) ?_
        refine e_iadd dX11_parts_37 ?_
        refine e_istore_n (ls' := [_, _, _]) dX11_parts_38 (by decide) rfl ?_
        refine e_iinc (ls' := [_, _, _]) dX11_parts_39 rfl (nI_i1 _) (by decide) rfl ?_
        refine e_goto (tgt := 9) dX11_parts_42 (by decide) ?_
        have hh := ih (i + 1) (by omega) (by omega)
        rw [cntI_f (decide_eq_false c29)] at hh
        rw [Int32.add_zero]
        exact hh
      · -- 29 goes on
        refine e_iconst (v := 1) dX11_parts_32 (by decide) ?_
        refine e_goto (tgt := 37) dX11_parts_33 (by decide) ?_
        refine e_iadd dX11_parts_37 ?_
        refine e_istore_n (ls' := [_, _, _]) dX11_parts_38 (by decide) rfl ?_
        refine e_iinc (ls' := [_, _, _]) dX11_parts_39 rfl (nI_i1 _) (by decide) rfl ?_
        refine e_goto (tgt := 9) dX11_parts_42 (by decide) ?_
        have hh := ih (i + 1) (by omega) (by omega)
        rw [cntI_t (decide_eq_true c29)] at hh
        exact hh
set_option maxHeartbeats 4000000 in
set_option maxRecDepth 20000 in
theorem r_parts {G : Gt} {M : Mm} {E : Gs} (hJ : RJ M E) (hB : NB E.Y) : Call G 2 mX11_parts [.ref 238] M (fun r M' => r = some (.int (partsQ E)) ∧ RC M M') := by
  refine Call.intro rfl (Nat.le_of_ble_eq_true rfl) ?_
  show Ev G _ mX11_parts 0 [.ref 238, RA, RA] [] M _
  refine e_aload_n dX11_parts_0 rfl ?_
  refine e_iconst (v := 0) dX11_parts_1 (by decide) ?_
  refine e_putI dX11_parts_2 fl_X11_153 sh_m rfl rfl rfl ?_
  refine th0 (fun M1 hC1 => ?_)
  have hJ := hC1.keep hJ
  have hY := hJ.1
  have h6 := hY.1.2
  have hs5 := hY.2.1.2
  have hL := hJ.2.1
  have hS := hJ.2.2.1
  refine e_iconst (v := 0) dX11_parts_5 (by decide) ?_
  refine e_istore_n (ls' := [_, _, _]) dX11_parts_6 (by decide) rfl ?_
  refine e_iconst (v := 0) dX11_parts_7 (by decide) ?_
  refine e_istore_n (ls' := [_, _, _]) dX11_parts_8 (by decide) rfl ?_
  exact (l_rparts hY hB (E.Y.n + 1) 0 (by omega) (by omega)).weaken (fun r M2 h => ⟨h.1, by rw [h.2]; exact hC1⟩)
set_option maxHeartbeats 4000000 in
set_option maxRecDepth 20000 in
theorem r_heard {G : Gt} {M : Mm} {E : Gs} (hJ : RJ M E) {i : Int32} : Call G 2 mX11_heard [.ref 238, .int i] M (fun r M' => r = some (.int (heardQ E i)) ∧ RC M M') := by
  refine Call.intro rfl (Nat.le_of_ble_eq_true rfl) ?_
  show Ev G _ mX11_heard 0 [.ref 238, .int i] [] M _
  refine e_aload_n dX11_heard_0 rfl ?_
  refine e_iconst (v := 0) dX11_heard_1 (by decide) ?_
  refine e_putI dX11_heard_2 fl_X11_153 sh_m rfl rfl rfl ?_
  refine th0 (fun M1 hC1 => ?_)
  have hJ := hC1.keep hJ
  have hY := hJ.1
  have h6 := hY.1.2
  have hs5 := hY.2.1.2
  have hL := hJ.2.1
  have hS := hJ.2.2.1
  refine e_aload_n dX11_heard_5 rfl ?_
  refine e_iload_n dX11_heard_6 rfl ?_
  refine cV1r dX11_heard_7 mo_X11_isShed ml_X11_397 sh_m rfl (Nat.le_of_ble_eq_true rfl) (by omega) (r_isShed (by assumption)) ?_
  refine e_if_eq (tgt := 25) dX11_heard_10 (by decide) (fun c10 => ?_) (fun c10 => ?_)
  · -- 10 jumps
    refine e_iconst (v := (-1)) dX11_heard_25 (by decide) ?_
    refine e_iret dX11_heard_26 rfl ?_
    exact ⟨by unfold heardQ; rw [if_neg (b2i_eq0.mp c10)], hC1⟩
  · -- 10 goes on
    have hsh10 : ¬ i < 0 ∧ i < nI E.Y.n := by
      by_cases h : (¬ i < 0 ∧ i < nI E.Y.n)
      · exact h
      · exact absurd (b2i_f h) c10
    obtain ⟨j, hj, rfl⟩ := shed_of (by omega) hsh10
    refine e_aload_n dX11_heard_13 rfl ?_
    refine e_getR dX11_heard_14 fl_X11_114 sh_m rfl ?_
    refine e_bipush (v := 20) dX11_heard_17 (by decide) ?_
    refine e_iload_n dX11_heard_19 rfl ?_
    refine e_iaddN (a := 20) (b := j) dX11_heard_20 ?_
    refine e_ialdN (j := (20 + j)) dX11_heard_21 (sa_m_s) (by decide) (by omega) ?_
    rw [hS.he hj]
    refine e_goto (tgt := 26) dX11_heard_22 (by decide) ?_
    refine e_iret dX11_heard_26 rfl ?_
    exact ⟨by unfold heardQ; rw [if_pos hsh10, nI_clamp (by omega)], hC1⟩
def SH (Y : Yv) (S : Sv) : Prop := ∀ j, j < Y.n → ∃ s r, s < 64 ∧ r < 64 ∧ S.hear j = nI s ∧ reachV Y j = nI r ∧ subN s r
theorem two_sub : ∀ a, a < 64 → ∀ k, k < 6 → a.testBit k = true → (2 ^ k) ||| a = a := by decide +kernel
theorem SH.beg {Y : Yv} (hB : NB Y) (h6 : Y.n ≤ 6) : SH Y (begV Y) := fun j hj => by
  obtain ⟨g, hg⟩ := hB.g h6
  obtain ⟨e, l, -⟩ := b1_nat j (by omega)
  exact ⟨2 ^ j, itS g Y.n (2 ^ j) 6, l, itS_lt l (fun i hi => (hg i hi).2) 6, e, reachV_nat h6 hg hj, itS_le (j := 0) (by omega)⟩
theorem SH.of {Y : Yv} {S S' : Sv} (h : SH Y S) (e : S'.hear = S.hear) : SH Y S' := fun j hj => by
  show ∃ s r, s < 64 ∧ r < 64 ∧ S'.hear j = nI s ∧ _
  rw [e]; exact h j hj
theorem SH.pass {Y : Yv} {S : Sv} {fr : Int32} (h : SH Y S) (hB : NB Y) (hN : NS Y) (h6 : Y.n ≤ 6) : SH Y (passV Y S fr) := fun j hj => by
  obtain ⟨g, hg⟩ := hB.g h6
  have hgl := fun i hi => (hg i hi).2
  have hh : ∃ e : Nat → Nat, ∀ i, i < Y.n → S.hear i = nI (e i) ∧ e i < 64 ∧ subN (e i) (itS g Y.n (2 ^ i) 6) := by
    refine ⟨fun i => if hi : i < Y.n then Classical.choose (h i hi) else 0, fun i hi => ?_⟩
    obtain ⟨r, a, b, c, d, q⟩ := Classical.choose_spec (h i hi)
    dsimp only
    rw [dif_pos hi]
    rw [reachV_nat h6 hg hi] at d
    have e1 := (nI64 (itS_lt (b1_nat i (by omega)).2.1 hgl 6) b).mp d
    exact ⟨c, a, by rw [e1]; exact q⟩
  obtain ⟨e, he⟩ := hh
  obtain ⟨-, lj, tj⟩ := b1_nat j (by omega)
  refine ⟨orN (fun i => decide (0 < growV Y S fr i) && decide (bitI (Y.near i) (nI j))) e (e j) Y.n, itS g Y.n (2 ^ j) 6, orN_lt (he j hj).2.1 _ (fun i hi => (he i hi).2.1), itS_lt lj hgl 6, ?_, reachV_nat h6 hg hj, ?_⟩
  · show orF _ S.hear (S.hear j) Y.n = _
    rw [(he j hj).1]
    exact orF_nat (he j hj).2.1 Y.n (fun i hi => ⟨rfl, (he i hi).1, (he i hi).2.1⟩)
  · refine orN_le (he j hj).2.2 Y.n (fun i hi hp => (he i hi).2.2.trans ?_)
    have hp1 : bitI (Y.near i) (nI j) := of_decide_eq_true ((Bool.and_eq_true _ _ ▸ hp : _ ∧ _).2)
    have hp2 : bitI (Y.near j) (nI i) := (hN i j hi hj).mp hp1
    rw [(hg j hj).1] at hp2
    have hb : (g j).testBit i = true := by rw [← bt64 _ (hg j hj).2 i (by omega)]; exact decide_eq_true hp2
    have h1 : subN (2 ^ i) (stN g Y.n (2 ^ j)) := (show subN (2 ^ i) (g j) from two_sub _ (hg j hj).2 i (by omega) hb).trans (orN_g Y.n hj tj)
    have h2 := itS_mono (g := g) (n := Y.n) h1 6
    have h3 : itS g Y.n (stN g Y.n (2 ^ j)) 6 = itS g Y.n (2 ^ j) (1 + 6) := (itS_add 1 6).symm
    rw [h3] at h2
    exact h2.trans (itS_any lj (by have := Nat.two_pow_pos j; omega) hgl 7)
theorem news_iff {Y : Yv} {S : Sv} {j : Nat} (h : SH Y S) (hj : j < Y.n) : (reachV Y j &&& (S.hear j ^^^ -1) = 0) ↔ S.hear j = reachV Y j := by
  obtain ⟨s, r, a, b, c, d, q⟩ := h j hj
  rw [c, d, an64 r b s a, nI64 a b]
  exact ⟨fun z => q.anti z, fun z => by rw [z]; exact Nat.or_self r⟩
set_option maxHeartbeats 4000000 in
set_option maxRecDepth 20000 in
theorem l_rahh {G : Gt} {M : Mm} {Y : Yv} {S : Sv} (hY : RY M Y) (hS : RW M 273 0 Y.n S) (hB : NB Y) (hH : SH Y S) : ∀ (k : Nat) (i : Nat) , (i ≤ Y.n) → (Y.n < i + k) → (∀ j, j < i → decide (reachV Y j &&& (S.hear j ^^^ -1) = 0) = true) → Ev G 2 mX11_haveAllHeard 2 [.ref 238, .int (nI i)] [] M (eqQ (some (.int (b2i (newsV Y S = true)))) M) := by
  intro k
  induction k with
  | zero => intro i hi hk hv; exact absurd hk (by omega)
  | succ k ih =>
    intro i hi hk hv
    have h6 := hY.1.2
    refine e_iload_n dX11_haveAllHeard_2 rfl ?_
    refine e_aload_n dX11_haveAllHeard_3 rfl ?_
    refine e_getR dX11_haveAllHeard_4 fl_X11_13 sh_m rfl ?_
    refine e_iconst (v := 0) dX11_haveAllHeard_7 (by decide) ?_
    refine e_ialdN (j := 0) dX11_haveAllHeard_8 (sa_m_yard) (by decide) (by omega) ?_
    rw [hY.1.1]
    refine e_icmp_ge (tgt := 37) dX11_haveAllHeard_9 (by decide) (fun c9 => ?_) (fun c9 => ?_)
    · -- 9 jumps
      have hin : i = Y.n := by have := ge_of (n := Y.n) (by omega) (by omega) c9; omega
      subst hin
      refine e_iconst (v := 1) dX11_haveAllHeard_37 (by decide) ?_
      refine e_zret dX11_haveAllHeard_38 rfl (by first | rfl | exact b2i_nar _) ?_
      exact ⟨by rw [b2i_t (show newsV Y S = true from by unfold newsV; rw [allN_iff]; exact hv)], rfl⟩
    · -- 9 goes on
      have hlt : i < Y.n := lt_of (n := Y.n) (by omega) (by omega) c9
      refine e_aload_n dX11_haveAllHeard_12 rfl ?_
      refine e_getR dX11_haveAllHeard_13 fl_X11_114 sh_m rfl ?_
      refine e_bipush (v := 20) dX11_haveAllHeard_16 (by decide) ?_
      refine e_iload_n dX11_haveAllHeard_18 rfl ?_
      refine e_iaddN (a := 20) (b := i) dX11_haveAllHeard_19 ?_
      refine e_ialdN (j := (20 + i)) dX11_haveAllHeard_20 (sa_m_s) (by decide) (by omega) ?_
      rw [hS.he hlt]
      refine e_aload_n dX11_haveAllHeard_21 rfl ?_
      refine e_iload_n dX11_haveAllHeard_22 rfl ?_
      refine cV1r dX11_haveAllHeard_23 mo_X11_reachOf ml_X11_450 sh_m rfl (Nat.le_of_ble_eq_true rfl) (by omega) (r_reachOf hY hB hlt) ?_
      refine e_icmp_eq (tgt := 31) dX11_haveAllHeard_26 (by decide) (fun c26 => ?_) (fun c26 => ?_)
      · -- 26 jumps
        refine e_iinc (ls' := [_, _]) dX11_haveAllHeard_31 rfl (nI_i1 _) (by decide) rfl ?_
        refine e_goto (tgt := 2) dX11_haveAllHeard_34 (by decide) ?_
        exact ih (i + 1) (by omega) (by omega) (fun q hq => by
          by_cases e : q = i
          · subst e; exact decide_eq_true ((news_iff hH hlt).mpr c26)
          · exact hv q (by omega))
      · -- 26 goes on
        refine e_iconst (v := 0) dX11_haveAllHeard_29 (by decide) ?_
        refine e_zret dX11_haveAllHeard_30 rfl (by first | rfl | exact b2i_nar _) ?_
        exact ⟨by rw [b2i_f (p := newsV Y S = true) (fun q => by unfold newsV at q; rw [allN_iff] at q; exact c26 ((news_iff hH hlt).mp (of_decide_eq_true (q i hlt))))], rfl⟩
set_option maxHeartbeats 4000000 in
set_option maxRecDepth 20000 in
theorem r_haveAllHeard {G : Gt} {M : Mm} {Y : Yv} {S : Sv} (hY : RY M Y) (hS : RW M 273 0 Y.n S) (hB : NB Y) (hH : SH Y S) : Call G 2 mX11_haveAllHeard [.ref 238] M (eqQ (some (.int (b2i (newsV Y S = true)))) M) := by
  refine Call.intro rfl (Nat.le_of_ble_eq_true rfl) ?_
  show Ev G _ mX11_haveAllHeard 0 [.ref 238, RA] [] M _
  refine e_iconst (v := 0) dX11_haveAllHeard_0 (by decide) ?_
  refine e_istore_n (ls' := [_, _]) dX11_haveAllHeard_1 (by decide) rfl ?_
  have h6 := hY.1.2
  exact l_rahh hY hS hB hH (Y.n + 1) 0 (by omega) (by omega) (fun q hq => absurd hq (by omega))
theorem SH.it {Y : Yv} {S : Sv} (h : SH Y S) (hB : NB Y) (hN : NS Y) (h6 : Y.n ≤ 6) : ∀ k, SH Y (itN Y S k) := by
  intro k
  induction k with
  | zero => exact h
  | succ k ih => exact ih.pass hB hN h6
set_option maxHeartbeats 4000000 in
set_option maxRecDepth 20000 in
theorem x_rnews {G : Gt} {M Mc : Mm} {E : Gs} {S : Sv} {i : Nat} (hB : NB E.Y) (hH : SH E.Y E.S) (hT : TB 275 M Mc E.Y.n S) : Ev G 7 mX11_news 44 [.ref 238, .int (nI i)] [] Mc (fun r M' => r = some (.int (if 60 < nI i then -1 else nI i)) ∧ RC M M') := by
  refine e_aload_n dX11_news_44 rfl ?_
  refine e_getR dX11_news_45 fl_X11_120 sh_m rfl ?_
  refine e_iconst (v := 0) dX11_news_48 (by decide) ?_
  refine e_aload_n dX11_news_49 rfl ?_
  refine e_getR dX11_news_50 fl_X11_114 sh_m rfl ?_
  refine e_iconst (v := 0) dX11_news_53 (by decide) ?_
  refine cS4v dX11_news_54 mo_X11_copies ml_X11_403 (Nat.le_of_ble_eq_true rfl) (by omega) (r_copies (p := 0) (b := 0) (sa_m_before) (sa_m_s) (by omega) (by omega) (by decide) (by decide) (by decide)) ?_
  refine e_iload_n dX11_news_57 rfl ?_
  refine e_bipush (v := 60) dX11_news_58 (by decide) ?_
  refine e_icmp_le (tgt := 67) dX11_news_60 (by decide) (fun c60 => ?_) (fun c60 => ?_)
  · -- 60 jumps
    refine e_iload_n dX11_news_67 rfl ?_
    refine e_iret dX11_news_68 rfl ?_
    exact ⟨by rw [if_neg c60], hT.back⟩
  · -- 60 goes on
    refine e_iconst (v := (-1)) dX11_news_63 (by decide) ?_
    refine e_goto (tgt := 68) dX11_news_64 (by decide) ?_
    refine e_iret dX11_news_68 rfl ?_
    exact ⟨by rw [if_pos c60], hT.back⟩
set_option maxHeartbeats 4000000 in
set_option maxRecDepth 20000 in
theorem l_rnews {G : Gt} {M : Mm} {E : Gs} (hJ : RJ M E) {T : Nat} (hI : SI E.Y E.S T) (hTT : T < 2 ^ 30) (hN : NS E.Y) (hB : NB E.Y) (hH : SH E.Y E.S) : ∀ (k : Nat) (i : Nat) (Mc : Mm), (i ≤ 61) → (61 < i + k) → (fstN (fun t => newsV E.Y (itN E.Y E.S t)) 0 61 = fstN (fun t => newsV E.Y (itN E.Y E.S t)) i (61 - i)) → (TR 275 M Mc E.Y E.S i) → Ev G 7 mX11_news 20 [.ref 238, .int (nI i)] [] Mc (fun r M' => r = some (.int (oI (fstN (fun t => newsV E.Y (itN E.Y E.S t)) 0 61))) ∧ RC M M') := by
  intro k
  induction k with
  | zero => intro i Mc hi hk hr hT; exact absurd hk (by omega)
  | succ k ih =>
    intro i Mc hi hk hr hT
    have hY := hJ.1
    have h6 := hY.1.2
    have hs5 := hY.2.1.2
    have hL := hJ.2.1
    have hS := hJ.2.2.1
    have hYc := hT.1.1.ry hY
    have hLc := hT.1.1.rl hL
    have hSc := hT.1.2.2
    obtain ⟨ti, hti, hti2⟩ := hI.nt h6 i
    refine e_iload_n dX11_news_20 rfl ?_
    refine e_bipush (v := 60) dX11_news_21 (by decide) ?_
    refine e_icmp_gt (tgt := 44) dX11_news_23 (by decide) (fun c23 => ?_) (fun c23 => ?_)
    · -- 23 jumps
      have hin : i = 61 := by have := lt_of (i := 60) (n := i) (by omega) (by omega) c23; omega
      subst hin
      rw [hr, fst_e]
      have h := x_rnews (G := G) hB hH (i := 61) hT.1
      rw [if_pos (by decide)] at h
      exact h
    · -- 23 goes on
      have hn60 := c23
      have hlt : i < 61 := by have := ge_of (i := 60) (n := i) (by omega) (by omega) c23; omega
      refine e_aload_n dX11_news_26 rfl ?_
      refine cV0r dX11_news_27 mo_X11_haveAllHeard ml_X11_453 sh_m rfl (Nat.le_of_ble_eq_true rfl) (by omega) (r_haveAllHeard hYc hSc hB (hH.it hB hN h6 i)) ?_
      refine e_if_ne (tgt := 44) dX11_news_30 (by decide) (fun c30 => ?_) (fun c30 => ?_)
      · -- 30 jumps
        have hP : newsV E.Y (itN E.Y E.S i) = true := Classical.not_not.mp (fun q => c30 (b2i_f q))
        rw [hr, fst_t hlt hP]
        have h := x_rnews (G := G) hB hH (i := i) hT.1
        rw [if_neg hn60] at h
        exact h
      · -- 30 goes on
        refine e_aload_n dX11_news_33 rfl ?_
        refine cV0x dX11_news_34 mo_X11_passesAsTold ml_X11_410 sh_m rfl (Nat.le_of_ble_eq_true rfl) (by omega) (r_passesAsTold hYc hSc hLc hN hti (by omega)) ?_
        rintro r M2 ⟨rfl, hp1, hp2, hp3⟩
        dsimp only [Option.toList, List.cons_append, List.nil_append]
        refine e_pop dX11_news_37 rfl ?_
        refine e_iinc (ls' := [_, _]) dX11_news_38 rfl (nI_i1 _) (by decide) rfl ?_
        refine e_goto (tgt := 20) dX11_news_41 (by decide) ?_
        have hP : newsV E.Y (itN E.Y E.S i) = false := Bool.eq_false_iff.mpr (b2i_eq0.mp c30)
        exact ih (i + 1) M2 (by omega) (by omega) (hr.trans (fst_f hlt hP)) (hT.next tx5 hp1 hp2 hp3)
set_option maxHeartbeats 4000000 in
set_option maxRecDepth 20000 in
theorem r_news {G : Gt} {M : Mm} {E : Gs} (hJ : RJ M E) {T : Nat} (hI : SI E.Y E.S T) (hTT : T < 2 ^ 30) (hN : NS E.Y) (hB : NB E.Y) (hH : SH E.Y E.S) : Call G 7 mX11_news [.ref 238] M (fun r M' => r = some (.int (newsQ E)) ∧ RC M M') := by
  refine Call.intro rfl (Nat.le_of_ble_eq_true rfl) ?_
  show Ev G _ mX11_news 0 [.ref 238, RA] [] M _
  refine e_aload_n dX11_news_0 rfl ?_
  refine e_iconst (v := 0) dX11_news_1 (by decide) ?_
  refine e_putI dX11_news_2 fl_X11_153 sh_m rfl rfl rfl ?_
  refine th0 (fun M1 hC1 => ?_)
  have hJ := hC1.keep hJ
  have hY := hJ.1
  have h6 := hY.1.2
  have hs5 := hY.2.1.2
  have hL := hJ.2.1
  have hS := hJ.2.2.1
  refine e_aload_n dX11_news_5 rfl ?_
  refine e_getR dX11_news_6 fl_X11_114 sh_m rfl ?_
  refine e_iconst (v := 0) dX11_news_9 (by decide) ?_
  refine e_aload_n dX11_news_10 rfl ?_
  refine e_getR dX11_news_11 fl_X11_120 sh_m rfl ?_
  refine e_iconst (v := 0) dX11_news_14 (by decide) ?_
  refine cS4v dX11_news_15 mo_X11_copies ml_X11_403 (Nat.le_of_ble_eq_true rfl) (by omega) (r_copies (p := 0) (b := 0) (sa_m_s) (sa_m_before) (by omega) (by omega) (by decide) (by decide) (by decide)) ?_
  refine e_iconst (v := 0) dX11_news_18 (by decide) ?_
  refine e_istore_n (ls' := [_, _]) dX11_news_19 (by decide) rfl ?_
  unfold newsQ
  exact (l_rnews hJ hI hTT hN hB hH 62 0 _ (by omega) (by omega) rfl (TR.start tx5 h6 hS)).weaken (fun r M2 h => ⟨h.1, hC1.trans h.2⟩)
set_option maxHeartbeats 4000000 in
set_option maxRecDepth 20000 in
theorem l_rcalm {G : Gt} {M : Mm} {Y : Yv} {S : Sv} {j c h : Nat} (hS : RW M 273 0 Y.n S) (h6 : Y.n ≤ 6) (hj : j < Y.n) (hc : S.crow j = nI c) (hc2 : c ≤ 20) (hh : S.high j = nI h) (hh2 : h ≤ 60) : ∀ (k : Nat) (i : Nat), (i ≤ c) → (c < i + k) → (fstN (fun l => decide (murV (nI h) (nI c - nI l) < 60)) 0 c = fstN (fun l => decide (murV (nI h) (nI c - nI l) < 60)) i (c - i)) → Ev G 2 mX11_calm 17 [.ref 238, .int (nI j), .int (nI i)] [] M (eqQ (some (.int (match fstN (fun l => decide (murV (nI h) (nI c - nI l) < 60)) 0 c with
    | none => nI c
    | some l => nI l))) M) := by
  intro k
  induction k with
  | zero => intro i hi hk hr; exact absurd hk (by omega)
  | succ k ih =>
    intro i hi hk hr
    have hm : h * (c - i) ≤ 60 * 20 := Nat.mul_le_mul hh2 (by omega)
    refine e_aload_n dX11_calm_17 rfl ?_
    refine e_getR dX11_calm_18 fl_X11_114 sh_m rfl ?_
    refine e_bipush (v := 14) dX11_calm_21 (by decide) ?_
    refine e_iload_n dX11_calm_23 rfl ?_
    refine e_iaddN (a := 14) (b := j) dX11_calm_24 ?_
    refine e_ialdN (j := (14 + j)) dX11_calm_25 (sa_m_s) (by decide) (by omega) ?_
    rw [hS.hi hj, hh]
    refine e_aload_n dX11_calm_26 rfl ?_
    refine e_getR dX11_calm_27 fl_X11_114 sh_m rfl ?_
    refine e_bipush (v := 8) dX11_calm_30 (by decide) ?_
    refine e_iload_n dX11_calm_32 rfl ?_
    refine e_iaddN (a := 8) (b := j) dX11_calm_33 ?_
    refine e_ialdN (j := (8 + j)) dX11_calm_34 (sa_m_s) (by decide) (by omega) ?_
    rw [hS.cr hj, hc]
    refine e_iload_n dX11_calm_35 rfl ?_
    refine e_isub dX11_calm_36 ?_
    rw [nI_subN hi]
    refine e_imul dX11_calm_37 ?_
    rw [pk_mul]
    refine e_bipush (v := 10) dX11_calm_38 (by decide) ?_
    refine e_idiv dX11_calm_40 (by decide) ?_
    rw [show nI (h * (c - i)) / 10 = nI (h * (c - i) / 10) from pk_div (d := 10) (by omega) (by omega) (by omega)]
    refine e_bipush (v := 60) dX11_calm_41 (by decide) ?_
    refine e_icmp_lt (tgt := 52) dX11_calm_43 (by decide) (fun c43 => ?_) (fun c43 => ?_)
    · -- 43 jumps
      refine e_iload_n dX11_calm_52 rfl ?_
      refine e_iret dX11_calm_53 rfl ?_
      by_cases e : i = c
      · subst e; exact ⟨by rw [hr, fst_e], rfl⟩
      · exact ⟨by rw [hr, fst_t (by omega) (decide_eq_true (by rw [nI_subN hi, mur_nat hh2 (by omega)]; exact c43))], rfl⟩
    · -- 43 goes on
      refine e_iinc (ls' := [_, _, _]) dX11_calm_46 rfl (nI_i1 _) (by decide) rfl ?_
      refine e_goto (tgt := 17) dX11_calm_49 (by decide) ?_
      have hlt : i < c := by
        by_cases e : i = c
        · subst e; exact absurd (show nI (h * (i - i) / 10) < 60 from by rw [Nat.sub_self, Nat.mul_zero]; decide) c43
        · omega
      exact ih (i + 1) (by omega) (by omega) (hr.trans (fst_f hlt (decide_eq_false (by rw [nI_subN hi, mur_nat hh2 (by omega)]; exact c43))))
set_option maxHeartbeats 4000000 in
set_option maxRecDepth 20000 in
theorem r_calm {G : Gt} {M : Mm} {E : Gs} (hJ : RJ M E) {T : Nat} (hI : SI E.Y E.S T) {i : Int32} : Call G 2 mX11_calm [.ref 238, .int i] M (fun r M' => r = some (.int (calmQ E i)) ∧ RC M M') := by
  refine Call.intro rfl (Nat.le_of_ble_eq_true rfl) ?_
  show Ev G _ mX11_calm 0 [.ref 238, .int i, RA] [] M _
  refine e_aload_n dX11_calm_0 rfl ?_
  refine e_iconst (v := 0) dX11_calm_1 (by decide) ?_
  refine e_putI dX11_calm_2 fl_X11_153 sh_m rfl rfl rfl ?_
  refine th0 (fun M1 hC1 => ?_)
  have hJ := hC1.keep hJ
  have hY := hJ.1
  have h6 := hY.1.2
  have hs5 := hY.2.1.2
  have hL := hJ.2.1
  have hS := hJ.2.2.1
  refine e_aload_n dX11_calm_5 rfl ?_
  refine e_iload_n dX11_calm_6 rfl ?_
  refine cV1r dX11_calm_7 mo_X11_isShed ml_X11_397 sh_m rfl (Nat.le_of_ble_eq_true rfl) (by omega) (r_isShed (by assumption)) ?_
  refine e_if_ne (tgt := 15) dX11_calm_10 (by decide) (fun c10 => ?_) (fun c10 => ?_)
  · -- 10 jumps
    have hsh10 : ¬ i < 0 ∧ i < nI E.Y.n := by
      by_cases h : (¬ i < 0 ∧ i < nI E.Y.n)
      · exact h
      · exact absurd (b2i_f h) c10
    obtain ⟨j, hj, rfl⟩ := shed_of (by omega) hsh10
    obtain ⟨r0, hr0, hr6, hs0, -⟩ := hI
    obtain ⟨c, q, hc, hc2, hq, hq2⟩ := hs0 j hj
    refine e_iconst (v := 0) dX11_calm_15 (by decide) ?_
    refine e_istore_n (ls' := [_, _, _]) dX11_calm_16 (by decide) rfl ?_
    unfold calmQ
    rw [if_pos hsh10, nI_clamp (by omega), hc, nI_clamp (by omega), hq]
    exact (l_rcalm hS h6 hj hc hc2 hq (by omega) (c + 1) 0 (by omega) (by omega) rfl).weaken (fun r M2 h => ⟨h.1, by rw [h.2]; exact hC1⟩)
  · -- 10 goes on
    refine e_iconst (v := (-1)) dX11_calm_13 (by decide) ?_
    refine e_iret dX11_calm_14 rfl ?_
    exact ⟨by unfold calmQ; rw [if_neg (b2i_eq0.mp c10)], hC1⟩
set_option maxHeartbeats 4000000 in
set_option maxRecDepth 20000 in
theorem l_rloud {G : Gt} {M : Mm} {Y : Yv} {S : Sv} (hY : RY M Y) (hS : RW M 273 0 Y.n S) : ∀ (k : Nat) (i : Nat) , (i ≤ Y.n) → (Y.n < i + k) → Ev G 3 mX11_loud 9 [.ref 238, .int (oI (amxN (murS S) i)), .int (nI i)] [] M (eqQ (some (.int (oI (amxN (murS S) Y.n)))) M) := by
  intro k
  induction k with
  | zero => intro i hi hk; exact absurd hk (by omega)
  | succ k ih =>
    intro i hi hk
    have h6 := hY.1.2
    refine e_iload_n dX11_loud_9 rfl ?_
    refine e_aload_n dX11_loud_10 rfl ?_
    refine e_getR dX11_loud_11 fl_X11_13 sh_m rfl ?_
    refine e_iconst (v := 0) dX11_loud_14 (by decide) ?_
    refine e_ialdN (j := 0) dX11_loud_15 (sa_m_yard) (by decide) (by omega) ?_
    rw [hY.1.1]
    refine e_icmp_ge (tgt := 44) dX11_loud_16 (by decide) (fun c16 => ?_) (fun c16 => ?_)
    · -- 16 jumps
      have hin : i = Y.n := by have := ge_of (n := Y.n) (by omega) (by omega) c16; omega
      subst hin
      refine e_iload_n dX11_loud_44 rfl ?_
      refine e_iret dX11_loud_45 rfl ?_
      exact ⟨rfl, rfl⟩
    · -- 16 goes on
      have hlt : i < Y.n := lt_of (n := Y.n) (by omega) (by omega) c16
      refine e_iload_n dX11_loud_19 rfl ?_
      refine e_if_lt (tgt := 36) dX11_loud_20 (by decide) (fun c20 => ?_) (fun c20 => ?_)
      · -- 20 jumps
        rw [oI_neg (k := i) (by omega) (fun b h => amx_lt h)] at c20
        have ho := c20
        refine e_iload_n dX11_loud_36 rfl ?_
        refine e_istore_n (ls' := [_, _, _]) dX11_loud_37 (by decide) rfl ?_
        refine e_iinc (ls' := [_, _, _]) dX11_loud_38 rfl (nI_i1 _) (by decide) rfl ?_
        refine e_goto (tgt := 9) dX11_loud_41 (by decide) ?_
        have hh := ih (i + 1) (by omega) (by omega)
        rw [show amxN (murS S) (i + 1) = some i from by simp only [amxN, ho]] at hh
        exact hh
      · -- 20 goes on
        rw [oI_neg (k := i) (by omega) (fun b h => amx_lt h)] at c20
        obtain ⟨b, ho⟩ := Option.ne_none_iff_exists'.mp c20
        have hb := amx_lt ho
        rw [ho, show oI (some b) = nI b from rfl]
        refine e_aload_n dX11_loud_23 rfl ?_
        refine e_iload_n dX11_loud_24 rfl ?_
        refine cV1r dX11_loud_25 mo_X11_murmurOf ml_X11_394 sh_m rfl (Nat.le_of_ble_eq_true rfl) (by omega) (r_murmurOf hY hS hlt) ?_
        refine e_aload_n dX11_loud_28 rfl ?_
        refine e_iload_n dX11_loud_29 rfl ?_
        refine cV1r dX11_loud_30 mo_X11_murmurOf ml_X11_394 sh_m rfl (Nat.le_of_ble_eq_true rfl) (by omega) (r_murmurOf hY hS (by omega)) ?_
        refine e_icmp_le (tgt := 38) dX11_loud_33 (by decide) (fun c33 => ?_) (fun c33 => ?_)
        · -- 33 jumps
          refine e_iinc (ls' := [_, _, _]) dX11_loud_38 rfl (nI_i1 _) (by decide) rfl ?_
          refine e_goto (tgt := 9) dX11_loud_41 (by decide) ?_
          have hh := ih (i + 1) (by omega) (by omega)
          rw [show amxN (murS S) (i + 1) = some b from by simp only [amxN, ho]; rw [if_neg c33]] at hh
          exact hh
        · -- 33 goes on
          refine e_iload_n dX11_loud_36 rfl ?_
          refine e_istore_n (ls' := [_, _, _]) dX11_loud_37 (by decide) rfl ?_
          refine e_iinc (ls' := [_, _, _]) dX11_loud_38 rfl (nI_i1 _) (by decide) rfl ?_
          refine e_goto (tgt := 9) dX11_loud_41 (by decide) ?_
          have hh := ih (i + 1) (by omega) (by omega)
          rw [show amxN (murS S) (i + 1) = some i from by simp only [amxN, ho]; rw [if_pos c33]] at hh
          exact hh
set_option maxHeartbeats 4000000 in
set_option maxRecDepth 20000 in
theorem r_loud {G : Gt} {M : Mm} {E : Gs} (hJ : RJ M E) : Call G 3 mX11_loud [.ref 238] M (fun r M' => r = some (.int (oI (amxN (murS E.S) E.Y.n))) ∧ RC M M') := by
  refine Call.intro rfl (Nat.le_of_ble_eq_true rfl) ?_
  show Ev G _ mX11_loud 0 [.ref 238, RA, RA] [] M _
  refine e_aload_n dX11_loud_0 rfl ?_
  refine e_iconst (v := 0) dX11_loud_1 (by decide) ?_
  refine e_putI dX11_loud_2 fl_X11_153 sh_m rfl rfl rfl ?_
  refine th0 (fun M1 hC1 => ?_)
  have hJ := hC1.keep hJ
  have hY := hJ.1
  have h6 := hY.1.2
  have hs5 := hY.2.1.2
  have hL := hJ.2.1
  have hS := hJ.2.2.1
  refine e_iconst (v := (-1)) dX11_loud_5 (by decide) ?_
  refine e_istore_n (ls' := [_, _, _]) dX11_loud_6 (by decide) rfl ?_
  refine e_iconst (v := 0) dX11_loud_7 (by decide) ?_
  refine e_istore_n (ls' := [_, _, _]) dX11_loud_8 (by decide) rfl ?_
  exact (l_rloud hY hS (E.Y.n + 1) 0 (by omega) (by omega)).weaken (fun r M2 h => ⟨h.1, by rw [h.2]; exact hC1⟩)
set_option maxHeartbeats 4000000 in
set_option maxRecDepth 20000 in
theorem l_rtall {G : Gt} {M : Mm} {Y : Yv} {S : Sv} (hY : RY M Y) (hS : RW M 273 0 Y.n S) : ∀ (k : Nat) (i : Nat) , (i ≤ Y.n) → (Y.n < i + k) → Ev G 1 mX11_tall 9 [.ref 238, .int (oI (amxN S.high i)), .int (nI i)] [] M (eqQ (some (.int (oI (amxN S.high Y.n)))) M) := by
  intro k
  induction k with
  | zero => intro i hi hk; exact absurd hk (by omega)
  | succ k ih =>
    intro i hi hk
    have h6 := hY.1.2
    refine e_iload_n dX11_tall_9 rfl ?_
    refine e_aload_n dX11_tall_10 rfl ?_
    refine e_getR dX11_tall_11 fl_X11_13 sh_m rfl ?_
    refine e_iconst (v := 0) dX11_tall_14 (by decide) ?_
    refine e_ialdN (j := 0) dX11_tall_15 (sa_m_yard) (by decide) (by omega) ?_
    rw [hY.1.1]
    refine e_icmp_ge (tgt := 52) dX11_tall_16 (by decide) (fun c16 => ?_) (fun c16 => ?_)
    · -- 16 jumps
      have hin : i = Y.n := by have := ge_of (n := Y.n) (by omega) (by omega) c16; omega
      subst hin
      refine e_iload_n dX11_tall_52 rfl ?_
      refine e_iret dX11_tall_53 rfl ?_
      exact ⟨rfl, rfl⟩
    · -- 16 goes on
      have hlt : i < Y.n := lt_of (n := Y.n) (by omega) (by omega) c16
      refine e_iload_n dX11_tall_19 rfl ?_
      refine e_if_lt (tgt := 44) dX11_tall_20 (by decide) (fun c20 => ?_) (fun c20 => ?_)
      · -- 20 jumps
        rw [oI_neg (k := i) (by omega) (fun b h => amx_lt h)] at c20
        have ho := c20
        refine e_iload_n dX11_tall_44 rfl ?_
        refine e_istore_n (ls' := [_, _, _]) dX11_tall_45 (by decide) rfl ?_
        refine e_iinc (ls' := [_, _, _]) dX11_tall_46 rfl (nI_i1 _) (by decide) rfl ?_
        refine e_goto (tgt := 9) dX11_tall_49 (by decide) ?_
        have hh := ih (i + 1) (by omega) (by omega)
        rw [show amxN S.high (i + 1) = some i from by simp only [amxN, ho]] at hh
        exact hh
      · -- 20 goes on
        rw [oI_neg (k := i) (by omega) (fun b h => amx_lt h)] at c20
        obtain ⟨b, ho⟩ := Option.ne_none_iff_exists'.mp c20
        have hb := amx_lt ho
        rw [ho, show oI (some b) = nI b from rfl]
        refine e_aload_n dX11_tall_23 rfl ?_
        refine e_getR dX11_tall_24 fl_X11_114 sh_m rfl ?_
        refine e_bipush (v := 14) dX11_tall_27 (by decide) ?_
        refine e_iload_n dX11_tall_29 rfl ?_
        refine e_iaddN (a := 14) (b := i) dX11_tall_30 ?_
        refine e_ialdN (j := (14 + i)) dX11_tall_31 (sa_m_s) (by decide) (by omega) ?_
        rw [hS.hi hlt]
        refine e_aload_n dX11_tall_32 rfl ?_
        refine e_getR dX11_tall_33 fl_X11_114 sh_m rfl ?_
        refine e_bipush (v := 14) dX11_tall_36 (by decide) ?_
        refine e_iload_n dX11_tall_38 rfl ?_
        refine e_iaddN (a := 14) (b := b) dX11_tall_39 ?_
        refine e_ialdN (j := (14 + b)) dX11_tall_40 (sa_m_s) (by decide) (by omega) ?_
        rw [hS.hi (by omega)]
        refine e_icmp_le (tgt := 46) dX11_tall_41 (by decide) (fun c41 => ?_) (fun c41 => ?_)
        · -- 41 jumps
          refine e_iinc (ls' := [_, _, _]) dX11_tall_46 rfl (nI_i1 _) (by decide) rfl ?_
          refine e_goto (tgt := 9) dX11_tall_49 (by decide) ?_
          have hh := ih (i + 1) (by omega) (by omega)
          rw [show amxN S.high (i + 1) = some b from by simp only [amxN, ho]; rw [if_neg c41]] at hh
          exact hh
        · -- 41 goes on
          refine e_iload_n dX11_tall_44 rfl ?_
          refine e_istore_n (ls' := [_, _, _]) dX11_tall_45 (by decide) rfl ?_
          refine e_iinc (ls' := [_, _, _]) dX11_tall_46 rfl (nI_i1 _) (by decide) rfl ?_
          refine e_goto (tgt := 9) dX11_tall_49 (by decide) ?_
          have hh := ih (i + 1) (by omega) (by omega)
          rw [show amxN S.high (i + 1) = some i from by simp only [amxN, ho]; rw [if_pos c41]] at hh
          exact hh
set_option maxHeartbeats 4000000 in
set_option maxRecDepth 20000 in
theorem r_tall {G : Gt} {M : Mm} {E : Gs} (hJ : RJ M E) : Call G 1 mX11_tall [.ref 238] M (fun r M' => r = some (.int (oI (amxN E.S.high E.Y.n))) ∧ RC M M') := by
  refine Call.intro rfl (Nat.le_of_ble_eq_true rfl) ?_
  show Ev G _ mX11_tall 0 [.ref 238, RA, RA] [] M _
  refine e_aload_n dX11_tall_0 rfl ?_
  refine e_iconst (v := 0) dX11_tall_1 (by decide) ?_
  refine e_putI dX11_tall_2 fl_X11_153 sh_m rfl rfl rfl ?_
  refine th0 (fun M1 hC1 => ?_)
  have hJ := hC1.keep hJ
  have hY := hJ.1
  have h6 := hY.1.2
  have hs5 := hY.2.1.2
  have hL := hJ.2.1
  have hS := hJ.2.2.1
  refine e_iconst (v := (-1)) dX11_tall_5 (by decide) ?_
  refine e_istore_n (ls' := [_, _, _]) dX11_tall_6 (by decide) rfl ?_
  refine e_iconst (v := 0) dX11_tall_7 (by decide) ?_
  refine e_istore_n (ls' := [_, _, _]) dX11_tall_8 (by decide) rfl ?_
  exact (l_rtall hY hS (E.Y.n + 1) 0 (by omega) (by omega)).weaken (fun r M2 h => ⟨h.1, by rw [h.2]; exact hC1⟩)
set_option maxHeartbeats 4000000 in
set_option maxRecDepth 20000 in
theorem l_ryields {G : Gt} {M : Mm} {E : Gs} (hJ : RJ M E) {T : Nat} (hI : SI E.Y E.S T) (hTT : T < 2 ^ 30) (hN : NS E.Y) {q : Nat} (hq : q ≤ 60) : ∀ (k : Nat) (i : Nat) (Mc : Mm), (i ≤ q) → (q < i + k) → (TR 275 M Mc E.Y E.S i) → Ev G 7 mX11_yields 32 [.ref 238, .int (nI q), .int (nI i)] [] Mc (fun r M' => r = some (.int (sumI (murS (itN E.Y E.S q)) E.Y.n)) ∧ RC M M') := by
  intro k
  induction k with
  | zero => intro i Mc hi hk hT; exact absurd hk (by omega)
  | succ k ih =>
    intro i Mc hi hk hT
    have hY := hJ.1
    have h6 := hY.1.2
    have hs5 := hY.2.1.2
    have hL := hJ.2.1
    have hS := hJ.2.2.1
    have hYc := hT.1.1.ry hY
    have hLc := hT.1.1.rl hL
    have hSc := hT.1.2.2
    obtain ⟨ti, hti, hti2⟩ := hI.nt h6 i
    refine e_iload_n dX11_yields_32 rfl ?_
    refine e_iload_n dX11_yields_33 rfl ?_
    refine e_icmp_ge (tgt := 48) dX11_yields_34 (by decide) (fun c34 => ?_) (fun c34 => ?_)
    · -- 34 jumps
      have hin : i = q := by have := ge_of (i := i) (n := q) (by omega) (by omega) c34; omega
      subst hin
      refine e_aload_n dX11_yields_48 rfl ?_
      refine cV0r dX11_yields_49 mo_X11_allMurmurs ml_X11_456 sh_m rfl (Nat.le_of_ble_eq_true rfl) (by omega) (r_allMurmurs hYc hSc) ?_
      refine e_istore_n (ls' := [_, _, _]) dX11_yields_52 (by decide) rfl ?_
      refine e_aload_n dX11_yields_53 rfl ?_
      refine e_getR dX11_yields_54 fl_X11_120 sh_m rfl ?_
      refine e_iconst (v := 0) dX11_yields_57 (by decide) ?_
      refine e_aload_n dX11_yields_58 rfl ?_
      refine e_getR dX11_yields_59 fl_X11_114 sh_m rfl ?_
      refine e_iconst (v := 0) dX11_yields_62 (by decide) ?_
      refine cS4v dX11_yields_63 mo_X11_copies ml_X11_403 (Nat.le_of_ble_eq_true rfl) (by omega) (r_copies (p := 0) (b := 0) (sa_m_before) (sa_m_s) (by omega) (by omega) (by decide) (by decide) (by decide)) ?_
      refine e_iload_n dX11_yields_66 rfl ?_
      refine e_iret dX11_yields_67 rfl ?_
      exact ⟨rfl, hT.1.back⟩
    · -- 34 goes on
      have hlt : i < q := lt_of (i := i) (n := q) (by omega) (by omega) c34
      refine e_aload_n dX11_yields_37 rfl ?_
      refine cV0x dX11_yields_38 mo_X11_passesAsTold ml_X11_410 sh_m rfl (Nat.le_of_ble_eq_true rfl) (by omega) (r_passesAsTold hYc hSc hLc hN hti (by omega)) ?_
      rintro r M2 ⟨rfl, hp1, hp2, hp3⟩
      dsimp only [Option.toList, List.cons_append, List.nil_append]
      refine e_pop dX11_yields_41 rfl ?_
      refine e_iinc (ls' := [_, _, _]) dX11_yields_42 rfl (nI_i1 _) (by decide) rfl ?_
      refine e_goto (tgt := 32) dX11_yields_45 (by decide) ?_
      exact ih (i + 1) M2 (by omega) (by omega) (hT.next tx5 hp1 hp2 hp3)
set_option maxHeartbeats 4000000 in
set_option maxRecDepth 20000 in
theorem r_yields {G : Gt} {M : Mm} {E : Gs} (hJ : RJ M E) {T : Nat} (hI : SI E.Y E.S T) (hTT : T < 2 ^ 30) (hN : NS E.Y) {t : Int32} : Call G 7 mX11_yields [.ref 238, .int t] M (fun r M' => r = some (.int (yieldsQ E t)) ∧ RC M M') := by
  refine Call.intro rfl (Nat.le_of_ble_eq_true rfl) ?_
  show Ev G _ mX11_yields 0 [.ref 238, .int t, RA] [] M _
  refine e_aload_n dX11_yields_0 rfl ?_
  refine e_iconst (v := 0) dX11_yields_1 (by decide) ?_
  refine e_putI dX11_yields_2 fl_X11_153 sh_m rfl rfl rfl ?_
  refine th0 (fun M1 hC1 => ?_)
  have hJ := hC1.keep hJ
  have hY := hJ.1
  have h6 := hY.1.2
  have hs5 := hY.2.1.2
  have hL := hJ.2.1
  have hS := hJ.2.2.1
  refine e_iload_n dX11_yields_5 rfl ?_
  refine e_iconst (v := 0) dX11_yields_6 (by decide) ?_
  refine e_bipush (v := 60) dX11_yields_7 (by decide) ?_
  refine cS3r dX11_yields_9 mo_X11_within ml_X11_274 (Nat.le_of_ble_eq_true rfl) (by omega) (r_within) ?_
  refine e_if_ne (tgt := 17) dX11_yields_12 (by decide) (fun c12 => ?_) (fun c12 => ?_)
  · -- 12 jumps
    have c12 : vWi t 0 60 := by
      by_cases h : (vWi t 0 60)
      · exact h
      · exact absurd (b2i_f h) c12
    have hwi := c12
    obtain ⟨t, ht60, hlo, rfl⟩ := wi_of (a := 0) (b := 60) (by decide) (by decide) hwi
    refine e_aload_n dX11_yields_17 rfl ?_
    refine e_getR dX11_yields_18 fl_X11_114 sh_m rfl ?_
    refine e_iconst (v := 0) dX11_yields_21 (by decide) ?_
    refine e_aload_n dX11_yields_22 rfl ?_
    refine e_getR dX11_yields_23 fl_X11_120 sh_m rfl ?_
    refine e_iconst (v := 0) dX11_yields_26 (by decide) ?_
    refine cS4v dX11_yields_27 mo_X11_copies ml_X11_403 (Nat.le_of_ble_eq_true rfl) (by omega) (r_copies (p := 0) (b := 0) (sa_m_s) (sa_m_before) (by omega) (by omega) (by decide) (by decide) (by decide)) ?_
    refine e_iconst (v := 0) dX11_yields_30 (by decide) ?_
    refine e_istore_n (ls' := [_, _, _]) dX11_yields_31 (by decide) rfl ?_
    unfold yieldsQ
    rw [if_pos hwi, nI_clamp (by omega)]
    exact (l_ryields hJ hI hTT hN ht60 (t + 1) 0 _ (by omega) (by omega) (TR.start tx5 h6 hS)).weaken (fun r M2 h => ⟨h.1, hC1.trans h.2⟩)
  · -- 12 goes on
    refine e_iconst (v := (-1)) dX11_yields_15 (by decide) ?_
    refine e_iret dX11_yields_16 rfl ?_
    exact ⟨by unfold yieldsQ; rw [if_neg (b2i_eq0.mp c12)], hC1⟩
end RNF
