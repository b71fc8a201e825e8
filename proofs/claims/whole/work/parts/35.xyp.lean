section XYP
/-- a law that was read: behind one another, as it stands, what it says -/
abbrev Ex : Type := List Int32 × List Int32 × ((Nat → Int32) → Int32)
abbrev Ex.po (e : Ex) : List Int32 := e.1
abbrev Ex.nf (e : Ex) : List Int32 := e.2.1
abbrev Ex.va (e : Ex) : (Nat → Int32) → Int32 := e.2.2
/-- a yard that is being read, its law -/
abbrev Pv : Type := Yv × Ex
def exO : Ex := ([], [], fun _ => 0)
def LX (M : Mm) (w : Nat) (c : List Int32) : Prop := M.1 w 1 = nI c.length ∧ c.length ≤ 1000 ∧ ∀ k, k < c.length → M.1 (w + 1) k = c.getD k 0
def YP (M : Mm) (y : Nat) (P : Pv) : Prop :=
  (M.1 y 5 = nI P.1.n ∧ P.1.n ≤ 6) ∧ (M.1 y 9 = nI P.1.ns ∧ P.1.ns ≤ 5) ∧ (M.1 y 11 = nI P.1.nf ∧ P.1.nf ≤ 12) ∧ M.1 y 12 = P.1.roof ∧
  (∀ j, j < P.1.n → M.1 (y + 2) j = P.1.kind j ∧ M.1 (y + 3) j = P.1.heat j ∧ M.1 (y + 4) j = P.1.crow j ∧ M.1 (y + 5) j = P.1.near j ∧ M.2.1 (y + 1) j = P.1.name j) ∧
  (∀ j, j < P.1.ns → M.1 (y + 7) j = P.1.low j ∧ M.1 (y + 8) j = P.1.high j ∧ M.2.1 (y + 6) j = P.1.sname j) ∧
  (∀ j, j < P.1.nf → M.1 (y + 9) j = P.1.frost j)
/-- only the yard at y changed -/
def FY (M M' : Mm) (y : Nat) : Prop := (∀ i, ¬ (y ≤ i ∧ i ≤ y + 13) → M'.1 i = M.1 i) ∧ (∀ i, ¬ (y ≤ i ∧ i ≤ y + 13) → M'.2.1 i = M.2.1 i) ∧ M'.2.2 = M.2.2
/-- only the tokens and the yard at y changed -/
def FR (M M' : Mm) (y : Nat) : Prop := (∀ i, ¬ i = 6 → ¬ (y ≤ i ∧ i ≤ y + 13) → M'.1 i = M.1 i) ∧ (∀ i, ¬ i = 6 → ¬ (y ≤ i ∧ i ≤ y + 13) → M'.2.1 i = M.2.1 i) ∧ ∀ i, ¬ i = 6 → M'.2.2 i = M.2.2 i
theorem FR.rfl' {M : Mm} {y : Nat} : FR M M y := ⟨fun _ _ _ => rfl, fun _ _ _ => rfl, fun _ _ => rfl⟩
theorem FR.trans {A B C : Mm} {y : Nat} (h : FR A B y) (k : FR B C y) : FR A C y := ⟨fun i a b => (k.1 i a b).trans (h.1 i a b), fun i a b => (k.2.1 i a b).trans (h.2.1 i a b), fun i a => (k.2.2 i a).trans (h.2.2 i a)⟩
theorem TS.fr {M M' : Mm} {y : Nat} (h : TS M M') : FR M M' y := ⟨fun i a _ => h.1 i a, fun i a _ => h.2.1 i a, fun i a => h.2.2 i a⟩
theorem FY.fr {M M' : Mm} {y : Nat} (h : FY M M' y) : FR M M' y := ⟨fun i _ a => h.1 i a, fun i _ a => h.2.1 i a, fun i _ => by rw [h.2.2]⟩
theorem FY.tg {M M' : Mm} {y : Nat} {t : Tv} {x : Xv} (h : FY M M' y) (hy : y ∈ ydA) (hG : TG M t x) : TG M' t x := by
  have := yd_le hy
  have h8 : 8 ≤ y := by rcases yd_two hy with e | e <;> omega
  exact hG.keep (h.1 6 (by omega)) (h.1 7 (by omega)) (h.2.1 6 (by omega)) (by rw [h.2.2])
theorem YP.ts {M M' : Mm} {y : Nat} {P : Pv} (h : YP M y P) (hy : y ∈ ydA) (hs : TS M M') : YP M' y P := by
  have h8 : 8 ≤ y := by rcases yd_two hy with e | e <;> omega
  unfold YP
  rw [hs.1 y (by omega), hs.1 (y + 2) (by omega), hs.1 (y + 3) (by omega), hs.1 (y + 4) (by omega), hs.1 (y + 5) (by omega), hs.1 (y + 7) (by omega), hs.1 (y + 8) (by omega), hs.1 (y + 9) (by omega), hs.2.1 (y + 1) (by omega), hs.2.1 (y + 6) (by omega)]
  exact h
theorem LX.ts {M M' : Mm} {w : Nat} {c : List Int32} (h : LX M w c) (h8 : 8 ≤ w) (hs : TS M M') : LX M' w c := by
  unfold LX
  rw [hs.1 w (by omega), hs.1 (w + 1) (by omega)]
  exact h
def addSP (Y : Yv) (w : Int64) (k h c : Int32) : Yv := (Y.n + 1, Y.ns, Y.nf, Y.roof, fun f j => if f = 0 ∧ j = Y.n then k else if f = 1 ∧ j = Y.n then h else if f = 2 ∧ j = Y.n then c else if f = 3 ∧ j = Y.n then 0 else Y.2.2.2.2.1 f j, fun f j => if f = 0 ∧ j = Y.n then w else Y.2.2.2.2.2.1 f j, Y.gE)
def addGP (Y : Yv) (w : Int64) (a b : Int32) : Yv := (Y.n, Y.ns + 1, Y.nf, Y.roof, fun f j => if f = 4 ∧ j = Y.ns then a else if f = 5 ∧ j = Y.ns then b else Y.2.2.2.2.1 f j, fun f j => if f = 1 ∧ j = Y.ns then w else Y.2.2.2.2.2.1 f j, Y.gE)
def addNP (Y : Yv) (a b : Nat) : Yv := (Y.n, Y.ns, Y.nf, Y.roof, fun f j => if f = 3 ∧ j = b then (if b = a then Y.near a ||| b1 (nI b) else Y.near b) ||| b1 (nI a) else if f = 3 ∧ j = a then Y.near a ||| b1 (nI b) else Y.2.2.2.2.1 f j, Y.2.2.2.2.2.1, Y.gE)
def addFP (Y : Yv) (v : Int32) : Yv := if Y.nf < 12 then (Y.n, Y.ns, Y.nf + 1, Y.roof, fun f j => if f = 6 ∧ j = Y.nf then v else Y.2.2.2.2.1 f j, Y.2.2.2.2.2.1, Y.gE) else Y
def setRP (Y : Yv) (v : Int32) : Yv := (Y.n, Y.ns, Y.nf, v, Y.2.2.2.2.1, Y.2.2.2.2.2.1, Y.gE)
/-- the place of a name in a row -/
def fnd (g : Nat → Int64) (n : Nat) (w : Int64) : Option Nat := fstN (fun j => decide (g j = w)) 0 n
theorem fnd_lt {g : Nat → Int64} {n : Nat} {w : Int64} {j : Nat} (h : fnd g n w = some j) : j < n ∧ g j = w := by
  have := fst_spec (P := fun j => decide (g j = w)) n 0
  unfold fnd at h
  rw [h] at this
  obtain ⟨-, h1, h2, -⟩ := this
  exact ⟨by omega, of_decide_eq_true h2⟩
theorem fnd_congr {g g' : Nat → Int64} {n : Nat} {w : Int64} (h : ∀ j, j < n → g j = g' j) : fnd g n w = fnd g' n w := fst_congr n 0 (fun j _ hj => by rw [h j (by omega)])
set_option maxHeartbeats 4000000 in
set_option maxRecDepth 20000 in
theorem l_shedNamed {G : Gt} {M : Mm} {y n : Nat} {w : Int64} (hy : y ∈ ydA) (hn : M.1 y 5 = nI n) (h6 : n ≤ 6) : ∀ (k : Nat) (i : Nat) , (i ≤ n) → (n < i + k) → (fnd (M.2.1 (y + 1)) n w = fstN (fun j => decide (M.2.1 (y + 1) j = w)) i (n - i)) → Ev G 2 mX8_shedNamed 2 [.ref y, .long w, RA, .int (nI i)] [] M (eqQ (some (.int (oI (fnd (M.2.1 (y + 1)) n w)))) M) := by
  intro k
  induction k with
  | zero => intro i hi hk hr; exact absurd hk (by omega)
  | succ k ih =>
    intro i hi hk hr
    refine e_iload_n dX8_shedNamed_2 rfl ?_
    refine e_aload_n dX8_shedNamed_3 rfl ?_
    refine e_getI dX8_shedNamed_4 fl_X8_51 (sh_yd (by first | assumption | decide)) rfl ?_
    refine e_icmp_ge (tgt := 31) dX8_shedNamed_7 (by decide) (fun c7 => ?_) (fun c7 => ?_)
    · -- 7 jumps
      rw [hn] at c7
      have hin : i = n := by have := ge_of (by omega) (by omega) c7; omega
      subst hin
      refine e_iconst (v := (-1)) dX8_shedNamed_31 (by decide) ?_
      refine e_iret dX8_shedNamed_32 rfl ?_
      exact ⟨by rw [hr, fst_e]; rfl, rfl⟩
    · -- 7 goes on
      rw [hn] at c7
      have hlt : i < n := lt_of (by omega) (by omega) c7
      refine e_aload_n dX8_shedNamed_10 rfl ?_
      refine e_getR dX8_shedNamed_11 fl_X8_9 (sh_yd (by first | assumption | decide)) rfl ?_
      refine e_iload_n dX8_shedNamed_14 rfl ?_
      refine cS2r dX8_shedNamed_15 mo_X10_at_ ml_X8_81 (Nat.le_of_ble_eq_true rfl) (by omega) (c_atLN (sa_yd_shedNames (by first | assumption | decide)) (by decide) (by first | omega | decide)) ?_
      refine e_lload_n dX8_shedNamed_18 rfl ?_
      refine e_lcmp dX8_shedNamed_19 ?_
      refine e_if_ne (tgt := 25) dX8_shedNamed_20 (by decide) (fun c20 => ?_) (fun c20 => ?_)
      · -- 20 jumps
        refine e_iinc (ls' := [_, _, _, _]) dX8_shedNamed_25 rfl (nI_i1 _) (by decide) rfl ?_
        refine e_goto (tgt := 2) dX8_shedNamed_28 (by decide) ?_
        have hne : ¬ M.2.1 (y + 1) i = w := fun e => c20 (cmp0.mpr e)
        exact ih (i + 1) (by omega) (by omega) (hr.trans (fst_f hlt (decide_eq_false hne)))
      · -- 20 goes on
        refine e_iload_n dX8_shedNamed_23 rfl ?_
        refine e_iret dX8_shedNamed_24 rfl ?_
        have heq : M.2.1 (y + 1) i = w := cmp0.mp c20
        exact ⟨by rw [hr, fst_t hlt (decide_eq_true heq)]; rfl, rfl⟩
set_option maxHeartbeats 4000000 in
set_option maxRecDepth 20000 in
theorem c_shedNamed {G : Gt} {M : Mm} {y n : Nat} {w : Int64} (hy : y ∈ ydA) (hn : M.1 y 5 = nI n) (h6 : n ≤ 6) : Call G 2 mX8_shedNamed [.ref y, .long w] M (eqQ (some (.int (oI (fnd (M.2.1 (y + 1)) n w)))) M) := by
  refine Call.intro rfl (Nat.le_of_ble_eq_true rfl) ?_
  show Ev G _ mX8_shedNamed 0 [.ref y, .long w, RA, RA] [] M _
  refine e_iconst (v := 0) dX8_shedNamed_0 (by decide) ?_
  refine e_istore_n (ls' := [_, _, _, _]) dX8_shedNamed_1 (by decide) rfl ?_
  exact l_shedNamed hy hn h6 (n + 1) 0 (by omega) (by omega) rfl
set_option maxHeartbeats 4000000 in
set_option maxRecDepth 20000 in
theorem l_hasStage {G : Gt} {M : Mm} {y n : Nat} {w : Int64} (hy : y ∈ ydA) (hn : M.1 y 9 = nI n) (h6 : n ≤ 5) : ∀ (k : Nat) (i : Nat) , (i ≤ n) → (n < i + k) → (fnd (M.2.1 (y + 6)) n w = fstN (fun j => decide (M.2.1 (y + 6) j = w)) i (n - i)) → Ev G 2 mX8_hasStageNamed 2 [.ref y, .long w, RA, .int (nI i)] [] M (eqQ (some (.int (if (fnd (M.2.1 (y + 6)) n w).isSome then 1 else 0))) M) := by
  intro k
  induction k with
  | zero => intro i hi hk hr; exact absurd hk (by omega)
  | succ k ih =>
    intro i hi hk hr
    refine e_iload_n dX8_hasStageNamed_2 rfl ?_
    refine e_aload_n dX8_hasStageNamed_3 rfl ?_
    refine e_getI dX8_hasStageNamed_4 fl_X8_54 (sh_yd (by first | assumption | decide)) rfl ?_
    refine e_icmp_ge (tgt := 31) dX8_hasStageNamed_7 (by decide) (fun c7 => ?_) (fun c7 => ?_)
    · -- 7 jumps
      rw [hn] at c7
      have hin : i = n := by have := ge_of (by omega) (by omega) c7; omega
      subst hin
      refine e_iconst (v := 0) dX8_hasStageNamed_31 (by decide) ?_
      refine e_zret dX8_hasStageNamed_32 rfl (by first | rfl | exact b2i_nar _) ?_
      exact ⟨by rw [hr, fst_e]; rfl, rfl⟩
    · -- 7 goes on
      rw [hn] at c7
      have hlt : i < n := lt_of (by omega) (by omega) c7
      refine e_aload_n dX8_hasStageNamed_10 rfl ?_
      refine e_getR dX8_hasStageNamed_11 fl_X8_28 (sh_yd (by first | assumption | decide)) rfl ?_
      refine e_iload_n dX8_hasStageNamed_14 rfl ?_
      refine cS2r dX8_hasStageNamed_15 mo_X10_at_ ml_X8_81 (Nat.le_of_ble_eq_true rfl) (by omega) (c_atLN (sa_yd_stageNames (by first | assumption | decide)) (by decide) (by first | omega | decide)) ?_
      refine e_lload_n dX8_hasStageNamed_18 rfl ?_
      refine e_lcmp dX8_hasStageNamed_19 ?_
      refine e_if_ne (tgt := 25) dX8_hasStageNamed_20 (by decide) (fun c20 => ?_) (fun c20 => ?_)
      · -- 20 jumps
        refine e_iinc (ls' := [_, _, _, _]) dX8_hasStageNamed_25 rfl (nI_i1 _) (by decide) rfl ?_
        refine e_goto (tgt := 2) dX8_hasStageNamed_28 (by decide) ?_
        have hne : ¬ M.2.1 (y + 6) i = w := fun e => c20 (cmp0.mpr e)
        exact ih (i + 1) (by omega) (by omega) (hr.trans (fst_f hlt (decide_eq_false hne)))
      · -- 20 goes on
        refine e_iconst (v := 1) dX8_hasStageNamed_23 (by decide) ?_
        refine e_zret dX8_hasStageNamed_24 rfl (by first | rfl | exact b2i_nar _) ?_
        have heq : M.2.1 (y + 6) i = w := cmp0.mp c20
        exact ⟨by rw [hr, fst_t hlt (decide_eq_true heq)]; rfl, rfl⟩
set_option maxHeartbeats 4000000 in
set_option maxRecDepth 20000 in
theorem c_hasStage {G : Gt} {M : Mm} {y n : Nat} {w : Int64} (hy : y ∈ ydA) (hn : M.1 y 9 = nI n) (h6 : n ≤ 5) : Call G 2 mX8_hasStageNamed [.ref y, .long w] M (eqQ (some (.int (if (fnd (M.2.1 (y + 6)) n w).isSome then 1 else 0))) M) := by
  refine Call.intro rfl (Nat.le_of_ble_eq_true rfl) ?_
  show Ev G _ mX8_hasStageNamed 0 [.ref y, .long w, RA, RA] [] M _
  refine e_iconst (v := 0) dX8_hasStageNamed_0 (by decide) ?_
  refine e_istore_n (ls' := [_, _, _, _]) dX8_hasStageNamed_1 (by decide) rfl ?_
  exact l_hasStage hy hn h6 (n + 1) 0 (by omega) (by omega) rfl
theorem FY.i {M Mc : Mm} {y i k : Nat} {v : Int32} (h : FY M Mc y) (hi : y ≤ i ∧ i ≤ y + 13) : FY M (setI Mc i k v) y := ⟨fun q a => by funext z; rw [setI_1, if_neg (by omega)]; rw [h.1 q a], h.2.1, h.2.2⟩
theorem FY.l {M Mc : Mm} {y i k : Nat} {v : Int64} (h : FY M Mc y) (hi : y ≤ i ∧ i ≤ y + 13) : FY M (setL Mc i k v) y := ⟨h.1, fun q a => by funext z; rw [setL_21, if_neg (by omega)]; rw [h.2.1 q a], h.2.2⟩
theorem FY.rfl' {M : Mm} {y : Nat} : FY M M y := ⟨fun _ _ => rfl, fun _ _ => rfl, rfl⟩
theorem FY.lx {M M' : Mm} {y : Nat} {c : List Int32} (h : LX M (y + 10) c) (h1 : M'.1 (y + 10) = M.1 (y + 10)) (h2 : M'.1 (y + 11) = M.1 (y + 11)) : LX M' (y + 10) c := by
  unfold LX
  rw [h1, h2]
  exact h
set_option maxHeartbeats 4000000 in
set_option maxRecDepth 20000 in
theorem c_addShed {G : Gt} {M : Mm} {y : Nat} {P : Pv} {w : Int64} {k h c : Int32} (hy : y ∈ ydA) (hP : YP M y P) (hn : P.1.n < 6) : Call G 2 mX8_addShed [.ref y, .long w, .int k, .int h, .int c] M (fun r M' => r = none ∧ FY M M' y ∧ YP M' y (addSP P.1 w k h c, P.2) ∧ M'.1 (y + 10) = M.1 (y + 10) ∧ M'.1 (y + 11) = M.1 (y + 11)) := by
  obtain ⟨⟨pn, pn6⟩, ⟨ps, ps5⟩, ⟨pf, pf12⟩, pr, hs, hg, hf⟩ := id hP
  refine Call.intro rfl (Nat.le_of_ble_eq_true rfl) ?_
  show Ev G _ mX8_addShed 0 [.ref y, .long w, RA, .int k, .int h, .int c] [] M _
  refine e_aload_n dX8_addShed_0 rfl ?_
  refine e_getI dX8_addShed_1 fl_X8_51 (sh_yd (by first | assumption | decide)) rfl ?_
  rw [pn]
  refine e_bipush (v := 6) dX8_addShed_4 (by decide) ?_
  refine e_icmp_ge (tgt := 81) dX8_addShed_6 (by decide) (fun c6 => absurd c6 (by have := lt_of (i := P.1.n) (n := 6) (by omega) (by omega); exact fun q => absurd ((nI_ltI (a := P.1.n) (b := 6) (by omega) (by omega)).mpr hn) q)) (fun c6 => ?_)
  refine e_aload_n dX8_addShed_9 rfl ?_
  refine e_getR dX8_addShed_10 fl_X8_9 (sh_yd (by first | assumption | decide)) rfl ?_
  refine e_aload_n dX8_addShed_13 rfl ?_
  refine e_getI dX8_addShed_14 fl_X8_51 (sh_yd (by first | assumption | decide)) rfl ?_
  rw [pn]
  refine e_lload_n dX8_addShed_17 rfl ?_
  refine cS3v dX8_addShed_18 mo_X10_put_ ml_X8_70 (Nat.le_of_ble_eq_true rfl) (by omega) (c_putLN (sa_yd_shedNames (by first | assumption | decide)) (by decide) (by first | omega | decide)) ?_
  refine e_aload_n dX8_addShed_21 rfl ?_
  refine e_getR dX8_addShed_22 fl_X8_15 (sh_yd (by first | assumption | decide)) rfl ?_
  refine e_aload_n dX8_addShed_25 rfl ?_
  refine e_getI dX8_addShed_26 fl_X8_51 (sh_yd (by first | assumption | decide)) rfl ?_
  rw [setL_1, pn]
  refine e_iload_n dX8_addShed_29 rfl ?_
  refine cS3v dX8_addShed_30 mo_X10_put ml_X8_74 (Nat.le_of_ble_eq_true rfl) (by omega) (c_putN (sa_yd_kinds (by first | assumption | decide)) (by decide) (by first | omega | decide)) ?_
  refine e_aload_n dX8_addShed_33 rfl ?_
  refine e_getR dX8_addShed_34 fl_X8_19 (sh_yd (by first | assumption | decide)) rfl ?_
  refine e_aload_n dX8_addShed_37 rfl ?_
  refine e_getI dX8_addShed_38 fl_X8_51 (sh_yd (by first | assumption | decide)) rfl ?_
  rw [setI_1, if_neg (by omega), setL_1, pn]
  refine e_iload dX8_addShed_41 rfl ?_
  refine cS3v dX8_addShed_43 mo_X10_put ml_X8_74 (Nat.le_of_ble_eq_true rfl) (by omega) (c_putN (sa_yd_heats (by first | assumption | decide)) (by decide) (by first | omega | decide)) ?_
  refine e_aload_n dX8_addShed_46 rfl ?_
  refine e_getR dX8_addShed_47 fl_X8_22 (sh_yd (by first | assumption | decide)) rfl ?_
  refine e_aload_n dX8_addShed_50 rfl ?_
  refine e_getI dX8_addShed_51 fl_X8_51 (sh_yd (by first | assumption | decide)) rfl ?_
  rw [setI_1, if_neg (by omega), setI_1, if_neg (by omega), setL_1, pn]
  refine e_iload dX8_addShed_54 rfl ?_
  refine cS3v dX8_addShed_56 mo_X10_put ml_X8_74 (Nat.le_of_ble_eq_true rfl) (by omega) (c_putN (sa_yd_crowns (by first | assumption | decide)) (by decide) (by first | omega | decide)) ?_
  refine e_aload_n dX8_addShed_59 rfl ?_
  refine e_getR dX8_addShed_60 fl_X8_25 (sh_yd (by first | assumption | decide)) rfl ?_
  refine e_aload_n dX8_addShed_63 rfl ?_
  refine e_getI dX8_addShed_64 fl_X8_51 (sh_yd (by first | assumption | decide)) rfl ?_
  rw [setI_1, if_neg (by omega), setI_1, if_neg (by omega), setI_1, if_neg (by omega), setL_1, pn]
  refine e_iconst (v := 0) dX8_addShed_67 (by decide) ?_
  refine cS3v dX8_addShed_68 mo_X10_put ml_X8_74 (Nat.le_of_ble_eq_true rfl) (by omega) (c_putN (sa_yd_near (by first | assumption | decide)) (by decide) (by first | omega | decide)) ?_
  refine e_aload_n dX8_addShed_71 rfl ?_
  refine e_dup dX8_addShed_72 rfl ?_
  refine e_getI dX8_addShed_73 fl_X8_51 (sh_yd (by first | assumption | decide)) rfl ?_
  rw [setI_1, if_neg (by omega), setI_1, if_neg (by omega), setI_1, if_neg (by omega), setI_1, if_neg (by omega), setL_1, pn]
  refine e_iconst (v := 1) dX8_addShed_76 (by decide) ?_
  refine e_iadd dX8_addShed_77 ?_
  refine e_putI dX8_addShed_78 fl_X8_51 (sh_yd (by first | assumption | decide)) rfl rfl rfl ?_
  refine e_vret dX8_addShed_81 rfl ?_
  refine ⟨rfl, ((((((FY.rfl').l ⟨by omega, by omega⟩).i ⟨by omega, by omega⟩).i ⟨by omega, by omega⟩).i ⟨by omega, by omega⟩).i ⟨by omega, by omega⟩).i ⟨by omega, by omega⟩, ⟨⟨?_, hn⟩, ⟨?_, ps5⟩, ⟨?_, pf12⟩, ?_, fun j hj => ?_, fun j hj => ?_, fun j hj => ?_⟩, ?_, ?_⟩
  · rw [setI_1, if_pos ⟨rfl, rfl⟩]; exact nI_1 _
  · simp only [setI_1, setL_1]; (repeat (first | rw [if_pos (by first | omega | exact ⟨trivial, rfl⟩)] | rw [if_neg (by omega)] | rw [setI_1] | rw [setL_21])); exact ps
  · simp only [setI_1, setL_1]; (repeat (first | rw [if_pos (by first | omega | exact ⟨trivial, rfl⟩)] | rw [if_neg (by omega)] | rw [setI_1] | rw [setL_21])); exact pf
  · simp only [setI_1, setL_1]; (repeat (first | rw [if_pos (by first | omega | exact ⟨trivial, rfl⟩)] | rw [if_neg (by omega)] | rw [setI_1] | rw [setL_21])); exact pr
  · have hj2 : j < P.1.n + 1 := hj
    simp only [setI_1, setI_2, setL_1, setL_21]
    rcases Nat.lt_or_ge j P.1.n with q | q
    · obtain ⟨a1, a2, a3, a4, a5⟩ := hs j q
      refine ⟨?_, ?_, ?_, ?_, ?_⟩
      · show _ = (if _ then _ else _); (repeat (first | rw [if_pos (by first | omega | exact ⟨trivial, rfl⟩)] | rw [if_neg (by omega)] | rw [setI_1] | rw [setL_21])); exact a1
      · show _ = (if _ then _ else _); (repeat (first | rw [if_pos (by first | omega | exact ⟨trivial, rfl⟩)] | rw [if_neg (by omega)] | rw [setI_1] | rw [setL_21])); exact a2
      · show _ = (if _ then _ else _); (repeat (first | rw [if_pos (by first | omega | exact ⟨trivial, rfl⟩)] | rw [if_neg (by omega)] | rw [setI_1] | rw [setL_21])); exact a3
      · show _ = (if _ then _ else _); (repeat (first | rw [if_pos (by first | omega | exact ⟨trivial, rfl⟩)] | rw [if_neg (by omega)] | rw [setI_1] | rw [setL_21])); exact a4
      · show _ = (if _ then _ else _); (repeat (first | rw [if_pos (by first | omega | exact ⟨trivial, rfl⟩)] | rw [if_neg (by omega)] | rw [setI_1] | rw [setL_21])); exact a5
    · obtain rfl : j = P.1.n := by omega
      refine ⟨?_, ?_, ?_, ?_, ?_⟩ <;> (show _ = (if _ then _ else _); (repeat (first | rw [if_pos (by first | omega | exact ⟨trivial, rfl⟩)] | rw [if_neg (by omega)] | rw [setI_1] | rw [setL_21])))
  · simp only [setI_1, setI_2, setL_1, setL_21]
    obtain ⟨a1, a2, a3⟩ := hg j hj
    refine ⟨?_, ?_, ?_⟩
    · (repeat (first | rw [if_pos (by first | omega | exact ⟨trivial, rfl⟩)] | rw [if_neg (by omega)] | rw [setI_1] | rw [setL_21])); exact a1
    · (repeat (first | rw [if_pos (by first | omega | exact ⟨trivial, rfl⟩)] | rw [if_neg (by omega)] | rw [setI_1] | rw [setL_21])); exact a2
    · (repeat (first | rw [if_pos (by first | omega | exact ⟨trivial, rfl⟩)] | rw [if_neg (by omega)] | rw [setI_1] | rw [setL_21])); exact a3
  · simp only [setI_1, setL_1]; (repeat (first | rw [if_pos (by first | omega | exact ⟨trivial, rfl⟩)] | rw [if_neg (by omega)] | rw [setI_1] | rw [setL_21])); exact hf j hj
  · funext z; simp only [setI_1, setL_1]; (repeat (first | rw [if_pos (by first | omega | exact ⟨trivial, rfl⟩)] | rw [if_neg (by omega)] | rw [setI_1] | rw [setL_21]))
  · funext z; simp only [setI_1, setL_1]; (repeat (first | rw [if_pos (by first | omega | exact ⟨trivial, rfl⟩)] | rw [if_neg (by omega)] | rw [setI_1] | rw [setL_21]))
end XYP
