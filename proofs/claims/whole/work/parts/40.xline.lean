section XLI
theorem tkN_f {t : Tv} {x : Xv} {a b : Int32} (h : ¬ x.1 = 0) : tkN t x a b = x := by
  unfold tkN
  rw [if_neg (fun q => h q.1), fail_f h, adv_f h]
theorem tkW_f {t : Tv} {x : Xv} {k : Nat} (h : ¬ x.1 = 0) : tkW t x k = x := by
  unfold tkW
  rw [if_neg (fun q => h q.1), fail_f h, adv_f h]
def tkK (t : Tv) (x : Xv) : Xv := advX t (if isW t x 14 ∨ isW t x 15 ∨ isW t x 16 ∨ isW t x 17 then x else failX t 1 x)
def kindX (t : Tv) (x : Xv) : Int32 := if isW t x 14 then 0 else if isW t x 15 then 1 else if isW t x 16 then 2 else if isW t x 17 then 3 else -1
theorem tkK_0 {t : Tv} {x : Xv} (h : (tkK t x).1 = 0) (hx : x.2 ≤ t.1) (hI : TI t) : isW t x 14 ∨ isW t x 15 ∨ isW t x 16 ∨ isW t x 17 := by
  unfold tkK at h
  rw [adv_1] at h
  split at h
  · assumption
  · exact absurd h (fail_nz (k := 1) (by decide) hx hI)
abbrev rs1 (t : Tv) (x : Xv) (P : Pv) : Xv := advX t (if P.1.n < 6 then x else failX t 5 x)
abbrev rs2 (t : Tv) (x : Xv) (P : Pv) : Xv := tkM t (rs1 t x P) P.1
abbrev rs3 (t : Tv) (x : Xv) (P : Pv) : Xv := tkK t (rs2 t x P)
abbrev rs4 (t : Tv) (x : Xv) (P : Pv) : Xv := tkW t (rs3 t x P) 2
abbrev rs5 (t : Tv) (x : Xv) (P : Pv) : Xv := tkN t (rs4 t x P) 0 9
abbrev rs6 (t : Tv) (x : Xv) (P : Pv) : Xv := tkW t (rs5 t x P) 3
abbrev rs7 (t : Tv) (x : Xv) (P : Pv) : Xv := tkN t (rs6 t x P) 1 20
def rdS (t : Tv) (x : Xv) (P : Pv) : Xv × Pv := (rs7 t x P, (addSP P.1 (wdX t (rs1 t x P)) (kindX t (rs2 t x P)) (nmX t (rs4 t x P)) (nmX t (rs6 t x P)), P.2))
abbrev rn1 (t : Tv) (x : Xv) : Xv := advX t x
abbrev rn2 (t : Tv) (x : Xv) (P : Pv) : Xv := shH t (rn1 t x) P.1
abbrev rn3 (t : Tv) (x : Xv) (P : Pv) : Xv := advX t (rn2 t x P)
abbrev rn4 (t : Tv) (x : Xv) (P : Pv) : Xv := shH t (rn3 t x P) P.1
def rnA (t : Tv) (x : Xv) (P : Pv) : Nat := (fnd P.1.name P.1.n (wdX t (rn1 t x))).getD 0
def rnB (t : Tv) (x : Xv) (P : Pv) : Nat := (fnd P.1.name P.1.n (wdX t (rn3 t x P))).getD 0
abbrev rnD (t : Tv) (x : Xv) (P : Pv) : Prop := rnA t x P = rnB t x P ∨ bitI (P.1.near (rnA t x P)) (nI (rnB t x P))
abbrev rn6 (t : Tv) (x : Xv) (P : Pv) : Xv := advX t (if rnD t x P then failX t 3 (rn4 t x P) else rn4 t x P)
def rdNr (t : Tv) (x : Xv) (P : Pv) : Xv × Pv := (rn6 t x P, (addNP P.1 (rnA t x P) (rnB t x P), P.2))
abbrev rg1 (t : Tv) (x : Xv) (P : Pv) : Xv := advX t (if P.1.ns < 5 then x else failX t 5 x)
abbrev rg2 (t : Tv) (x : Xv) (P : Pv) : Xv := tkM t (rg1 t x P) P.1
abbrev rg3 (t : Tv) (x : Xv) (P : Pv) : Xv := tkW t (rg2 t x P) 6
abbrev rg4 (t : Tv) (x : Xv) (P : Pv) : Xv := tkN t (rg3 t x P) 0 60
abbrev rg5 (t : Tv) (x : Xv) (P : Pv) : Xv := tkW t (rg4 t x P) 7
abbrev rg6 (t : Tv) (x : Xv) (P : Pv) : Xv := tkN t (rg5 t x P) (nmX t (rg3 t x P)) 99
def rdG (t : Tv) (x : Xv) (P : Pv) : Xv × Pv := (rg6 t x P, (addGP P.1 (wdX t (rg1 t x P)) (nmX t (rg3 t x P)) (nmX t (rg5 t x P)), P.2))
def frL (t : Tv) : Nat → Xv × Yv → Xv × Yv
  | 0, r => r
  | k + 1, r => if isN t r.1 then frL t k (tkN t (if k = 0 ∧ vWi (nmX t r.1) 0 9 then failX t 5 r.1 else r.1) 0 9, addFP r.2 (nmX t r.1)) else r
abbrev rf1 (t : Tv) (x : Xv) (P : Pv) : Xv := advX t (if 0 < P.1.nf then failX t 3 x else x)
def rdF (t : Tv) (x : Xv) (P : Pv) : Xv × Pv := ((frL t 12 (tkN t (rf1 t x P) 0 9, addFP P.1 (nmX t (rf1 t x P)))).1, ((frL t 12 (tkN t (rf1 t x P) 0 9, addFP P.1 (nmX t (rf1 t x P)))).2, P.2))
abbrev rr1 (t : Tv) (x : Xv) (P : Pv) : Xv := advX t (if 0 < P.1.roof then failX t 3 x else x)
def rdR (t : Tv) (x : Xv) (P : Pv) : Xv × Pv := (tkN t (rr1 t x P) 5 60, (setRP P.1 (nmX t (rr1 t x P)), P.2))
/-- a line was read into the yard at y -/
def LQ (M : Mm) (t : Tv) (y : Nat) (x x' : Xv) (P1 : Pv) : Option Value → Mm → Prop := fun r M' => r = none ∧ FR M M' y ∧ TG M' t x' ∧ (∃ P', YP M' y P' ∧ (x'.1 = 0 → P' = P1)) ∧ (x'.1 = 0 → x.1 = 0) ∧ M'.1 (y + 10) = M.1 (y + 10) ∧ M'.1 (y + 11) = M.1 (y + 11)
/-- the law's cells stay -/
def LK (M M' : Mm) (y : Nat) : Prop := M'.1 (y + 10) = M.1 (y + 10) ∧ M'.1 (y + 11) = M.1 (y + 11)
theorem TS.lk {M M' : Mm} {y : Nat} (h : TS M M') (hy : y ∈ ydA) : LK M M' y := by
  have := yd_le hy
  exact ⟨h.1 _ (by omega), h.1 _ (by omega)⟩
theorem LK.trans {A B C : Mm} {y : Nat} (h : LK A B y) (k : LK B C y) : LK A C y := ⟨k.1.trans h.1, k.2.trans h.2⟩
theorem LK.rfl' {M : Mm} {y : Nat} : LK M M y := ⟨rfl, rfl⟩
set_option maxHeartbeats 4000000 in
set_option maxRecDepth 20000 in
theorem c_takeKind {G : Gt} {M : Mm} {t : Tv} {x : Xv} (hG : TG M t x) : Call G 9 mX9_takeKind [.ref 6] M (fun r M' => r = some (.int (kindX t x)) ∧ TS M M' ∧ TG M' t (tkK t x)) := by
  refine Call.intro rfl (Nat.le_of_ble_eq_true rfl) ?_
  show Ev G _ mX9_takeKind 0 [.ref 6, RA] [] M _
  refine e_iconst (v := (-1)) dX9_takeKind_0 (by decide) ?_
  refine e_istore_n (ls' := [_, _]) dX9_takeKind_1 (by decide) rfl ?_
  refine e_aload_n dX9_takeKind_2 rfl ?_
  refine e_getW (i := 14) dX9_takeKind_3 (by decide) (mem_g 520 (by decide +kernel) rfl) ?_
  refine cV1r dX9_takeKind_6 mo_X4_isWord ml_X9_29 sh_tk rfl (Nat.le_of_ble_eq_true rfl) (by omega) (c_isWord (k := 14) hG (by decide)) ?_
  refine e_if_eq (tgt := 17) dX9_takeKind_9 (by decide) (fun c9 => ?_) (fun c9 => ?_)
  · -- 9 jumps
    refine e_aload_n dX9_takeKind_17 rfl ?_
    refine e_getW (i := 15) dX9_takeKind_18 (by decide) (mem_g 522 (by decide +kernel) rfl) ?_
    refine cV1r dX9_takeKind_21 mo_X4_isWord ml_X9_29 sh_tk rfl (Nat.le_of_ble_eq_true rfl) (by omega) (c_isWord (k := 15) hG (by decide)) ?_
    refine e_if_eq (tgt := 32) dX9_takeKind_24 (by decide) (fun c24 => ?_) (fun c24 => ?_)
    · -- 24 jumps
      refine e_aload_n dX9_takeKind_32 rfl ?_
      refine e_getW (i := 16) dX9_takeKind_33 (by decide) (mem_g 524 (by decide +kernel) rfl) ?_
      refine cV1r dX9_takeKind_36 mo_X4_isWord ml_X9_29 sh_tk rfl (Nat.le_of_ble_eq_true rfl) (by omega) (c_isWord (k := 16) hG (by decide)) ?_
      refine e_if_eq (tgt := 47) dX9_takeKind_39 (by decide) (fun c39 => ?_) (fun c39 => ?_)
      · -- 39 jumps
        refine e_aload_n dX9_takeKind_47 rfl ?_
        refine e_getW (i := 17) dX9_takeKind_48 (by decide) (mem_g 526 (by decide +kernel) rfl) ?_
        refine cV1r dX9_takeKind_51 mo_X4_isWord ml_X9_29 sh_tk rfl (Nat.le_of_ble_eq_true rfl) (by omega) (c_isWord (k := 17) hG (by decide)) ?_
        refine e_if_eq (tgt := 62) dX9_takeKind_54 (by decide) (fun c54 => ?_) (fun c54 => ?_)
        · -- 54 jumps
          refine e_aload_n dX9_takeKind_62 rfl ?_
          refine e_iconst (v := 1) dX9_takeKind_63 (by decide) ?_
          refine cV1x dX9_takeKind_64 mo_X4_fail ml_X9_76 sh_tk rfl (Nat.le_of_ble_eq_true rfl) (by omega) (c_fail (k := 1) hG (by decide)) ?_
          rintro r M1 ⟨rfl, hsF, hGF⟩
          dsimp only [Option.toList, List.cons_append, List.nil_append]
          refine e_aload_n dX9_takeKind_67 rfl ?_
          refine cV0x dX9_takeKind_68 mo_X4_advance ml_X9_80 sh_tk rfl (Nat.le_of_ble_eq_true rfl) (by omega) (c_advX hGF) ?_
          rintro r M2 ⟨rfl, hsA, hGA⟩
          dsimp only [Option.toList, List.cons_append, List.nil_append]
          refine e_iload_n dX9_takeKind_71 rfl ?_
          refine e_iret dX9_takeKind_72 rfl ?_
          have e : tkK t x = advX t (failX t 1 x) := by
            unfold tkK
            rw [if_neg (fun z => z.elim (b2i_eq0.mp c9) (fun z => z.elim (b2i_eq0.mp c24) (fun z => z.elim (b2i_eq0.mp c39) (b2i_eq0.mp c54))))]
          rw [e]
          exact ⟨by unfold kindX; rw [if_neg (b2i_eq0.mp c9), if_neg (b2i_eq0.mp c24), if_neg (b2i_eq0.mp c39), if_neg (b2i_eq0.mp c54)], hsF.trans hsA, hGA⟩
        · -- 54 goes on
          refine e_iconst (v := 3) dX9_takeKind_57 (by decide) ?_
          refine e_istore_n (ls' := [_, _]) dX9_takeKind_58 (by decide) rfl ?_
          refine e_goto (tgt := 67) dX9_takeKind_59 (by decide) ?_
          refine e_aload_n dX9_takeKind_67 rfl ?_
          refine cV0x dX9_takeKind_68 mo_X4_advance ml_X9_80 sh_tk rfl (Nat.le_of_ble_eq_true rfl) (by omega) (c_advX hG) ?_
          rintro r M2 ⟨rfl, hsA, hGA⟩
          dsimp only [Option.toList, List.cons_append, List.nil_append]
          refine e_iload_n dX9_takeKind_71 rfl ?_
          refine e_iret dX9_takeKind_72 rfl ?_
          have e : tkK t x = advX t x := by
            unfold tkK
            rw [if_pos (Or.inr (Or.inr (Or.inr (Classical.not_not.mp (fun q => c54 (b2i_f q))))))]
          rw [e]
          exact ⟨by unfold kindX; rw [if_neg (b2i_eq0.mp c9), if_neg (b2i_eq0.mp c24), if_neg (b2i_eq0.mp c39), if_pos (Classical.not_not.mp (fun q => c54 (b2i_f q)))], hsA, hGA⟩
      · -- 39 goes on
        refine e_iconst (v := 2) dX9_takeKind_42 (by decide) ?_
        refine e_istore_n (ls' := [_, _]) dX9_takeKind_43 (by decide) rfl ?_
        refine e_goto (tgt := 67) dX9_takeKind_44 (by decide) ?_
        refine e_aload_n dX9_takeKind_67 rfl ?_
        refine cV0x dX9_takeKind_68 mo_X4_advance ml_X9_80 sh_tk rfl (Nat.le_of_ble_eq_true rfl) (by omega) (c_advX hG) ?_
        rintro r M2 ⟨rfl, hsA, hGA⟩
        dsimp only [Option.toList, List.cons_append, List.nil_append]
        refine e_iload_n dX9_takeKind_71 rfl ?_
        refine e_iret dX9_takeKind_72 rfl ?_
        have e : tkK t x = advX t x := by
          unfold tkK
          rw [if_pos (Or.inr (Or.inr (Or.inl (Classical.not_not.mp (fun q => c39 (b2i_f q))))))]
        rw [e]
        exact ⟨by unfold kindX; rw [if_neg (b2i_eq0.mp c9), if_neg (b2i_eq0.mp c24), if_pos (Classical.not_not.mp (fun q => c39 (b2i_f q)))], hsA, hGA⟩
    · -- 24 goes on
      refine e_iconst (v := 1) dX9_takeKind_27 (by decide) ?_
      refine e_istore_n (ls' := [_, _]) dX9_takeKind_28 (by decide) rfl ?_
      refine e_goto (tgt := 67) dX9_takeKind_29 (by decide) ?_
      refine e_aload_n dX9_takeKind_67 rfl ?_
      refine cV0x dX9_takeKind_68 mo_X4_advance ml_X9_80 sh_tk rfl (Nat.le_of_ble_eq_true rfl) (by omega) (c_advX hG) ?_
      rintro r M2 ⟨rfl, hsA, hGA⟩
      dsimp only [Option.toList, List.cons_append, List.nil_append]
      refine e_iload_n dX9_takeKind_71 rfl ?_
      refine e_iret dX9_takeKind_72 rfl ?_
      have e : tkK t x = advX t x := by
        unfold tkK
        rw [if_pos (Or.inr (Or.inl (Classical.not_not.mp (fun q => c24 (b2i_f q)))))]
      rw [e]
      exact ⟨by unfold kindX; rw [if_neg (b2i_eq0.mp c9), if_pos (Classical.not_not.mp (fun q => c24 (b2i_f q)))], hsA, hGA⟩
  · -- 9 goes on
    refine e_iconst (v := 0) dX9_takeKind_12 (by decide) ?_
    refine e_istore_n (ls' := [_, _]) dX9_takeKind_13 (by decide) rfl ?_
    refine e_goto (tgt := 67) dX9_takeKind_14 (by decide) ?_
    refine e_aload_n dX9_takeKind_67 rfl ?_
    refine cV0x dX9_takeKind_68 mo_X4_advance ml_X9_80 sh_tk rfl (Nat.le_of_ble_eq_true rfl) (by omega) (c_advX hG) ?_
    rintro r M2 ⟨rfl, hsA, hGA⟩
    dsimp only [Option.toList, List.cons_append, List.nil_append]
    refine e_iload_n dX9_takeKind_71 rfl ?_
    refine e_iret dX9_takeKind_72 rfl ?_
    have e : tkK t x = advX t x := by
      unfold tkK
      rw [if_pos (Or.inl (Classical.not_not.mp (fun q => c9 (b2i_f q))))]
    rw [e]
    exact ⟨by unfold kindX; rw [if_pos (Classical.not_not.mp (fun q => c9 (b2i_f q)))], hsA, hGA⟩
-- the lines
set_option maxHeartbeats 4000000 in
set_option maxRecDepth 20000 in
theorem c_rdS {G : Gt} {M : Mm} {t : Tv} {x : Xv} {y : Nat} {P : Pv} (hy : y ∈ ydA) (hG : TG M t x) (hP : YP M y P) : Call G 10 mX9_readShed [.ref 6, .ref y] M (LQ M t y x (rs7 t x P) (addSP P.1 (wdX t (rs1 t x P)) (kindX t (rs2 t x P)) (nmX t (rs4 t x P)) (nmX t (rs6 t x P)), P.2)) := by
  have hI := hG.2.1
  have pn6 := hP.1.2
  refine Call.intro rfl (Nat.le_of_ble_eq_true rfl) ?_
  show Ev G _ mX9_readShed 0 [.ref 6, .ref y, RA, RA, RA, RA, RA] [] M _
  refine e_aload_n dX9_readShed_0 rfl ?_
  refine e_getI dX9_readShed_1 fl_X9_96 (sh_yd (by first | assumption | decide)) rfl ?_
  rw [hP.1.1]
  refine e_bipush (v := 6) dX9_readShed_4 (by decide) ?_
  refine e_icmp_lt (tgt := 14) dX9_readShed_6 (by decide) (fun c6 => ?_) (fun c6 => ?_)
  · -- 6 jumps
    have hn : P.1.n < 6 := lt_of (n := 6) (by omega) (by omega) c6
    refine e_aload_n dX9_readShed_14 rfl ?_
    refine cV0x dX9_readShed_15 mo_X4_advance ml_X9_80 sh_tk rfl (Nat.le_of_ble_eq_true rfl) (by omega) (c_advX (x := (if P.1.n < 6 then x else failX t 5 x)) (by rw [if_pos hn]; exact hG)) ?_
    rintro r M1 ⟨rfl, hsA, hG1⟩
    dsimp only [Option.toList, List.cons_append, List.nil_append]
    have hs1 : TS M M1 := hsA
    refine e_aload_n dX9_readShed_18 rfl ?_
    refine e_aload_n dX9_readShed_19 rfl ?_
    refine cV1x dX9_readShed_20 mo_X4_takeNewName ml_X9_99 sh_tk rfl (Nat.le_of_ble_eq_true rfl) (by omega) (c_takeNew hG1 hy (hP.ts hy hs1)) ?_
    rintro r M2 ⟨⟨w, rfl, hw⟩, hs2, hG2⟩
    dsimp only [Option.toList, List.cons_append, List.nil_append]
    refine e_lstore_n (ls' := [_, _, _, _, _, _, _]) dX9_readShed_23 (by decide) rfl ?_
    refine e_aload_n dX9_readShed_24 rfl ?_
    refine cS1x dX9_readShed_25 mo_X9_takeKind ml_X9_103 (Nat.le_of_ble_eq_true rfl) (by omega) (c_takeKind hG2) ?_
    rintro r M3 ⟨rfl, hs3, hG3⟩
    dsimp only [Option.toList, List.cons_append, List.nil_append]
    refine e_istore (ls' := [_, _, _, _, _, _, _]) dX9_readShed_28 (by decide) rfl ?_
    refine e_aload_n dX9_readShed_30 rfl ?_
    refine e_getW (i := 2) dX9_readShed_31 (by decide) (mem_g 528 (by decide +kernel) rfl) ?_
    refine cV1x dX9_readShed_34 mo_X4_takeWord ml_X9_110 sh_tk rfl (Nat.le_of_ble_eq_true rfl) (by omega) (c_takeWord (k := 2) hG3 (by decide)) ?_
    rintro r M4 ⟨rfl, hs4, hG4⟩
    dsimp only [Option.toList, List.cons_append, List.nil_append]
    refine e_aload_n dX9_readShed_37 rfl ?_
    refine e_iconst (v := 0) dX9_readShed_38 (by decide) ?_
    refine e_bipush (v := 9) dX9_readShed_39 (by decide) ?_
    refine cV2x dX9_readShed_41 mo_X4_takeNumber ml_X9_114 sh_tk rfl (Nat.le_of_ble_eq_true rfl) (by omega) (c_takeNumber hG4) ?_
    rintro r M5 ⟨⟨v5, rfl, hv5⟩, hs5, hG5⟩
    dsimp only [Option.toList, List.cons_append, List.nil_append]
    refine e_istore (ls' := [_, _, _, _, _, _, _]) dX9_readShed_44 (by decide) rfl ?_
    refine e_aload_n dX9_readShed_46 rfl ?_
    refine e_getW (i := 3) dX9_readShed_47 (by decide) (mem_g 543 (by decide +kernel) rfl) ?_
    refine cV1x dX9_readShed_50 mo_X4_takeWord ml_X9_110 sh_tk rfl (Nat.le_of_ble_eq_true rfl) (by omega) (c_takeWord (k := 3) hG5 (by decide)) ?_
    rintro r M6 ⟨rfl, hs6, hG6⟩
    dsimp only [Option.toList, List.cons_append, List.nil_append]
    refine e_aload_n dX9_readShed_53 rfl ?_
    refine e_iconst (v := 1) dX9_readShed_54 (by decide) ?_
    refine e_bipush (v := 20) dX9_readShed_55 (by decide) ?_
    refine cV2x dX9_readShed_57 mo_X4_takeNumber ml_X9_114 sh_tk rfl (Nat.le_of_ble_eq_true rfl) (by omega) (c_takeNumber hG6) ?_
    rintro r M7 ⟨⟨v7, rfl, hv7⟩, hs7, hG7⟩
    dsimp only [Option.toList, List.cons_append, List.nil_append]
    have hsz : TS M M7 := (((((hs1.trans hs2).trans hs3).trans hs4).trans hs5).trans hs6).trans hs7
    refine e_istore (ls' := [_, _, _, _, _, _, _]) dX9_readShed_60 (by decide) rfl ?_
    refine e_aload_n dX9_readShed_62 rfl ?_
    refine e_getI dX9_readShed_63 fl_X9_93 sh_tk rfl ?_
    rw [hG7.f9]
    refine e_if_ne (tgt := 80) dX9_readShed_66 (by decide) (fun c66 => ?_) (fun c66 => ?_)
    · -- 66 jumps
      refine e_vret dX9_readShed_80 rfl ?_
      exact ⟨rfl, hsz.fr, hG7, ⟨P, hP.ts hy hsz, fun q => absurd q c66⟩, fun q => absurd q c66, hsz.lk hy⟩
    · -- 66 goes on
      have h7 : (rs7 t x P).1 = 0 := c66
      have h6 := (tkN_0 h7 hG6.1 hI).1.1
      have h5 := (tkW_0 h6 hG5.1 hI).1
      have h4 := (tkN_0 h5 hG4.1 hI).1.1
      have h3 := (tkW_0 h4 hG3.1 hI).1
      have h2 : (rs2 t x P).1 = 0 := by rcases tkK_0 h3 hG2.1 hI with q | q | q | q <;> exact q.1
      have h1 := (tkM_0 h2 hG1.1 hI).1.1
      have h0 : (if P.1.n < 6 then x else failX t 5 x).1 = 0 := adv_1.symm.trans h1
      have hn6 : P.1.n < 6 := by
        rcases Nat.lt_or_ge P.1.n 6 with q | q
        · exact q
        · rw [if_neg (by omega)] at h0; exact absurd h0 (fail_nz (k := 5) (by decide) hG.1 hI)
      have hx0 : x.1 = 0 := by
        rw [if_pos hn6] at h0
        exact h0
      refine e_aload_n dX9_readShed_69 rfl ?_
      refine e_lload_n dX9_readShed_70 rfl ?_
      refine e_iload dX9_readShed_71 rfl ?_
      refine e_iload dX9_readShed_73 rfl ?_
      refine e_iload dX9_readShed_75 rfl ?_
      refine cV4x dX9_readShed_77 mo_X8_addShed ml_X9_121 (sh_yd (by first | assumption | decide)) rfl (Nat.le_of_ble_eq_true rfl) (by omega) (c_addShed hy (hP.ts hy hsz) hn6) ?_
      rintro r M8 ⟨rfl, hF8, hP8, hl8, hk8⟩
      dsimp only [Option.toList, List.cons_append, List.nil_append]
      refine e_vret dX9_readShed_80 rfl ?_
      have hw2 := hw h2
      have hv52 := hv5 h5
      have hv72 := hv7 h7
      rw [hw2, hv52, hv72] at hP8
      exact ⟨rfl, hsz.fr.trans hF8.fr, hF8.tg hy hG7, ⟨_, hP8, fun _ => rfl⟩, fun _ => hx0, (hsz.lk hy).trans ⟨hl8, hk8⟩⟩
  · -- 6 goes on
    have hn : ¬ P.1.n < 6 := by have := ge_of (n := 6) (by omega) (by omega) c6; omega
    refine e_aload_n dX9_readShed_9 rfl ?_
    refine e_iconst (v := 5) dX9_readShed_10 (by decide) ?_
    refine cV1x dX9_readShed_11 mo_X4_fail ml_X9_76 sh_tk rfl (Nat.le_of_ble_eq_true rfl) (by omega) (c_fail (k := 5) hG (by decide)) ?_
    rintro r M0 ⟨rfl, hsF, hGF⟩
    dsimp only [Option.toList, List.cons_append, List.nil_append]
    refine e_aload_n dX9_readShed_14 rfl ?_
    refine cV0x dX9_readShed_15 mo_X4_advance ml_X9_80 sh_tk rfl (Nat.le_of_ble_eq_true rfl) (by omega) (c_advX (x := (if P.1.n < 6 then x else failX t 5 x)) (by rw [if_neg hn]; exact hGF)) ?_
    rintro r M1 ⟨rfl, hsA, hG1⟩
    dsimp only [Option.toList, List.cons_append, List.nil_append]
    have hs1 : TS M M1 := hsF.trans hsA
    refine e_aload_n dX9_readShed_18 rfl ?_
    refine e_aload_n dX9_readShed_19 rfl ?_
    refine cV1x dX9_readShed_20 mo_X4_takeNewName ml_X9_99 sh_tk rfl (Nat.le_of_ble_eq_true rfl) (by omega) (c_takeNew hG1 hy (hP.ts hy hs1)) ?_
    rintro r M2 ⟨⟨w, rfl, hw⟩, hs2, hG2⟩
    dsimp only [Option.toList, List.cons_append, List.nil_append]
    refine e_lstore_n (ls' := [_, _, _, _, _, _, _]) dX9_readShed_23 (by decide) rfl ?_
    refine e_aload_n dX9_readShed_24 rfl ?_
    refine cS1x dX9_readShed_25 mo_X9_takeKind ml_X9_103 (Nat.le_of_ble_eq_true rfl) (by omega) (c_takeKind hG2) ?_
    rintro r M3 ⟨rfl, hs3, hG3⟩
    dsimp only [Option.toList, List.cons_append, List.nil_append]
    refine e_istore (ls' := [_, _, _, _, _, _, _]) dX9_readShed_28 (by decide) rfl ?_
    refine e_aload_n dX9_readShed_30 rfl ?_
    refine e_getW (i := 2) dX9_readShed_31 (by decide) (mem_g 528 (by decide +kernel) rfl) ?_
    refine cV1x dX9_readShed_34 mo_X4_takeWord ml_X9_110 sh_tk rfl (Nat.le_of_ble_eq_true rfl) (by omega) (c_takeWord (k := 2) hG3 (by decide)) ?_
    rintro r M4 ⟨rfl, hs4, hG4⟩
    dsimp only [Option.toList, List.cons_append, List.nil_append]
    refine e_aload_n dX9_readShed_37 rfl ?_
    refine e_iconst (v := 0) dX9_readShed_38 (by decide) ?_
    refine e_bipush (v := 9) dX9_readShed_39 (by decide) ?_
    refine cV2x dX9_readShed_41 mo_X4_takeNumber ml_X9_114 sh_tk rfl (Nat.le_of_ble_eq_true rfl) (by omega) (c_takeNumber hG4) ?_
    rintro r M5 ⟨⟨v5, rfl, hv5⟩, hs5, hG5⟩
    dsimp only [Option.toList, List.cons_append, List.nil_append]
    refine e_istore (ls' := [_, _, _, _, _, _, _]) dX9_readShed_44 (by decide) rfl ?_
    refine e_aload_n dX9_readShed_46 rfl ?_
    refine e_getW (i := 3) dX9_readShed_47 (by decide) (mem_g 543 (by decide +kernel) rfl) ?_
    refine cV1x dX9_readShed_50 mo_X4_takeWord ml_X9_110 sh_tk rfl (Nat.le_of_ble_eq_true rfl) (by omega) (c_takeWord (k := 3) hG5 (by decide)) ?_
    rintro r M6 ⟨rfl, hs6, hG6⟩
    dsimp only [Option.toList, List.cons_append, List.nil_append]
    refine e_aload_n dX9_readShed_53 rfl ?_
    refine e_iconst (v := 1) dX9_readShed_54 (by decide) ?_
    refine e_bipush (v := 20) dX9_readShed_55 (by decide) ?_
    refine cV2x dX9_readShed_57 mo_X4_takeNumber ml_X9_114 sh_tk rfl (Nat.le_of_ble_eq_true rfl) (by omega) (c_takeNumber hG6) ?_
    rintro r M7 ⟨⟨v7, rfl, hv7⟩, hs7, hG7⟩
    dsimp only [Option.toList, List.cons_append, List.nil_append]
    have hsz : TS M M7 := (((((hs1.trans hs2).trans hs3).trans hs4).trans hs5).trans hs6).trans hs7
    refine e_istore (ls' := [_, _, _, _, _, _, _]) dX9_readShed_60 (by decide) rfl ?_
    refine e_aload_n dX9_readShed_62 rfl ?_
    refine e_getI dX9_readShed_63 fl_X9_93 sh_tk rfl ?_
    rw [hG7.f9]
    refine e_if_ne (tgt := 80) dX9_readShed_66 (by decide) (fun c66 => ?_) (fun c66 => ?_)
    · -- 66 jumps
      refine e_vret dX9_readShed_80 rfl ?_
      exact ⟨rfl, hsz.fr, hG7, ⟨P, hP.ts hy hsz, fun q => absurd q c66⟩, fun q => absurd q c66, hsz.lk hy⟩
    · -- 66 goes on
      have h7 : (rs7 t x P).1 = 0 := c66
      have h6 := (tkN_0 h7 hG6.1 hI).1.1
      have h5 := (tkW_0 h6 hG5.1 hI).1
      have h4 := (tkN_0 h5 hG4.1 hI).1.1
      have h3 := (tkW_0 h4 hG3.1 hI).1
      have h2 : (rs2 t x P).1 = 0 := by rcases tkK_0 h3 hG2.1 hI with q | q | q | q <;> exact q.1
      have h1 := (tkM_0 h2 hG1.1 hI).1.1
      have h0 : (if P.1.n < 6 then x else failX t 5 x).1 = 0 := adv_1.symm.trans h1
      have hn6 : P.1.n < 6 := by
        rcases Nat.lt_or_ge P.1.n 6 with q | q
        · exact q
        · rw [if_neg (by omega)] at h0; exact absurd h0 (fail_nz (k := 5) (by decide) hG.1 hI)
      have hx0 : x.1 = 0 := by
        rw [if_pos hn6] at h0
        exact h0
      refine e_aload_n dX9_readShed_69 rfl ?_
      refine e_lload_n dX9_readShed_70 rfl ?_
      refine e_iload dX9_readShed_71 rfl ?_
      refine e_iload dX9_readShed_73 rfl ?_
      refine e_iload dX9_readShed_75 rfl ?_
      refine cV4x dX9_readShed_77 mo_X8_addShed ml_X9_121 (sh_yd (by first | assumption | decide)) rfl (Nat.le_of_ble_eq_true rfl) (by omega) (c_addShed hy (hP.ts hy hsz) hn6) ?_
      rintro r M8 ⟨rfl, hF8, hP8, hl8, hk8⟩
      dsimp only [Option.toList, List.cons_append, List.nil_append]
      refine e_vret dX9_readShed_80 rfl ?_
      have hw2 := hw h2
      have hv52 := hv5 h5
      have hv72 := hv7 h7
      rw [hw2, hv52, hv72] at hP8
      exact ⟨rfl, hsz.fr.trans hF8.fr, hF8.tg hy hG7, ⟨_, hP8, fun _ => rfl⟩, fun _ => hx0, (hsz.lk hy).trans ⟨hl8, hk8⟩⟩
set_option maxHeartbeats 4000000 in
set_option maxRecDepth 20000 in
theorem c_rdG {G : Gt} {M : Mm} {t : Tv} {x : Xv} {y : Nat} {P : Pv} (hy : y ∈ ydA) (hG : TG M t x) (hP : YP M y P) : Call G 10 mX9_readStage [.ref 6, .ref y] M (LQ M t y x (rg6 t x P) (addGP P.1 (wdX t (rg1 t x P)) (nmX t (rg3 t x P)) (nmX t (rg5 t x P)), P.2)) := by
  have hI := hG.2.1
  have ps5 := hP.2.1.2
  refine Call.intro rfl (Nat.le_of_ble_eq_true rfl) ?_
  show Ev G _ mX9_readStage 0 [.ref 6, .ref y, RA, RA, RA, RA] [] M _
  refine e_aload_n dX9_readStage_0 rfl ?_
  refine e_getI dX9_readStage_1 fl_X9_149 (sh_yd (by first | assumption | decide)) rfl ?_
  rw [hP.2.1.1]
  refine e_iconst (v := 5) dX9_readStage_4 (by decide) ?_
  refine e_icmp_lt (tgt := 13) dX9_readStage_5 (by decide) (fun c5 => ?_) (fun c5 => ?_)
  · -- 5 jumps
    have hn : P.1.ns < 5 := lt_of (n := 5) (by omega) (by omega) c5
    refine e_aload_n dX9_readStage_13 rfl ?_
    refine cV0x dX9_readStage_14 mo_X4_advance ml_X9_80 sh_tk rfl (Nat.le_of_ble_eq_true rfl) (by omega) (c_advX (x := (if P.1.ns < 5 then x else failX t 5 x)) (by rw [if_pos hn]; exact hG)) ?_
    rintro r M1 ⟨rfl, hsA, hG1⟩
    dsimp only [Option.toList, List.cons_append, List.nil_append]
    have hs1 : TS M M1 := hsA
    refine e_aload_n dX9_readStage_17 rfl ?_
    refine e_aload_n dX9_readStage_18 rfl ?_
    refine cV1x dX9_readStage_19 mo_X4_takeNewName ml_X9_99 sh_tk rfl (Nat.le_of_ble_eq_true rfl) (by omega) (c_takeNew hG1 hy (hP.ts hy hs1)) ?_
    rintro r M2 ⟨⟨w, rfl, hw⟩, hs2, hG2⟩
    dsimp only [Option.toList, List.cons_append, List.nil_append]
    refine e_lstore_n (ls' := [_, _, _, _, _, _]) dX9_readStage_22 (by decide) rfl ?_
    refine e_aload_n dX9_readStage_23 rfl ?_
    refine e_getW (i := 6) dX9_readStage_24 (by decide) (mem_g 576 (by decide +kernel) rfl) ?_
    refine cV1x dX9_readStage_27 mo_X4_takeWord ml_X9_110 sh_tk rfl (Nat.le_of_ble_eq_true rfl) (by omega) (c_takeWord (k := 6) hG2 (by decide)) ?_
    rintro r M3 ⟨rfl, hs3, hG3⟩
    dsimp only [Option.toList, List.cons_append, List.nil_append]
    refine e_aload_n dX9_readStage_30 rfl ?_
    refine e_iconst (v := 0) dX9_readStage_31 (by decide) ?_
    refine e_bipush (v := 60) dX9_readStage_32 (by decide) ?_
    refine cV2x dX9_readStage_34 mo_X4_takeNumber ml_X9_114 sh_tk rfl (Nat.le_of_ble_eq_true rfl) (by omega) (c_takeNumber hG3) ?_
    rintro r M4 ⟨⟨v4, rfl, hv4⟩, hs4, hG4⟩
    dsimp only [Option.toList, List.cons_append, List.nil_append]
    refine e_istore (ls' := [_, _, _, _, _, _]) dX9_readStage_37 (by decide) rfl ?_
    refine e_aload_n dX9_readStage_39 rfl ?_
    refine e_getW (i := 7) dX9_readStage_40 (by decide) (mem_g 578 (by decide +kernel) rfl) ?_
    refine cV1x dX9_readStage_43 mo_X4_takeWord ml_X9_110 sh_tk rfl (Nat.le_of_ble_eq_true rfl) (by omega) (c_takeWord (k := 7) hG4 (by decide)) ?_
    rintro r M5 ⟨rfl, hs5, hG5⟩
    dsimp only [Option.toList, List.cons_append, List.nil_append]
    refine e_aload_n dX9_readStage_46 rfl ?_
    refine e_iload dX9_readStage_47 rfl ?_
    refine e_bipush (v := 99) dX9_readStage_49 (by decide) ?_
    refine cV2x dX9_readStage_51 mo_X4_takeNumber ml_X9_114 sh_tk rfl (Nat.le_of_ble_eq_true rfl) (by omega) (c_takeNumber (a := v4) hG5) ?_
    rintro r M6 ⟨⟨v6, rfl, hv6⟩, hs6, hG6⟩
    dsimp only [Option.toList, List.cons_append, List.nil_append]
    have hsz : TS M M6 := ((((hs1.trans hs2).trans hs3).trans hs4).trans hs5).trans hs6
    have hvv : tkN t (rg5 t x P) v4 99 = rg6 t x P := by
      by_cases hz : (rg4 t x P).1 = 0
      · rw [hv4 hz]
      · have hz5 : ¬ (rg5 t x P).1 = 0 := by rw [show rg5 t x P = rg4 t x P from tkW_f hz]; exact hz
        rw [tkN_f hz5, show rg6 t x P = rg5 t x P from tkN_f hz5]
    rw [hvv] at hG6 hv6
    refine e_istore (ls' := [_, _, _, _, _, _]) dX9_readStage_54 (by decide) rfl ?_
    refine e_aload_n dX9_readStage_56 rfl ?_
    refine e_getI dX9_readStage_57 fl_X9_93 sh_tk rfl ?_
    rw [hG6.f9]
    refine e_if_ne (tgt := 72) dX9_readStage_60 (by decide) (fun c60 => ?_) (fun c60 => ?_)
    · -- 60 jumps
      refine e_vret dX9_readStage_72 rfl ?_
      exact ⟨rfl, hsz.fr, hG6, ⟨P, hP.ts hy hsz, fun q => absurd q c60⟩, fun q => absurd q c60, hsz.lk hy⟩
    · -- 60 goes on
      have h6 : (rg6 t x P).1 = 0 := c60
      have h5 := (tkN_0 h6 hG5.1 hI).1.1
      have h4 := (tkW_0 h5 hG4.1 hI).1
      have h3 := (tkN_0 h4 hG3.1 hI).1.1
      have h2 := (tkW_0 h3 hG2.1 hI).1
      have h1 := (tkM_0 h2 hG1.1 hI).1.1
      have h0 : (if P.1.ns < 5 then x else failX t 5 x).1 = 0 := adv_1.symm.trans h1
      have hn6 : P.1.ns < 5 := by
        rcases Nat.lt_or_ge P.1.ns 5 with q | q
        · exact q
        · rw [if_neg (by omega)] at h0; exact absurd h0 (fail_nz (k := 5) (by decide) hG.1 hI)
      have hx0 : x.1 = 0 := by
        rw [if_pos hn6] at h0
        exact h0
      refine e_aload_n dX9_readStage_63 rfl ?_
      refine e_lload_n dX9_readStage_64 rfl ?_
      refine e_iload dX9_readStage_65 rfl ?_
      refine e_iload dX9_readStage_67 rfl ?_
      refine cV3x dX9_readStage_69 mo_X8_addStage ml_X9_158 (sh_yd (by first | assumption | decide)) rfl (Nat.le_of_ble_eq_true rfl) (by omega) (c_addStage hy (hP.ts hy hsz) hn6) ?_
      rintro r M8 ⟨rfl, hF8, hP8, hl8, hk8⟩
      dsimp only [Option.toList, List.cons_append, List.nil_append]
      refine e_vret dX9_readStage_72 rfl ?_
      have hw2 := hw h2
      have hv42 := hv4 h4
      have hv62 := hv6 h6
      rw [hw2, hv42, hv62] at hP8
      exact ⟨rfl, hsz.fr.trans hF8.fr, hF8.tg hy hG6, ⟨_, hP8, fun _ => rfl⟩, fun _ => hx0, (hsz.lk hy).trans ⟨hl8, hk8⟩⟩
  · -- 5 goes on
    have hn : ¬ P.1.ns < 5 := by have := ge_of (n := 5) (by omega) (by omega) c5; omega
    refine e_aload_n dX9_readStage_8 rfl ?_
    refine e_iconst (v := 5) dX9_readStage_9 (by decide) ?_
    refine cV1x dX9_readStage_10 mo_X4_fail ml_X9_76 sh_tk rfl (Nat.le_of_ble_eq_true rfl) (by omega) (c_fail (k := 5) hG (by decide)) ?_
    rintro r M0 ⟨rfl, hsF, hGF⟩
    dsimp only [Option.toList, List.cons_append, List.nil_append]
    refine e_aload_n dX9_readStage_13 rfl ?_
    refine cV0x dX9_readStage_14 mo_X4_advance ml_X9_80 sh_tk rfl (Nat.le_of_ble_eq_true rfl) (by omega) (c_advX (x := (if P.1.ns < 5 then x else failX t 5 x)) (by rw [if_neg hn]; exact hGF)) ?_
    rintro r M1 ⟨rfl, hsA, hG1⟩
    dsimp only [Option.toList, List.cons_append, List.nil_append]
    have hs1 : TS M M1 := hsF.trans hsA
    refine e_aload_n dX9_readStage_17 rfl ?_
    refine e_aload_n dX9_readStage_18 rfl ?_
    refine cV1x dX9_readStage_19 mo_X4_takeNewName ml_X9_99 sh_tk rfl (Nat.le_of_ble_eq_true rfl) (by omega) (c_takeNew hG1 hy (hP.ts hy hs1)) ?_
    rintro r M2 ⟨⟨w, rfl, hw⟩, hs2, hG2⟩
    dsimp only [Option.toList, List.cons_append, List.nil_append]
    refine e_lstore_n (ls' := [_, _, _, _, _, _]) dX9_readStage_22 (by decide) rfl ?_
    refine e_aload_n dX9_readStage_23 rfl ?_
    refine e_getW (i := 6) dX9_readStage_24 (by decide) (mem_g 576 (by decide +kernel) rfl) ?_
    refine cV1x dX9_readStage_27 mo_X4_takeWord ml_X9_110 sh_tk rfl (Nat.le_of_ble_eq_true rfl) (by omega) (c_takeWord (k := 6) hG2 (by decide)) ?_
    rintro r M3 ⟨rfl, hs3, hG3⟩
    dsimp only [Option.toList, List.cons_append, List.nil_append]
    refine e_aload_n dX9_readStage_30 rfl ?_
    refine e_iconst (v := 0) dX9_readStage_31 (by decide) ?_
    refine e_bipush (v := 60) dX9_readStage_32 (by decide) ?_
    refine cV2x dX9_readStage_34 mo_X4_takeNumber ml_X9_114 sh_tk rfl (Nat.le_of_ble_eq_true rfl) (by omega) (c_takeNumber hG3) ?_
    rintro r M4 ⟨⟨v4, rfl, hv4⟩, hs4, hG4⟩
    dsimp only [Option.toList, List.cons_append, List.nil_append]
    refine e_istore (ls' := [_, _, _, _, _, _]) dX9_readStage_37 (by decide) rfl ?_
    refine e_aload_n dX9_readStage_39 rfl ?_
    refine e_getW (i := 7) dX9_readStage_40 (by decide) (mem_g 578 (by decide +kernel) rfl) ?_
    refine cV1x dX9_readStage_43 mo_X4_takeWord ml_X9_110 sh_tk rfl (Nat.le_of_ble_eq_true rfl) (by omega) (c_takeWord (k := 7) hG4 (by decide)) ?_
    rintro r M5 ⟨rfl, hs5, hG5⟩
    dsimp only [Option.toList, List.cons_append, List.nil_append]
    refine e_aload_n dX9_readStage_46 rfl ?_
    refine e_iload dX9_readStage_47 rfl ?_
    refine e_bipush (v := 99) dX9_readStage_49 (by decide) ?_
    refine cV2x dX9_readStage_51 mo_X4_takeNumber ml_X9_114 sh_tk rfl (Nat.le_of_ble_eq_true rfl) (by omega) (c_takeNumber (a := v4) hG5) ?_
    rintro r M6 ⟨⟨v6, rfl, hv6⟩, hs6, hG6⟩
    dsimp only [Option.toList, List.cons_append, List.nil_append]
    have hsz : TS M M6 := ((((hs1.trans hs2).trans hs3).trans hs4).trans hs5).trans hs6
    have hvv : tkN t (rg5 t x P) v4 99 = rg6 t x P := by
      by_cases hz : (rg4 t x P).1 = 0
      · rw [hv4 hz]
      · have hz5 : ¬ (rg5 t x P).1 = 0 := by rw [show rg5 t x P = rg4 t x P from tkW_f hz]; exact hz
        rw [tkN_f hz5, show rg6 t x P = rg5 t x P from tkN_f hz5]
    rw [hvv] at hG6 hv6
    refine e_istore (ls' := [_, _, _, _, _, _]) dX9_readStage_54 (by decide) rfl ?_
    refine e_aload_n dX9_readStage_56 rfl ?_
    refine e_getI dX9_readStage_57 fl_X9_93 sh_tk rfl ?_
    rw [hG6.f9]
    refine e_if_ne (tgt := 72) dX9_readStage_60 (by decide) (fun c60 => ?_) (fun c60 => ?_)
    · -- 60 jumps
      refine e_vret dX9_readStage_72 rfl ?_
      exact ⟨rfl, hsz.fr, hG6, ⟨P, hP.ts hy hsz, fun q => absurd q c60⟩, fun q => absurd q c60, hsz.lk hy⟩
    · -- 60 goes on
      have h6 : (rg6 t x P).1 = 0 := c60
      have h5 := (tkN_0 h6 hG5.1 hI).1.1
      have h4 := (tkW_0 h5 hG4.1 hI).1
      have h3 := (tkN_0 h4 hG3.1 hI).1.1
      have h2 := (tkW_0 h3 hG2.1 hI).1
      have h1 := (tkM_0 h2 hG1.1 hI).1.1
      have h0 : (if P.1.ns < 5 then x else failX t 5 x).1 = 0 := adv_1.symm.trans h1
      have hn6 : P.1.ns < 5 := by
        rcases Nat.lt_or_ge P.1.ns 5 with q | q
        · exact q
        · rw [if_neg (by omega)] at h0; exact absurd h0 (fail_nz (k := 5) (by decide) hG.1 hI)
      have hx0 : x.1 = 0 := by
        rw [if_pos hn6] at h0
        exact h0
      refine e_aload_n dX9_readStage_63 rfl ?_
      refine e_lload_n dX9_readStage_64 rfl ?_
      refine e_iload dX9_readStage_65 rfl ?_
      refine e_iload dX9_readStage_67 rfl ?_
      refine cV3x dX9_readStage_69 mo_X8_addStage ml_X9_158 (sh_yd (by first | assumption | decide)) rfl (Nat.le_of_ble_eq_true rfl) (by omega) (c_addStage hy (hP.ts hy hsz) hn6) ?_
      rintro r M8 ⟨rfl, hF8, hP8, hl8, hk8⟩
      dsimp only [Option.toList, List.cons_append, List.nil_append]
      refine e_vret dX9_readStage_72 rfl ?_
      have hw2 := hw h2
      have hv42 := hv4 h4
      have hv62 := hv6 h6
      rw [hw2, hv42, hv62] at hP8
      exact ⟨rfl, hsz.fr.trans hF8.fr, hF8.tg hy hG6, ⟨_, hP8, fun _ => rfl⟩, fun _ => hx0, (hsz.lk hy).trans ⟨hl8, hk8⟩⟩
end XLI
