section XTKS
theorem fail_nz {t : Tv} {x : Xv} {k : Nat} (hk : 1 ≤ k ∧ k ≤ 5) (h : x.2 ≤ t.1) (hI : TI t) : ¬ (failX t (nI k) x).1 = 0 := by
  by_cases h0 : x.1 = 0
  · rw [show failX t (nI k) x = _ from if_pos h0]
    exact fail_ne hk (pl_lt h hI)
  · rw [fail_f h0]
    exact h0
theorem fail_st {t : Tv} {x : Xv} {k : Int32} (h : ¬ x.1 = 0) : ¬ (failX t k x).1 = 0 := by rw [fail_f h]; exact h
def tkW (t : Tv) (x : Xv) (k : Nat) : Xv := advX t (if isW t x k then x else failX t 1 x)
def tkS (t : Tv) (x : Xv) (s : Int32) : Xv := advX t (if isS t x s then x else failX t 1 x)
def tkN (t : Tv) (x : Xv) (a b : Int32) : Xv := advX t (if isN t x then (if vWi (nmX t x) a b then x else failX t 4 x) else failX t 1 x)
def usedP (Y : Yv) (w : Int64) : Bool := (fnd Y.name Y.n w).isSome || (fnd Y.sname Y.ns w).isSome
def tkM (t : Tv) (x : Xv) (Y : Yv) : Xv := advX t (if isM t x then (if usedP Y (wdX t x) = true then failX t 3 x else x) else failX t 1 x)
def shH (t : Tv) (x : Xv) (Y : Yv) : Xv := if isM t x then (if (fnd Y.name Y.n (wdX t x)).isSome = true then x else failX t 2 x) else failX t 1 x
theorem oI_none : oI none = -1 := rfl
theorem oI_some {j : Nat} (h : j < 2 ^ 31) : ¬ oI (some j) = -1 := by
  intro e
  have h1 := (nI_ltI (a := j) (b := 0) h (by decide)).mp (by rw [show nI j = -1 from e]; decide)
  exact absurd h1 (Nat.not_lt_zero j)
theorem oI_mone {o : Option Nat} (h : ∀ j, o = some j → j < 2 ^ 31) : oI o = -1 ↔ o = none := by
  cases o with
  | none => exact ⟨fun _ => rfl, fun _ => rfl⟩
  | some j => exact ⟨fun e => absurd e (oI_some (h j rfl)), fun e => by cases e⟩
theorem tkW_0 {t : Tv} {x : Xv} {k : Nat} (h : (tkW t x k).1 = 0) (hx : x.2 ≤ t.1) (hI : TI t) : isW t x k := by
  unfold tkW at h
  rw [adv_1] at h
  split at h
  · assumption
  · exact absurd h (fail_nz (k := 1) (by decide) hx hI)
theorem tkS_0 {t : Tv} {x : Xv} {s : Int32} (h : (tkS t x s).1 = 0) (hx : x.2 ≤ t.1) (hI : TI t) : isS t x s := by
  unfold tkS at h
  rw [adv_1] at h
  split at h
  · assumption
  · exact absurd h (fail_nz (k := 1) (by decide) hx hI)
theorem tkN_0 {t : Tv} {x : Xv} {a b : Int32} (h : (tkN t x a b).1 = 0) (hx : x.2 ≤ t.1) (hI : TI t) : isN t x ∧ vWi (nmX t x) a b := by
  unfold tkN at h
  rw [adv_1] at h
  split at h
  · rename_i h1
    split at h
    · rename_i h2; exact ⟨h1, h2⟩
    · exact absurd h (fail_nz (k := 4) (by decide) hx hI)
  · exact absurd h (fail_nz (k := 1) (by decide) hx hI)
theorem tkM_0 {t : Tv} {x : Xv} {Y : Yv} (h : (tkM t x Y).1 = 0) (hx : x.2 ≤ t.1) (hI : TI t) : isM t x ∧ usedP Y (wdX t x) = false := by
  unfold tkM at h
  rw [adv_1] at h
  split at h
  · rename_i h1
    split at h
    · exact absurd h (fail_nz (k := 3) (by decide) hx hI)
    · rename_i h2; exact ⟨h1, by simpa using h2⟩
  · exact absurd h (fail_nz (k := 1) (by decide) hx hI)
theorem shH_0 {t : Tv} {x : Xv} {Y : Yv} (h : (shH t x Y).1 = 0) (hx : x.2 ≤ t.1) (hI : TI t) : isM t x ∧ (∃ j, fnd Y.name Y.n (wdX t x) = some j) ∧ shH t x Y = x := by
  unfold shH at h ⊢
  split at h
  · rename_i h1
    split at h
    · rename_i h2
      rw [if_pos h1, if_pos h2]
      exact ⟨h1, Option.isSome_iff_exists.mp h2, rfl⟩
    · exact absurd h (fail_nz (k := 2) (by decide) hx hI)
  · exact absurd h (fail_nz (k := 1) (by decide) hx hI)
set_option maxHeartbeats 4000000 in
set_option maxRecDepth 20000 in
theorem c_takeWord {G : Gt} {M : Mm} {t : Tv} {x : Xv} (hG : TG M t x) {k : Nat} (hk : k < 25) : Call G 9 mX4_takeWord [.ref 6, .ref (2000 + k)] M (fun r M' => r = none ∧ TS M M' ∧ TG M' t (tkW t x k)) := by
  refine Call.intro rfl (Nat.le_of_ble_eq_true rfl) ?_
  show Ev G _ mX4_takeWord 0 [.ref 6, .ref (2000 + k)] [] M _
  refine e_aload_n dX4_takeWord_0 rfl ?_
  refine e_aload_n dX4_takeWord_1 rfl ?_
  refine cV1r dX4_takeWord_2 mo_X4_isWord ml_X4_92 sh_tk rfl (Nat.le_of_ble_eq_true rfl) (by omega) (c_isWord hG hk) ?_
  refine e_if_ne (tgt := 13) dX4_takeWord_5 (by decide) (fun c5 => ?_) (fun c5 => ?_)
  · -- 5 jumps
    refine e_aload_n dX4_takeWord_13 rfl ?_
    refine cV0x dX4_takeWord_14 mo_X4_advance ml_X4_42 sh_tk rfl (Nat.le_of_ble_eq_true rfl) (by omega) (c_advX hG) ?_
    rintro r M2 ⟨rfl, hsA, hGA⟩
    dsimp only [Option.toList, List.cons_append, List.nil_append]
    refine e_vret dX4_takeWord_17 rfl ?_
    have e : tkW t x k = advX t x := by
      unfold tkW
      rw [if_pos (Classical.not_not.mp (fun q => c5 (b2i_f q)))]
    rw [e]
    exact ⟨rfl, hsA, hGA⟩
  · -- 5 goes on
    refine e_aload_n dX4_takeWord_8 rfl ?_
    refine e_iconst (v := 1) dX4_takeWord_9 (by decide) ?_
    refine cV1x dX4_takeWord_10 mo_X4_fail ml_X4_96 sh_tk rfl (Nat.le_of_ble_eq_true rfl) (by omega) (c_fail (k := 1) hG (by decide)) ?_
    rintro r M1 ⟨rfl, hsF, hGF⟩
    dsimp only [Option.toList, List.cons_append, List.nil_append]
    refine e_aload_n dX4_takeWord_13 rfl ?_
    refine cV0x dX4_takeWord_14 mo_X4_advance ml_X4_42 sh_tk rfl (Nat.le_of_ble_eq_true rfl) (by omega) (c_advX hGF) ?_
    rintro r M2 ⟨rfl, hsA, hGA⟩
    dsimp only [Option.toList, List.cons_append, List.nil_append]
    refine e_vret dX4_takeWord_17 rfl ?_
    have e : tkW t x k = advX t (failX t 1 x) := by
      unfold tkW
      rw [if_neg (b2i_eq0.mp c5)]
    rw [e]
    exact ⟨rfl, hsF.trans hsA, hGA⟩
set_option maxHeartbeats 4000000 in
set_option maxRecDepth 20000 in
theorem c_takeSign {G : Gt} {M : Mm} {t : Tv} {x : Xv} (hG : TG M t x) {s : Int32} : Call G 9 mX4_takeSign [.ref 6, .int s] M (fun r M' => r = none ∧ TS M M' ∧ TG M' t (tkS t x s)) := by
  refine Call.intro rfl (Nat.le_of_ble_eq_true rfl) ?_
  show Ev G _ mX4_takeSign 0 [.ref 6, .int s] [] M _
  refine e_aload_n dX4_takeSign_0 rfl ?_
  refine e_iload_n dX4_takeSign_1 rfl ?_
  refine cV1r dX4_takeSign_2 mo_X4_isSign ml_X4_100 sh_tk rfl (Nat.le_of_ble_eq_true rfl) (by omega) (c_isSign hG) ?_
  refine e_if_ne (tgt := 13) dX4_takeSign_5 (by decide) (fun c5 => ?_) (fun c5 => ?_)
  · -- 5 jumps
    refine e_aload_n dX4_takeSign_13 rfl ?_
    refine cV0x dX4_takeSign_14 mo_X4_advance ml_X4_42 sh_tk rfl (Nat.le_of_ble_eq_true rfl) (by omega) (c_advX hG) ?_
    rintro r M2 ⟨rfl, hsA, hGA⟩
    dsimp only [Option.toList, List.cons_append, List.nil_append]
    refine e_vret dX4_takeSign_17 rfl ?_
    have e : tkS t x s = advX t x := by
      unfold tkS
      rw [if_pos (Classical.not_not.mp (fun q => c5 (b2i_f q)))]
    rw [e]
    exact ⟨rfl, hsA, hGA⟩
  · -- 5 goes on
    refine e_aload_n dX4_takeSign_8 rfl ?_
    refine e_iconst (v := 1) dX4_takeSign_9 (by decide) ?_
    refine cV1x dX4_takeSign_10 mo_X4_fail ml_X4_96 sh_tk rfl (Nat.le_of_ble_eq_true rfl) (by omega) (c_fail (k := 1) hG (by decide)) ?_
    rintro r M1 ⟨rfl, hsF, hGF⟩
    dsimp only [Option.toList, List.cons_append, List.nil_append]
    refine e_aload_n dX4_takeSign_13 rfl ?_
    refine cV0x dX4_takeSign_14 mo_X4_advance ml_X4_42 sh_tk rfl (Nat.le_of_ble_eq_true rfl) (by omega) (c_advX hGF) ?_
    rintro r M2 ⟨rfl, hsA, hGA⟩
    dsimp only [Option.toList, List.cons_append, List.nil_append]
    refine e_vret dX4_takeSign_17 rfl ?_
    have e : tkS t x s = advX t (failX t 1 x) := by
      unfold tkS
      rw [if_neg (b2i_eq0.mp c5)]
    rw [e]
    exact ⟨rfl, hsF.trans hsA, hGA⟩
set_option maxHeartbeats 4000000 in
set_option maxRecDepth 20000 in
theorem c_takeNumber {G : Gt} {M : Mm} {t : Tv} {x : Xv} (hG : TG M t x) {a b : Int32} : Call G 9 mX4_takeNumber [.ref 6, .int a, .int b] M (fun r M' => (∃ v, r = some (.int v) ∧ ((tkN t x a b).1 = 0 → v = nmX t x)) ∧ TS M M' ∧ TG M' t (tkN t x a b)) := by
  refine Call.intro rfl (Nat.le_of_ble_eq_true rfl) ?_
  show Ev G _ mX4_takeNumber 0 [.ref 6, .int a, .int b, RA] [] M _
  refine e_aload_n dX4_takeNumber_0 rfl ?_
  refine cV0r dX4_takeNumber_1 mo_X4_isNumber ml_X4_104 sh_tk rfl (Nat.le_of_ble_eq_true rfl) (by omega) (c_isNumber hG) ?_
  refine e_if_ne (tgt := 15) dX4_takeNumber_4 (by decide) (fun c4 => ?_) (fun c4 => ?_)
  · -- 4 jumps
    have hN : isN t x := Classical.not_not.mp (fun q => c4 (b2i_f q))
    have hnm : M.1 6 6 = nmX t x := (hG.ok hN.1).2.2.2.2.2.2.1 hN.2
    refine e_aload_n dX4_takeNumber_15 rfl ?_
    refine e_getI dX4_takeNumber_16 fl_X4_85 sh_tk rfl ?_
    rw [hnm]
    refine e_iload_n dX4_takeNumber_19 rfl ?_
    refine e_iload_n dX4_takeNumber_20 rfl ?_
    refine cS3r dX4_takeNumber_21 mo_X10_within ml_X4_24 (Nat.le_of_ble_eq_true rfl) (by omega) (c_within) ?_
    refine e_if_ne (tgt := 32) dX4_takeNumber_24 (by decide) (fun c24 => ?_) (fun c24 => ?_)
    · -- 24 jumps
      refine e_aload_n dX4_takeNumber_32 rfl ?_
      refine e_getI dX4_takeNumber_33 fl_X4_85 sh_tk rfl ?_
      (try rw [hnm])
      refine e_istore_n (ls' := [_, _, _, _]) dX4_takeNumber_36 (by decide) rfl ?_
      refine e_aload_n dX4_takeNumber_37 rfl ?_
      refine cV0x dX4_takeNumber_38 mo_X4_advance ml_X4_42 sh_tk rfl (Nat.le_of_ble_eq_true rfl) (by omega) (c_advX hG) ?_
      rintro r M2 ⟨rfl, hsA, hGA⟩
      dsimp only [Option.toList, List.cons_append, List.nil_append]
      refine e_iload_n dX4_takeNumber_41 rfl ?_
      refine e_iret dX4_takeNumber_42 rfl ?_
      have e : tkN t x a b = advX t x := by
        unfold tkN
        rw [if_pos hN, if_pos (Classical.not_not.mp (fun q => c24 (b2i_f q)))]
      rw [e]
      exact ⟨⟨_, rfl, fun _ => rfl⟩, hsA, hGA⟩
    · -- 24 goes on
      refine e_aload_n dX4_takeNumber_27 rfl ?_
      refine e_iconst (v := 4) dX4_takeNumber_28 (by decide) ?_
      refine cV1x dX4_takeNumber_29 mo_X4_fail ml_X4_96 sh_tk rfl (Nat.le_of_ble_eq_true rfl) (by omega) (c_fail (k := 4) hG (by decide)) ?_
      rintro r M1 ⟨rfl, hsF, hGF⟩
      dsimp only [Option.toList, List.cons_append, List.nil_append]
      refine e_aload_n dX4_takeNumber_32 rfl ?_
      refine e_getI dX4_takeNumber_33 fl_X4_85 sh_tk rfl ?_
      (try rw [hnm])
      refine e_istore_n (ls' := [_, _, _, _]) dX4_takeNumber_36 (by decide) rfl ?_
      refine e_aload_n dX4_takeNumber_37 rfl ?_
      refine cV0x dX4_takeNumber_38 mo_X4_advance ml_X4_42 sh_tk rfl (Nat.le_of_ble_eq_true rfl) (by omega) (c_advX hGF) ?_
      rintro r M2 ⟨rfl, hsA, hGA⟩
      dsimp only [Option.toList, List.cons_append, List.nil_append]
      refine e_iload_n dX4_takeNumber_41 rfl ?_
      refine e_iret dX4_takeNumber_42 rfl ?_
      have e : tkN t x a b = advX t (failX t 4 x) := by
        unfold tkN
        rw [if_pos hN, if_neg (b2i_eq0.mp c24)]
      rw [e]
      exact ⟨⟨_, rfl, fun q => absurd (adv_1.symm.trans q) (fail_nz (k := 4) (by decide) hG.1 hG.2.1)⟩, hsF.trans hsA, hGA⟩
  · -- 4 goes on
    refine e_aload_n dX4_takeNumber_7 rfl ?_
    refine e_iconst (v := 1) dX4_takeNumber_8 (by decide) ?_
    refine cV1x dX4_takeNumber_9 mo_X4_fail ml_X4_96 sh_tk rfl (Nat.le_of_ble_eq_true rfl) (by omega) (c_fail (k := 1) hG (by decide)) ?_
    rintro r M1 ⟨rfl, hsF, hGF⟩
    dsimp only [Option.toList, List.cons_append, List.nil_append]
    refine e_goto (tgt := 32) dX4_takeNumber_12 (by decide) ?_
    refine e_aload_n dX4_takeNumber_32 rfl ?_
    refine e_getI dX4_takeNumber_33 fl_X4_85 sh_tk rfl ?_
    (try rw [hnm])
    refine e_istore_n (ls' := [_, _, _, _]) dX4_takeNumber_36 (by decide) rfl ?_
    refine e_aload_n dX4_takeNumber_37 rfl ?_
    refine cV0x dX4_takeNumber_38 mo_X4_advance ml_X4_42 sh_tk rfl (Nat.le_of_ble_eq_true rfl) (by omega) (c_advX hGF) ?_
    rintro r M2 ⟨rfl, hsA, hGA⟩
    dsimp only [Option.toList, List.cons_append, List.nil_append]
    refine e_iload_n dX4_takeNumber_41 rfl ?_
    refine e_iret dX4_takeNumber_42 rfl ?_
    have e : tkN t x a b = advX t (failX t 1 x) := by
      unfold tkN
      rw [if_neg (b2i_eq0.mp c4)]
    rw [e]
    exact ⟨⟨_, rfl, fun q => absurd (adv_1.symm.trans q) (fail_nz (k := 1) (by decide) hG.1 hG.2.1)⟩, hsF.trans hsA, hGA⟩
set_option maxHeartbeats 4000000 in
set_option maxRecDepth 20000 in
theorem c_takeNew {G : Gt} {M : Mm} {t : Tv} {x : Xv} (hG : TG M t x) {y : Nat} {P : Pv} (hy : y ∈ ydA) (hP : YP M y P) : Call G 9 mX4_takeNewName [.ref 6, .ref y] M (fun r M' => (∃ v, r = some (.long v) ∧ ((tkM t x P.1).1 = 0 → v = wdX t x)) ∧ TS M M' ∧ TG M' t (tkM t x P.1)) := by
  refine Call.intro rfl (Nat.le_of_ble_eq_true rfl) ?_
  show Ev G _ mX4_takeNewName 0 [.ref 6, .ref y, RA, RA] [] M _
  refine e_aload_n dX4_takeNewName_0 rfl ?_
  refine cV0r dX4_takeNewName_1 mo_X4_isName ml_X4_108 sh_tk rfl (Nat.le_of_ble_eq_true rfl) (by omega) (c_isName hG) ?_
  refine e_if_ne (tgt := 15) dX4_takeNewName_4 (by decide) (fun c4 => ?_) (fun c4 => ?_)
  · -- 4 jumps
    have hM : isM t x := Classical.not_not.mp (fun q => c4 (b2i_f q))
    have hwd2 : M.2.1 6 7 = wdX t x := ((hG.ok hM.1).2.2.2.2.2.2.2 hM.2.1).1
    refine e_aload_n dX4_takeNewName_15 rfl ?_
    refine e_aload_n dX4_takeNewName_16 rfl ?_
    refine e_getL dX4_takeNewName_17 fl_X4_72 sh_tk rfl ?_
    rw [hwd2]
    refine cV1r dX4_takeNewName_20 mo_X8_shedNamed ml_X4_111 (sh_yd (by first | assumption | decide)) rfl (Nat.le_of_ble_eq_true rfl) (by omega) (c_shedNamed hy hP.1.1 hP.1.2) ?_
    refine e_iconst (v := (-1)) dX4_takeNewName_23 (by decide) ?_
    refine e_icmp_ne (tgt := 38) dX4_takeNewName_24 (by decide) (fun c24 => ?_) (fun c24 => ?_)
    · -- 24 jumps
      refine e_aload_n dX4_takeNewName_38 rfl ?_
      refine e_iconst (v := 3) dX4_takeNewName_39 (by decide) ?_
      refine cV1x dX4_takeNewName_40 mo_X4_fail ml_X4_96 sh_tk rfl (Nat.le_of_ble_eq_true rfl) (by omega) (c_fail (k := 3) hG (by decide)) ?_
      rintro r M1 ⟨rfl, hsF, hGF⟩
      dsimp only [Option.toList, List.cons_append, List.nil_append]
      refine e_aload_n dX4_takeNewName_43 rfl ?_
      refine e_getL dX4_takeNewName_44 fl_X4_72 sh_tk rfl ?_
      (try rw [hwd2])
      refine e_lstore_n (ls' := [_, _, _, _]) dX4_takeNewName_47 (by decide) rfl ?_
      refine e_aload_n dX4_takeNewName_48 rfl ?_
      refine cV0x dX4_takeNewName_49 mo_X4_advance ml_X4_42 sh_tk rfl (Nat.le_of_ble_eq_true rfl) (by omega) (c_advX hGF) ?_
      rintro r M2 ⟨rfl, hsA, hGA⟩
      dsimp only [Option.toList, List.cons_append, List.nil_append]
      refine e_lload_n dX4_takeNewName_52 rfl ?_
      refine e_lret dX4_takeNewName_53 rfl ?_
      have hU : usedP P.1 (wdX t x) = true := by
        unfold usedP
        rw [Bool.or_eq_true]; left
        rw [(fnd_congr (fun j hj => (hP.2.2.2.2.1 j hj).2.2.2.2))] at c24
        exact Option.isSome_iff_ne_none.mpr (fun q => c24 (by rw [q]; rfl))
      have e : tkM t x P.1 = advX t (failX t 3 x) := by
        unfold tkM
        rw [if_pos hM, if_pos hU]
      rw [e]
      exact ⟨⟨_, rfl, fun q => absurd (adv_1.symm.trans q) (fail_nz (k := 3) (by decide) hG.1 hG.2.1)⟩, hsF.trans hsA, hGA⟩
    · -- 24 goes on
      refine e_aload_n dX4_takeNewName_27 rfl ?_
      refine e_aload_n dX4_takeNewName_28 rfl ?_
      refine e_getL dX4_takeNewName_29 fl_X4_72 sh_tk rfl ?_
      rw [hwd2]
      refine cV1r dX4_takeNewName_32 mo_X8_hasStageNamed ml_X4_117 (sh_yd (by first | assumption | decide)) rfl (Nat.le_of_ble_eq_true rfl) (by omega) (c_hasStage hy hP.2.1.1 hP.2.1.2) ?_
      refine e_if_eq (tgt := 43) dX4_takeNewName_35 (by decide) (fun c35 => ?_) (fun c35 => ?_)
      · -- 35 jumps
        refine e_aload_n dX4_takeNewName_43 rfl ?_
        refine e_getL dX4_takeNewName_44 fl_X4_72 sh_tk rfl ?_
        (try rw [hwd2])
        refine e_lstore_n (ls' := [_, _, _, _]) dX4_takeNewName_47 (by decide) rfl ?_
        refine e_aload_n dX4_takeNewName_48 rfl ?_
        refine cV0x dX4_takeNewName_49 mo_X4_advance ml_X4_42 sh_tk rfl (Nat.le_of_ble_eq_true rfl) (by omega) (c_advX hG) ?_
        rintro r M2 ⟨rfl, hsA, hGA⟩
        dsimp only [Option.toList, List.cons_append, List.nil_append]
        refine e_lload_n dX4_takeNewName_52 rfl ?_
        refine e_lret dX4_takeNewName_53 rfl ?_
        have hU : ¬ usedP P.1 (wdX t x) = true := by
          unfold usedP
          rw [(fnd_congr (fun j hj => (hP.2.2.2.2.1 j hj).2.2.2.2))] at c24
          rw [(fnd_congr (fun j hj => (hP.2.2.2.2.2.1 j hj).2.2))] at c35
          rw [Bool.or_eq_true]
          rintro (q | q)
          · obtain ⟨j, hj⟩ := Option.isSome_iff_exists.mp q
            rw [hj] at c24
            exact oI_some (by have := (fnd_lt hj).1; have := hP.1.2; omega) c24
          · rw [if_pos q] at c35
            exact absurd c35 (by decide)
        have e : tkM t x P.1 = advX t x := by
          unfold tkM
          rw [if_pos hM, if_neg hU]
        rw [e]
        exact ⟨⟨_, rfl, fun _ => rfl⟩, hsA, hGA⟩
      · -- 35 goes on
        refine e_aload_n dX4_takeNewName_38 rfl ?_
        refine e_iconst (v := 3) dX4_takeNewName_39 (by decide) ?_
        refine cV1x dX4_takeNewName_40 mo_X4_fail ml_X4_96 sh_tk rfl (Nat.le_of_ble_eq_true rfl) (by omega) (c_fail (k := 3) hG (by decide)) ?_
        rintro r M1 ⟨rfl, hsF, hGF⟩
        dsimp only [Option.toList, List.cons_append, List.nil_append]
        refine e_aload_n dX4_takeNewName_43 rfl ?_
        refine e_getL dX4_takeNewName_44 fl_X4_72 sh_tk rfl ?_
        (try rw [hwd2])
        refine e_lstore_n (ls' := [_, _, _, _]) dX4_takeNewName_47 (by decide) rfl ?_
        refine e_aload_n dX4_takeNewName_48 rfl ?_
        refine cV0x dX4_takeNewName_49 mo_X4_advance ml_X4_42 sh_tk rfl (Nat.le_of_ble_eq_true rfl) (by omega) (c_advX hGF) ?_
        rintro r M2 ⟨rfl, hsA, hGA⟩
        dsimp only [Option.toList, List.cons_append, List.nil_append]
        refine e_lload_n dX4_takeNewName_52 rfl ?_
        refine e_lret dX4_takeNewName_53 rfl ?_
        have hU : usedP P.1 (wdX t x) = true := by
          unfold usedP
          rw [Bool.or_eq_true]; right
          rw [(fnd_congr (fun j hj => (hP.2.2.2.2.2.1 j hj).2.2))] at c35
          exact Classical.not_not.mp (fun q => c35 (if_neg q))
        have e : tkM t x P.1 = advX t (failX t 3 x) := by
          unfold tkM
          rw [if_pos hM, if_pos hU]
        rw [e]
        exact ⟨⟨_, rfl, fun q => absurd (adv_1.symm.trans q) (fail_nz (k := 3) (by decide) hG.1 hG.2.1)⟩, hsF.trans hsA, hGA⟩
  · -- 4 goes on
    refine e_aload_n dX4_takeNewName_7 rfl ?_
    refine e_iconst (v := 1) dX4_takeNewName_8 (by decide) ?_
    refine cV1x dX4_takeNewName_9 mo_X4_fail ml_X4_96 sh_tk rfl (Nat.le_of_ble_eq_true rfl) (by omega) (c_fail (k := 1) hG (by decide)) ?_
    rintro r M1 ⟨rfl, hsF, hGF⟩
    dsimp only [Option.toList, List.cons_append, List.nil_append]
    refine e_goto (tgt := 43) dX4_takeNewName_12 (by decide) ?_
    refine e_aload_n dX4_takeNewName_43 rfl ?_
    refine e_getL dX4_takeNewName_44 fl_X4_72 sh_tk rfl ?_
    (try rw [hwd2])
    refine e_lstore_n (ls' := [_, _, _, _]) dX4_takeNewName_47 (by decide) rfl ?_
    refine e_aload_n dX4_takeNewName_48 rfl ?_
    refine cV0x dX4_takeNewName_49 mo_X4_advance ml_X4_42 sh_tk rfl (Nat.le_of_ble_eq_true rfl) (by omega) (c_advX hGF) ?_
    rintro r M2 ⟨rfl, hsA, hGA⟩
    dsimp only [Option.toList, List.cons_append, List.nil_append]
    refine e_lload_n dX4_takeNewName_52 rfl ?_
    refine e_lret dX4_takeNewName_53 rfl ?_
    have e : tkM t x P.1 = advX t (failX t 1 x) := by
      unfold tkM
      rw [if_neg (b2i_eq0.mp c4)]
    rw [e]
    exact ⟨⟨_, rfl, fun q => absurd (adv_1.symm.trans q) (fail_nz (k := 1) (by decide) hG.1 hG.2.1)⟩, hsF.trans hsA, hGA⟩
set_option maxHeartbeats 4000000 in
set_option maxRecDepth 20000 in
theorem c_shedHere {G : Gt} {M : Mm} {t : Tv} {x : Xv} (hG : TG M t x) {y : Nat} {P : Pv} (hy : y ∈ ydA) (hP : YP M y P) : Call G 3 mX4_shedHere [.ref 6, .ref y] M (fun r M' => (∃ v, r = some (.int v) ∧ ((shH t x P.1).1 = 0 → ∃ j, fnd P.1.name P.1.n (wdX t x) = some j ∧ v = nI j)) ∧ TS M M' ∧ TG M' t (shH t x P.1)) := by
  refine Call.intro rfl (Nat.le_of_ble_eq_true rfl) ?_
  show Ev G _ mX4_shedHere 0 [.ref 6, .ref y, RA] [] M _
  refine e_aload_n dX4_shedHere_0 rfl ?_
  refine cV0r dX4_shedHere_1 mo_X4_isName ml_X4_108 sh_tk rfl (Nat.le_of_ble_eq_true rfl) (by omega) (c_isName hG) ?_
  refine e_if_ne (tgt := 12) dX4_shedHere_4 (by decide) (fun c4 => ?_) (fun c4 => ?_)
  · -- 4 jumps
    have hM : isM t x := Classical.not_not.mp (fun q => c4 (b2i_f q))
    have hwd2 : M.2.1 6 7 = wdX t x := ((hG.ok hM.1).2.2.2.2.2.2.2 hM.2.1).1
    refine e_aload_n dX4_shedHere_12 rfl ?_
    refine e_aload_n dX4_shedHere_13 rfl ?_
    refine e_getL dX4_shedHere_14 fl_X4_72 sh_tk rfl ?_
    (try rw [hwd2])
    refine cV1r dX4_shedHere_17 mo_X8_shedNamed ml_X4_111 (sh_yd (by first | assumption | decide)) rfl (Nat.le_of_ble_eq_true rfl) (by omega) (c_shedNamed hy hP.1.1 hP.1.2) ?_
    refine e_istore_n (ls' := [_, _, _]) dX4_shedHere_20 (by decide) rfl ?_
    refine e_iload_n dX4_shedHere_21 rfl ?_
    refine e_iconst (v := (-1)) dX4_shedHere_22 (by decide) ?_
    refine e_icmp_ne (tgt := 31) dX4_shedHere_23 (by decide) (fun c23 => ?_) (fun c23 => ?_)
    · -- 23 jumps
      refine e_iload_n dX4_shedHere_31 rfl ?_
      refine e_iret dX4_shedHere_32 rfl ?_
      rw [(fnd_congr (fun j hj => (hP.2.2.2.2.1 j hj).2.2.2.2))] at c23 ⊢
      cases hf : fnd P.1.name P.1.n (wdX t x) with
      | none => rw [hf] at c23; exact absurd rfl c23
      | some j =>
        have e : shH t x P.1 = x := by
          unfold shH
          rw [if_pos hM, hf]; rfl
        rw [e]
        exact ⟨⟨_, rfl, fun _ => ⟨j, rfl, rfl⟩⟩, TS.rfl', hG⟩
    · -- 23 goes on
      refine e_aload_n dX4_shedHere_26 rfl ?_
      refine e_iconst (v := 2) dX4_shedHere_27 (by decide) ?_
      refine cV1x dX4_shedHere_28 mo_X4_fail ml_X4_96 sh_tk rfl (Nat.le_of_ble_eq_true rfl) (by omega) (c_fail (k := 2) hG (by decide)) ?_
      rintro r M2 ⟨rfl, hsB, hGB⟩
      dsimp only [Option.toList, List.cons_append, List.nil_append]
      refine e_iload_n dX4_shedHere_31 rfl ?_
      refine e_iret dX4_shedHere_32 rfl ?_
      rw [(fnd_congr (fun j hj => (hP.2.2.2.2.1 j hj).2.2.2.2))] at c23
      have hN : fnd P.1.name P.1.n (wdX t x) = none := (oI_mone (fun j hj => by have := (fnd_lt hj).1; have := hP.1.2; omega)).mp c23
      have e : shH t x P.1 = failX t 2 x := by
        unfold shH
        rw [if_pos hM, hN]; rfl
      rw [e]
      exact ⟨⟨_, rfl, fun q => absurd q (fail_nz (k := 2) (by decide) hG.1 hG.2.1)⟩, hsB, hGB⟩
  · -- 4 goes on
    refine e_aload_n dX4_shedHere_7 rfl ?_
    refine e_iconst (v := 1) dX4_shedHere_8 (by decide) ?_
    refine cV1x dX4_shedHere_9 mo_X4_fail ml_X4_96 sh_tk rfl (Nat.le_of_ble_eq_true rfl) (by omega) (c_fail (k := 1) hG (by decide)) ?_
    rintro r M1 ⟨rfl, hsF, hGF⟩
    dsimp only [Option.toList, List.cons_append, List.nil_append]
    refine e_aload_n dX4_shedHere_12 rfl ?_
    refine e_aload_n dX4_shedHere_13 rfl ?_
    refine e_getL dX4_shedHere_14 fl_X4_72 sh_tk rfl ?_
    (try rw [hwd2])
    refine cV1r dX4_shedHere_17 mo_X8_shedNamed ml_X4_111 (sh_yd (by first | assumption | decide)) rfl (Nat.le_of_ble_eq_true rfl) (by omega) (c_shedNamed hy (hP.ts hy hsF).1.1 hP.1.2) ?_
    refine e_istore_n (ls' := [_, _, _]) dX4_shedHere_20 (by decide) rfl ?_
    refine e_iload_n dX4_shedHere_21 rfl ?_
    refine e_iconst (v := (-1)) dX4_shedHere_22 (by decide) ?_
    refine e_icmp_ne (tgt := 31) dX4_shedHere_23 (by decide) (fun c23 => ?_) (fun c23 => ?_)
    · -- 23 jumps
      refine e_iload_n dX4_shedHere_31 rfl ?_
      refine e_iret dX4_shedHere_32 rfl ?_
      have e : shH t x P.1 = failX t 1 x := if_neg (b2i_eq0.mp c4)
      rw [e]
      exact ⟨⟨_, rfl, fun q => absurd q (fail_nz (k := 1) (by decide) hG.1 hG.2.1)⟩, hsF, hGF⟩
    · -- 23 goes on
      refine e_aload_n dX4_shedHere_26 rfl ?_
      refine e_iconst (v := 2) dX4_shedHere_27 (by decide) ?_
      refine cV1x dX4_shedHere_28 mo_X4_fail ml_X4_96 sh_tk rfl (Nat.le_of_ble_eq_true rfl) (by omega) (c_fail (k := 2) hGF (by decide)) ?_
      rintro r M2 ⟨rfl, hsB, hGB⟩
      dsimp only [Option.toList, List.cons_append, List.nil_append]
      refine e_iload_n dX4_shedHere_31 rfl ?_
      refine e_iret dX4_shedHere_32 rfl ?_
      have e : shH t x P.1 = failX t 1 x := if_neg (b2i_eq0.mp c4)
      rw [fail_f (fail_nz (k := 1) (by decide) hG.1 hG.2.1)] at hGB
      rw [e]
      exact ⟨⟨_, rfl, fun q => absurd q (fail_nz (k := 1) (by decide) hG.1 hG.2.1)⟩, hsF.trans hsB, hGB⟩
set_option maxHeartbeats 4000000 in
set_option maxRecDepth 20000 in
theorem c_areNearG {G : Gt} {M : Mm} {y : Nat} {i x : Int32} (hy : y ∈ ydA) : Call G 2 mX8_areNear [.ref y, .int i, .int x] M (eqQ (some (.int (b2i (bitI (atI M (y + 5) 6 i) x)))) M) := by
  refine Call.intro rfl (Nat.le_of_ble_eq_true rfl) ?_
  show Ev G _ mX8_areNear 0 [.ref y, .int i, .int x] [] M _
  refine e_aload_n dX8_areNear_0 rfl ?_
  refine e_getR dX8_areNear_1 fl_X8_25 (sh_yd (by first | assumption | decide)) rfl ?_
  refine e_iload_n dX8_areNear_4 rfl ?_
  refine cS2r dX8_areNear_5 mo_X10_at ml_X8_77 (Nat.le_of_ble_eq_true rfl) (by omega) (c_at (sa_yd_near hy) (by decide)) ?_
  refine e_iload_n dX8_areNear_8 rfl ?_
  refine e_ishr dX8_areNear_9 ?_
  refine e_iconst (v := 1) dX8_areNear_10 (by decide) ?_
  refine e_iand dX8_areNear_11 ?_
  refine e_iconst (v := 1) dX8_areNear_12 (by decide) ?_
  refine e_icmp_ne (tgt := 20) dX8_areNear_13 (by decide) (fun c13 => ?_) (fun c13 => ?_)
  · -- 13 jumps
    refine e_iconst (v := 0) dX8_areNear_20 (by decide) ?_
    refine e_zret dX8_areNear_21 rfl (by first | rfl | exact b2i_nar _) ?_
    exact ⟨by rw [b2i_f c13], rfl⟩
  · -- 13 goes on
    refine e_iconst (v := 1) dX8_areNear_16 (by decide) ?_
    refine e_goto (tgt := 21) dX8_areNear_17 (by decide) ?_
    refine e_zret dX8_areNear_21 rfl (by first | rfl | exact b2i_nar _) ?_
    exact ⟨by rw [b2i_t c13], rfl⟩
end XTKS
