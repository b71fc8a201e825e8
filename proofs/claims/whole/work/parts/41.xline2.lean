section XL2
theorem fnd_D {Y : Yv} {w : Int64} {j : Nat} (h : fnd Y.name Y.n w = some j) : (fnd Y.name Y.n w).getD 0 = j := by rw [h]; rfl
theorem nI_injN {a b : Nat} (ha : a < 2 ^ 31) (hb : b < 2 ^ 31) (h : nI a = nI b) : a = b := by
  rcases Nat.lt_trichotomy a b with q | q | q
  · have := (nI_ltI ha hb).mpr q; rw [h] at this; exact (Int32.lt_irrefl this).elim
  · exact q
  · have := (nI_ltI hb ha).mpr q; rw [h] at this; exact (Int32.lt_irrefl this).elim
set_option maxHeartbeats 4000000 in
set_option maxRecDepth 20000 in
theorem c_rdN {G : Gt} {M : Mm} {t : Tv} {x : Xv} {y : Nat} {P : Pv} (hy : y ∈ ydA) (hG : TG M t x) (hP : YP M y P) : Call G 9 mX9_readNear [.ref 6, .ref y] M (LQ M t y x (rn6 t x P) (addNP P.1 (rnA t x P) (rnB t x P), P.2)) := by
  have hI := hG.2.1
  have pn6 := hP.1.2
  refine Call.intro rfl (Nat.le_of_ble_eq_true rfl) ?_
  show Ev G _ mX9_readNear 0 [.ref 6, .ref y, RA, RA] [] M _
  refine e_aload_n dX9_readNear_0 rfl ?_
  refine cV0x dX9_readNear_1 mo_X4_advance ml_X9_80 sh_tk rfl (Nat.le_of_ble_eq_true rfl) (by omega) (c_advX hG) ?_
  rintro r M1 ⟨rfl, hs1, hG1⟩
  dsimp only [Option.toList, List.cons_append, List.nil_append]
  refine e_aload_n dX9_readNear_4 rfl ?_
  refine e_aload_n dX9_readNear_5 rfl ?_
  refine cV1x dX9_readNear_6 mo_X4_shedHere ml_X9_137 sh_tk rfl (Nat.le_of_ble_eq_true rfl) (by omega) (c_shedHere hG1 hy (hP.ts hy hs1)) ?_
  rintro r M2 ⟨⟨v2, rfl, hv2⟩, hs2, hG2⟩
  dsimp only [Option.toList, List.cons_append, List.nil_append]
  refine e_istore_n (ls' := [_, _, _, _]) dX9_readNear_9 (by decide) rfl ?_
  refine e_aload_n dX9_readNear_10 rfl ?_
  refine cV0x dX9_readNear_11 mo_X4_advance ml_X9_80 sh_tk rfl (Nat.le_of_ble_eq_true rfl) (by omega) (c_advX hG2) ?_
  rintro r M3 ⟨rfl, hs3, hG3⟩
  dsimp only [Option.toList, List.cons_append, List.nil_append]
  refine e_aload_n dX9_readNear_14 rfl ?_
  refine e_aload_n dX9_readNear_15 rfl ?_
  refine cV1x dX9_readNear_16 mo_X4_shedHere ml_X9_137 sh_tk rfl (Nat.le_of_ble_eq_true rfl) (by omega) (c_shedHere hG3 hy (hP.ts hy ((hs1.trans hs2).trans hs3))) ?_
  rintro r M4 ⟨⟨v4, rfl, hv4⟩, hs4a, hG4⟩
  dsimp only [Option.toList, List.cons_append, List.nil_append]
  have hs4 : TS M M4 := ((hs1.trans hs2).trans hs3).trans hs4a
  have hP4 := hP.ts hy hs4
  have key : (rn4 t x P).1 = 0 → ∃ a b, fnd P.1.name P.1.n (wdX t (rn1 t x)) = some a ∧ fnd P.1.name P.1.n (wdX t (rn3 t x P)) = some b ∧ v2 = nI a ∧ v4 = nI b ∧ rnA t x P = a ∧ rnB t x P = b ∧ a < P.1.n ∧ b < P.1.n ∧ x.1 = 0 := by
    intro hz
    obtain ⟨hM4, -, -⟩ := shH_0 hz hG3.1 hI
    have h2 : (rn2 t x P).1 = 0 := adv_1.symm.trans hM4.1
    obtain ⟨a, ha, ea⟩ := hv2 h2
    obtain ⟨b, hb, eb⟩ := hv4 hz
    have h1 : (rn1 t x).1 = 0 := (shH_0 h2 hG1.1 hI).1.1
    exact ⟨a, b, ha, hb, ea, eb, fnd_D ha, fnd_D hb, (fnd_lt ha).1, (fnd_lt hb).1, adv_1.symm.trans h1⟩
  refine e_istore_n (ls' := [_, _, _, _]) dX9_readNear_19 (by decide) rfl ?_
  refine e_iload_n dX9_readNear_20 rfl ?_
  refine e_iload_n dX9_readNear_21 rfl ?_
  refine e_icmp_eq (tgt := 34) dX9_readNear_22 (by decide) (fun c22 => ?_) (fun c22 => ?_)
  · -- 22 jumps
    refine e_aload_n dX9_readNear_34 rfl ?_
    refine e_iconst (v := 3) dX9_readNear_35 (by decide) ?_
    refine cV1x dX9_readNear_36 mo_X4_fail ml_X9_76 sh_tk rfl (Nat.le_of_ble_eq_true rfl) (by omega) (c_fail (k := 3) hG4 (by decide)) ?_
    rintro r M5 ⟨rfl, hsF, hGF⟩
    dsimp only [Option.toList, List.cons_append, List.nil_append]
    have hD5 : TG M5 t (if rnD t x P then failX t 3 (rn4 t x P) else rn4 t x P) := by
      by_cases hz : (rn4 t x P).1 = 0
      · obtain ⟨a, b, ha, hb, ea, eb, eA, eB, la, lb, h0⟩ := key hz
        rw [if_pos (by left; rw [eA, eB]; exact nI_injN (by omega) (by omega) (by rw [← ea, ← eb]; exact c22))]
        exact hGF
      · rw [fail_f hz] at hGF
        split
        · rw [fail_f hz]; exact hGF
        · exact hGF
    refine e_aload_n dX9_readNear_39 rfl ?_
    refine cV0x dX9_readNear_40 mo_X4_advance ml_X9_80 sh_tk rfl (Nat.le_of_ble_eq_true rfl) (by omega) (c_advX (x := (if rnD t x P then failX t 3 (rn4 t x P) else rn4 t x P)) hD5) ?_
    rintro r M6 ⟨rfl, hsA, hG6⟩
    dsimp only [Option.toList, List.cons_append, List.nil_append]
    have hsz : TS M M6 := (hs4.trans hsF).trans hsA
    refine e_aload_n dX9_readNear_43 rfl ?_
    refine e_getI dX9_readNear_44 fl_X9_93 sh_tk rfl ?_
    rw [hG6.f9]
    refine e_if_ne (tgt := 56) dX9_readNear_47 (by decide) (fun c47 => ?_) (fun c47 => ?_)
    · -- 47 jumps
      refine e_vret dX9_readNear_56 rfl ?_
      exact ⟨rfl, hsz.fr, hG6, ⟨P, hP.ts hy hsz, fun q => absurd q c47⟩, fun q => absurd q c47, hsz.lk hy⟩
    · -- 47 goes on
      have hz : (rn4 t x P).1 = 0 := by
        have h6 : (rn6 t x P).1 = 0 := c47
        have h5 := adv_1.symm.trans h6
        split at h5
        · exact absurd h5 (fail_nz (k := 3) (by decide) hG4.1 hI)
        · exact h5
      obtain ⟨a, b, ha, hb, ea, eb, eA, eB, la, lb, h0⟩ := key hz
      rw [ea, eb, ← eA, ← eB]
      have la2 : rnA t x P < P.1.n := by omega
      have lb2 : rnB t x P < P.1.n := by omega
      refine e_aload_n dX9_readNear_50 rfl ?_
      refine e_iload_n dX9_readNear_51 rfl ?_
      refine e_iload_n dX9_readNear_52 rfl ?_
      refine cV2x dX9_readNear_53 mo_X8_addNear ml_X9_145 (sh_yd (by first | assumption | decide)) rfl (Nat.le_of_ble_eq_true rfl) (by omega) (c_addNear (a := rnA t x P) (b := rnB t x P) hy (hP.ts hy hsz) (by omega) (by omega)) ?_
      rintro r M8 ⟨rfl, hF8, hP8, hl8, hk8⟩
      dsimp only [Option.toList, List.cons_append, List.nil_append]
      refine e_vret dX9_readNear_56 rfl ?_
      exact ⟨rfl, hsz.fr.trans hF8.fr, hF8.tg hy hG6, ⟨_, hP8, fun _ => rfl⟩, fun _ => h0, (hsz.lk hy).trans ⟨hl8, hk8⟩⟩
  · -- 22 goes on
    refine e_aload_n dX9_readNear_25 rfl ?_
    refine e_iload_n dX9_readNear_26 rfl ?_
    refine e_iload_n dX9_readNear_27 rfl ?_
    refine cV2r dX9_readNear_28 mo_X8_areNear ml_X9_141 (sh_yd (by first | assumption | decide)) rfl (Nat.le_of_ble_eq_true rfl) (by omega) (c_areNearG hy) ?_
    refine e_if_eq (tgt := 39) dX9_readNear_31 (by decide) (fun c31 => ?_) (fun c31 => ?_)
    · -- 31 jumps
      have hD5 : TG M4 t (if rnD t x P then failX t 3 (rn4 t x P) else rn4 t x P) := by
        by_cases hz : (rn4 t x P).1 = 0
        · obtain ⟨a, b, ha, hb, ea, eb, eA, eB, la, lb, h0⟩ := key hz
          rw [if_neg (fun q => q.elim (fun q => c22 (by rw [ea, eb, ← eA, ← eB, q])) (fun q => (b2i_eq0.mp c31) (by rw [ea, eb, atI_nI (by decide) (by omega), (hP4.2.2.2.2.1 a la).2.2.2.1, ← eA, ← eB]; exact q)))]
          exact hG4
        · split
          · rw [fail_f hz]; exact hG4
          · exact hG4
      refine e_aload_n dX9_readNear_39 rfl ?_
      refine cV0x dX9_readNear_40 mo_X4_advance ml_X9_80 sh_tk rfl (Nat.le_of_ble_eq_true rfl) (by omega) (c_advX (x := (if rnD t x P then failX t 3 (rn4 t x P) else rn4 t x P)) hD5) ?_
      rintro r M6 ⟨rfl, hsA, hG6⟩
      dsimp only [Option.toList, List.cons_append, List.nil_append]
      have hsz : TS M M6 := hs4.trans hsA
      refine e_aload_n dX9_readNear_43 rfl ?_
      refine e_getI dX9_readNear_44 fl_X9_93 sh_tk rfl ?_
      rw [hG6.f9]
      refine e_if_ne (tgt := 56) dX9_readNear_47 (by decide) (fun c47 => ?_) (fun c47 => ?_)
      · -- 47 jumps
        refine e_vret dX9_readNear_56 rfl ?_
        exact ⟨rfl, hsz.fr, hG6, ⟨P, hP.ts hy hsz, fun q => absurd q c47⟩, fun q => absurd q c47, hsz.lk hy⟩
      · -- 47 goes on
        have hz : (rn4 t x P).1 = 0 := by
          have h6 : (rn6 t x P).1 = 0 := c47
          have h5 := adv_1.symm.trans h6
          split at h5
          · exact absurd h5 (fail_nz (k := 3) (by decide) hG4.1 hI)
          · exact h5
        obtain ⟨a, b, ha, hb, ea, eb, eA, eB, la, lb, h0⟩ := key hz
        rw [ea, eb, ← eA, ← eB]
        have la2 : rnA t x P < P.1.n := by omega
        have lb2 : rnB t x P < P.1.n := by omega
        refine e_aload_n dX9_readNear_50 rfl ?_
        refine e_iload_n dX9_readNear_51 rfl ?_
        refine e_iload_n dX9_readNear_52 rfl ?_
        refine cV2x dX9_readNear_53 mo_X8_addNear ml_X9_145 (sh_yd (by first | assumption | decide)) rfl (Nat.le_of_ble_eq_true rfl) (by omega) (c_addNear (a := rnA t x P) (b := rnB t x P) hy (hP.ts hy hsz) (by omega) (by omega)) ?_
        rintro r M8 ⟨rfl, hF8, hP8, hl8, hk8⟩
        dsimp only [Option.toList, List.cons_append, List.nil_append]
        refine e_vret dX9_readNear_56 rfl ?_
        exact ⟨rfl, hsz.fr.trans hF8.fr, hF8.tg hy hG6, ⟨_, hP8, fun _ => rfl⟩, fun _ => h0, (hsz.lk hy).trans ⟨hl8, hk8⟩⟩
    · -- 31 goes on
      refine e_aload_n dX9_readNear_34 rfl ?_
      refine e_iconst (v := 3) dX9_readNear_35 (by decide) ?_
      refine cV1x dX9_readNear_36 mo_X4_fail ml_X9_76 sh_tk rfl (Nat.le_of_ble_eq_true rfl) (by omega) (c_fail (k := 3) hG4 (by decide)) ?_
      rintro r M5 ⟨rfl, hsF, hGF⟩
      dsimp only [Option.toList, List.cons_append, List.nil_append]
      have hD5 : TG M5 t (if rnD t x P then failX t 3 (rn4 t x P) else rn4 t x P) := by
        by_cases hz : (rn4 t x P).1 = 0
        · obtain ⟨a, b, ha, hb, ea, eb, eA, eB, la, lb, h0⟩ := key hz
          rw [if_pos (by right; rw [eA, eB, ← (hP4.2.2.2.2.1 a la).2.2.2.1]; rw [ea, eb, atI_nI (by decide) (by omega)] at c31; exact Classical.not_not.mp (fun q => c31 (b2i_f q)))]
          exact hGF
        · rw [fail_f hz] at hGF
          split
          · rw [fail_f hz]; exact hGF
          · exact hGF
      refine e_aload_n dX9_readNear_39 rfl ?_
      refine cV0x dX9_readNear_40 mo_X4_advance ml_X9_80 sh_tk rfl (Nat.le_of_ble_eq_true rfl) (by omega) (c_advX (x := (if rnD t x P then failX t 3 (rn4 t x P) else rn4 t x P)) hD5) ?_
      rintro r M6 ⟨rfl, hsA, hG6⟩
      dsimp only [Option.toList, List.cons_append, List.nil_append]
      have hsz : TS M M6 := (hs4.trans hsF).trans hsA
      refine e_aload_n dX9_readNear_43 rfl ?_
      refine e_getI dX9_readNear_44 fl_X9_93 sh_tk rfl ?_
      rw [hG6.f9]
      refine e_if_ne (tgt := 56) dX9_readNear_47 (by decide) (fun c47 => ?_) (fun c47 => ?_)
      · -- 47 jumps
        refine e_vret dX9_readNear_56 rfl ?_
        exact ⟨rfl, hsz.fr, hG6, ⟨P, hP.ts hy hsz, fun q => absurd q c47⟩, fun q => absurd q c47, hsz.lk hy⟩
      · -- 47 goes on
        have hz : (rn4 t x P).1 = 0 := by
          have h6 : (rn6 t x P).1 = 0 := c47
          have h5 := adv_1.symm.trans h6
          split at h5
          · exact absurd h5 (fail_nz (k := 3) (by decide) hG4.1 hI)
          · exact h5
        obtain ⟨a, b, ha, hb, ea, eb, eA, eB, la, lb, h0⟩ := key hz
        rw [ea, eb, ← eA, ← eB]
        have la2 : rnA t x P < P.1.n := by omega
        have lb2 : rnB t x P < P.1.n := by omega
        refine e_aload_n dX9_readNear_50 rfl ?_
        refine e_iload_n dX9_readNear_51 rfl ?_
        refine e_iload_n dX9_readNear_52 rfl ?_
        refine cV2x dX9_readNear_53 mo_X8_addNear ml_X9_145 (sh_yd (by first | assumption | decide)) rfl (Nat.le_of_ble_eq_true rfl) (by omega) (c_addNear (a := rnA t x P) (b := rnB t x P) hy (hP.ts hy hsz) (by omega) (by omega)) ?_
        rintro r M8 ⟨rfl, hF8, hP8, hl8, hk8⟩
        dsimp only [Option.toList, List.cons_append, List.nil_append]
        refine e_vret dX9_readNear_56 rfl ?_
        exact ⟨rfl, hsz.fr.trans hF8.fr, hF8.tg hy hG6, ⟨_, hP8, fun _ => rfl⟩, fun _ => h0, (hsz.lk hy).trans ⟨hl8, hk8⟩⟩
theorem YP.roof {M : Mm} {y : Nat} {P : Pv} {v : Int32} (hP : YP M y P) : YP (setI M y 12 v) y (setRP P.1 v, P.2) := by
  obtain ⟨⟨pn, pn6⟩, ⟨ps, ps5⟩, ⟨pf, pf12⟩, pr, hs, hg, hf⟩ := id hP
  refine ⟨⟨?_, pn6⟩, ⟨?_, ps5⟩, ⟨?_, pf12⟩, ?_, fun j hj => ?_, fun j hj => ?_, fun j hj => ?_⟩
  · rw [setI_1, if_neg (by omega)]; exact pn
  · rw [setI_1, if_neg (by omega)]; exact ps
  · rw [setI_1, if_neg (by omega)]; exact pf
  · rw [setI_1, if_pos ⟨rfl, rfl⟩]; rfl
  · obtain ⟨a1, a2, a3, a4, a5⟩ := hs j hj
    refine ⟨?_, ?_, ?_, ?_, a5⟩
    · rw [setI_1, if_neg (by omega)]; exact a1
    · rw [setI_1, if_neg (by omega)]; exact a2
    · rw [setI_1, if_neg (by omega)]; exact a3
    · rw [setI_1, if_neg (by omega)]; exact a4
  · obtain ⟨a1, a2, a3⟩ := hg j hj
    refine ⟨?_, ?_, a3⟩
    · rw [setI_1, if_neg (by omega)]; exact a1
    · rw [setI_1, if_neg (by omega)]; exact a2
  · rw [setI_1, if_neg (by omega)]; exact hf j hj
theorem le0 {a : Int32} (h : ¬ 0 < a) : ¬ 0 < a := h
set_option maxHeartbeats 4000000 in
set_option maxRecDepth 20000 in
theorem c_rdR {G : Gt} {M : Mm} {t : Tv} {x : Xv} {y : Nat} {P : Pv} (hy : y ∈ ydA) (hG : TG M t x) (hP : YP M y P) : Call G 10 mX9_readRoof [.ref 6, .ref y] M (LQ M t y x (tkN t (rr1 t x P) 5 60) (setRP P.1 (nmX t (rr1 t x P)), P.2)) := by
  have hI := hG.2.1
  refine Call.intro rfl (Nat.le_of_ble_eq_true rfl) ?_
  show Ev G _ mX9_readRoof 0 [.ref 6, .ref y] [] M _
  refine e_aload_n dX9_readRoof_0 rfl ?_
  refine e_getI dX9_readRoof_1 fl_X9_178 (sh_yd (by first | assumption | decide)) rfl ?_
  rw [hP.2.2.2.1]
  refine e_if_le (tgt := 12) dX9_readRoof_4 (by decide) (fun c4 => ?_) (fun c4 => ?_)
  · -- 4 jumps
    have hn : ¬ 0 < P.1.roof := c4
    have hx0 : (tkN t (rr1 t x P) 5 60).1 = 0 → x.1 = 0 := by
      intro q
      have h1 := (tkN_0 q (adv_le (t := t) (by rw [if_neg hn]; exact hG.1)).2 hI).1.1
      have h2 := adv_1.symm.trans h1
      rw [if_neg hn] at h2
      exact h2
    refine e_aload_n dX9_readRoof_12 rfl ?_
    refine cV0x dX9_readRoof_13 mo_X4_advance ml_X9_80 sh_tk rfl (Nat.le_of_ble_eq_true rfl) (by omega) (c_advX (x := (if 0 < P.1.roof then failX t 3 x else x)) (by rw [if_neg hn]; exact hG)) ?_
    rintro r M1 ⟨rfl, hsA, hG1⟩
    dsimp only [Option.toList, List.cons_append, List.nil_append]
    have hs1 : TS M M1 := hsA
    refine e_aload_n dX9_readRoof_16 rfl ?_
    refine e_aload_n dX9_readRoof_17 rfl ?_
    refine e_iconst (v := 5) dX9_readRoof_18 (by decide) ?_
    refine e_bipush (v := 60) dX9_readRoof_19 (by decide) ?_
    refine cV2x dX9_readRoof_21 mo_X4_takeNumber ml_X9_114 sh_tk rfl (Nat.le_of_ble_eq_true rfl) (by omega) (c_takeNumber hG1) ?_
    rintro r M2 ⟨⟨v, rfl, hv⟩, hs2, hG2⟩
    dsimp only [Option.toList, List.cons_append, List.nil_append]
    have hsz : TS M M2 := hs1.trans hs2
    have hFY : FY M2 (setI M2 y 12 v) y := FY.rfl'.i ⟨by omega, by omega⟩
    refine e_putI dX9_readRoof_24 fl_X9_178 (sh_yd (by first | assumption | decide)) rfl rfl rfl ?_
    refine e_vret dX9_readRoof_27 rfl ?_
    exact ⟨rfl, hsz.fr.trans hFY.fr, hFY.tg hy hG2, ⟨(setRP P.1 v, P.2), (hP.ts hy hsz).roof, fun q => by rw [hv q]⟩, fun q => hx0 q, (hsz.lk hy).trans ⟨by funext z; rw [setI_1, if_neg (by omega)], by funext z; rw [setI_1, if_neg (by omega)]⟩⟩
  · -- 4 goes on
    have hn : 0 < P.1.roof := c4
    have hx0 : (tkN t (rr1 t x P) 5 60).1 = 0 → x.1 = 0 := by
      intro q
      have h1 := (tkN_0 q (adv_le (t := t) (by rw [if_pos hn, fail_2]; exact hG.1)).2 hI).1.1
      have h2 := adv_1.symm.trans h1
      rw [if_pos hn] at h2
      exact absurd h2 (fail_nz (k := 3) (by decide) hG.1 hI)
    refine e_aload_n dX9_readRoof_7 rfl ?_
    refine e_iconst (v := 3) dX9_readRoof_8 (by decide) ?_
    refine cV1x dX9_readRoof_9 mo_X4_fail ml_X9_76 sh_tk rfl (Nat.le_of_ble_eq_true rfl) (by omega) (c_fail (k := 3) hG (by decide)) ?_
    rintro r M0 ⟨rfl, hsF, hGF⟩
    dsimp only [Option.toList, List.cons_append, List.nil_append]
    refine e_aload_n dX9_readRoof_12 rfl ?_
    refine cV0x dX9_readRoof_13 mo_X4_advance ml_X9_80 sh_tk rfl (Nat.le_of_ble_eq_true rfl) (by omega) (c_advX (x := (if 0 < P.1.roof then failX t 3 x else x)) (by rw [if_pos hn]; exact hGF)) ?_
    rintro r M1 ⟨rfl, hsA, hG1⟩
    dsimp only [Option.toList, List.cons_append, List.nil_append]
    have hs1 : TS M M1 := hsF.trans hsA
    refine e_aload_n dX9_readRoof_16 rfl ?_
    refine e_aload_n dX9_readRoof_17 rfl ?_
    refine e_iconst (v := 5) dX9_readRoof_18 (by decide) ?_
    refine e_bipush (v := 60) dX9_readRoof_19 (by decide) ?_
    refine cV2x dX9_readRoof_21 mo_X4_takeNumber ml_X9_114 sh_tk rfl (Nat.le_of_ble_eq_true rfl) (by omega) (c_takeNumber hG1) ?_
    rintro r M2 ⟨⟨v, rfl, hv⟩, hs2, hG2⟩
    dsimp only [Option.toList, List.cons_append, List.nil_append]
    have hsz : TS M M2 := hs1.trans hs2
    have hFY : FY M2 (setI M2 y 12 v) y := FY.rfl'.i ⟨by omega, by omega⟩
    refine e_putI dX9_readRoof_24 fl_X9_178 (sh_yd (by first | assumption | decide)) rfl rfl rfl ?_
    refine e_vret dX9_readRoof_27 rfl ?_
    exact ⟨rfl, hsz.fr.trans hFY.fr, hFY.tg hy hG2, ⟨(setRP P.1 v, P.2), (hP.ts hy hsz).roof, fun q => by rw [hv q]⟩, fun q => hx0 q, (hsz.lk hy).trans ⟨by funext z; rw [setI_1, if_neg (by omega)], by funext z; rw [setI_1, if_neg (by omega)]⟩⟩
end XL2
