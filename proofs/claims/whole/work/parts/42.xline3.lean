section XL3
set_option maxHeartbeats 4000000 in
set_option maxRecDepth 20000 in
theorem l_rf {G : Gt} {M : Mm} {t : Tv} {x : Xv} {y : Nat} {P : Pv} (hy : y ∈ ydA) (hI : TI t) : ∀ (k : Nat) (i : Nat) (r : Xv × Yv) (Mc : Mm), (1 ≤ i ∧ i ≤ 13) → (13 < i + k) → (frL t 12 (tkN t (rf1 t x P) 0 9, addFP P.1 (nmX t (rf1 t x P))) = frL t (13 - i) r) → (FR M Mc y ∧ TG Mc t r.1 ∧ (∃ P', YP Mc y P' ∧ (r.1.1 = 0 → P' = (r.2, P.2))) ∧ LK M Mc y ∧ (r.1.1 = 0 → x.1 = 0)) → Ev G 10 mX9_readFrost 29 [.ref 6, .ref y, .int (nI i)] [] Mc (LQ M t y x (frL t 12 (tkN t (rf1 t x P) 0 9, addFP P.1 (nmX t (rf1 t x P)))).1 ((frL t 12 (tkN t (rf1 t x P) 0 9, addFP P.1 (nmX t (rf1 t x P)))).2, P.2)) := by
  intro k
  induction k with
  | zero => intro i r Mc hi hk hr hv; exact absurd hk (by omega)
  | succ k ih =>
    intro i r Mc hi hk hr hv
    have hn1 := hv.2.1.2.1.1
    refine e_iload_n dX9_readFrost_29 rfl ?_
    refine e_bipush (v := 12) dX9_readFrost_30 (by decide) ?_
    refine e_icmp_gt (tgt := 83) dX9_readFrost_32 (by decide) (fun c32 => ?_) (fun c32 => ?_)
    · -- 32 jumps
      refine e_vret dX9_readFrost_83 rfl ?_
      have hin : i = 13 := by have := lt_of (i := 12) (n := i) (by omega) (by omega) c32; omega
      subst hin
      rw [hr, show frL t (13 - 13) r = r from rfl]
      exact ⟨rfl, hv.1, hv.2.1, hv.2.2.1, hv.2.2.2.2, hv.2.2.2.1⟩
    · -- 32 goes on
      refine e_aload_n dX9_readFrost_35 rfl ?_
      refine cV0r dX9_readFrost_36 mo_X4_isNumber ml_X9_168 sh_tk rfl (Nat.le_of_ble_eq_true rfl) (by omega) (c_isNumber hv.2.1) ?_
      refine e_if_eq (tgt := 83) dX9_readFrost_39 (by decide) (fun c39 => ?_) (fun c39 => ?_)
      · -- 39 jumps
        refine e_vret dX9_readFrost_83 rfl ?_
        have hle : i ≤ 12 := by have := ge_of (i := 12) (n := i) (by omega) (by omega) c32; omega
        rw [hr, show 13 - i = (12 - i) + 1 by omega, frL, if_neg (b2i_eq0.mp c39)]
        exact ⟨rfl, hv.1, hv.2.1, hv.2.2.1, hv.2.2.2.2, hv.2.2.2.1⟩
      · -- 39 goes on
        have hle : i ≤ 12 := by have := ge_of (i := 12) (n := i) (by omega) (by omega) c32; omega
        have hN : isN t r.1 := (Classical.not_not.mp (fun q => c39 (b2i_f q)))
        have hx0 := hv.2.2.2.2 hN.1
        obtain ⟨P2, hP2, e2a⟩ := hv.2.2.1
        have e2 := e2a hN.1
        refine e_iload_n dX9_readFrost_42 rfl ?_
        refine e_bipush (v := 12) dX9_readFrost_43 (by decide) ?_
        refine e_icmp_ne (tgt := 66) dX9_readFrost_45 (by decide) (fun c45 => ?_) (fun c45 => ?_)
        · -- 45 jumps
          have hD5 : TG Mc t (if 12 - i = 0 ∧ vWi (nmX t r.1) 0 9 then failX t 5 r.1 else r.1) := by
            rw [if_neg (fun q => c45 (by have : i = 12 := by omega
                                         rw [this]; rfl))]
            exact hv.2.1
          refine e_aload_n dX9_readFrost_66 rfl ?_
          refine e_aload_n dX9_readFrost_67 rfl ?_
          refine e_iconst (v := 0) dX9_readFrost_68 (by decide) ?_
          refine e_bipush (v := 9) dX9_readFrost_69 (by decide) ?_
          refine cV2x dX9_readFrost_71 mo_X4_takeNumber ml_X9_114 sh_tk rfl (Nat.le_of_ble_eq_true rfl) (by omega) (c_takeNumber (x := (if 12 - i = 0 ∧ vWi (nmX t r.1) 0 9 then failX t 5 r.1 else r.1)) hD5) ?_
          rintro q M2 ⟨⟨v, rfl, hv2⟩, hs2, hG2⟩
          dsimp only [Option.toList, List.cons_append, List.nil_append]
          have hsz : TS Mc M2 := hs2
          have hvv : (tkN t (if 12 - i = 0 ∧ vWi (nmX t r.1) 0 9 then failX t 5 r.1 else r.1) 0 9).1 = 0 → v = nmX t r.1 := by
            intro q
            have h1 := (tkN_0 q hD5.1 hI).1.1
            rw [hv2 q]
            split at h1
            · exact absurd h1 (fail_nz (k := 5) (by decide) hv.2.1.1 hI)
            · rename_i hno; rw [if_neg hno]
          refine cV1x dX9_readFrost_74 mo_X8_addFrost ml_X9_165 (sh_yd (by first | assumption | decide)) rfl (Nat.le_of_ble_eq_true rfl) (by omega) (c_addFrost (P := P2) hy (hP2.ts hy hsz)) ?_
          rintro q M3 ⟨rfl, hF3, hP3, hl3, hk3⟩
          dsimp only [Option.toList, List.cons_append, List.nil_append]
          refine e_iinc (ls' := [_, _, _]) dX9_readFrost_77 rfl (nI_i1 _) (by decide) rfl ?_
          refine e_goto (tgt := 29) dX9_readFrost_80 (by decide) ?_
          refine ih (i + 1) (tkN t (if 12 - i = 0 ∧ vWi (nmX t r.1) 0 9 then failX t 5 r.1 else r.1) 0 9, addFP r.2 (nmX t r.1)) M3 (by omega) (by omega) ?_ ⟨(hv.1.trans hsz.fr).trans hF3.fr, hF3.tg hy hG2, ⟨_, hP3, fun q => ?_⟩, (hv.2.2.2.1.trans (hsz.lk hy)).trans ⟨hl3, hk3⟩, fun q => hx0⟩
          · rw [hr, show 13 - i = (12 - i) + 1 by omega, frL, if_pos hN, show 13 - (i + 1) = 12 - i by omega]
          · rw [hvv q, e2]
        · -- 45 goes on
          have h12 : i = 12 := nI_injN (by omega) (by omega) c45
          refine e_aload_n dX9_readFrost_48 rfl ?_
          refine e_getI dX9_readFrost_49 fl_X9_171 sh_tk rfl ?_
          rw [(hv.2.1.ok hN.1).2.2.2.2.2.2.1 hN.2]
          refine e_iconst (v := 0) dX9_readFrost_52 (by decide) ?_
          refine e_bipush (v := 9) dX9_readFrost_53 (by decide) ?_
          refine cS3r dX9_readFrost_55 mo_X10_within ml_X9_174 (Nat.le_of_ble_eq_true rfl) (by omega) (c_within) ?_
          refine e_if_eq (tgt := 66) dX9_readFrost_58 (by decide) (fun c58 => ?_) (fun c58 => ?_)
          · -- 58 jumps
            have hD5 : TG Mc t (if 12 - i = 0 ∧ vWi (nmX t r.1) 0 9 then failX t 5 r.1 else r.1) := by
              rw [if_neg (fun q => b2i_eq0.mp c58 q.2)]
              exact hv.2.1
            refine e_aload_n dX9_readFrost_66 rfl ?_
            refine e_aload_n dX9_readFrost_67 rfl ?_
            refine e_iconst (v := 0) dX9_readFrost_68 (by decide) ?_
            refine e_bipush (v := 9) dX9_readFrost_69 (by decide) ?_
            refine cV2x dX9_readFrost_71 mo_X4_takeNumber ml_X9_114 sh_tk rfl (Nat.le_of_ble_eq_true rfl) (by omega) (c_takeNumber (x := (if 12 - i = 0 ∧ vWi (nmX t r.1) 0 9 then failX t 5 r.1 else r.1)) hD5) ?_
            rintro q M2 ⟨⟨v, rfl, hv2⟩, hs2, hG2⟩
            dsimp only [Option.toList, List.cons_append, List.nil_append]
            have hsz : TS Mc M2 := hs2
            have hvv : (tkN t (if 12 - i = 0 ∧ vWi (nmX t r.1) 0 9 then failX t 5 r.1 else r.1) 0 9).1 = 0 → v = nmX t r.1 := by
              intro q
              have h1 := (tkN_0 q hD5.1 hI).1.1
              rw [hv2 q]
              split at h1
              · exact absurd h1 (fail_nz (k := 5) (by decide) hv.2.1.1 hI)
              · rename_i hno; rw [if_neg hno]
            refine cV1x dX9_readFrost_74 mo_X8_addFrost ml_X9_165 (sh_yd (by first | assumption | decide)) rfl (Nat.le_of_ble_eq_true rfl) (by omega) (c_addFrost (P := P2) hy (hP2.ts hy hsz)) ?_
            rintro q M3 ⟨rfl, hF3, hP3, hl3, hk3⟩
            dsimp only [Option.toList, List.cons_append, List.nil_append]
            refine e_iinc (ls' := [_, _, _]) dX9_readFrost_77 rfl (nI_i1 _) (by decide) rfl ?_
            refine e_goto (tgt := 29) dX9_readFrost_80 (by decide) ?_
            refine ih (i + 1) (tkN t (if 12 - i = 0 ∧ vWi (nmX t r.1) 0 9 then failX t 5 r.1 else r.1) 0 9, addFP r.2 (nmX t r.1)) M3 (by omega) (by omega) ?_ ⟨(hv.1.trans hsz.fr).trans hF3.fr, hF3.tg hy hG2, ⟨_, hP3, fun q => ?_⟩, (hv.2.2.2.1.trans (hsz.lk hy)).trans ⟨hl3, hk3⟩, fun q => hx0⟩
            · rw [hr, show 13 - i = (12 - i) + 1 by omega, frL, if_pos hN, show 13 - (i + 1) = 12 - i by omega]
            · rw [hvv q, e2]
          · -- 58 goes on
            refine e_aload_n dX9_readFrost_61 rfl ?_
            refine e_iconst (v := 5) dX9_readFrost_62 (by decide) ?_
            refine cV1x dX9_readFrost_63 mo_X4_fail ml_X9_76 sh_tk rfl (Nat.le_of_ble_eq_true rfl) (by omega) (c_fail (k := 5) hv.2.1 (by decide)) ?_
            rintro q M1 ⟨rfl, hsF, hGF⟩
            dsimp only [Option.toList, List.cons_append, List.nil_append]
            have hD5 : TG M1 t (if 12 - i = 0 ∧ vWi (nmX t r.1) 0 9 then failX t 5 r.1 else r.1) := by
              rw [if_pos ⟨by omega, (Classical.not_not.mp (fun q => c58 (b2i_f q)))⟩]
              exact hGF
            refine e_aload_n dX9_readFrost_66 rfl ?_
            refine e_aload_n dX9_readFrost_67 rfl ?_
            refine e_iconst (v := 0) dX9_readFrost_68 (by decide) ?_
            refine e_bipush (v := 9) dX9_readFrost_69 (by decide) ?_
            refine cV2x dX9_readFrost_71 mo_X4_takeNumber ml_X9_114 sh_tk rfl (Nat.le_of_ble_eq_true rfl) (by omega) (c_takeNumber (x := (if 12 - i = 0 ∧ vWi (nmX t r.1) 0 9 then failX t 5 r.1 else r.1)) hD5) ?_
            rintro q M2 ⟨⟨v, rfl, hv2⟩, hs2, hG2⟩
            dsimp only [Option.toList, List.cons_append, List.nil_append]
            have hsz : TS Mc M2 := hsF.trans hs2
            have hvv : (tkN t (if 12 - i = 0 ∧ vWi (nmX t r.1) 0 9 then failX t 5 r.1 else r.1) 0 9).1 = 0 → v = nmX t r.1 := by
              intro q
              have h1 := (tkN_0 q hD5.1 hI).1.1
              rw [hv2 q]
              split at h1
              · exact absurd h1 (fail_nz (k := 5) (by decide) hv.2.1.1 hI)
              · rename_i hno; rw [if_neg hno]
            refine cV1x dX9_readFrost_74 mo_X8_addFrost ml_X9_165 (sh_yd (by first | assumption | decide)) rfl (Nat.le_of_ble_eq_true rfl) (by omega) (c_addFrost (P := P2) hy (hP2.ts hy hsz)) ?_
            rintro q M3 ⟨rfl, hF3, hP3, hl3, hk3⟩
            dsimp only [Option.toList, List.cons_append, List.nil_append]
            refine e_iinc (ls' := [_, _, _]) dX9_readFrost_77 rfl (nI_i1 _) (by decide) rfl ?_
            refine e_goto (tgt := 29) dX9_readFrost_80 (by decide) ?_
            refine ih (i + 1) (tkN t (if 12 - i = 0 ∧ vWi (nmX t r.1) 0 9 then failX t 5 r.1 else r.1) 0 9, addFP r.2 (nmX t r.1)) M3 (by omega) (by omega) ?_ ⟨(hv.1.trans hsz.fr).trans hF3.fr, hF3.tg hy hG2, ⟨_, hP3, fun q => ?_⟩, (hv.2.2.2.1.trans (hsz.lk hy)).trans ⟨hl3, hk3⟩, fun q => hx0⟩
            · rw [hr, show 13 - i = (12 - i) + 1 by omega, frL, if_pos hN, show 13 - (i + 1) = 12 - i by omega]
            · rw [hvv q, e2]
set_option maxHeartbeats 4000000 in
set_option maxRecDepth 20000 in
theorem c_rdF {G : Gt} {M : Mm} {t : Tv} {x : Xv} {y : Nat} {P : Pv} (hy : y ∈ ydA) (hG : TG M t x) (hP : YP M y P) : Call G 10 mX9_readFrost [.ref 6, .ref y] M (LQ M t y x (frL t 12 (tkN t (rf1 t x P) 0 9, addFP P.1 (nmX t (rf1 t x P)))).1 ((frL t 12 (tkN t (rf1 t x P) 0 9, addFP P.1 (nmX t (rf1 t x P)))).2, P.2)) := by
  have hI := hG.2.1
  have pf12 := hP.2.2.1.2
  refine Call.intro rfl (Nat.le_of_ble_eq_true rfl) ?_
  show Ev G _ mX9_readFrost 0 [.ref 6, .ref y, RA] [] M _
  refine e_aload_n dX9_readFrost_0 rfl ?_
  refine e_getI dX9_readFrost_1 fl_X9_162 (sh_yd (by first | assumption | decide)) rfl ?_
  rw [hP.2.2.1.1]
  refine e_if_le (tgt := 12) dX9_readFrost_4 (by decide) (fun c4 => ?_) (fun c4 => ?_)
  · -- 4 jumps
    have hn : ¬ 0 < P.1.nf := fun q => c4 ((nI_ltI (a := 0) (b := P.1.nf) (by omega) (by omega)).mpr q)
    have hx0 : (tkN t (rf1 t x P) 0 9).1 = 0 → x.1 = 0 := by
      intro q
      have h1 := (tkN_0 q (adv_le (t := t) (by rw [if_neg hn]; exact hG.1)).2 hI).1.1
      have h2 := adv_1.symm.trans h1
      rw [if_neg hn] at h2
      exact h2
    refine e_aload_n dX9_readFrost_12 rfl ?_
    refine cV0x dX9_readFrost_13 mo_X4_advance ml_X9_80 sh_tk rfl (Nat.le_of_ble_eq_true rfl) (by omega) (c_advX (x := (if 0 < P.1.nf then failX t 3 x else x)) (by rw [if_neg hn]; exact hG)) ?_
    rintro r M1 ⟨rfl, hsA, hG1⟩
    dsimp only [Option.toList, List.cons_append, List.nil_append]
    have hs1 : TS M M1 := hsA
    refine e_aload_n dX9_readFrost_16 rfl ?_
    refine e_aload_n dX9_readFrost_17 rfl ?_
    refine e_iconst (v := 0) dX9_readFrost_18 (by decide) ?_
    refine e_bipush (v := 9) dX9_readFrost_19 (by decide) ?_
    refine cV2x dX9_readFrost_21 mo_X4_takeNumber ml_X9_114 sh_tk rfl (Nat.le_of_ble_eq_true rfl) (by omega) (c_takeNumber hG1) ?_
    rintro r M2 ⟨⟨v, rfl, hv⟩, hs2, hG2⟩
    dsimp only [Option.toList, List.cons_append, List.nil_append]
    have hsz : TS M M2 := hs1.trans hs2
    refine cV1x dX9_readFrost_24 mo_X8_addFrost ml_X9_165 (sh_yd (by first | assumption | decide)) rfl (Nat.le_of_ble_eq_true rfl) (by omega) (c_addFrost hy (hP.ts hy hsz)) ?_
    rintro r M3 ⟨rfl, hF3, hP3, hl3, hk3⟩
    dsimp only [Option.toList, List.cons_append, List.nil_append]
    refine e_iconst (v := 1) dX9_readFrost_27 (by decide) ?_
    refine e_istore_n (ls' := [_, _, _]) dX9_readFrost_28 (by decide) rfl ?_
    refine l_rf (M := M) (P := P) (x := x) hy hI 14 1 (tkN t (rf1 t x P) 0 9, addFP P.1 (nmX t (rf1 t x P))) M3 (by omega) (by omega) rfl ⟨hsz.fr.trans hF3.fr, hF3.tg hy hG2, ⟨_, hP3, fun q => by rw [hv q]⟩, (hsz.lk hy).trans ⟨hl3, hk3⟩, hx0⟩
  · -- 4 goes on
    have hn : 0 < P.1.nf := (nI_ltI (a := 0) (b := P.1.nf) (by omega) (by omega)).mp c4
    have hx0 : (tkN t (rf1 t x P) 0 9).1 = 0 → x.1 = 0 := by
      intro q
      have h1 := (tkN_0 q (adv_le (t := t) (by rw [if_pos hn, fail_2]; exact hG.1)).2 hI).1.1
      have h2 := adv_1.symm.trans h1
      rw [if_pos hn] at h2
      exact absurd h2 (fail_nz (k := 3) (by decide) hG.1 hI)
    refine e_aload_n dX9_readFrost_7 rfl ?_
    refine e_iconst (v := 3) dX9_readFrost_8 (by decide) ?_
    refine cV1x dX9_readFrost_9 mo_X4_fail ml_X9_76 sh_tk rfl (Nat.le_of_ble_eq_true rfl) (by omega) (c_fail (k := 3) hG (by decide)) ?_
    rintro r M0 ⟨rfl, hsF, hGF⟩
    dsimp only [Option.toList, List.cons_append, List.nil_append]
    refine e_aload_n dX9_readFrost_12 rfl ?_
    refine cV0x dX9_readFrost_13 mo_X4_advance ml_X9_80 sh_tk rfl (Nat.le_of_ble_eq_true rfl) (by omega) (c_advX (x := (if 0 < P.1.nf then failX t 3 x else x)) (by rw [if_pos hn]; exact hGF)) ?_
    rintro r M1 ⟨rfl, hsA, hG1⟩
    dsimp only [Option.toList, List.cons_append, List.nil_append]
    have hs1 : TS M M1 := hsF.trans hsA
    refine e_aload_n dX9_readFrost_16 rfl ?_
    refine e_aload_n dX9_readFrost_17 rfl ?_
    refine e_iconst (v := 0) dX9_readFrost_18 (by decide) ?_
    refine e_bipush (v := 9) dX9_readFrost_19 (by decide) ?_
    refine cV2x dX9_readFrost_21 mo_X4_takeNumber ml_X9_114 sh_tk rfl (Nat.le_of_ble_eq_true rfl) (by omega) (c_takeNumber hG1) ?_
    rintro r M2 ⟨⟨v, rfl, hv⟩, hs2, hG2⟩
    dsimp only [Option.toList, List.cons_append, List.nil_append]
    have hsz : TS M M2 := hs1.trans hs2
    refine cV1x dX9_readFrost_24 mo_X8_addFrost ml_X9_165 (sh_yd (by first | assumption | decide)) rfl (Nat.le_of_ble_eq_true rfl) (by omega) (c_addFrost hy (hP.ts hy hsz)) ?_
    rintro r M3 ⟨rfl, hF3, hP3, hl3, hk3⟩
    dsimp only [Option.toList, List.cons_append, List.nil_append]
    refine e_iconst (v := 1) dX9_readFrost_27 (by decide) ?_
    refine e_istore_n (ls' := [_, _, _]) dX9_readFrost_28 (by decide) rfl ?_
    refine l_rf (M := M) (P := P) (x := x) hy hI 14 1 (tkN t (rf1 t x P) 0 9, addFP P.1 (nmX t (rf1 t x P))) M3 (by omega) (by omega) rfl ⟨hsz.fr.trans hF3.fr, hF3.tg hy hG2, ⟨_, hP3, fun q => by rw [hv q]⟩, (hsz.lk hy).trans ⟨hl3, hk3⟩, hx0⟩
end XL3
