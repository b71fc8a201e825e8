section XWL
abbrev wl0 (t : Tv) (x : Xv) (W : Rv) : Xv := if dhX t x = -1 then failX t 1 x else if W.1 < 40 then x else failX t 5 x
abbrev wl1 (t : Tv) (x : Xv) (W : Rv) : Xv := advX t (wl0 t x W)
abbrev wl2 (t : Tv) (x : Xv) (W : Rv) (Y : Yv) : Xv := if dhX t x = 0 then wl1 t x W else advX t (shH t (wl1 t x W) Y)
abbrev wl3 (t : Tv) (x : Xv) (W : Rv) (Y : Yv) : Xv := if dhX t x = 1 then tkN t (wl2 t x W Y) 0 9 else if dhX t x = 3 then tkN t (wl2 t x W Y) 1 20 else wl2 t x W Y
def wlA (t : Tv) (x : Xv) (W : Rv) (Y : Yv) : Int32 := if dhX t x = 0 then -1 else nI ((fnd Y.name Y.n (wdX t (wl1 t x W))).getD 0)
def wlB (t : Tv) (x : Xv) (W : Rv) (Y : Yv) : Int32 := if dhX t x = 1 ∨ dhX t x = 3 then nmX t (wl2 t x W Y) else 0
def WQ (M : Mm) (t : Tv) (w : Nat) (x' : Xv) (W1 : Rv) : Option Value → Mm → Prop := fun r M' => r = none ∧ FK M M' w ∧ TG M' t x' ∧ ∃ W', RX M' w 40 W' ∧ (x'.1 = 0 → W' = W1)
set_option maxHeartbeats 4000000 in
set_option maxRecDepth 20000 in
theorem l_wl88 {G : Gt} {M Mc : Mm} {t : Tv} {w y : Nat} {x3 : Xv} {W : Rv} {dh v4 v5 a b : Int32} (hw : w ∈ wkA) (hF : FK M Mc w) (hG : TG Mc t x3) (hR : RX Mc w 40 W) (h0 : x3.1 = 0 → W.1 < 40 ∧ v4 = a ∧ v5 = b) : ∀ (k : Nat) , (0 < k) → Ev G 10 mX6_readLine 88 [.ref 6, .ref w, .ref y, .int dh, .int v4, .int v5] [] Mc (WQ M t w x3 (addR W dh a b)) := by
  intro k
  induction k with
  | zero => intro  hk; exact absurd hk (by omega)
  | succ k ih =>
    intro  hk
    refine e_aload_n dX6_readLine_88 rfl ?_
    refine e_getI dX6_readLine_89 fl_X6_33 sh_tk rfl ?_
    rw [hG.f9]
    refine e_if_ne (tgt := 104) dX6_readLine_92 (by decide) (fun c92 => ?_) (fun c92 => ?_)
    · -- 92 jumps
      refine e_vret dX6_readLine_104 rfl ?_
      exact ⟨rfl, hF, hG, W, hR, fun q => absurd q c92⟩
    · -- 92 goes on
      refine e_aload_n dX6_readLine_95 rfl ?_
      refine e_iload_n dX6_readLine_96 rfl ?_
      refine e_iload dX6_readLine_97 rfl ?_
      refine e_iload dX6_readLine_99 rfl ?_
      refine cV3x dX6_readLine_101 mo_X5_add ml_X6_58 (sh_wk (by first | assumption | exact wk2 (by assumption) | exact mk_wk (by assumption) | decide)) rfl (Nat.le_of_ble_eq_true rfl) (by omega) (c_wkAdd hw hR (h0 c92).1) ?_
      rintro r M1 ⟨rfl, h2, hf, hR1⟩
      dsimp only [Option.toList, List.cons_append, List.nil_append]
      refine e_vret dX6_readLine_104 rfl ?_
      refine ⟨rfl, hF.trans ⟨fun i _ b => hf i b, fun i _ => by rw [h2], fun i _ => by rw [h2]⟩, FK.tg h2 hf (wk_8 hw) hG, _, hR1, fun _ => ?_⟩
      rw [(h0 c92).2.1, (h0 c92).2.2]
set_option maxHeartbeats 4000000 in
set_option maxRecDepth 20000 in
theorem l_wl57 {G : Gt} {M Mc : Mm} {t : Tv} {w y : Nat} {x : Xv} {W : Rv} {Y : Yv} {v4 : Int32} (hw : w ∈ wkA) (hI : TI t) (hF : FK M Mc w) (hG : TG Mc t (wl2 t x W Y)) (hR : RX Mc w 40 W) (h0 : (wl2 t x W Y).1 = 0 → W.1 < 40 ∧ v4 = wlA t x W Y) : ∀ (k : Nat) , (0 < k) → Ev G 10 mX6_readLine 57 [.ref 6, .ref w, .ref y, .int (dhX t x), .int v4, .int 0] [] Mc (WQ M t w (wl3 t x W Y) (addR W (dhX t x) (wlA t x W Y) (wlB t x W Y))) := by
  intro k
  induction k with
  | zero => intro  hk; exact absurd hk (by omega)
  | succ k ih =>
    intro  hk
    refine e_iload_n dX6_readLine_57 rfl ?_
    refine e_iconst (v := 1) dX6_readLine_58 (by decide) ?_
    refine e_icmp_ne (tgt := 74) dX6_readLine_59 (by decide) (fun c59 => ?_) (fun c59 => ?_)
    · -- 59 jumps
      refine e_iload_n dX6_readLine_74 rfl ?_
      refine e_iconst (v := 3) dX6_readLine_75 (by decide) ?_
      refine e_icmp_ne (tgt := 88) dX6_readLine_76 (by decide) (fun c76 => ?_) (fun c76 => ?_)
      · -- 76 jumps
        have e3 : wl3 t x W Y = wl2 t x W Y := (if_neg c59).trans (if_neg c76)
        have eB : wlB t x W Y = 0 := if_neg (fun z => z.elim c59 c76)
        rw [e3]
        exact l_wl88 hw hF hG hR (fun q => ⟨(h0 q).1, (h0 q).2, eB.symm⟩) 1 (by omega)
      · -- 76 goes on
        refine e_aload_n dX6_readLine_79 rfl ?_
        refine e_iconst (v := 1) dX6_readLine_80 (by decide) ?_
        refine e_bipush (v := 20) dX6_readLine_81 (by decide) ?_
        refine cV2x dX6_readLine_83 mo_X4_takeNumber ml_X6_54 sh_tk rfl (Nat.le_of_ble_eq_true rfl) (by omega) (c_takeNumber hG) ?_
        rintro r M1 ⟨⟨v, rfl, hv⟩, hs1, hG1⟩
        dsimp only [Option.toList, List.cons_append, List.nil_append]
        refine e_istore (ls' := [_, _, _, _, _, _]) dX6_readLine_86 (by decide) rfl ?_
        have e3 : wl3 t x W Y = tkN t (wl2 t x W Y) 1 20 := (if_neg c59).trans (if_pos c76)
        have eB : wlB t x W Y = nmX t (wl2 t x W Y) := if_pos (Or.inr c76)
        rw [e3]
        exact l_wl88 hw (hF.trans hs1.fk) hG1 (hR.ts (wk_8 hw) hs1) (fun q => ⟨(h0 (tkN_0 q hG.1 hI).1.1).1, (h0 (tkN_0 q hG.1 hI).1.1).2, (hv q).trans eB.symm⟩) 1 (by omega)
    · -- 59 goes on
      refine e_aload_n dX6_readLine_62 rfl ?_
      refine e_iconst (v := 0) dX6_readLine_63 (by decide) ?_
      refine e_bipush (v := 9) dX6_readLine_64 (by decide) ?_
      refine cV2x dX6_readLine_66 mo_X4_takeNumber ml_X6_54 sh_tk rfl (Nat.le_of_ble_eq_true rfl) (by omega) (c_takeNumber hG) ?_
      rintro r M1 ⟨⟨v, rfl, hv⟩, hs1, hG1⟩
      dsimp only [Option.toList, List.cons_append, List.nil_append]
      refine e_istore (ls' := [_, _, _, _, _, _]) dX6_readLine_69 (by decide) rfl ?_
      refine e_goto (tgt := 88) dX6_readLine_71 (by decide) ?_
      have e3 : wl3 t x W Y = tkN t (wl2 t x W Y) 0 9 := if_pos c59
      have eB : wlB t x W Y = nmX t (wl2 t x W Y) := if_pos (Or.inl c59)
      rw [e3]
      exact l_wl88 hw (hF.trans hs1.fk) hG1 (hR.ts (wk_8 hw) hs1) (fun q => ⟨(h0 (tkN_0 q hG.1 hI).1.1).1, (h0 (tkN_0 q hG.1 hI).1.1).2, (hv q).trans eB.symm⟩) 1 (by omega)
set_option maxHeartbeats 4000000 in
set_option maxRecDepth 20000 in
theorem l_wl32 {G : Gt} {M Mc : Mm} {t : Tv} {w y : Nat} {x : Xv} {W : Rv} {P : Pv} (hw : w ∈ wkA) (hy : y ∈ ydA) (hI : TI t) (hs0 : TS M Mc) (hG : TG Mc t (wl0 t x W)) (hR : RX M w 40 W) (hP : YP M y P) (h0 : (wl0 t x W).1 = 0 → W.1 < 40) : ∀ (k : Nat) (u1 u2 : Value), (0 < k) → Ev G 10 mX6_readLine 32 [.ref 6, .ref w, .ref y, .int (dhX t x), u1, u2] [] Mc (WQ M t w (wl3 t x W P.1) (addR W (dhX t x) (wlA t x W P.1) (wlB t x W P.1))) := by
  intro k
  induction k with
  | zero => intro u1 u2 hk; exact absurd hk (by omega)
  | succ k ih =>
    intro u1 u2 hk
    refine e_aload_n dX6_readLine_32 rfl ?_
    refine cV0x dX6_readLine_33 mo_X4_advance ml_X6_47 sh_tk rfl (Nat.le_of_ble_eq_true rfl) (by omega) (c_advX hG) ?_
    rintro r M1 ⟨rfl, hs1, hG1⟩
    dsimp only [Option.toList, List.cons_append, List.nil_append]
    refine e_iconst (v := (-1)) dX6_readLine_36 (by decide) ?_
    refine e_istore (ls' := [_, _, _, _, _, _]) dX6_readLine_37 (by decide) rfl ?_
    refine e_iconst (v := 0) dX6_readLine_39 (by decide) ?_
    refine e_istore (ls' := [_, _, _, _, _, _]) dX6_readLine_40 (by decide) rfl ?_
    refine e_iload_n dX6_readLine_42 rfl ?_
    refine e_if_eq (tgt := 57) dX6_readLine_43 (by decide) (fun c43 => ?_) (fun c43 => ?_)
    · -- 43 jumps
      have e2 : wl2 t x W P.1 = wl1 t x W := if_pos c43
      have eA : wlA t x W P.1 = -1 := if_pos c43
      exact l_wl57 hw hI (hs0.trans hs1).fk (by rw [e2]; exact hG1) (hR.ts (wk_8 hw) (hs0.trans hs1)) (fun q => ⟨h0 (adv_1.symm.trans (by rw [e2] at q; exact q)), eA.symm⟩) 1 (by omega)
    · -- 43 goes on
      refine e_aload_n dX6_readLine_46 rfl ?_
      refine e_aload_n dX6_readLine_47 rfl ?_
      refine cV1x dX6_readLine_48 mo_X4_shedHere ml_X6_50 sh_tk rfl (Nat.le_of_ble_eq_true rfl) (by omega) (c_shedHere hG1 hy (hP.ts hy (hs0.trans hs1))) ?_
      rintro r M2 ⟨⟨v, rfl, hv⟩, hs2, hG2⟩
      dsimp only [Option.toList, List.cons_append, List.nil_append]
      have hsz : TS M M2 := (hs0.trans hs1).trans hs2
      refine e_istore (ls' := [_, _, _, _, _, _]) dX6_readLine_51 (by decide) rfl ?_
      refine e_aload_n dX6_readLine_53 rfl ?_
      refine cV0x dX6_readLine_54 mo_X4_advance ml_X6_47 sh_tk rfl (Nat.le_of_ble_eq_true rfl) (by omega) (c_advX hG2) ?_
      rintro r M3 ⟨rfl, hs3, hG3⟩
      dsimp only [Option.toList, List.cons_append, List.nil_append]
      have e2 : wl2 t x W P.1 = advX t (shH t (wl1 t x W) P.1) := if_neg c43
      refine l_wl57 hw hI (hsz.trans hs3).fk (by rw [e2]; exact hG3) (hR.ts (wk_8 hw) (hsz.trans hs3)) (fun q => ?_) 1 (by omega)
      have h2 : (shH t (wl1 t x W) P.1).1 = 0 := adv_1.symm.trans (by rw [e2] at q; exact q)
      obtain ⟨hM, -, -⟩ := shH_0 h2 hG1.1 hI
      obtain ⟨j, hj, ej⟩ := hv h2
      refine ⟨h0 (adv_1.symm.trans hM.1), ?_⟩
      rw [ej, show wlA t x W P.1 = _ from if_neg c43, hj]
      rfl
set_option maxHeartbeats 4000000 in
set_option maxRecDepth 20000 in
theorem c_wkLine {G : Gt} {M : Mm} {t : Tv} {w y : Nat} {x : Xv} {W : Rv} {P : Pv} (hw : w ∈ wkA) (hy : y ∈ ydA) (hG : TG M t x) (hR : RX M w 40 W) (hP : YP M y P) : Call G 10 mX6_readLine [.ref 6, .ref w, .ref y] M (WQ M t w (wl3 t x W P.1) (addR W (dhX t x) (wlA t x W P.1) (wlB t x W P.1))) := by
  have hI := hG.2.1
  have hR40 := hR.2.1
  refine Call.intro rfl (Nat.le_of_ble_eq_true rfl) ?_
  show Ev G _ mX6_readLine 0 [.ref 6, .ref w, .ref y, RA, RA, RA] [] M _
  refine e_aload_n dX6_readLine_0 rfl ?_
  refine cS1r dX6_readLine_1 mo_X6_deedHere ml_X6_37 (Nat.le_of_ble_eq_true rfl) (by omega) (c_deedHere hG) ?_
  refine e_istore_n (ls' := [_, _, _, _, _, _]) dX6_readLine_4 (by decide) rfl ?_
  refine e_iload_n dX6_readLine_5 rfl ?_
  refine e_iconst (v := (-1)) dX6_readLine_6 (by decide) ?_
  refine e_icmp_ne (tgt := 18) dX6_readLine_7 (by decide) (fun c7 => ?_) (fun c7 => ?_)
  · -- 7 jumps
    refine e_aload_n dX6_readLine_18 rfl ?_
    refine e_getI dX6_readLine_19 fl_X6_44 (sh_wk (by first | assumption | exact wk2 (by assumption) | exact mk_wk (by assumption) | decide)) rfl ?_
    rw [hR.1]
    refine e_bipush (v := 40) dX6_readLine_22 (by decide) ?_
    refine e_icmp_lt (tgt := 32) dX6_readLine_24 (by decide) (fun c24 => ?_) (fun c24 => ?_)
    · -- 24 jumps
      have h40 : W.1 < 40 := lt_of (n := 40) (by omega) (by omega) c24
      have e0 : wl0 t x W = x := (if_neg c7).trans (if_pos h40)
      exact l_wl32 hw hy hI TS.rfl' (by rw [e0]; exact hG) hR hP (fun _ => h40) 1 _ _ (by omega)
    · -- 24 goes on
      have h40 : ¬ W.1 < 40 := by have := ge_of (n := 40) (by omega) (by omega) c24; omega
      refine e_aload_n dX6_readLine_27 rfl ?_
      refine e_iconst (v := 5) dX6_readLine_28 (by decide) ?_
      refine cV1x dX6_readLine_29 mo_X4_fail ml_X6_41 sh_tk rfl (Nat.le_of_ble_eq_true rfl) (by omega) (c_fail (k := 5) hG (by decide)) ?_
      rintro r M1 ⟨rfl, hsF, hGF⟩
      dsimp only [Option.toList, List.cons_append, List.nil_append]
      have e0 : wl0 t x W = failX t 5 x := (if_neg c7).trans (if_neg h40)
      exact l_wl32 hw hy hI hsF (by rw [e0]; exact hGF) hR hP (fun q => absurd (by rw [e0] at q; exact q) (fail_nz (k := 5) (by decide) hG.1 hI)) 1 _ _ (by omega)
  · -- 7 goes on
    refine e_aload_n dX6_readLine_10 rfl ?_
    refine e_iconst (v := 1) dX6_readLine_11 (by decide) ?_
    refine cV1x dX6_readLine_12 mo_X4_fail ml_X6_41 sh_tk rfl (Nat.le_of_ble_eq_true rfl) (by omega) (c_fail (k := 1) hG (by decide)) ?_
    rintro r M1 ⟨rfl, hsF, hGF⟩
    dsimp only [Option.toList, List.cons_append, List.nil_append]
    refine e_goto (tgt := 32) dX6_readLine_15 (by decide) ?_
    have e0 : wl0 t x W = failX t 1 x := if_pos c7
    exact l_wl32 hw hy hI hsF (by rw [e0]; exact hGF) hR hP (fun q => absurd (by rw [e0] at q; exact q) (fail_nz (k := 1) (by decide) hG.1 hI)) 1 _ _ (by omega)
end XWL
