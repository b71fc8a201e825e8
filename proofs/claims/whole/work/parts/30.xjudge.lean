section XJU
/-- a line of a week -/
def crV (Y : Yv) (S : Sv) (d a b : Int32) : Sv × Int32 := if d = 0 then (nightV Y S, popN Y S) else if d = 1 then (heatV S a.toNatClampNeg b, 0) else if d = 2 then (litV S a, if bitI S.lit a then -1 else 0) else if canB S a.toNatClampNeg b = true then (loseV S a.toNatClampNeg b, 0) else (S, -1)
/-- lines well told -/
def WI (n : Nat) (W : Rv) : Prop := ∀ k, k < W.1 → (W.2.1 k = 0 ∨ ((W.2.1 k = 1 ∨ W.2.1 k = 2 ∨ W.2.1 k = 3) ∧ ∃ j, j < n ∧ W.2.2.1 k = nI j)) ∧ (W.2.1 k = 3 → ∃ v, 1 ≤ v ∧ v ≤ 20 ∧ W.2.2.2 k = nI v)
theorem SI.cr {Y : Yv} {S : Sv} {T n k : Nat} {W : Rv} (h : SI Y S T) (h6 : Y.n ≤ 6) (hn : n = Y.n) (hW : WI n W) (hk : k < W.1) : SI Y (crV Y S (W.2.1 k) (W.2.2.1 k) (W.2.2.2 k)).1 (T + 1) := by
  subst hn
  obtain ⟨h1, h2⟩ := hW k hk
  unfold crV
  split
  · exact h.pass h6
  · rename_i hd0
    obtain ⟨h1a, j, hj, ej⟩ := h1.resolve_left hd0
    split
    · exact (h.heat).mono (by omega)
    · split
      · exact (h.lit).mono (by omega)
      · rename_i hd1 hd2
        split
        · rename_i hc
          obtain ⟨v, v1, v2, ev⟩ := h2 ((h1a.resolve_left hd1).resolve_left hd2)
          rw [ej, nI_clamp (by omega)] at hc ⊢
          rw [ev] at hc ⊢
          exact (h.lose hj (by omega) (of_decide_eq_true hc).1).mono (by omega)
        · exact h.mono (by omega)
def jdN (Y : Yv) (W : Rv) (S : Sv) : Nat → Sv × Int32 × Int32
  | 0 => (S, -1, -1)
  | k + 1 => ((crV Y (jdN Y W S k).1 (W.2.1 k) (W.2.2.1 k) (W.2.2.2 k)).1,
      (if (crV Y (jdN Y W S k).1 (W.2.1 k) (W.2.2.1 k) (W.2.2.2 k)).2 = -1 ∧ (jdN Y W S k).2.1 = -1 then nI k else (jdN Y W S k).2.1),
      (if 0 < (crV Y (jdN Y W S k).1 (W.2.1 k) (W.2.2.1 k) (W.2.2.2 k)).2 ∧ (jdN Y W S k).2.2 = -1 then nI k else (jdN Y W S k).2.2))
theorem SI.jd {Y : Yv} {S : Sv} {T : Nat} {W : Rv} (h : SI Y S T) (h6 : Y.n ≤ 6) (hW : WI Y.n W) : ∀ k, k ≤ W.1 → SI Y (jdN Y W S k).1 (T + k) := by
  intro k
  induction k with
  | zero => intro _; exact h
  | succ k ih => intro hk; exact (ih (by omega)).cr h6 rfl hW (by omega)
def judgedQ (E : Gs) (q : Int32) : Int32 := if vWi q 0 2 then (if q = 0 then (jdN E.Y E.W (begV E.Y) E.W.1).2.1 else if q = 1 then (jdN E.Y E.W (begV E.Y) E.W.1).2.2 else sumI (jdN E.Y E.W (begV E.Y) E.W.1).1.crow E.Y.n) else -2
theorem wk_ge {w : Nat} (h : w = 36 ∨ w = 40) : 36 ≤ w ∧ w ≤ 40 := by omega
set_option maxHeartbeats 4000000 in
set_option maxRecDepth 20000 in
theorem c_carryOut {G : Gt} {M : Mm} {E : Gs} {y y' w w' p : Nat} (hX : XJ M E y y' w w' p) {S : Sv} {T k : Nat} (hT : SX M 51 E.Y.n S) (hI : SI E.Y S T) (hT2 : T < 2 ^ 31) (hWI : WI E.Y.n E.W) (hk : k < E.W.1) : Call G 5 mX5_carryOut [.ref w, .int (nI k), .ref 51, .ref y] M (fun r M' => r = some (.int (crV E.Y S (E.W.2.1 k) (E.W.2.2.1 k) (E.W.2.2.2 k)).2) ∧ SC M M' ∧ SX M' 51 E.Y.n (crV E.Y S (E.W.2.1 k) (E.W.2.2.1 k) (E.W.2.2.2 k)).1) := by
  obtain ⟨⟨hld, hsl, hy, hy', hyy⟩, ⟨hpl, hsp, hw, hw', hww⟩, hY, hW, hS, hV, hK, ⟨hpt, hp16, hun, hu16, hU⟩, ⟨htl, htl2, htc⟩⟩ := id hX
  have h6 := hY.1.2
  have hs5 := hY.2.1.2
  have hwk := wk2 hw
  have hWr := hW.2.2 k hk
  have hW40 := hW.2.1
  obtain ⟨hwi1, hwi2⟩ := hWI k hk
  obtain ⟨r0, hr0, hr6, hs0, t, ht, htT⟩ := id hI
  refine Call.intro rfl (Nat.le_of_ble_eq_true rfl) ?_
  show Ev G _ mX5_carryOut 0 [.ref w, .int (nI k), .ref 51, .ref y, RA, RA, RA] [] M _
  refine e_aload_n dX5_carryOut_0 rfl ?_
  refine e_getR dX5_carryOut_1 fl_X5_9 (sh_wk (by first | assumption | exact wk2 (by assumption) | exact mk_wk (by assumption) | decide)) rfl ?_
  refine e_iload_n dX5_carryOut_4 rfl ?_
  refine cS2r dX5_carryOut_5 mo_X10_at ml_X5_33 (Nat.le_of_ble_eq_true rfl) (by omega) (c_atN (sa_wk_deeds (by first | assumption | decide)) (by decide) (by first | omega | decide)) ?_
  rw [hWr.1]
  refine e_istore (ls' := [_, _, _, _, _, _, _]) dX5_carryOut_8 (by decide) rfl ?_
  refine e_aload_n dX5_carryOut_10 rfl ?_
  refine e_getR dX5_carryOut_11 fl_X5_15 (sh_wk (by first | assumption | exact wk2 (by assumption) | exact mk_wk (by assumption) | decide)) rfl ?_
  refine e_iload_n dX5_carryOut_14 rfl ?_
  refine cS2r dX5_carryOut_15 mo_X10_at ml_X5_33 (Nat.le_of_ble_eq_true rfl) (by omega) (c_atN (sa_wk_places (by first | assumption | decide)) (by decide) (by first | omega | decide)) ?_
  rw [hWr.2.1]
  refine e_istore (ls' := [_, _, _, _, _, _, _]) dX5_carryOut_18 (by decide) rfl ?_
  refine e_aload_n dX5_carryOut_20 rfl ?_
  refine e_getR dX5_carryOut_21 fl_X5_18 (sh_wk (by first | assumption | exact wk2 (by assumption) | exact mk_wk (by assumption) | decide)) rfl ?_
  refine e_iload_n dX5_carryOut_24 rfl ?_
  refine cS2r dX5_carryOut_25 mo_X10_at ml_X5_33 (Nat.le_of_ble_eq_true rfl) (by omega) (c_atN (sa_wk_numbers (by first | assumption | decide)) (by decide) (by first | omega | decide)) ?_
  rw [hWr.2.2]
  refine e_istore (ls' := [_, _, _, _, _, _, _]) dX5_carryOut_28 (by decide) rfl ?_
  refine e_iload dX5_carryOut_30 rfl ?_
  refine e_if_ne (tgt := 49) dX5_carryOut_32 (by decide) (fun c32 => ?_) (fun c32 => ?_)
  · -- 32 jumps
    obtain ⟨h1a, j, hj, ej⟩ := hwi1.resolve_left c32
    rw [ej]
    refine e_iload dX5_carryOut_49 rfl ?_
    refine e_iconst (v := 1) dX5_carryOut_51 (by decide) ?_
    refine e_icmp_ne (tgt := 65) dX5_carryOut_52 (by decide) (fun c52 => ?_) (fun c52 => ?_)
    · -- 52 jumps
      refine e_iload dX5_carryOut_65 rfl ?_
      refine e_iconst (v := 2) dX5_carryOut_67 (by decide) ?_
      refine e_icmp_ne (tgt := 86) dX5_carryOut_68 (by decide) (fun c68 => ?_) (fun c68 => ?_)
      · -- 68 jumps
        refine e_aload_n dX5_carryOut_86 rfl ?_
        refine e_iload dX5_carryOut_87 rfl ?_
        refine e_iload dX5_carryOut_89 rfl ?_
        refine cV2r dX5_carryOut_91 mo_X3_canLose ml_X5_60 (sh_st (by first | assumption | exact mk_st (by assumption) | decide)) rfl (Nat.le_of_ble_eq_true rfl) (by omega) (c_canLose (by first | assumption | decide) (by omega)) ?_
        rw [(hT.2.2.2 j hj).2.1, (hT.2.2.2 j hj).2.2.1]
        refine e_if_ne (tgt := 99) dX5_carryOut_94 (by decide) (fun c94 => ?_) (fun c94 => ?_)
        · -- 94 jumps
          refine e_aload_n dX5_carryOut_99 rfl ?_
          refine e_iload dX5_carryOut_100 rfl ?_
          refine e_iload dX5_carryOut_102 rfl ?_
          refine cV2v dX5_carryOut_104 mo_X3_lose ml_X5_64 (sh_st (by first | assumption | exact mk_st (by assumption) | decide)) rfl (Nat.le_of_ble_eq_true rfl) (by omega) (c_lose (by first | assumption | decide) (by omega)) ?_
          refine e_iconst (v := 0) dX5_carryOut_107 (by decide) ?_
          refine e_iret dX5_carryOut_108 rfl ?_
          have c94 : ¬ S.crow j < E.W.2.2.2 k ∧ ¬ S.high j < 10 := Classical.not_not.mp (fun q => c94 (b2i_f q))
          have e : crV E.Y S (E.W.2.1 k) (nI j) (E.W.2.2.2 k) = (loseV S j (E.W.2.2.2 k), 0) := by
            unfold crV
            rw [if_neg c32, if_neg c52, if_neg c68, nI_clamp (by omega), if_pos (by unfold canB; exact decide_eq_true c94)]
          rw [e]
          exact ⟨rfl, SC.of loseM_2 (fun i hi => loseM_fr (by unfold scr at hi; omega) (by unfold scr at hi; omega)), hT.lose hj⟩
        · -- 94 goes on
          refine e_iconst (v := (-1)) dX5_carryOut_97 (by decide) ?_
          refine e_iret dX5_carryOut_98 rfl ?_
          have c94 := b2i_eq0.mp c94
          have e : crV E.Y S (E.W.2.1 k) (nI j) (E.W.2.2.2 k) = (S, -1) := by
            unfold crV
            rw [if_neg c32, if_neg c52, if_neg c68, nI_clamp (by omega), if_neg (by unfold canB; rw [decide_eq_false c94]; decide)]
          rw [e]
          exact ⟨rfl, SC.rfl', hT⟩
      · -- 68 goes on
        refine e_aload_n dX5_carryOut_71 rfl ?_
        refine e_iload dX5_carryOut_72 rfl ?_
        refine cV1r dX5_carryOut_74 mo_X3_lightUp ml_X5_56 (sh_st (by first | assumption | exact mk_st (by assumption) | decide)) rfl (Nat.le_of_ble_eq_true rfl) (by omega) (c_lightUp (by first | assumption | decide)) ?_
        rw [hT.2.2.1]
        refine e_if_eq (tgt := 84) dX5_carryOut_77 (by decide) (fun c77 => ?_) (fun c77 => ?_)
        · -- 77 jumps
          refine e_iconst (v := (-1)) dX5_carryOut_84 (by decide) ?_
          refine e_iret dX5_carryOut_85 rfl ?_
          have hb : bitI S.lit (nI j) := Classical.not_not.mp (b2i_eq0.mp c77)
          have e : crV E.Y S (E.W.2.1 k) (nI j) (E.W.2.2.2 k) = (litV S (nI j), -1) := by
            unfold crV
            rw [if_neg c32, if_neg c52, if_pos c68, if_pos hb]
          rw [e]
          exact ⟨rfl, SC.of rfl (fun i hi => by funext z; rw [setI_1, if_neg (by unfold scr at hi; omega)]), by have h := hT.lit (i := nI j); rw [hT.2.2.1] at h; exact h⟩
        · -- 77 goes on
          refine e_iconst (v := 0) dX5_carryOut_80 (by decide) ?_
          refine e_goto (tgt := 85) dX5_carryOut_81 (by decide) ?_
          refine e_iret dX5_carryOut_85 rfl ?_
          have hb : ¬ bitI S.lit (nI j) := fun q => c77 (b2i_f (fun z => z q))
          have e : crV E.Y S (E.W.2.1 k) (nI j) (E.W.2.2.2 k) = (litV S (nI j), 0) := by
            unfold crV
            rw [if_neg c32, if_neg c52, if_pos c68, if_neg hb]
          rw [e]
          exact ⟨rfl, SC.of rfl (fun i hi => by funext z; rw [setI_1, if_neg (by unfold scr at hi; omega)]), by have h := hT.lit (i := nI j); rw [hT.2.2.1] at h; exact h⟩
    · -- 52 goes on
      refine e_aload_n dX5_carryOut_55 rfl ?_
      refine e_iload dX5_carryOut_56 rfl ?_
      refine e_iload dX5_carryOut_58 rfl ?_
      refine cV2v dX5_carryOut_60 mo_X3_heatTo ml_X5_52 (sh_st (by first | assumption | exact mk_st (by assumption) | decide)) rfl (Nat.le_of_ble_eq_true rfl) (by omega) (c_heatTo (by first | assumption | decide) (by omega)) ?_
      refine e_iconst (v := 0) dX5_carryOut_63 (by decide) ?_
      refine e_iret dX5_carryOut_64 rfl ?_
      have e : crV E.Y S (E.W.2.1 k) (nI j) (E.W.2.2.2 k) = (heatV S j (E.W.2.2.2 k), 0) := by
        unfold crV
        rw [if_neg c32, if_pos c52, nI_clamp (by omega)]
      rw [e]
      exact ⟨rfl, SC.of rfl (fun i hi => by funext z; rw [setI_1, if_neg (by unfold scr at hi; omega)]), hT.heat⟩
  · -- 32 goes on
    refine e_aload_n dX5_carryOut_35 rfl ?_
    refine e_aload_n dX5_carryOut_36 rfl ?_
    refine e_aload_n dX5_carryOut_37 rfl ?_
    refine e_aload_n dX5_carryOut_38 rfl ?_
    refine e_getI dX5_carryOut_39 fl_X5_37 (sh_st (by first | assumption | exact mk_st (by assumption) | decide)) rfl ?_
    rw [hT.2.1, ht]
    refine cV1r dX5_carryOut_42 mo_X8_frostOf ml_X5_42 (sh_yd (by first | assumption | decide)) rfl (Nat.le_of_ble_eq_true rfl) (by omega) (c_frostOf (by first | assumption | decide) (by assumption) (by omega)) ?_
    refine cV2x dX5_carryOut_45 mo_X3_pass ml_X5_48 (sh_st (by first | assumption | exact mk_st (by assumption) | decide)) rfl (Nat.le_of_ble_eq_true rfl) (by omega) (c_pass (o := 51) (by decide) hy hY hT hI) ?_
    rintro r M1 ⟨rfl, h2, hf, hS1, hcr⟩
    dsimp only [Option.toList, List.cons_append, List.nil_append]
    refine e_iret dX5_carryOut_48 rfl ?_
    have e : crV E.Y S (E.W.2.1 k) (E.W.2.2.1 k) (E.W.2.2.2 k) = (nightV E.Y S, popN E.Y S) := if_pos c32
    rw [e]
    exact ⟨by unfold popN; rw [ht], SC.of h2 (fun i hi => hf i (by unfold scr at hi; omega) (by unfold scr at hi; rcases yd_two hy with e | e <;> omega) (by unfold scr at hi; rcases yd_two hy with e | e <;> omega)), by unfold nightV; rw [ht]; exact hS1⟩
set_option maxHeartbeats 4000000 in
set_option maxRecDepth 20000 in
theorem l_judged {G : Gt} {M : Mm} {E : Gs} {y y' w w' p : Nat} (hX : XJ M E y y' w w' p) {T : Nat} (hI0 : SI E.Y (begV E.Y) T) (hT2 : T < 2 ^ 30) (hWI : WI E.Y.n E.W) {q : Int32} : ∀ (k : Nat) (i : Nat) (Mc : Mm) (u : Value), (i ≤ E.W.1) → (E.W.1 < i + k) → (SC M Mc ∧ SX Mc 51 E.Y.n (jdN E.Y E.W (begV E.Y) i).1) → Ev G 6 mX10_judged 30 [.ref 0, .int q, .int (jdN E.Y E.W (begV E.Y) i).2.1, .int (jdN E.Y E.W (begV E.Y) i).2.2, .int (nI i), u] [] Mc (fun r M' => r = some (.int (if q = 0 then (jdN E.Y E.W (begV E.Y) E.W.1).2.1 else if q = 1 then (jdN E.Y E.W (begV E.Y) E.W.1).2.2 else sumI (jdN E.Y E.W (begV E.Y) E.W.1).1.crow E.Y.n)) ∧ SC M M') := by
  intro k
  induction k with
  | zero => intro i Mc u hi hk hv; exact absurd hk (by omega)
  | succ k ih =>
    intro i Mc u hi hk hv
    obtain ⟨⟨hld, hsl, hy, hy', hyy⟩, ⟨hpl, hsp, hw, hw', hww⟩, hY, hW, hS, hV, hK, ⟨hpt, hp16, hun, hu16, hU⟩, ⟨htl, htl2, htc⟩⟩ := id (hv.1.keep hX)
    have h6 := hY.1.2
    have hW40 := hW.2.1
    refine e_iload dX10_judged_30 rfl ?_
    refine e_aload_n dX10_judged_32 rfl ?_
    refine e_getP dX10_judged_33 fl_X10_29 sh_x rfl ?_
    first | rw [hpl] | (simp only [setI_2, setI_22, setL_22]; rw [hpl])
    refine e_getI dX10_judged_36 fl_X10_188 (sh_wk (by first | assumption | exact wk2 (by assumption) | exact mk_wk (by assumption) | decide)) rfl ?_
    refine e_icmp_ge (tgt := 94) dX10_judged_39 (by decide) (fun c39 => ?_) (fun c39 => ?_)
    · -- 39 jumps
      rw [hW.1] at c39
      have hin : i = E.W.1 := by have := ge_of (by omega) (by omega) c39; omega
      subst hin
      refine e_iload_n dX10_judged_94 rfl ?_
      refine e_if_ne (tgt := 100) dX10_judged_95 (by decide) (fun c95 => ?_) (fun c95 => ?_)
      · -- 95 jumps
        refine e_iload_n dX10_judged_100 rfl ?_
        refine e_iconst (v := 1) dX10_judged_101 (by decide) ?_
        refine e_icmp_ne (tgt := 109) dX10_judged_102 (by decide) (fun c102 => ?_) (fun c102 => ?_)
        · -- 102 jumps
          refine e_aload_n dX10_judged_109 rfl ?_
          refine e_getR dX10_judged_110 fl_X10_43 sh_x rfl ?_
          refine cV0r dX10_judged_113 mo_X3_crownsOfAll ml_X10_178 (sh_st (by first | assumption | exact mk_st (by assumption) | decide)) rfl (Nat.le_of_ble_eq_true rfl) (by omega) (c_crownsOfAll (o := 51) (by decide) hv.2.1 hY.1.2) ?_
          refine e_iret dX10_judged_116 rfl ?_
          exact ⟨by rw [if_neg c95, if_neg c102, sumI_crow hv.2], hv.1⟩
        · -- 102 goes on
          refine e_iload_n dX10_judged_105 rfl ?_
          refine e_goto (tgt := 116) dX10_judged_106 (by decide) ?_
          refine e_iret dX10_judged_116 rfl ?_
          exact ⟨by rw [if_neg c95, if_pos c102], hv.1⟩
      · -- 95 goes on
        refine e_iload_n dX10_judged_98 rfl ?_
        refine e_iret dX10_judged_99 rfl ?_
        exact ⟨by rw [if_pos c95], hv.1⟩
    · -- 39 goes on
      rw [hW.1] at c39
      have hlt : i < E.W.1 := lt_of (by omega) (by omega) c39
      refine e_aload_n dX10_judged_42 rfl ?_
      refine e_getP dX10_judged_43 fl_X10_29 sh_x rfl ?_
      first | rw [hpl] | (simp only [setI_2, setI_22, setL_22]; rw [hpl])
      refine e_iload dX10_judged_46 rfl ?_
      refine e_aload_n dX10_judged_48 rfl ?_
      refine e_getR dX10_judged_49 fl_X10_43 sh_x rfl ?_
      refine e_aload_n dX10_judged_52 rfl ?_
      refine e_getP dX10_judged_53 fl_X10_19 sh_x rfl ?_
      first | rw [hld] | (simp only [setI_2, setI_22, setL_22]; rw [hld])
      refine cV3x dX10_judged_56 mo_X5_carryOut ml_X10_245 (sh_wk (by first | assumption | exact wk2 (by assumption) | exact mk_wk (by assumption) | decide)) rfl (Nat.le_of_ble_eq_true rfl) (by omega) (c_carryOut (hv.1.keep hX) hv.2 (hI0.jd hY.1.2 hWI i hi) (by omega) hWI hlt) ?_
      rintro r M1 ⟨rfl, h1, h2⟩
      dsimp only [Option.toList, List.cons_append, List.nil_append]
      refine e_istore (ls' := [_, _, _, _, _, _]) dX10_judged_59 (by decide) rfl ?_
      refine e_iload dX10_judged_61 rfl ?_
      refine e_iconst (v := (-1)) dX10_judged_63 (by decide) ?_
      refine e_icmp_ne (tgt := 75) dX10_judged_64 (by decide) (fun c64 => ?_) (fun c64 => ?_)
      · -- 64 jumps
        refine e_iload dX10_judged_75 rfl ?_
        refine e_if_le (tgt := 88) dX10_judged_77 (by decide) (fun c77 => ?_) (fun c77 => ?_)
        · -- 77 jumps
          refine e_iinc (ls' := [_, _, _, _, _, _]) dX10_judged_88 rfl (nI_i1 _) (by decide) rfl ?_
          refine e_goto (tgt := 30) dX10_judged_91 (by decide) ?_
          have hh := ih (i + 1) M1 (.int (crV E.Y (jdN E.Y E.W (begV E.Y) i).1 (E.W.2.1 i) (E.W.2.2.1 i) (E.W.2.2.2 i)).2) (by omega) (by omega) ⟨hv.1.trans h1, h2⟩
          rw [show (jdN E.Y E.W (begV E.Y) (i + 1)).2.1 = _ from if_neg (fun q => c64 q.1), show (jdN E.Y E.W (begV E.Y) (i + 1)).2.2 = _ from if_neg (fun q => c77 q.1)] at hh
          exact hh
        · -- 77 goes on
          refine e_iload_n dX10_judged_80 rfl ?_
          refine e_iconst (v := (-1)) dX10_judged_81 (by decide) ?_
          refine e_icmp_ne (tgt := 88) dX10_judged_82 (by decide) (fun c82 => ?_) (fun c82 => ?_)
          · -- 82 jumps
            refine e_iinc (ls' := [_, _, _, _, _, _]) dX10_judged_88 rfl (nI_i1 _) (by decide) rfl ?_
            refine e_goto (tgt := 30) dX10_judged_91 (by decide) ?_
            have hh := ih (i + 1) M1 (.int (crV E.Y (jdN E.Y E.W (begV E.Y) i).1 (E.W.2.1 i) (E.W.2.2.1 i) (E.W.2.2.2 i)).2) (by omega) (by omega) ⟨hv.1.trans h1, h2⟩
            rw [show (jdN E.Y E.W (begV E.Y) (i + 1)).2.1 = _ from if_neg (fun q => c64 q.1), show (jdN E.Y E.W (begV E.Y) (i + 1)).2.2 = _ from if_neg (fun q => c82 q.2)] at hh
            exact hh
          · -- 82 goes on
            refine e_iload dX10_judged_85 rfl ?_
            refine e_istore_n (ls' := [_, _, _, _, _, _]) dX10_judged_87 (by decide) rfl ?_
            refine e_iinc (ls' := [_, _, _, _, _, _]) dX10_judged_88 rfl (nI_i1 _) (by decide) rfl ?_
            refine e_goto (tgt := 30) dX10_judged_91 (by decide) ?_
            have hh := ih (i + 1) M1 (.int (crV E.Y (jdN E.Y E.W (begV E.Y) i).1 (E.W.2.1 i) (E.W.2.2.1 i) (E.W.2.2.2 i)).2) (by omega) (by omega) ⟨hv.1.trans h1, h2⟩
            rw [show (jdN E.Y E.W (begV E.Y) (i + 1)).2.1 = _ from if_neg (fun q => c64 q.1), show (jdN E.Y E.W (begV E.Y) (i + 1)).2.2 = _ from if_pos ⟨c77, c82⟩] at hh
            exact hh
      · -- 64 goes on
        refine e_iload_n dX10_judged_67 rfl ?_
        refine e_iconst (v := (-1)) dX10_judged_68 (by decide) ?_
        refine e_icmp_ne (tgt := 75) dX10_judged_69 (by decide) (fun c69 => ?_) (fun c69 => ?_)
        · -- 69 jumps
          refine e_iload dX10_judged_75 rfl ?_
          refine e_if_le (tgt := 88) dX10_judged_77 (by decide) (fun c77 => ?_) (fun c77 => ?_)
          · -- 77 jumps
            refine e_iinc (ls' := [_, _, _, _, _, _]) dX10_judged_88 rfl (nI_i1 _) (by decide) rfl ?_
            refine e_goto (tgt := 30) dX10_judged_91 (by decide) ?_
            have hh := ih (i + 1) M1 (.int (crV E.Y (jdN E.Y E.W (begV E.Y) i).1 (E.W.2.1 i) (E.W.2.2.1 i) (E.W.2.2.2 i)).2) (by omega) (by omega) ⟨hv.1.trans h1, h2⟩
            rw [show (jdN E.Y E.W (begV E.Y) (i + 1)).2.1 = _ from if_neg (fun q => c69 q.2), show (jdN E.Y E.W (begV E.Y) (i + 1)).2.2 = _ from if_neg (fun q => c77 q.1)] at hh
            exact hh
          · -- 77 goes on
            refine e_iload_n dX10_judged_80 rfl ?_
            refine e_iconst (v := (-1)) dX10_judged_81 (by decide) ?_
            refine e_icmp_ne (tgt := 88) dX10_judged_82 (by decide) (fun c82 => ?_) (fun c82 => ?_)
            · -- 82 jumps
              refine e_iinc (ls' := [_, _, _, _, _, _]) dX10_judged_88 rfl (nI_i1 _) (by decide) rfl ?_
              refine e_goto (tgt := 30) dX10_judged_91 (by decide) ?_
              have hh := ih (i + 1) M1 (.int (crV E.Y (jdN E.Y E.W (begV E.Y) i).1 (E.W.2.1 i) (E.W.2.2.1 i) (E.W.2.2.2 i)).2) (by omega) (by omega) ⟨hv.1.trans h1, h2⟩
              rw [show (jdN E.Y E.W (begV E.Y) (i + 1)).2.1 = _ from if_neg (fun q => c69 q.2), show (jdN E.Y E.W (begV E.Y) (i + 1)).2.2 = _ from if_neg (fun q => c82 q.2)] at hh
              exact hh
            · -- 82 goes on
              refine e_iload dX10_judged_85 rfl ?_
              refine e_istore_n (ls' := [_, _, _, _, _, _]) dX10_judged_87 (by decide) rfl ?_
              refine e_iinc (ls' := [_, _, _, _, _, _]) dX10_judged_88 rfl (nI_i1 _) (by decide) rfl ?_
              refine e_goto (tgt := 30) dX10_judged_91 (by decide) ?_
              have hh := ih (i + 1) M1 (.int (crV E.Y (jdN E.Y E.W (begV E.Y) i).1 (E.W.2.1 i) (E.W.2.2.1 i) (E.W.2.2.2 i)).2) (by omega) (by omega) ⟨hv.1.trans h1, h2⟩
              rw [show (jdN E.Y E.W (begV E.Y) (i + 1)).2.1 = _ from if_neg (fun q => c69 q.2), show (jdN E.Y E.W (begV E.Y) (i + 1)).2.2 = _ from if_pos ⟨c77, c82⟩] at hh
              exact hh
        · -- 69 goes on
          refine e_iload dX10_judged_72 rfl ?_
          refine e_istore_n (ls' := [_, _, _, _, _, _]) dX10_judged_74 (by decide) rfl ?_
          refine e_iload dX10_judged_75 rfl ?_
          refine e_if_le (tgt := 88) dX10_judged_77 (by decide) (fun c77 => ?_) (fun c77 => ?_)
          · -- 77 jumps
            refine e_iinc (ls' := [_, _, _, _, _, _]) dX10_judged_88 rfl (nI_i1 _) (by decide) rfl ?_
            refine e_goto (tgt := 30) dX10_judged_91 (by decide) ?_
            have hh := ih (i + 1) M1 (.int (crV E.Y (jdN E.Y E.W (begV E.Y) i).1 (E.W.2.1 i) (E.W.2.2.1 i) (E.W.2.2.2 i)).2) (by omega) (by omega) ⟨hv.1.trans h1, h2⟩
            rw [show (jdN E.Y E.W (begV E.Y) (i + 1)).2.1 = _ from if_pos ⟨c64, c69⟩, show (jdN E.Y E.W (begV E.Y) (i + 1)).2.2 = _ from if_neg (fun q => c77 q.1)] at hh
            exact hh
          · -- 77 goes on
            refine e_iload_n dX10_judged_80 rfl ?_
            refine e_iconst (v := (-1)) dX10_judged_81 (by decide) ?_
            refine e_icmp_ne (tgt := 88) dX10_judged_82 (by decide) (fun c82 => ?_) (fun c82 => ?_)
            · -- 82 jumps
              refine e_iinc (ls' := [_, _, _, _, _, _]) dX10_judged_88 rfl (nI_i1 _) (by decide) rfl ?_
              refine e_goto (tgt := 30) dX10_judged_91 (by decide) ?_
              have hh := ih (i + 1) M1 (.int (crV E.Y (jdN E.Y E.W (begV E.Y) i).1 (E.W.2.1 i) (E.W.2.2.1 i) (E.W.2.2.2 i)).2) (by omega) (by omega) ⟨hv.1.trans h1, h2⟩
              rw [show (jdN E.Y E.W (begV E.Y) (i + 1)).2.1 = _ from if_pos ⟨c64, c69⟩, show (jdN E.Y E.W (begV E.Y) (i + 1)).2.2 = _ from if_neg (fun q => c82 q.2)] at hh
              exact hh
            · -- 82 goes on
              refine e_iload dX10_judged_85 rfl ?_
              refine e_istore_n (ls' := [_, _, _, _, _, _]) dX10_judged_87 (by decide) rfl ?_
              refine e_iinc (ls' := [_, _, _, _, _, _]) dX10_judged_88 rfl (nI_i1 _) (by decide) rfl ?_
              refine e_goto (tgt := 30) dX10_judged_91 (by decide) ?_
              have hh := ih (i + 1) M1 (.int (crV E.Y (jdN E.Y E.W (begV E.Y) i).1 (E.W.2.1 i) (E.W.2.2.1 i) (E.W.2.2.2 i)).2) (by omega) (by omega) ⟨hv.1.trans h1, h2⟩
              rw [show (jdN E.Y E.W (begV E.Y) (i + 1)).2.1 = _ from if_pos ⟨c64, c69⟩, show (jdN E.Y E.W (begV E.Y) (i + 1)).2.2 = _ from if_pos ⟨c77, c82⟩] at hh
              exact hh
set_option maxHeartbeats 4000000 in
set_option maxRecDepth 20000 in
theorem c_judged {G : Gt} {M : Mm} {E : Gs} {y y' w w' p : Nat} (hX : XJ M E y y' w w' p) {T : Nat} (hI0 : SI E.Y (begV E.Y) T) (hT2 : T < 2 ^ 30) (hWI : WI E.Y.n E.W) {q : Int32} : Call G 6 mX10_judged [.ref 0, .int q] M (fun r M' => r = some (.int (judgedQ E q)) ∧ SC M M') := by
  obtain ⟨⟨hld, hsl, hy, hy', hyy⟩, ⟨hpl, hsp, hw, hw', hww⟩, hY, hW, hS, hV, hK, ⟨hpt, hp16, hun, hu16, hU⟩, ⟨htl, htl2, htc⟩⟩ := id hX
  have h6 := hY.1.2
  have hs5 := hY.2.1.2
  have hW40 := hW.2.1
  refine Call.intro rfl (Nat.le_of_ble_eq_true rfl) ?_
  show Ev G _ mX10_judged 0 [.ref 0, .int q, RA, RA, RA, RA] [] M _
  refine e_iload_n dX10_judged_0 rfl ?_
  refine e_iconst (v := 0) dX10_judged_1 (by decide) ?_
  refine e_iconst (v := 2) dX10_judged_2 (by decide) ?_
  refine cS3r dX10_judged_3 mo_X10_within ml_X10_199 (Nat.le_of_ble_eq_true rfl) (by omega) (c_within) ?_
  refine e_if_ne (tgt := 12) dX10_judged_6 (by decide) (fun c6 => ?_) (fun c6 => ?_)
  · -- 6 jumps
    have c6 : vWi q 0 2 := by
      by_cases h : (vWi q 0 2)
      · exact h
      · exact absurd (b2i_f h) c6
    refine e_iconst (v := (-1)) dX10_judged_12 (by decide) ?_
    refine e_istore_n (ls' := [_, _, _, _, _, _]) dX10_judged_13 (by decide) rfl ?_
    refine e_iconst (v := (-1)) dX10_judged_14 (by decide) ?_
    refine e_istore_n (ls' := [_, _, _, _, _, _]) dX10_judged_15 (by decide) rfl ?_
    refine e_aload_n dX10_judged_16 rfl ?_
    refine e_getR dX10_judged_17 fl_X10_43 sh_x rfl ?_
    refine e_aload_n dX10_judged_20 rfl ?_
    refine e_getP dX10_judged_21 fl_X10_19 sh_x rfl ?_
    first | rw [hld] | (simp only [setI_2, setI_22, setL_22]; rw [hld])
    refine cV1x dX10_judged_24 mo_X3_begin ml_X10_106 (sh_st (by first | assumption | exact mk_st (by assumption) | decide)) rfl (Nat.le_of_ble_eq_true rfl) (by omega) (c_begin (o := 51) (by decide) hy hY) ?_
    rintro r M1 ⟨rfl, h2, hf, hb⟩
    dsimp only [Option.toList, List.cons_append, List.nil_append]
    have hs0 : SC M M1 := SC.of h2 (fun i hi => hf i (by unfold scr at hi; omega))
    refine e_iconst (v := 0) dX10_judged_27 (by decide) ?_
    refine e_istore (ls' := [_, _, _, _, _, _]) dX10_judged_28 (by decide) rfl ?_
    unfold judgedQ
    rw [if_pos c6]
    exact l_judged hX hI0 hT2 hWI (E.W.1 + 1) 0 M1 _ (by omega) (by omega) ⟨hs0, hb⟩
  · -- 6 goes on
    refine e_bipush (v := (-2)) dX10_judged_9 (by decide) ?_
    refine e_iret dX10_judged_11 rfl ?_
    exact ⟨by unfold judgedQ; rw [if_neg (b2i_eq0.mp c6)], SC.rfl'⟩
theorem XJ.upV {M M' : Mm} {E : Gs} {y y' w w' p : Nat} {V : Rv} (hX : XJ M E y y' w w' p) (h2 : M'.2 = M.2) (hf : ∀ i, ¬ (58 ≤ i ∧ i ≤ 61) → M'.1 i = M.1 i) (hV : RX M' 58 8 V) : XJ M' (E.setV V) y y' w w' p := by
  obtain ⟨⟨hld, hsl, hy, hy', hyy⟩, ⟨hpl, hsp, hw, hw', hww⟩, hY, hW, hS, hV0, hK, ⟨hpt, hp16, hun, hu16, hU⟩, ⟨htl, htl2, htc⟩⟩ := hX
  have hyl := yd_le hy
  exact ⟨⟨by rw [h2]; exact hld, by rw [h2]; exact hsl, hy, hy', hyy⟩, ⟨by rw [h2]; exact hpl, by rw [h2]; exact hsp, hw, hw', hww⟩, hY.congr h2 (fun i a b => hf i (by omega)), hW.congr (fun q a b => hf q (by omega)), hS.congr (fun q a b => hf q (by omega)), hV, fun k hk => (hK k hk).congr (fun i a b => hf i (by omega)), ⟨by rw [hf 0 (by omega)]; exact hpt, hp16, by rw [hf 0 (by omega)]; exact hun, hu16, fun k hk => (hU k hk).congr (fun q a b => hf q (by have := rng_ge p E.un k; omega))⟩, ⟨by rw [hf 6 (by omega)]; exact htl, htl2, fun k hk => by rw [hf 7 (by omega)]; exact htc k hk⟩⟩
theorem XJ.upT {M M' : Mm} {E : Gs} {y y' w w' p : Nat} {t : Nat × (Nat → Int32)} (hX : XJ M E y y' w w' p) (h2 : M'.2 = M.2) (hf : ∀ i, ¬ i = 6 → ¬ i = 7 → M'.1 i = M.1 i) (h6 : M'.1 6 1 = nI t.1) (h7 : t.1 ≤ 1000) (h8 : ∀ k, k < t.1 → M'.1 7 k = t.2 k) : XJ M' (E.setT t) y y' w w' p := by
  obtain ⟨⟨hld, hsl, hy, hy', hyy⟩, ⟨hpl, hsp, hw, hw', hww⟩, hY, hW, hS, hV, hK, ⟨hpt, hp16, hun, hu16, hU⟩, ⟨-, -, -⟩⟩ := hX
  have hyl := yd_le hy
  exact ⟨⟨by rw [h2]; exact hld, by rw [h2]; exact hsl, hy, hy', hyy⟩, ⟨by rw [h2]; exact hpl, by rw [h2]; exact hsp, hw, hw', hww⟩, hY.congr h2 (fun i a b => hf i (by omega) (by omega)), hW.congr (fun q a b => hf q (by omega) (by omega)), hS.congr (fun q a b => hf q (by omega) (by omega)), hV.congr (fun q a b => hf q (by omega) (by omega)), fun k hk => (hK k hk).congr (fun i a b => hf i (by omega) (by omega)), ⟨by rw [hf 0 (by omega) (by omega)]; exact hpt, hp16, by rw [hf 0 (by omega) (by omega)]; exact hun, hu16, fun k hk => (hU k hk).congr (fun q a b => hf q (by have := rng_ge p E.un k; omega) (by have := rng_ge p E.un k; omega))⟩, ⟨h6, h7, h8⟩⟩
def seeE (E : Gs) (t m b : Int32) : Gs := E.setV (addR E.V t m b)
/-- a sign behind the tape -/
def apT (t : Nat × (Nat → Int32)) (c : Int32) : Nat × (Nat → Int32) := if (c = 10 ∨ (¬ c < 32 ∧ ¬ 126 < c)) ∧ t.1 < 1000 then (t.1 + 1, fun k => if k = t.1 then c else t.2 k) else t
def shI (i : Nat) : Int32 := Int32.ofInt (56 - 8 * (i : Int))
def byV (x : Int64) (s : Int32) : Int32 := ((x >>> (s.toInt64 &&& 63)) &&& 255).toInt32
def fwN (t : Nat × (Nat → Int32)) (x : Int64) : Nat → Nat × (Nat → Int32)
  | 0 => t
  | k + 1 => apT (fwN t x k) (byV x (shI k))
def feedT (t : Nat × (Nat → Int32)) (a b c : Int64) : Nat × (Nat → Int32) := fwN (fwN (fwN t a 8) b 8) c 8
/-- the tape in the class -/
def TX (M : Mm) (t : Nat × (Nat → Int32)) : Prop := M.1 6 1 = nI t.1 ∧ t.1 ≤ 1000 ∧ ∀ k, k < t.1 → M.1 7 k = t.2 k
set_option maxHeartbeats 4000000 in
set_option maxRecDepth 20000 in
theorem c_see {G : Gt} {M : Mm} {E : Gs} {y y' w w' p : Nat} (hX : XJ M E y y' w w' p) {t m b : Int32} (hb : b = 0 ∨ b = 1) : Call G 3 mX10_see [.ref 0, .int t, .int m, .int b] M (fun r M' => (seeB E t m = true → r = some (.int 1) ∧ XE M M' (seeE E t m b)) ∧ (seeB E t m = false → r = some (.int 0) ∧ M' = M)) := by
  obtain ⟨⟨hld, hsl, hy, hy', hyy⟩, ⟨hpl, hsp, hw, hw', hww⟩, hY, hW, hS, hV, hK, ⟨hpt, hp16, hun, hu16, hU⟩, ⟨htl, htl2, htc⟩⟩ := id hX
  have h6 := hY.1.2
  have hs5 := hY.2.1.2
  refine Call.intro rfl (Nat.le_of_ble_eq_true rfl) ?_
  show Ev G _ mX10_see 0 [.ref 0, .int t, .int m, .int b] [] M _
  refine e_iload_n dX10_see_0 rfl ?_
  refine e_iconst (v := 1) dX10_see_1 (by decide) ?_
  refine e_bipush (v := 20) dX10_see_2 (by decide) ?_
  refine cS3r dX10_see_4 mo_X10_within ml_X10_199 (Nat.le_of_ble_eq_true rfl) (by omega) (c_within) ?_
  refine e_if_eq (tgt := 21) dX10_see_7 (by decide) (fun c7 => ?_) (fun c7 => ?_)
  · -- 7 jumps
    refine e_iconst (v := 0) dX10_see_21 (by decide) ?_
    refine e_zret dX10_see_22 rfl (by first | rfl | exact b2i_nar _) ?_
    exact ⟨fun h => absurd (of_decide_eq_true h).1.1 (b2i_eq0.mp c7), fun _ => ⟨rfl, rfl⟩⟩
  · -- 7 goes on
    have c7 : vWi t 1 20 := by
      by_cases h : (vWi t 1 20)
      · exact h
      · exact absurd (b2i_f h) c7
    refine e_iload_n dX10_see_10 rfl ?_
    refine e_iconst (v := 1) dX10_see_11 (by decide) ?_
    refine e_sipush (v := 400) dX10_see_12 (by decide) ?_
    refine cS3r dX10_see_15 mo_X10_within ml_X10_199 (Nat.le_of_ble_eq_true rfl) (by omega) (c_within) ?_
    refine e_if_ne (tgt := 23) dX10_see_18 (by decide) (fun c18 => ?_) (fun c18 => ?_)
    · -- 18 jumps
      have c18 : vWi m 1 400 := by
        by_cases h : (vWi m 1 400)
        · exact h
        · exact absurd (b2i_f h) c18
      refine e_aload_n dX10_see_23 rfl ?_
      refine e_getR dX10_see_24 fl_X10_49 sh_x rfl ?_
      refine e_iload_n dX10_see_27 rfl ?_
      refine e_iload_n dX10_see_28 rfl ?_
      refine e_iload_n dX10_see_29 rfl ?_
      refine cV3x dX10_see_30 mo_X2_add ml_X10_323 (sh_sn (by first | assumption | exact mk_sn (by assumption) | decide)) rfl (Nat.le_of_ble_eq_true rfl) (by omega) (c_addV (by decide) hV hb) ?_
      rintro r M1 ⟨rfl, h2, hf, h3, h4⟩
      dsimp only [Option.toList, List.cons_append, List.nil_append]
      refine e_zret dX10_see_33 rfl (by first | rfl | exact b2i_nar _) ?_
      refine ⟨fun h => ?_, fun h => ?_⟩
      · have h8 := (of_decide_eq_true h).2
        exact ⟨by rw [b2i_t h8], ⟨y, y', w, w', p, hX.upV h2 (fun i hi => hf i (by omega)) (h3 h8)⟩, fun i hi => ⟨hf i (by omega), by rw [h2], by rw [h2]⟩⟩
      · have h8 : ¬ E.V.1 < 8 := fun q => of_decide_eq_false h ⟨⟨c7, c18⟩, q⟩
        exact ⟨by rw [b2i_f h8], h4 h8⟩
    · -- 18 goes on
      refine e_iconst (v := 0) dX10_see_21 (by decide) ?_
      refine e_zret dX10_see_22 rfl (by first | rfl | exact b2i_nar _) ?_
      exact ⟨fun h => absurd (of_decide_eq_true h).1.2 (b2i_eq0.mp c18), fun _ => ⟨rfl, rfl⟩⟩
set_option maxHeartbeats 4000000 in
set_option maxRecDepth 20000 in
theorem c_append {G : Gt} {M : Mm} {t : Nat × (Nat → Int32)} {x : Int32} (hT : TX M t) : Call G 2 mX4_append [.ref 6, .int x] M (fun r M' => r = none ∧ M'.2 = M.2 ∧ (∀ i, ¬ i = 6 → ¬ i = 7 → M'.1 i = M.1 i) ∧ TX M' (apT t x)) := by
  have ht1 := hT.2.1
  refine Call.intro rfl (Nat.le_of_ble_eq_true rfl) ?_
  show Ev G _ mX4_append 0 [.ref 6, .int x, RA] [] M _
  refine e_iload_n dX4_append_0 rfl ?_
  refine e_bipush (v := 10) dX4_append_1 (by decide) ?_
  refine e_icmp_eq (tgt := 17) dX4_append_3 (by decide) (fun c3 => ?_) (fun c3 => ?_)
  · -- 3 jumps
    refine e_iconst (v := 1) dX4_append_17 (by decide) ?_
    refine e_goto (tgt := 22) dX4_append_18 (by decide) ?_
    refine e_istore_n (ls' := [_, _, _]) dX4_append_22 (by decide) rfl ?_
    refine e_iload_n dX4_append_23 rfl ?_
    refine e_if_eq (tgt := 59) dX4_append_24 (by decide) (fun c24 => absurd c24 (by decide)) (fun c24 => ?_)
    refine e_aload_n dX4_append_27 rfl ?_
    refine e_getI dX4_append_28 fl_X4_28 sh_tk rfl ?_
    rw [hT.1]
    refine e_sipush (v := 1000) dX4_append_31 (by decide) ?_
    refine e_icmp_ge (tgt := 59) dX4_append_34 (by decide) (fun c34 => ?_) (fun c34 => ?_)
    · -- 34 jumps
      refine e_vret dX4_append_59 rfl ?_
      have e : apT t x = t := if_neg (fun q => by have := ge_of (n := 1000) (by omega) (by omega) c34; omega)
      rw [e]
      exact ⟨rfl, rfl, fun _ _ _ => rfl, hT⟩
    · -- 34 goes on
      refine e_aload_n dX4_append_37 rfl ?_
      refine e_getR dX4_append_38 fl_X4_9 sh_tk rfl ?_
      refine e_aload_n dX4_append_41 rfl ?_
      refine e_getI dX4_append_42 fl_X4_28 sh_tk rfl ?_
      rw [hT.1]
      refine e_iload_n dX4_append_45 rfl ?_
      refine cS3v dX4_append_46 mo_X10_put ml_X4_32 (Nat.le_of_ble_eq_true rfl) (by omega) (c_putN (sa_tk_signs) (by decide) (by have := lt_of (n := 1000) (by omega) (by omega) c34; omega)) ?_
      refine e_aload_n dX4_append_49 rfl ?_
      refine e_dup dX4_append_50 rfl ?_
      refine e_getI dX4_append_51 fl_X4_28 sh_tk rfl ?_
      rw [setI_1, if_neg (by omega), hT.1]
      refine e_iconst (v := 1) dX4_append_54 (by decide) ?_
      refine e_iadd dX4_append_55 ?_
      refine e_putI dX4_append_56 fl_X4_28 sh_tk rfl rfl rfl ?_
      refine e_vret dX4_append_59 rfl ?_
      have hlt : t.1 < 1000 := lt_of (n := 1000) (by omega) (by omega) c34
      have e : apT t x = (t.1 + 1, fun k => if k = t.1 then x else t.2 k) := if_pos ⟨Or.inl c3, hlt⟩
      rw [e]
      refine ⟨rfl, rfl, fun i h1 h2 => ?_, ?_, ?_, fun k hk => ?_⟩
      · funext z; rw [setI_1, if_neg (fun e => h1 e.1), setI_1, if_neg (fun e => h2 e.1)]
      · rw [setI_1, if_pos ⟨rfl, rfl⟩]; exact nI_1 _
      · show t.1 + 1 ≤ 1000; omega
      · have hk2 : k < t.1 + 1 := hk
        rw [setI_1, if_neg (by omega), setI_1]
        show _ = if k = t.1 then x else t.2 k
        by_cases e : k = t.1
        · rw [if_pos ⟨rfl, e⟩, if_pos e]
        · rw [if_neg (fun z => e z.2), if_neg e]; exact hT.2.2 k (by omega)
  · -- 3 goes on
    refine e_iload_n dX4_append_6 rfl ?_
    refine e_bipush (v := 32) dX4_append_7 (by decide) ?_
    refine e_bipush (v := 126) dX4_append_9 (by decide) ?_
    refine cS3r dX4_append_11 mo_X10_within ml_X4_24 (Nat.le_of_ble_eq_true rfl) (by omega) (c_within) ?_
    refine e_if_eq (tgt := 21) dX4_append_14 (by decide) (fun c14 => ?_) (fun c14 => ?_)
    · -- 14 jumps
      refine e_iconst (v := 0) dX4_append_21 (by decide) ?_
      refine e_istore_n (ls' := [_, _, _]) dX4_append_22 (by decide) rfl ?_
      refine e_iload_n dX4_append_23 rfl ?_
      refine e_if_eq (tgt := 59) dX4_append_24 (by decide) (fun c24 => ?_) (fun c24 => absurd c24 (by decide))
      refine e_vret dX4_append_59 rfl ?_
      have e : apT t x = t := if_neg (fun q => q.1.elim c3 (b2i_eq0.mp c14))
      rw [e]
      exact ⟨rfl, rfl, fun _ _ _ => rfl, hT⟩
    · -- 14 goes on
      have c14 : ¬ x < 32 ∧ ¬ 126 < x := by
        by_cases h : (¬ x < 32 ∧ ¬ 126 < x)
        · exact h
        · exact absurd (b2i_f h) c14
      refine e_iconst (v := 1) dX4_append_17 (by decide) ?_
      refine e_goto (tgt := 22) dX4_append_18 (by decide) ?_
      refine e_istore_n (ls' := [_, _, _]) dX4_append_22 (by decide) rfl ?_
      refine e_iload_n dX4_append_23 rfl ?_
      refine e_if_eq (tgt := 59) dX4_append_24 (by decide) (fun c24 => absurd c24 (by decide)) (fun c24 => ?_)
      refine e_aload_n dX4_append_27 rfl ?_
      refine e_getI dX4_append_28 fl_X4_28 sh_tk rfl ?_
      rw [hT.1]
      refine e_sipush (v := 1000) dX4_append_31 (by decide) ?_
      refine e_icmp_ge (tgt := 59) dX4_append_34 (by decide) (fun c34 => ?_) (fun c34 => ?_)
      · -- 34 jumps
        refine e_vret dX4_append_59 rfl ?_
        have e : apT t x = t := if_neg (fun q => by have := ge_of (n := 1000) (by omega) (by omega) c34; omega)
        rw [e]
        exact ⟨rfl, rfl, fun _ _ _ => rfl, hT⟩
      · -- 34 goes on
        refine e_aload_n dX4_append_37 rfl ?_
        refine e_getR dX4_append_38 fl_X4_9 sh_tk rfl ?_
        refine e_aload_n dX4_append_41 rfl ?_
        refine e_getI dX4_append_42 fl_X4_28 sh_tk rfl ?_
        rw [hT.1]
        refine e_iload_n dX4_append_45 rfl ?_
        refine cS3v dX4_append_46 mo_X10_put ml_X4_32 (Nat.le_of_ble_eq_true rfl) (by omega) (c_putN (sa_tk_signs) (by decide) (by have := lt_of (n := 1000) (by omega) (by omega) c34; omega)) ?_
        refine e_aload_n dX4_append_49 rfl ?_
        refine e_dup dX4_append_50 rfl ?_
        refine e_getI dX4_append_51 fl_X4_28 sh_tk rfl ?_
        rw [setI_1, if_neg (by omega), hT.1]
        refine e_iconst (v := 1) dX4_append_54 (by decide) ?_
        refine e_iadd dX4_append_55 ?_
        refine e_putI dX4_append_56 fl_X4_28 sh_tk rfl rfl rfl ?_
        refine e_vret dX4_append_59 rfl ?_
        have hlt : t.1 < 1000 := lt_of (n := 1000) (by omega) (by omega) c34
        have e : apT t x = (t.1 + 1, fun k => if k = t.1 then x else t.2 k) := if_pos ⟨Or.inr c14, hlt⟩
        rw [e]
        refine ⟨rfl, rfl, fun i h1 h2 => ?_, ?_, ?_, fun k hk => ?_⟩
        · funext z; rw [setI_1, if_neg (fun e => h1 e.1), setI_1, if_neg (fun e => h2 e.1)]
        · rw [setI_1, if_pos ⟨rfl, rfl⟩]; exact nI_1 _
        · show t.1 + 1 ≤ 1000; omega
        · have hk2 : k < t.1 + 1 := hk
          rw [setI_1, if_neg (by omega), setI_1]
          show _ = if k = t.1 then x else t.2 k
          by_cases e : k = t.1
          · rw [if_pos ⟨rfl, e⟩, if_pos e]
          · rw [if_neg (fun z => e z.2), if_neg e]; exact hT.2.2 k (by omega)
theorem shI_s (i : Nat) : shI i + Int32.ofInt (-8) = shI (i + 1) := by
  unfold shI
  rw [← Int32.ofInt_add]
  congr 1
  omega
theorem shI_neg : ∀ i, i < 9 → (shI i < 0 ↔ i = 8) := by decide
set_option maxHeartbeats 4000000 in
set_option maxRecDepth 20000 in
theorem l_fw {G : Gt} {M : Mm} {t : Nat × (Nat → Int32)} {x : Int64} : ∀ (k : Nat) (i : Nat) (Mc : Mm), (i ≤ 8) → (8 < i + k) → (Mc.2 = M.2 ∧ (∀ i, ¬ i = 6 → ¬ i = 7 → Mc.1 i = M.1 i) ∧ TX Mc (fwN t x i)) → Ev G 3 mX10_feedWord 3 [.ref 0, .long x, RA, .int (shI i)] [] Mc (fun r M' => r = none ∧ M'.2 = M.2 ∧ (∀ i, ¬ i = 6 → ¬ i = 7 → M'.1 i = M.1 i) ∧ TX M' (fwN t x 8)) := by
  intro k
  induction k with
  | zero => intro i Mc hi hk hv; exact absurd hk (by omega)
  | succ k ih =>
    intro i Mc hi hk hv
    refine e_iload_n dX10_feedWord_3 rfl ?_
    refine e_if_lt (tgt := 28) dX10_feedWord_4 (by decide) (fun c4 => ?_) (fun c4 => ?_)
    · -- 4 jumps
      have hin : i = 8 := (shI_neg i (by omega)).mp c4
      subst hin
      refine e_vret dX10_feedWord_28 rfl ?_
      exact ⟨rfl, hv.1, hv.2.1, hv.2.2⟩
    · -- 4 goes on
      have hlt : i < 8 := by
        rcases Nat.lt_or_ge i 8 with q | q
        · exact q
        · exact absurd ((shI_neg i (by omega)).mpr (by omega)) c4
      refine e_aload_n dX10_feedWord_7 rfl ?_
      refine e_getR dX10_feedWord_8 fl_X10_10 sh_x rfl ?_
      refine e_lload_n dX10_feedWord_11 rfl ?_
      refine e_iload_n dX10_feedWord_12 rfl ?_
      refine e_lshr dX10_feedWord_13 rfl ?_
      refine e_ldc2 dX10_feedWord_14 kl_X10_88 ?_
      refine e_land dX10_feedWord_17 ?_
      refine e_l2i dX10_feedWord_18 ?_
      refine cV1x dX10_feedWord_19 mo_X4_append ml_X10_90 sh_tk rfl (Nat.le_of_ble_eq_true rfl) (by omega) (c_append (x := byV x (shI i)) hv.2.2) ?_
      rintro r M1 ⟨rfl, h2, hf, hT1⟩
      dsimp only [Option.toList, List.cons_append, List.nil_append]
      refine e_iinc (ls' := [_, _, _, _]) dX10_feedWord_22 rfl (shI_s _) (by decide) rfl ?_
      refine e_goto (tgt := 3) dX10_feedWord_25 (by decide) ?_
      exact ih (i + 1) M1 (by omega) (by omega) ⟨h2.trans hv.1, fun q a b => (hf q a b).trans (hv.2.1 q a b), hT1⟩
set_option maxHeartbeats 4000000 in
set_option maxRecDepth 20000 in
theorem c_fw {G : Gt} {M : Mm} {t : Nat × (Nat → Int32)} {x : Int64} (hT : TX M t) : Call G 3 mX10_feedWord [.ref 0, .long x] M (fun r M' => r = none ∧ M'.2 = M.2 ∧ (∀ i, ¬ i = 6 → ¬ i = 7 → M'.1 i = M.1 i) ∧ TX M' (fwN t x 8)) := by
  refine Call.intro rfl (Nat.le_of_ble_eq_true rfl) ?_
  show Ev G _ mX10_feedWord 0 [.ref 0, .long x, RA, RA] [] M _
  refine e_bipush (v := 56) dX10_feedWord_0 (by decide) ?_
  refine e_istore_n (ls' := [_, _, _, _]) dX10_feedWord_2 (by decide) rfl ?_
  exact l_fw (M := M) (t := t) 9 0 M (by omega) (by omega) ⟨rfl, fun _ _ _ => rfl, hT⟩
set_option maxHeartbeats 4000000 in
set_option maxRecDepth 20000 in
theorem c_feed {G : Gt} {M : Mm} {E : Gs} {y y' w w' p : Nat} (hX : XJ M E y y' w w' p) {a b c : Int64} : Call G 4 mX10_feed [.ref 0, .long a, .long b, .long c] M (fun r M' => r = some (.int (nI (feedT E.1 a b c).1)) ∧ XE M M' (E.setT (feedT E.1 a b c))) := by
  obtain ⟨⟨hld, hsl, hy, hy', hyy⟩, ⟨hpl, hsp, hw, hw', hww⟩, hY, hW, hS, hV, hK, ⟨hpt, hp16, hun, hu16, hU⟩, ⟨htl, htl2, htc⟩⟩ := id hX
  have h6 := hY.1.2
  have hs5 := hY.2.1.2
  have hT0 : TX M E.1 := ⟨htl, htl2, htc⟩
  refine Call.intro rfl (Nat.le_of_ble_eq_true rfl) ?_
  show Ev G _ mX10_feed 0 [.ref 0, .long a, RA, .long b, RA, .long c, RA] [] M _
  refine e_aload_n dX10_feed_0 rfl ?_
  refine e_lload_n dX10_feed_1 rfl ?_
  refine cV1x dX10_feed_2 mo_X10_feedWord ml_X10_81 sh_x rfl (Nat.le_of_ble_eq_true rfl) (by omega) (c_fw hT0) ?_
  rintro r M1 ⟨rfl, h21, hf1, hT1⟩
  dsimp only [Option.toList, List.cons_append, List.nil_append]
  refine e_aload_n dX10_feed_5 rfl ?_
  refine e_lload_n dX10_feed_6 rfl ?_
  refine cV1x dX10_feed_7 mo_X10_feedWord ml_X10_81 sh_x rfl (Nat.le_of_ble_eq_true rfl) (by omega) (c_fw hT1) ?_
  rintro r M2 ⟨rfl, h22, hf2, hT2⟩
  dsimp only [Option.toList, List.cons_append, List.nil_append]
  refine e_aload_n dX10_feed_10 rfl ?_
  refine e_lload dX10_feed_11 rfl ?_
  refine cV1x dX10_feed_13 mo_X10_feedWord ml_X10_81 sh_x rfl (Nat.le_of_ble_eq_true rfl) (by omega) (c_fw hT2) ?_
  rintro r M3 ⟨rfl, h23, hf3, hT3⟩
  dsimp only [Option.toList, List.cons_append, List.nil_append]
  refine e_aload_n dX10_feed_16 rfl ?_
  refine e_getR dX10_feed_17 fl_X10_10 sh_x rfl ?_
  refine e_getI dX10_feed_20 fl_X10_85 sh_tk rfl ?_
  refine e_iret dX10_feed_23 rfl ?_
  have h2 : M3.2 = M.2 := h23.trans (h22.trans h21)
  have hf : ∀ i, ¬ i = 6 → ¬ i = 7 → M3.1 i = M.1 i := fun i q1 q2 => (hf3 i q1 q2).trans ((hf2 i q1 q2).trans (hf1 i q1 q2))
  refine ⟨by rw [hT3.1]; rfl, ⟨y, y', w, w', p, hX.upT h2 hf hT3.1 hT3.2.1 hT3.2.2⟩, fun i hi => ⟨hf i (by omega) (by omega), by rw [h2], by rw [h2]⟩⟩
end XJU
