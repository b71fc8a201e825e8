section XRL
/-- only the tokens and the law at w changed -/
def FLw (M M' : Mm) (w : Nat) : Prop := (∀ i, ¬ i = 6 → ¬ i = w → ¬ i = w + 1 → M'.1 i = M.1 i) ∧ (∀ i, ¬ i = 6 → M'.2.1 i = M.2.1 i) ∧ ∀ i, ¬ i = 6 → M'.2.2 i = M.2.2 i
theorem FLw.rfl' {M : Mm} {w : Nat} : FLw M M w := ⟨fun _ _ _ _ => rfl, fun _ _ => rfl, fun _ _ => rfl⟩
theorem FLw.trans {A B C : Mm} {w : Nat} (h : FLw A B w) (k : FLw B C w) : FLw A C w := ⟨fun i a b c => (k.1 i a b c).trans (h.1 i a b c), fun i a => (k.2.1 i a).trans (h.2.1 i a), fun i a => (k.2.2 i a).trans (h.2.2 i a)⟩
theorem TS.flw {M M' : Mm} {w : Nat} (h : TS M M') : FLw M M' w := ⟨fun i a _ _ => h.1 i a, fun i a => h.2.1 i a, fun i a => h.2.2 i a⟩
theorem FW.flw {M M' : Mm} {w : Nat} (h : FW M M' w) : FLw M M' w := ⟨fun i _ b c => h.1 i b c, fun i _ => by rw [h.2], fun i _ => by rw [h.2]⟩
theorem lw_8 {w : Nat} (h : w ∈ lwA) : 8 ≤ w := by rcases lw_id h with e | e <;> omega
theorem FW.tg {M M' : Mm} {w : Nat} {t : Tv} {x : Xv} (h : FW M M' w) (hw : w ∈ lwA) (hG : TG M t x) : TG M' t x := by
  have h8 := lw_8 hw
  exact hG.keep (h.1 6 (by omega) (by omega)) (h.1 7 (by omega) (by omega)) (by rw [h.2]) (by rw [h.2])
def RQ (M : Mm) (t : Tv) (w : Nat) (x : Xv) (r : Rx) : Option Value → Mm → Prop := fun v M' => v = none ∧ FLw M M' w ∧ TG M' t r.1 ∧ ∀ c, LX M w c → c.length ≤ x.2 → r.1.1 = 0 → LX M' w (c ++ r.2.po)
set_option maxHeartbeats 4000000 in
set_option maxRecDepth 20000 in
theorem l_rp44 {G : Gt} {M : Mm} {t : Tv} {w d D : Nat} {x : Xv} {rec : Nat → Nat → Xv → Rx} (hw : w ∈ lwA) (hD : 12 ≤ D) (hd : d ≤ 5) (hG : TG M t x) (hN : d < 5 → ∀ (M : Mm) (x' : Xv), TG M t x' → Call G D mX9_readPart [.ref 6, .ref w, .int (nI (d + 1))] M (RQ M t w x' (rec 4 (d + 1) x'))) (hA : d < 5 → ∀ (M : Mm) (x' : Xv), TG M t x' → Call G (D + 1) mX9_readLaw [.ref 6, .ref w, .int 0, .int (nI (d + 1))] M (RQ M t w x' (rec 0 (d + 1) x'))) (h4 : d < 5 → ∀ x', x'.2 ≤ t.1 → LN t x' (rec 4 (d + 1) x')) (hn : ¬ (lfX t x = -13 ∧ ¬ isW t x 18 ∧ ¬ isS t x 40)) : ∀ (k : Nat) , (0 < k) → Ev G (D + 2) mX9_readPart 44 [.ref 6, .ref w, .int (nI d), .int (lfX t x), .int (b2i (isW t x 18)), .int (b2i (isS t x 40))] [] M (RQ M t w x (pP t rec d x)) := by
  intro k
  induction k with
  | zero => intro  hk; exact absurd hk (by omega)
  | succ k ih =>
    intro  hk
    refine e_iload_n dX9_readPart_44 rfl ?_
    refine e_iconst (v := 5) dX9_readPart_45 (by decide) ?_
    refine e_icmp_lt (tgt := 55) dX9_readPart_46 (by decide) (fun c46 => ?_) (fun c46 => ?_)
    · -- 46 jumps
      have hd5 : d < 5 := lt_of (n := 5) (by omega) (by omega) c46
      have h5 : ¬ 5 ≤ d := by omega
      refine e_aload_n dX9_readPart_55 rfl ?_
      refine cV0x dX9_readPart_56 mo_X4_advance ml_X9_80 sh_tk rfl (Nat.le_of_ble_eq_true rfl) (by omega) (c_advX hG) ?_
      rintro r M1 ⟨rfl, hsA, hGA⟩
      dsimp only [Option.toList, List.cons_append, List.nil_append]
      refine e_iload dX9_readPart_59 rfl ?_
      refine e_if_eq (tgt := 81) dX9_readPart_61 (by decide) (fun c61 => ?_) (fun c61 => ?_)
      · -- 61 jumps
        have hW : ¬ isW t x 18 := b2i_eq0.mp c61
        refine e_iload dX9_readPart_81 rfl ?_
        refine e_if_eq (tgt := 104) dX9_readPart_83 (by decide) (fun c83 => ?_) (fun c83 => ?_)
        · -- 83 jumps
          have hS : ¬ isS t x 40 := b2i_eq0.mp c83
          refine e_aload_n dX9_readPart_104 rfl ?_
          refine e_iload_n dX9_readPart_105 rfl ?_
          refine cV1x dX9_readPart_106 mo_X0_add ml_X9_189 (sh_lw (by first | assumption | exact yd_lw (by assumption) | decide)) rfl (Nat.le_of_ble_eq_true rfl) (by omega) (c_lwAdd hw) ?_
          rintro r M3 ⟨rfl, hF3, hA3⟩
          dsimp only [Option.toList, List.cons_append, List.nil_append]
          refine e_vret dX9_readPart_109 rfl ?_
          have e : pP t rec d x = (advX t x, exLeaf (lfX t x)) := by
            unfold pP
            rw [if_neg hn, if_neg h5, if_neg hW, if_neg hS]
          rw [e]
          refine ⟨rfl, hsA.flw.trans hF3.flw, hF3.tg hw hGA, fun c h1 h2 h3 => ?_⟩
          obtain ⟨g0, gk⟩ := lf_ok (fun q => hn ⟨q, hW, hS⟩)
          have ha := adv_le (t := t) hG.1
          have hl := adv_lt hG.1 g0 gk
          exact hA3 c (h1.ts (lw_8 hw) hsA) (by have := hG.2.1.1; omega)
        · -- 83 goes on
          have hS : isS t x 40 := (Classical.not_not.mp (fun q => c83 (b2i_f q)))
          refine e_aload_n dX9_readPart_86 rfl ?_
          refine e_aload_n dX9_readPart_87 rfl ?_
          refine e_iconst (v := 0) dX9_readPart_88 (by decide) ?_
          refine e_iload_n dX9_readPart_89 rfl ?_
          refine e_iconst (v := 1) dX9_readPart_90 (by decide) ?_
          refine e_iadd dX9_readPart_91 ?_
          rw [nI_1]
          refine cS4x dX9_readPart_92 mo_X9_readLaw ml_X9_83 (Nat.le_of_ble_eq_true rfl) (by omega) (hA hd5 M1 _ hGA) ?_
          rintro r M2 ⟨rfl, hF2, hG2, hL2⟩
          dsimp only [Option.toList, List.cons_append, List.nil_append]
          refine e_aload_n dX9_readPart_95 rfl ?_
          refine e_bipush (v := 41) dX9_readPart_96 (by decide) ?_
          refine cV1x dX9_readPart_98 mo_X4_takeSign ml_X9_87 sh_tk rfl (Nat.le_of_ble_eq_true rfl) (by omega) (c_takeSign (s := 41) hG2) ?_
          rintro r M3 ⟨rfl, hsT, hGT⟩
          dsimp only [Option.toList, List.cons_append, List.nil_append]
          refine e_goto (tgt := 109) dX9_readPart_101 (by decide) ?_
          refine e_vret dX9_readPart_109 rfl ?_
          have e : pP t rec d x = (tkS t (rec 0 (d + 1) (advX t x)).1 41, exPar (rec 0 (d + 1) (advX t x)).2) := by
            unfold pP
            rw [if_neg hn, if_neg h5, if_neg hW, if_pos hS]
          rw [e]
          refine ⟨rfl, (hsA.flw.trans hF2).trans hsT.flw, hGT, fun c h1 h2 h3 => ?_⟩
          have ha := adv_le (t := t) hG.1
          have hq := tkS_0 h3 hG2.1 hG.2.1
          exact (hL2 c (h1.ts (lw_8 hw) hsA) (by omega) hq.1).ts (lw_8 hw) hsT
      · -- 61 goes on
        have hW : isW t x 18 := (Classical.not_not.mp (fun q => c61 (b2i_f q)))
        refine e_aload_n dX9_readPart_64 rfl ?_
        refine e_aload_n dX9_readPart_65 rfl ?_
        refine e_iload_n dX9_readPart_66 rfl ?_
        refine e_iconst (v := 1) dX9_readPart_67 (by decide) ?_
        refine e_iadd dX9_readPart_68 ?_
        rw [nI_1]
        refine cS3x dX9_readPart_69 mo_X9_readPart ml_X9_181 (Nat.le_of_ble_eq_true rfl) (by omega) (hN hd5 M1 _ hGA) ?_
        rintro r M2 ⟨rfl, hF2, hG2, hL2⟩
        dsimp only [Option.toList, List.cons_append, List.nil_append]
        refine e_aload_n dX9_readPart_72 rfl ?_
        refine e_bipush (v := (-5)) dX9_readPart_73 (by decide) ?_
        refine cV1x dX9_readPart_75 mo_X0_add ml_X9_189 (sh_lw (by first | assumption | exact yd_lw (by assumption) | decide)) rfl (Nat.le_of_ble_eq_true rfl) (by omega) (c_lwAdd hw) ?_
        rintro r M3 ⟨rfl, hF3, hA3⟩
        dsimp only [Option.toList, List.cons_append, List.nil_append]
        refine e_goto (tgt := 109) dX9_readPart_78 (by decide) ?_
        refine e_vret dX9_readPart_109 rfl ?_
        have e : pP t rec d x = ((rec 4 (d + 1) (advX t x)).1, exNot (rec 4 (d + 1) (advX t x)).2) := by
          unfold pP
          rw [if_neg hn, if_neg h5, if_pos hW]
        rw [e]
        refine ⟨rfl, (hsA.flw.trans hF2).trans hF3.flw, hF3.tg hw hG2, fun c h1 h2 h3 => ?_⟩
        have ha := adv_le (t := t) hG.1
        have hl := adv_lt hG.1 hW.1 (by rw [hW.2.1]; decide)
        have hL := hL2 c (h1.ts (lw_8 hw) hsA) (by omega) h3
        obtain ⟨g1, g2, g3⟩ := h4 hd5 (advX t x) ha.2
        obtain ⟨g4, g5, g6⟩ := g3 h3
        have hlen : (c ++ (rec 4 (d + 1) (advX t x)).2.po).length < 1000 := by
          rw [List.length_append]
          have := hG.2.1.1
          omega
        have hL3 := hA3 _ hL hlen
        rw [List.append_assoc] at hL3
        exact hL3
    · -- 46 goes on
      have h5 : 5 ≤ d := ge_of (n := 5) (by omega) (by omega) c46
      refine e_aload_n dX9_readPart_49 rfl ?_
      refine e_iconst (v := 5) dX9_readPart_50 (by decide) ?_
      refine cV1x dX9_readPart_51 mo_X4_fail ml_X9_76 sh_tk rfl (Nat.le_of_ble_eq_true rfl) (by omega) (c_fail (k := 5) hG (by decide)) ?_
      rintro r M1 ⟨rfl, hsF, hGF⟩
      dsimp only [Option.toList, List.cons_append, List.nil_append]
      refine e_vret dX9_readPart_54 rfl ?_
      have e : pP t rec d x = (failX t 5 x, exO) := by
        unfold pP
        rw [if_neg hn, if_pos h5]
      rw [e]
      exact ⟨rfl, hsF.flw, hGF, fun c _ _ q => absurd q (fail_nz (k := 5) (by decide) hG.1 hG.2.1)⟩
set_option maxHeartbeats 4000000 in
set_option maxRecDepth 20000 in
theorem c_rdPart {G : Gt} {M : Mm} {t : Tv} {w d D : Nat} {x : Xv} {rec : Nat → Nat → Xv → Rx} (hw : w ∈ lwA) (hD : 12 ≤ D) (hd : d ≤ 5) (hG : TG M t x) (hN : d < 5 → ∀ (M : Mm) (x' : Xv), TG M t x' → Call G D mX9_readPart [.ref 6, .ref w, .int (nI (d + 1))] M (RQ M t w x' (rec 4 (d + 1) x'))) (hA : d < 5 → ∀ (M : Mm) (x' : Xv), TG M t x' → Call G (D + 1) mX9_readLaw [.ref 6, .ref w, .int 0, .int (nI (d + 1))] M (RQ M t w x' (rec 0 (d + 1) x'))) (h4 : d < 5 → ∀ x', x'.2 ≤ t.1 → LN t x' (rec 4 (d + 1) x')) : Call G (D + 2) mX9_readPart [.ref 6, .ref w, .int (nI d)] M (RQ M t w x (pP t rec d x)) := by
  refine Call.intro rfl (Nat.le_of_ble_eq_true rfl) ?_
  show Ev G _ mX9_readPart 0 [.ref 6, .ref w, .int (nI d), RA, RA, RA] [] M _
  refine e_aload_n dX9_readPart_0 rfl ?_
  refine cS1r dX9_readPart_1 mo_X9_leafHere ml_X9_202 (Nat.le_of_ble_eq_true rfl) (by omega) (c_leafHere hG) ?_
  refine e_istore_n (ls' := [_, _, _, _, _, _]) dX9_readPart_4 (by decide) rfl ?_
  refine e_aload_n dX9_readPart_5 rfl ?_
  refine e_getW (i := 18) dX9_readPart_6 (by decide) (mem_g 619 (by decide +kernel) rfl) ?_
  refine cV1r dX9_readPart_9 mo_X4_isWord ml_X9_29 sh_tk rfl (Nat.le_of_ble_eq_true rfl) (by omega) (c_isWord (k := 18) hG (by decide)) ?_
  refine e_istore (ls' := [_, _, _, _, _, _]) dX9_readPart_12 (by decide) rfl ?_
  refine e_aload_n dX9_readPart_14 rfl ?_
  refine e_bipush (v := 40) dX9_readPart_15 (by decide) ?_
  refine cV1r dX9_readPart_17 mo_X4_isSign ml_X9_198 sh_tk rfl (Nat.le_of_ble_eq_true rfl) (by omega) (c_isSign (s := 40) hG) ?_
  refine e_istore (ls' := [_, _, _, _, _, _]) dX9_readPart_20 (by decide) rfl ?_
  refine e_iload_n dX9_readPart_22 rfl ?_
  refine e_bipush (v := (-13)) dX9_readPart_23 (by decide) ?_
  refine e_icmp_ne (tgt := 44) dX9_readPart_25 (by decide) (fun c25 => ?_) (fun c25 => ?_)
  · -- 25 jumps
    exact l_rp44 hw hD hd hG hN hA h4 (fun q => c25 q.1) 1 (by omega)
  · -- 25 goes on
    refine e_iload dX9_readPart_28 rfl ?_
    refine e_if_ne (tgt := 44) dX9_readPart_30 (by decide) (fun c30 => ?_) (fun c30 => ?_)
    · -- 30 jumps
      exact l_rp44 hw hD hd hG hN hA h4 (fun q => c30 (b2i_f q.2.1)) 1 (by omega)
    · -- 30 goes on
      refine e_iload dX9_readPart_33 rfl ?_
      refine e_if_ne (tgt := 44) dX9_readPart_35 (by decide) (fun c35 => ?_) (fun c35 => ?_)
      · -- 35 jumps
        exact l_rp44 hw hD hd hG hN hA h4 (fun q => c35 (b2i_f q.2.2)) 1 (by omega)
      · -- 35 goes on
        refine e_aload_n dX9_readPart_38 rfl ?_
        refine e_iconst (v := 1) dX9_readPart_39 (by decide) ?_
        refine cV1x dX9_readPart_40 mo_X4_fail ml_X9_76 sh_tk rfl (Nat.le_of_ble_eq_true rfl) (by omega) (c_fail (k := 1) hG (by decide)) ?_
        rintro r M1 ⟨rfl, hsF, hGF⟩
        dsimp only [Option.toList, List.cons_append, List.nil_append]
        refine e_vret dX9_readPart_43 rfl ?_
        have e : pP t rec d x = (failX t 1 x, exO) := by
          unfold pP
          rw [if_pos ⟨c25, b2i_eq0.mp c30, b2i_eq0.mp c35⟩]
        rw [e]
        exact ⟨rfl, hsF.flw, hGF, fun c _ _ q => absurd q (fail_nz (k := 1) (by decide) hG.1 hG.2.1)⟩
set_option maxHeartbeats 4000000 in
set_option maxRecDepth 20000 in
theorem l_rl {G : Gt} {M : Mm} {t : Tv} {w d l D : Nat} {x : Xv} {sub : Xv → Rx} (hw : w ∈ lwA) (hD : 12 ≤ D) (hl : l < 4) (hG : TG M t x) (hs : ∀ (M : Mm) (x' : Xv), TG M t x' → Call G D mX9_readLaw [.ref 6, .ref w, .int (nI (l + 1)), .int (nI d)] M (RQ M t w x' (sub x'))) (hln : ∀ x', x'.2 ≤ t.1 → LN t x' (sub x')) : ∀ (k : Nat) (i : Nat) (r : Rx) (Mc : Mm) (u : Value), (i ≤ 1000) → (1000 < i + k) → (pW t sub l 1000 (sub x) = pW t sub l (1000 - i) r) → (FLw M Mc w ∧ TG Mc t r.1 ∧ (∀ c, LX M w c → c.length ≤ x.2 → r.1.1 = 0 → LX Mc w (c ++ r.2.po)) ∧ x.2 ≤ r.1.2 ∧ (r.1.1 = 0 → r.2.po.length + x.2 ≤ r.1.2 ∧ 1 ≤ r.2.po.length ∧ True)) → Ev G (D + 2) mX9_readLaw 24 [.ref 6, .ref w, .int (nI l), .int (nI d), .int (nI i), u] [] Mc (RQ M t w x (pW t sub l 1000 (sub x))) := by
  intro k
  induction k with
  | zero => intro i r Mc u hi hk hr hv; exact absurd hk (by omega)
  | succ k ih =>
    intro i r Mc u hi hk hr hv
    refine e_iload dX9_readLaw_24 rfl ?_
    refine e_sipush (v := 1000) dX9_readLaw_26 (by decide) ?_
    refine e_icmp_ge (tgt := 80) dX9_readLaw_29 (by decide) (fun c29 => ?_) (fun c29 => ?_)
    · -- 29 jumps
      refine e_vret dX9_readLaw_80 rfl ?_
      have hin : i = 1000 := by have := ge_of (n := 1000) (by omega) (by omega) c29; omega
      subst hin
      rw [hr]
      exact ⟨rfl, hv.1, hv.2.1, hv.2.2.1⟩
    · -- 29 goes on
      refine e_aload_n dX9_readLaw_32 rfl ?_
      refine e_iload_n dX9_readLaw_33 rfl ?_
      refine cS2r dX9_readLaw_34 mo_X9_joinerHere ml_X9_185 (Nat.le_of_ble_eq_true rfl) (by omega) (c_joinerHere hv.2.1 (by omega)) ?_
      refine e_bipush (v := (-13)) dX9_readLaw_37 (by decide) ?_
      refine e_icmp_eq (tgt := 80) dX9_readLaw_39 (by decide) (fun c39 => ?_) (fun c39 => ?_)
      · -- 39 jumps
        refine e_vret dX9_readLaw_80 rfl ?_
        have hlt : i < 1000 := lt_of (n := 1000) (by omega) (by omega) c29
        rw [hr, show 1000 - i = (1000 - (i + 1)) + 1 by omega, pW, if_pos c39]
        exact ⟨rfl, hv.1, hv.2.1, hv.2.2.1⟩
      · -- 39 goes on
        refine e_aload_n dX9_readLaw_42 rfl ?_
        refine e_iload_n dX9_readLaw_43 rfl ?_
        refine cS2r dX9_readLaw_44 mo_X9_joinerHere ml_X9_185 (Nat.le_of_ble_eq_true rfl) (by omega) (c_joinerHere hv.2.1 (by omega)) ?_
        refine e_istore (ls' := [_, _, _, _, _, _]) dX9_readLaw_47 (by decide) rfl ?_
        refine e_aload_n dX9_readLaw_49 rfl ?_
        refine cV0x dX9_readLaw_50 mo_X4_advance ml_X9_80 sh_tk rfl (Nat.le_of_ble_eq_true rfl) (by omega) (c_advX hv.2.1) ?_
        rintro v M1 ⟨rfl, hsA, hGA⟩
        dsimp only [Option.toList, List.cons_append, List.nil_append]
        refine e_aload_n dX9_readLaw_53 rfl ?_
        refine e_aload_n dX9_readLaw_54 rfl ?_
        refine e_iload_n dX9_readLaw_55 rfl ?_
        refine e_iconst (v := 1) dX9_readLaw_56 (by decide) ?_
        refine e_iadd dX9_readLaw_57 ?_
        rw [nI_1]
        refine e_iload_n dX9_readLaw_58 rfl ?_
        refine cS4x dX9_readLaw_59 mo_X9_readLaw ml_X9_83 (Nat.le_of_ble_eq_true rfl) (by omega) (hs M1 _ hGA) ?_
        rintro v M2 ⟨rfl, hF2, hG2, hL2⟩
        dsimp only [Option.toList, List.cons_append, List.nil_append]
        refine e_aload_n dX9_readLaw_62 rfl ?_
        refine e_iload dX9_readLaw_63 rfl ?_
        refine cV1x dX9_readLaw_65 mo_X0_add ml_X9_189 (sh_lw (by first | assumption | exact yd_lw (by assumption) | decide)) rfl (Nat.le_of_ble_eq_true rfl) (by omega) (c_lwAdd hw) ?_
        rintro v M3 ⟨rfl, hF3, hA3⟩
        dsimp only [Option.toList, List.cons_append, List.nil_append]
        refine e_iload_n dX9_readLaw_68 rfl ?_
        refine e_iconst (v := 1) dX9_readLaw_69 (by decide) ?_
        refine e_icmp_ne (tgt := 74) dX9_readLaw_70 (by decide) (fun c70 => ?_) (fun c70 => ?_)
        · -- 70 jumps
          refine e_iinc (ls' := [_, _, _, _, _, _]) dX9_readLaw_74 rfl (nI_i1 _) (by decide) rfl ?_
          refine e_goto (tgt := 24) dX9_readLaw_77 (by decide) ?_
          have hlt : i < 1000 := lt_of (n := 1000) (by omega) (by omega) c29
          have ha := adv_le (t := t) (x := r.1) hv.2.1.1
          obtain ⟨j0, jk⟩ := jn_ok c39
          have hlt2 := adv_lt hv.2.1.1 j0 jk
          have hls := hln (advX t r.1) ha.2
          have hFF : FLw M M3 w := ((hv.1.trans hsA.flw).trans hF2).trans hF3.flw
          have hLL : ∀ c, LX M w c → c.length ≤ x.2 → (sub (advX t r.1)).1.1 = 0 → LX M3 w (c ++ (exBin (jnX t r.1 l) r.2 (sub (advX t r.1)).2).po) := by
            intro c h1 h2 h3
            obtain ⟨g1, g2, g3, g4, g5⟩ := hls.2.2 h3
            obtain ⟨k1, k2, k3⟩ := hv.2.2.2.2 j0
            have hL := hv.2.2.1 c h1 h2 j0
            have hL2 := hL2 (c ++ r.2.po) (hL.ts (lw_8 hw) hsA) (by rw [List.length_append]; omega) h3
            have hlen : (c ++ r.2.po ++ (sub (advX t r.1)).2.po).length < 1000 := by
              rw [List.length_append, List.length_append]
              have := hG.2.1.1
              have := hls.2.1
              omega
            have hL3 := hA3 _ hL2 hlen
            rw [List.append_assoc, List.append_assoc] at hL3
            exact hL3
          refine ih (i + 1) ((sub (advX t r.1)).1, exBin (jnX t r.1 l) r.2 (sub (advX t r.1)).2) M3 _ (by omega) (by omega) ?_ ⟨hFF, hF3.tg hw hG2, hLL, Nat.le_trans hv.2.2.2.1 (Nat.le_trans ha.1 hls.1), fun q => ?_⟩
          · rw [hr, show 1000 - i = (1000 - (i + 1)) + 1 by omega, pW, if_neg c39, if_neg (fun q => c70 ((lv_eq l (by omega) 1 (by decide)).mpr q))]
          · obtain ⟨g1, g2, g3, g4, g5⟩ := hls.2.2 q
            obtain ⟨k1, k2, k3⟩ := hv.2.2.2.2 j0
            refine ⟨?_, ?_, trivial⟩
            · show (r.2.po ++ ((sub (advX t r.1)).2.po ++ [jnX t r.1 l])).length + x.2 ≤ (sub (advX t r.1)).1.2
              simp only [List.length_append, List.length_cons, List.length_nil]
              omega
            · show 1 ≤ (r.2.po ++ ((sub (advX t r.1)).2.po ++ [jnX t r.1 l])).length
              simp only [List.length_append]
              omega
        · -- 70 goes on
          refine e_vret dX9_readLaw_73 rfl ?_
          have hlt : i < 1000 := lt_of (n := 1000) (by omega) (by omega) c29
          have ha := adv_le (t := t) (x := r.1) hv.2.1.1
          obtain ⟨j0, jk⟩ := jn_ok c39
          have hlt2 := adv_lt hv.2.1.1 j0 jk
          have hls := hln (advX t r.1) ha.2
          have hFF : FLw M M3 w := ((hv.1.trans hsA.flw).trans hF2).trans hF3.flw
          have hLL : ∀ c, LX M w c → c.length ≤ x.2 → (sub (advX t r.1)).1.1 = 0 → LX M3 w (c ++ (exBin (jnX t r.1 l) r.2 (sub (advX t r.1)).2).po) := by
            intro c h1 h2 h3
            obtain ⟨g1, g2, g3, g4, g5⟩ := hls.2.2 h3
            obtain ⟨k1, k2, k3⟩ := hv.2.2.2.2 j0
            have hL := hv.2.2.1 c h1 h2 j0
            have hL2 := hL2 (c ++ r.2.po) (hL.ts (lw_8 hw) hsA) (by rw [List.length_append]; omega) h3
            have hlen : (c ++ r.2.po ++ (sub (advX t r.1)).2.po).length < 1000 := by
              rw [List.length_append, List.length_append]
              have := hG.2.1.1
              have := hls.2.1
              omega
            have hL3 := hA3 _ hL2 hlen
            rw [List.append_assoc, List.append_assoc] at hL3
            exact hL3
          rw [hr, show 1000 - i = (1000 - (i + 1)) + 1 by omega, pW, if_neg c39, if_pos ((lv_eq l (by omega) 1 (by decide)).mp c70)]
          exact ⟨rfl, hFF, hF3.tg hw hG2, hLL⟩
set_option maxHeartbeats 4000000 in
set_option maxRecDepth 20000 in
theorem c_rdLaw {G : Gt} {M : Mm} {t : Tv} {w d l D : Nat} {x : Xv} {sub : Xv → Rx} (hw : w ∈ lwA) (hD : 12 ≤ D) (hl : l < 4) (hG : TG M t x) (hs : ∀ (M : Mm) (x' : Xv), TG M t x' → Call G D mX9_readLaw [.ref 6, .ref w, .int (nI (l + 1)), .int (nI d)] M (RQ M t w x' (sub x'))) (hln : ∀ x', x'.2 ≤ t.1 → LN t x' (sub x')) : Call G (D + 2) mX9_readLaw [.ref 6, .ref w, .int (nI l), .int (nI d)] M (RQ M t w x (pW t sub l 1000 (sub x))) := by
  refine Call.intro rfl (Nat.le_of_ble_eq_true rfl) ?_
  show Ev G _ mX9_readLaw 0 [.ref 6, .ref w, .int (nI l), .int (nI d), RA, RA] [] M _
  refine e_iload_n dX9_readLaw_0 rfl ?_
  refine e_iconst (v := 4) dX9_readLaw_1 (by decide) ?_
  refine e_icmp_lt (tgt := 12) dX9_readLaw_2 (by decide) (fun c2 => ?_) (fun c2 => absurd c2 (fun q => q ((nI_ltI (a := l) (b := 4) (by omega) (by omega)).mpr hl)))
  refine e_aload_n dX9_readLaw_12 rfl ?_
  refine e_aload_n dX9_readLaw_13 rfl ?_
  refine e_iload_n dX9_readLaw_14 rfl ?_
  refine e_iconst (v := 1) dX9_readLaw_15 (by decide) ?_
  refine e_iadd dX9_readLaw_16 ?_
  rw [nI_1]
  refine e_iload_n dX9_readLaw_17 rfl ?_
  refine cS4x dX9_readLaw_18 mo_X9_readLaw ml_X9_83 (Nat.le_of_ble_eq_true rfl) (by omega) (hs M x hG) ?_
  rintro v M1 ⟨rfl, hF1, hG1, hL1⟩
  dsimp only [Option.toList, List.cons_append, List.nil_append]
  refine e_iconst (v := 0) dX9_readLaw_21 (by decide) ?_
  refine e_istore (ls' := [_, _, _, _, _, _]) dX9_readLaw_22 (by decide) rfl ?_
  have h0 := hln x hG.1
  exact l_rl hw hD hl hG hs hln 1001 0 (sub x) M1 _ (by omega) (by omega) rfl ⟨hF1, hG1, hL1, h0.1, fun q => ⟨(h0.2.2 q).2.1, (h0.2.2 q).2.2.2.1, trivial⟩⟩
set_option maxHeartbeats 4000000 in
set_option maxRecDepth 20000 in
theorem c_rdLaw4 {G : Gt} {M : Mm} {t : Tv} {w d D : Nat} {x : Xv} {r : Rx} (hp : Call G D mX9_readPart [.ref 6, .ref w, .int (nI d)] M (RQ M t w x r)) : Call G (D + 1) mX9_readLaw [.ref 6, .ref w, .int (nI 4), .int (nI d)] M (RQ M t w x r) := by
  refine Call.intro rfl (Nat.le_of_ble_eq_true rfl) ?_
  show Ev G _ mX9_readLaw 0 [.ref 6, .ref w, .int (nI 4), .int (nI d), RA, RA] [] M _
  refine e_iload_n dX9_readLaw_0 rfl ?_
  refine e_iconst (v := 4) dX9_readLaw_1 (by decide) ?_
  refine e_icmp_lt (tgt := 12) dX9_readLaw_2 (by decide) (fun c2 => absurd c2 (by decide)) (fun c2 => ?_)
  refine e_aload_n dX9_readLaw_5 rfl ?_
  refine e_aload_n dX9_readLaw_6 rfl ?_
  refine e_iload_n dX9_readLaw_7 rfl ?_
  refine cS3x dX9_readLaw_8 mo_X9_readPart ml_X9_181 (Nat.le_of_ble_eq_true rfl) (by omega) (hp) ?_
  rintro v M1 hq
  obtain ⟨rfl, hrest⟩ := hq
  dsimp only [Option.toList, List.cons_append, List.nil_append]
  refine e_vret dX9_readLaw_11 rfl ?_
  exact ⟨rfl, hrest⟩
theorem c_rl {G : Gt} {t : Tv} {w : Nat} (hw : w ∈ lwA) (hI : TI t) : ∀ b, (∀ (d : Nat) (M : Mm) (x : Xv), TG M t x → d ≤ 5 → need 4 d ≤ b → Call G (2 * b + 12) mX9_readPart [.ref 6, .ref w, .int (nI d)] M (RQ M t w x (pN t b 4 d x))) ∧ (∀ (l d : Nat) (M : Mm) (x : Xv), TG M t x → l ≤ 4 → d ≤ 5 → need l d ≤ b → Call G (2 * b + 13) mX9_readLaw [.ref 6, .ref w, .int (nI l), .int (nI d)] M (RQ M t w x (pN t b l d x))) := by
  intro b
  induction b with
  | zero => exact ⟨fun d M x _ hd hb => by unfold need at hb; omega, fun l d M x _ hl hd hb => by unfold need at hb; omega⟩
  | succ b ih =>
    have hP : ∀ (d : Nat) (M : Mm) (x : Xv), TG M t x → d ≤ 5 → need 4 d ≤ b + 1 → Call G (2 * (b + 1) + 12) mX9_readPart [.ref 6, .ref w, .int (nI d)] M (RQ M t w x (pN t (b + 1) 4 d x)) := by
      intro d M x hG hd hb
      unfold need at hb
      rw [pN, if_pos (Nat.le_refl 4)]
      exact c_rdPart (D := 2 * b + 12) hw (by omega) hd hG (fun q M x' h' => ih.1 (d + 1) M x' h' (by omega) (by unfold need; omega)) (fun q M x' h' => ih.2 0 (d + 1) M x' h' (by omega) (by omega) (by unfold need; omega)) (fun q x' hx' => pN_ln hI b 4 (d + 1) (by omega) (by omega) (by unfold need; omega) x' hx')
    refine ⟨hP, fun l d M x hG hl hd hb => ?_⟩
    by_cases e : l = 4
    · subst e
      exact c_rdLaw4 (D := 2 * (b + 1) + 12) (hP d M x hG hd hb)
    · unfold need at hb
      rw [pN, if_neg (by omega)]
      exact c_rdLaw (D := 2 * b + 13) hw (by omega) (by omega) hG (fun M x' h' => ih.2 (l + 1) d M x' h' (by omega) hd (by unfold need; omega)) (fun x' hx' => pN_ln hI b (l + 1) d (by omega) hd (by unfold need; omega) x' hx')
end XRL
