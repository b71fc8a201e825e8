section XPY
abbrev Pq : Type := Int32 × (Nat → Int32)
def updF (pa : Nat → Int32) (k : Nat) (v : Int32) : Nat → Int32 := fun q => if q = k then v else pa q
/-- the sheds 0 .. of a stage, one after another -/
def gIn (F : Int32 → (Nat → Int32) → Pq → Pq) (op tk : Int32) (pa : Nat → Int32) (st : Nat) (q : Pq) : Nat → Pq
  | 0 => q
  | i + 1 => if decide (bitI op (nI i)) then F (tk ||| b1 (nI i)) (updF pa st (nI i)) (gIn F op tk pa st q i) else gIn F op tk pa st q i
def gF (Y : Yv) (S : Sv) : Nat → Nat → Int32 → Nat → (Nat → Int32) → Pq → Pq
  | 0, st, _, mn, pa, q => if q.1 < nI mn + nI Y.ns - nI st then (nI mn, pa) else q
  | r + 1, st, tk, mn, pa, q => if q.1 < nI mn + nI Y.ns - nI st then
      gF Y S r (st + 1) tk mn (updF pa st (-1)) (gIn (fun tk' pa' q' => gF Y S r (st + 1) tk' (mn + 1) pa' q') (hadV Y S st &&& (tk ^^^ -1)) tk pa st q Y.n) else q
def playV (Y : Yv) (S : Sv) : Pq := gF Y S Y.ns 0 0 0 (fun _ => 0) (-1, fun _ => 0)
def playsQ (E : Gs) (i : Int32) : Int32 := if i = -1 then (playV E.Y E.S).1 else if vSt E i then (playV E.Y E.S).2 i.toNatClampNeg else -2
def gPre (M : Mm) (E : Gs) (st : Nat) (pa : Nat → Int32) (q : Pq) : Prop := M.1 0 15 = q.1 ∧ (∀ k, k < E.Y.ns → q.1 = -1 ∨ M.1 5 k = q.2 k) ∧ ∀ k, k < st → M.1 4 k = pa k
def gPost (M M' : Mm) (E : Gs) (st : Nat) (q : Pq) : Prop := SC M M' ∧ M'.1 0 15 = q.1 ∧ (∀ k, k < E.Y.ns → q.1 = -1 ∨ M'.1 5 k = q.2 k) ∧ ∀ k, k < st → M'.1 4 k = M.1 4 k
set_option maxHeartbeats 4000000 in
set_option maxRecDepth 20000 in
theorem l_give {G : Gt} {M : Mm} {E : Gs} {y y' w w' p : Nat} (hX : XJ M E y y' w w' p) {r st mn : Nat} {op tk : Int32} {pa : Nat → Int32} {q : Pq} (hst : st < E.Y.ns) (hpa : ∀ k, k < st → M.1 4 k = pa k) (hrec : ∀ {M : Mm} {tk : Int32} {mn : Nat} {pa : Nat → Int32} {q : Pq}, XJ M E y y' w w' p → gPre M E (st + 1) pa q → Call G (5 + 2 * r) mX10_giveFrom [.ref 0, .int (nI (st + 1)), .int tk, .int (nI mn)] M (fun v M' => v = none ∧ gPost M M' E (st + 1) (gF E.Y E.S r (st + 1) tk mn pa q))) : ∀ (k : Nat) (i : Nat) (Mc : Mm), (i ≤ E.Y.n) → (E.Y.n < i + k) → (gPost M Mc E st (gIn (fun tk' pa' q' => gF E.Y E.S r (st + 1) tk' (mn + 1) pa' q') op tk pa st q i)) → Ev G (6 + 2 * r) mX10_giveEach 18 [.ref 0, .int (nI st), .int tk, .int (nI mn), .int op, .int (nI i)] [] Mc (fun v M' => v = none ∧ gPost M M' E st (gF E.Y E.S r (st + 1) tk mn (updF pa st (-1)) (gIn (fun tk' pa' q' => gF E.Y E.S r (st + 1) tk' (mn + 1) pa' q') op tk pa st q E.Y.n))) := by
  intro k
  induction k with
  | zero => intro i Mc hi hk hv; exact absurd hk (by omega)
  | succ k ih =>
    intro i Mc hi hk hv
    obtain ⟨⟨hld, hsl, hy, hy', hyy⟩, ⟨hpl, hsp, hw, hw', hww⟩, hY, hW, hS, hV, hK, ⟨hpt, hp16, hun, hu16, hU⟩, ⟨htl, htl2, htc⟩⟩ := id (hv.1.keep hX)
    have h6 := hY.1.2
    have hs5 := hY.2.1.2
    refine e_iload dX10_giveEach_18 rfl ?_
    refine e_aload_n dX10_giveEach_20 rfl ?_
    refine e_getP dX10_giveEach_21 fl_X10_19 sh_x rfl ?_
    first | rw [hld] | (simp only [setI_2, setI_22, setL_22]; rw [hld])
    refine e_getI dX10_giveEach_24 fl_X10_74 (sh_yd (by first | assumption | decide)) rfl ?_
    refine e_icmp_ge (tgt := 73) dX10_giveEach_27 (by decide) (fun c27 => ?_) (fun c27 => ?_)
    · -- 27 jumps
      rw [hY.1.1] at c27
      have hin : i = E.Y.n := by have := ge_of (by omega) (by omega) c27; omega
      subst hin
      refine e_aload_n dX10_giveEach_73 rfl ?_
      refine e_getR dX10_giveEach_74 fl_X10_67 sh_x rfl ?_
      refine e_iload_n dX10_giveEach_77 rfl ?_
      refine e_iconst (v := (-1)) dX10_giveEach_78 (by decide) ?_
      refine cS3v dX10_giveEach_79 mo_X10_put ml_X10_294 (Nat.le_of_ble_eq_true rfl) (by omega) (c_putN (sa_x_given) (by decide) (by first | omega | decide)) ?_
      have hs1 : SC Mc (setI Mc 4 st (-1)) := SC.of rfl (fun i hi => by funext k; rw [setI_1, if_neg (by unfold scr at hi; omega)])
      have hp1 : gPre (setI Mc 4 st (-1)) E (st + 1) (updF pa st (-1)) (gIn (fun tk' pa' q' => gF E.Y E.S r (st + 1) tk' (mn + 1) pa' q') op tk pa st q E.Y.n) := by
        refine ⟨by rw [setI_1, if_neg (by omega)]; exact hv.2.1, fun k hk => by rw [setI_1, if_neg (by omega)]; exact hv.2.2.1 k hk, fun k hk => ?_⟩
        rw [setI_1]
        unfold updF
        by_cases e : k = st
        · rw [if_pos ⟨rfl, e⟩, if_pos e]
        · rw [if_neg (fun x => e x.2), if_neg e, hv.2.2.2 k (by omega)]; exact hpa k (by omega)
      refine e_aload_n dX10_giveEach_82 rfl ?_
      refine e_iload_n dX10_giveEach_83 rfl ?_
      refine e_iconst (v := 1) dX10_giveEach_84 (by decide) ?_
      refine e_iadd dX10_giveEach_85 ?_
      rw [nI_1]
      refine e_iload_n dX10_giveEach_86 rfl ?_
      refine e_iload_n dX10_giveEach_87 rfl ?_
      refine cV3x dX10_giveEach_88 mo_X10_giveFrom ml_X10_283 sh_x rfl (Nat.le_of_ble_eq_true rfl) (by omega) (hrec ((hv.1.trans hs1).keep hX) hp1) ?_
      rintro r1 M1 ⟨rfl, g1, g2, g3, g4⟩
      dsimp only [Option.toList, List.cons_append, List.nil_append]
      refine e_vret dX10_giveEach_91 rfl ?_
      exact ⟨rfl, (hv.1.trans hs1).trans g1, g2, g3, fun k hk => by rw [g4 k (by omega), setI_1, if_neg (by omega)]; exact hv.2.2.2 k hk⟩
    · -- 27 goes on
      rw [hY.1.1] at c27
      have hlt : i < E.Y.n := lt_of (by omega) (by omega) c27
      refine e_iload dX10_giveEach_30 rfl ?_
      refine e_iload dX10_giveEach_32 rfl ?_
      refine e_ishr dX10_giveEach_34 ?_
      refine e_iconst (v := 1) dX10_giveEach_35 (by decide) ?_
      refine e_iand dX10_giveEach_36 ?_
      refine e_iconst (v := 1) dX10_giveEach_37 (by decide) ?_
      refine e_icmp_ne (tgt := 67) dX10_giveEach_38 (by decide) (fun c38 => ?_) (fun c38 => ?_)
      · -- 38 jumps
        refine e_iinc (ls' := [_, _, _, _, _, _]) dX10_giveEach_67 rfl (nI_i1 _) (by decide) rfl ?_
        refine e_goto (tgt := 18) dX10_giveEach_70 (by decide) ?_
        refine ih (i + 1) Mc (by omega) (by omega) ?_
        rw [show gIn (fun tk' pa' q' => gF E.Y E.S r (st + 1) tk' (mn + 1) pa' q') op tk pa st q (i + 1) = gIn (fun tk' pa' q' => gF E.Y E.S r (st + 1) tk' (mn + 1) pa' q') op tk pa st q i from if_neg (by rw [decide_eq_false c38]; decide)]
        exact hv
      · -- 38 goes on
        refine e_aload_n dX10_giveEach_41 rfl ?_
        refine e_getR dX10_giveEach_42 fl_X10_67 sh_x rfl ?_
        refine e_iload_n dX10_giveEach_45 rfl ?_
        refine e_iload dX10_giveEach_46 rfl ?_
        refine cS3v dX10_giveEach_48 mo_X10_put ml_X10_294 (Nat.le_of_ble_eq_true rfl) (by omega) (c_putN (sa_x_given) (by decide) (by first | omega | decide)) ?_
        have hs1 : SC Mc (setI Mc 4 st (nI i)) := SC.of rfl (fun i hi => by funext k; rw [setI_1, if_neg (by unfold scr at hi; omega)])
        have hp1 : gPre (setI Mc 4 st (nI i)) E (st + 1) (updF pa st (nI i)) (gIn (fun tk' pa' q' => gF E.Y E.S r (st + 1) tk' (mn + 1) pa' q') op tk pa st q i) := by
          refine ⟨by rw [setI_1, if_neg (by omega)]; exact hv.2.1, fun k hk => by rw [setI_1, if_neg (by omega)]; exact hv.2.2.1 k hk, fun k hk => ?_⟩
          rw [setI_1]
          unfold updF
          by_cases e : k = st
          · rw [if_pos ⟨rfl, e⟩, if_pos e]
          · rw [if_neg (fun x => e x.2), if_neg e, hv.2.2.2 k (by omega)]; exact hpa k (by omega)
        refine e_aload_n dX10_giveEach_51 rfl ?_
        refine e_iload_n dX10_giveEach_52 rfl ?_
        refine e_iconst (v := 1) dX10_giveEach_53 (by decide) ?_
        refine e_iadd dX10_giveEach_54 ?_
        rw [nI_1]
        refine e_iload_n dX10_giveEach_55 rfl ?_
        refine e_iconst (v := 1) dX10_giveEach_56 (by decide) ?_
        refine e_iload dX10_giveEach_57 rfl ?_
        refine e_ishl dX10_giveEach_59 ?_
        refine e_ior dX10_giveEach_60 ?_
        refine e_iload_n dX10_giveEach_61 rfl ?_
        refine e_iconst (v := 1) dX10_giveEach_62 (by decide) ?_
        refine e_iadd dX10_giveEach_63 ?_
        rw [nI_1]
        refine cV3x dX10_giveEach_64 mo_X10_giveFrom ml_X10_283 sh_x rfl (Nat.le_of_ble_eq_true rfl) (by omega) (hrec ((hv.1.trans hs1).keep hX) hp1) ?_
        rintro r1 M1 ⟨rfl, g1, g2, g3, g4⟩
        dsimp only [Option.toList, List.cons_append, List.nil_append]
        refine e_iinc (ls' := [_, _, _, _, _, _]) dX10_giveEach_67 rfl (nI_i1 _) (by decide) rfl ?_
        refine e_goto (tgt := 18) dX10_giveEach_70 (by decide) ?_
        refine ih (i + 1) M1 (by omega) (by omega) ?_
        rw [show gIn (fun tk' pa' q' => gF E.Y E.S r (st + 1) tk' (mn + 1) pa' q') op tk pa st q (i + 1) = gF E.Y E.S r (st + 1) (tk ||| b1 (nI i)) (mn + 1) (updF pa st (nI i)) (gIn (fun tk' pa' q' => gF E.Y E.S r (st + 1) tk' (mn + 1) pa' q') op tk pa st q i) from if_pos (decide_eq_true c38)]
        exact ⟨(hv.1.trans hs1).trans g1, g2, g3, fun k hk => by rw [g4 k (by omega), setI_1, if_neg (by omega)]; exact hv.2.2.2 k hk⟩
set_option maxHeartbeats 4000000 in
set_option maxRecDepth 20000 in
theorem c_giveEach {G : Gt} {M : Mm} {E : Gs} {y y' w w' p : Nat} (hX : XJ M E y y' w w' p) {r st mn : Nat} {tk : Int32} {pa : Nat → Int32} {q : Pq} (hst : st < E.Y.ns) (hp : gPre M E st pa q) (hrec : ∀ {M : Mm} {tk : Int32} {mn : Nat} {pa : Nat → Int32} {q : Pq}, XJ M E y y' w w' p → gPre M E (st + 1) pa q → Call G (5 + 2 * r) mX10_giveFrom [.ref 0, .int (nI (st + 1)), .int tk, .int (nI mn)] M (fun v M' => v = none ∧ gPost M M' E (st + 1) (gF E.Y E.S r (st + 1) tk mn pa q))) : Call G (6 + 2 * r) mX10_giveEach [.ref 0, .int (nI st), .int tk, .int (nI mn)] M (fun v M' => v = none ∧ gPost M M' E st (gF E.Y E.S r (st + 1) tk mn (updF pa st (-1)) (gIn (fun tk' pa' q' => gF E.Y E.S r (st + 1) tk' (mn + 1) pa' q') (hadV E.Y E.S st &&& (tk ^^^ -1)) tk pa st q E.Y.n))) := by
  obtain ⟨⟨hld, hsl, hy, hy', hyy⟩, ⟨hpl, hsp, hw, hw', hww⟩, hY, hW, hS, hV, hK, ⟨hpt, hp16, hun, hu16, hU⟩, ⟨htl, htl2, htc⟩⟩ := id hX
  have h6 := hY.1.2
  have hs5 := hY.2.1.2
  refine Call.intro rfl (Nat.le_of_ble_eq_true rfl) ?_
  show Ev G _ mX10_giveEach 0 [.ref 0, .int (nI st), .int tk, .int (nI mn), RA, RA] [] M _
  refine e_aload_n dX10_giveEach_0 rfl ?_
  refine e_aload_n dX10_giveEach_1 rfl ?_
  refine e_getR dX10_giveEach_2 fl_X10_39 sh_x rfl ?_
  refine e_iload_n dX10_giveEach_5 rfl ?_
  refine cV2r dX10_giveEach_6 mo_X10_hadIn ml_X10_276 sh_x rfl (Nat.le_of_ble_eq_true rfl) (by omega) (c_hadIn hX (o := 44) (by decide) hS (by omega)) ?_
  refine e_iload_n dX10_giveEach_9 rfl ?_
  refine e_iconst (v := (-1)) dX10_giveEach_10 (by decide) ?_
  refine e_ixor dX10_giveEach_11 ?_
  refine e_iand dX10_giveEach_12 ?_
  refine e_istore (ls' := [_, _, _, _, _, _]) dX10_giveEach_13 (by decide) rfl ?_
  refine e_iconst (v := 0) dX10_giveEach_15 (by decide) ?_
  refine e_istore (ls' := [_, _, _, _, _, _]) dX10_giveEach_16 (by decide) rfl ?_
  exact l_give hX hst hp.2.2 hrec (E.Y.n + 1) 0 M (by omega) (by omega) ⟨SC.rfl', hp.1, hp.2.1, fun _ _ => rfl⟩
set_option maxHeartbeats 4000000 in
set_option maxRecDepth 20000 in
theorem c_giveFrom {G : Gt} {E : Gs} {y y' w w' p : Nat} : ∀ (r : Nat) {M : Mm} {st mn : Nat} {tk : Int32} {pa : Nat → Int32} {q : Pq}, st + r = E.Y.ns → XJ M E y y' w w' p → gPre M E st pa q → Call G (5 + 2 * r) mX10_giveFrom [.ref 0, .int (nI st), .int tk, .int (nI mn)] M (fun v M' => v = none ∧ gPost M M' E st (gF E.Y E.S r st tk mn pa q)) := by
  intro r
  induction r with
  | zero =>
    intro M st mn tk pa q hst hX hp
    refine Call.intro rfl (Nat.le_of_ble_eq_true rfl) ?_
    show Ev G _ mX10_giveFrom 0 [.ref 0, .int (nI st), .int tk, .int (nI mn)] [] M _
    obtain ⟨⟨hld, hsl, hy, hy', hyy⟩, ⟨hpl, hsp, hw, hw', hww⟩, hY, hW, hS, hV, hK, ⟨hpt, hp16, hun, hu16, hU⟩, ⟨htl, htl2, htc⟩⟩ := id hX
    have h6 := hY.1.2
    have hs5 := hY.2.1.2
    refine e_iload_n dX10_giveFrom_0 rfl ?_
    refine e_aload_n dX10_giveFrom_1 rfl ?_
    refine e_getP dX10_giveFrom_2 fl_X10_19 sh_x rfl ?_
    first | rw [hld] | (simp only [setI_2, setI_22, setL_22]; rw [hld])
    refine e_getI dX10_giveFrom_5 fl_X10_78 (sh_yd (by first | assumption | decide)) rfl ?_
    rw [hY.2.1.1]
    refine e_iadd dX10_giveFrom_8 ?_
    refine e_iload_n dX10_giveFrom_9 rfl ?_
    refine e_isub dX10_giveFrom_10 ?_
    refine e_aload_n dX10_giveFrom_11 rfl ?_
    refine e_getI dX10_giveFrom_12 fl_X10_280 sh_x rfl ?_
    rw [hp.1]
    refine e_icmp_gt (tgt := 19) dX10_giveFrom_15 (by decide) (fun c15 => ?_) (fun c15 => ?_)
    · -- 15 jumps
      refine e_iload_n dX10_giveFrom_19 rfl ?_
      refine e_aload_n dX10_giveFrom_20 rfl ?_
      refine e_getP dX10_giveFrom_21 fl_X10_19 sh_x rfl ?_
      first | rw [hld] | (simp only [setI_2, setI_22, setL_22]; rw [hld])
      refine e_getI dX10_giveFrom_24 fl_X10_78 (sh_yd (by first | assumption | decide)) rfl ?_
      rw [hY.2.1.1]
      refine e_icmp_lt (tgt := 47) dX10_giveFrom_27 (by decide) (fun c27 => absurd c27 (fun q => absurd (lt_of (by omega) (by omega) q) (by omega))) (fun c27 => ?_)
      refine e_aload_n dX10_giveFrom_30 rfl ?_
      refine e_iload_n dX10_giveFrom_31 rfl ?_
      refine e_putI dX10_giveFrom_32 fl_X10_280 sh_x rfl rfl rfl ?_
      refine e_aload_n dX10_giveFrom_35 rfl ?_
      refine e_getR dX10_giveFrom_36 fl_X10_67 sh_x rfl ?_
      refine e_aload_n dX10_giveFrom_39 rfl ?_
      refine e_getR dX10_giveFrom_40 fl_X10_70 sh_x rfl ?_
      refine cS2v dX10_giveFrom_43 mo_X10_copyRow ml_X10_287 (Nat.le_of_ble_eq_true rfl) (by omega) (c_copyRow (sa_x_given) (sa_x_bestGiven) (by decide)) ?_
      refine e_vret dX10_giveFrom_46 rfl ?_
      refine ⟨rfl, ?_⟩
      rw [show gF E.Y E.S 0 st tk mn pa q = (nI mn, pa) from if_pos c15]
      refine ⟨⟨rfl, fun _ _ => rfl, fun i hi => ?_, fun k hk => ?_⟩, ?_, fun k hk => Or.inr ?_, fun k hk => ?_⟩
      · funext k; rw [cpI_1, if_neg (by unfold scr at hi; omega), setI_1, if_neg (by unfold scr at hi; omega)]
      · rw [cpI_1, if_neg (by omega), setI_1, if_neg (by omega)]
      · rw [cpI_1, if_neg (by omega), setI_1, if_pos ⟨rfl, rfl⟩]
      · rw [cpI_1, if_pos ⟨rfl, by omega⟩, setI_1, if_neg (by omega)]; exact hp.2.2 k (by omega)
      · rw [cpI_1, if_neg (by omega), setI_1, if_neg (by omega)]
    · -- 15 goes on
      refine e_vret dX10_giveFrom_18 rfl ?_
      refine ⟨rfl, ?_⟩
      rw [show gF E.Y E.S 0 st tk mn pa q = q from if_neg c15]
      exact ⟨SC.rfl', hp.1, hp.2.1, fun _ _ => rfl⟩
  | succ r ih =>
    intro M st mn tk pa q hst hX hp
    refine Call.intro rfl (Nat.le_of_ble_eq_true rfl) ?_
    show Ev G _ mX10_giveFrom 0 [.ref 0, .int (nI st), .int tk, .int (nI mn)] [] M _
    obtain ⟨⟨hld, hsl, hy, hy', hyy⟩, ⟨hpl, hsp, hw, hw', hww⟩, hY, hW, hS, hV, hK, ⟨hpt, hp16, hun, hu16, hU⟩, ⟨htl, htl2, htc⟩⟩ := id hX
    have h6 := hY.1.2
    have hs5 := hY.2.1.2
    refine e_iload_n dX10_giveFrom_0 rfl ?_
    refine e_aload_n dX10_giveFrom_1 rfl ?_
    refine e_getP dX10_giveFrom_2 fl_X10_19 sh_x rfl ?_
    first | rw [hld] | (simp only [setI_2, setI_22, setL_22]; rw [hld])
    refine e_getI dX10_giveFrom_5 fl_X10_78 (sh_yd (by first | assumption | decide)) rfl ?_
    rw [hY.2.1.1]
    refine e_iadd dX10_giveFrom_8 ?_
    refine e_iload_n dX10_giveFrom_9 rfl ?_
    refine e_isub dX10_giveFrom_10 ?_
    refine e_aload_n dX10_giveFrom_11 rfl ?_
    refine e_getI dX10_giveFrom_12 fl_X10_280 sh_x rfl ?_
    rw [hp.1]
    refine e_icmp_gt (tgt := 19) dX10_giveFrom_15 (by decide) (fun c15 => ?_) (fun c15 => ?_)
    · -- 15 jumps
      refine e_iload_n dX10_giveFrom_19 rfl ?_
      refine e_aload_n dX10_giveFrom_20 rfl ?_
      refine e_getP dX10_giveFrom_21 fl_X10_19 sh_x rfl ?_
      first | rw [hld] | (simp only [setI_2, setI_22, setL_22]; rw [hld])
      refine e_getI dX10_giveFrom_24 fl_X10_78 (sh_yd (by first | assumption | decide)) rfl ?_
      rw [hY.2.1.1]
      refine e_icmp_lt (tgt := 47) dX10_giveFrom_27 (by decide) (fun c27 => ?_) (fun c27 => absurd c27 (fun q => q ((nI_ltI (by omega) (by omega)).mpr (by omega))))
      refine e_aload_n dX10_giveFrom_47 rfl ?_
      refine e_iload_n dX10_giveFrom_48 rfl ?_
      refine e_iload_n dX10_giveFrom_49 rfl ?_
      refine e_iload_n dX10_giveFrom_50 rfl ?_
      refine cV3x dX10_giveFrom_51 mo_X10_giveEach ml_X10_291 sh_x rfl (Nat.le_of_ble_eq_true rfl) (by omega) (c_giveEach hX (r := r) (q := q) (by omega) hp (fun {M1 tk1 mn1 pa1 q1} hX1 hp1 => ih (st := st + 1) (by omega) hX1 hp1)) ?_
      rintro r1 M1 ⟨rfl, hpo⟩
      dsimp only [Option.toList, List.cons_append, List.nil_append]
      refine e_vret dX10_giveFrom_54 rfl ?_
      refine ⟨rfl, ?_⟩
      rw [show gF E.Y E.S (r + 1) st tk mn pa q = _ from if_pos c15]
      exact hpo
    · -- 15 goes on
      refine e_vret dX10_giveFrom_18 rfl ?_
      refine ⟨rfl, ?_⟩
      rw [show gF E.Y E.S (r + 1) st tk mn pa q = q from if_neg c15]
      exact ⟨SC.rfl', hp.1, hp.2.1, fun _ _ => rfl⟩
theorem gIn_mono {F : Int32 → (Nat → Int32) → Pq → Pq} {op tk : Int32} {pa : Nat → Int32} {st : Nat} {P : Pq → Prop} (hF : ∀ tk pa q, P q → P (F tk pa q)) {q : Pq} (h : P q) : ∀ i, P (gIn F op tk pa st q i) := by
  intro i
  induction i with
  | zero => exact h
  | succ i ih =>
    simp only [gIn]
    split
    · exact hF _ _ _ ih
    · exact ih
theorem gF_ne {Y : Yv} {S : Sv} : ∀ (r st : Nat) (tk : Int32) (mn : Nat) (pa : Nat → Int32) (q : Pq), st + r = Y.ns → Y.ns ≤ 5 → mn ≤ st → (¬ q.1 = -1 → ¬ (gF Y S r st tk mn pa q).1 = -1) ∧ (q.1 = -1 → ¬ (gF Y S r st tk mn pa q).1 = -1) := by
  have nneg : ∀ m, m < 20 → ¬ nI m = (-1 : Int32) := by decide
  have lt1 : ∀ m, m < 20 → (-1 : Int32) < nI m := by decide
  intro r
  induction r with
  | zero =>
    intro st tk mn pa q h1 h5 hm
    refine ⟨fun h => ?_, fun h => ?_⟩
    · simp only [gF]; split
      · exact nneg mn (by omega)
      · exact h
    · simp only [gF]
      rw [if_pos (by rw [h, nI_add, pk_sub (by omega)]; exact lt1 _ (by omega))]
      exact nneg mn (by omega)
  | succ r ih =>
    intro st tk mn pa q h1 h5 hm
    have step : ∀ q : Pq, ¬ (gF Y S r (st + 1) tk mn (updF pa st (-1)) q).1 = -1 := fun q => by
      by_cases e : q.1 = -1
      · exact (ih _ _ _ _ _ (by omega) h5 (by omega)).2 e
      · exact (ih _ _ _ _ _ (by omega) h5 (by omega)).1 e
    refine ⟨fun h => ?_, fun h => ?_⟩
    · simp only [gF]; split
      · exact step _
      · exact h
    · simp only [gF]
      rw [if_pos (by rw [h, nI_add, pk_sub (by omega)]; exact lt1 _ (by omega))]
      exact step _
set_option maxHeartbeats 4000000 in
set_option maxRecDepth 20000 in
theorem c_plays {G : Gt} {M : Mm} {E : Gs} {y y' w w' p : Nat} (hX : XJ M E y y' w w' p) {i : Int32} : Call G 16 mX10_plays [.ref 0, .int i] M (fun r M' => r = some (.int (playsQ E i)) ∧ SC M M') := by
  obtain ⟨⟨hld, hsl, hy, hy', hyy⟩, ⟨hpl, hsp, hw, hw', hww⟩, hY, hW, hS, hV, hK, ⟨hpt, hp16, hun, hu16, hU⟩, ⟨htl, htl2, htc⟩⟩ := id hX
  have h6 := hY.1.2
  have hs5 := hY.2.1.2
  refine Call.intro rfl (Nat.le_of_ble_eq_true rfl) ?_
  show Ev G _ mX10_plays 0 [.ref 0, .int i] [] M _
  refine e_iload_n dX10_plays_0 rfl ?_
  refine e_iconst (v := (-1)) dX10_plays_1 (by decide) ?_
  refine e_icmp_eq (tgt := 16) dX10_plays_2 (by decide) (fun c2 => ?_) (fun c2 => ?_)
  · -- 2 jumps
    refine e_aload_n dX10_plays_16 rfl ?_
    refine e_iconst (v := (-1)) dX10_plays_17 (by decide) ?_
    refine e_putI dX10_plays_18 fl_X10_280 sh_x rfl rfl rfl ?_
    have hs1 : SC M (setI M 0 15 (-1)) := ⟨rfl, fun _ _ => rfl, fun i hi => by funext k; rw [setI_1, if_neg (by unfold scr at hi; omega)], fun k hk => by rw [setI_1, if_neg (by omega)]⟩
    refine e_aload_n dX10_plays_21 rfl ?_
    refine e_iconst (v := 0) dX10_plays_22 (by decide) ?_
    refine e_iconst (v := 0) dX10_plays_23 (by decide) ?_
    refine e_iconst (v := 0) dX10_plays_24 (by decide) ?_
    refine cV3x dX10_plays_25 mo_X10_giveFrom ml_X10_283 sh_x rfl (Nat.le_of_ble_eq_true rfl) (by omega) (c_giveFrom (E := E) (y := y) (y' := y') (w := w) (w' := w') (p := p) E.Y.ns (st := 0) (mn := 0) (tk := 0) (pa := fun _ => 0) (q := (-1, fun _ => 0)) (by omega) (hs1.keep hX) ⟨by rw [setI_1, if_pos ⟨rfl, rfl⟩], fun _ _ => Or.inl rfl, fun k hk => absurd hk (by omega)⟩) ?_
    rintro r1 M1 ⟨rfl, g1, g2, g3, g4⟩
    dsimp only [Option.toList, List.cons_append, List.nil_append]
    have hne := (gF_ne (Y := E.Y) (S := E.S) E.Y.ns 0 0 0 (fun _ => 0) (-1, fun _ => 0) (by omega) hs5 (by omega)).2 rfl
    refine e_iload_n dX10_plays_28 rfl ?_
    refine e_iconst (v := (-1)) dX10_plays_29 (by decide) ?_
    refine e_icmp_ne (tgt := 40) dX10_plays_30 (by decide) (fun c30 => absurd c30 (fun q => q c2)) (fun c30 => ?_)
    refine e_aload_n dX10_plays_33 rfl ?_
    refine e_getI dX10_plays_34 fl_X10_280 sh_x rfl ?_
    refine e_goto (tgt := 48) dX10_plays_37 (by decide) ?_
    refine e_iret dX10_plays_48 rfl ?_
    exact ⟨by unfold playsQ; rw [if_pos c2, g2]; rfl, hs1.trans g1⟩
  · -- 2 goes on
    refine e_aload_n dX10_plays_5 rfl ?_
    refine e_iload_n dX10_plays_6 rfl ?_
    refine cV1r dX10_plays_7 mo_X10_isStage ml_X10_160 sh_x rfl (Nat.le_of_ble_eq_true rfl) (by omega) (c_isStage (by assumption)) ?_
    refine e_if_ne (tgt := 16) dX10_plays_10 (by decide) (fun c10 => ?_) (fun c10 => ?_)
    · -- 10 jumps
      have hsh10 : ¬ i < 0 ∧ i < nI E.Y.ns := by
        by_cases h : (¬ i < 0 ∧ i < nI E.Y.ns)
        · exact h
        · exact absurd (b2i_f h) c10
      obtain ⟨j, hj, rfl⟩ := shed_of (by omega) hsh10
      refine e_aload_n dX10_plays_16 rfl ?_
      refine e_iconst (v := (-1)) dX10_plays_17 (by decide) ?_
      refine e_putI dX10_plays_18 fl_X10_280 sh_x rfl rfl rfl ?_
      have hs1 : SC M (setI M 0 15 (-1)) := ⟨rfl, fun _ _ => rfl, fun i hi => by funext k; rw [setI_1, if_neg (by unfold scr at hi; omega)], fun k hk => by rw [setI_1, if_neg (by omega)]⟩
      refine e_aload_n dX10_plays_21 rfl ?_
      refine e_iconst (v := 0) dX10_plays_22 (by decide) ?_
      refine e_iconst (v := 0) dX10_plays_23 (by decide) ?_
      refine e_iconst (v := 0) dX10_plays_24 (by decide) ?_
      refine cV3x dX10_plays_25 mo_X10_giveFrom ml_X10_283 sh_x rfl (Nat.le_of_ble_eq_true rfl) (by omega) (c_giveFrom (E := E) (y := y) (y' := y') (w := w) (w' := w') (p := p) E.Y.ns (st := 0) (mn := 0) (tk := 0) (pa := fun _ => 0) (q := (-1, fun _ => 0)) (by omega) (hs1.keep hX) ⟨by rw [setI_1, if_pos ⟨rfl, rfl⟩], fun _ _ => Or.inl rfl, fun k hk => absurd hk (by omega)⟩) ?_
      rintro r1 M1 ⟨rfl, g1, g2, g3, g4⟩
      dsimp only [Option.toList, List.cons_append, List.nil_append]
      have hne := (gF_ne (Y := E.Y) (S := E.S) E.Y.ns 0 0 0 (fun _ => 0) (-1, fun _ => 0) (by omega) hs5 (by omega)).2 rfl
      refine e_iload_n dX10_plays_28 rfl ?_
      refine e_iconst (v := (-1)) dX10_plays_29 (by decide) ?_
      refine e_icmp_ne (tgt := 40) dX10_plays_30 (by decide) (fun c30 => ?_) (fun c30 => absurd c30 c2)
      refine e_aload_n dX10_plays_40 rfl ?_
      refine e_getR dX10_plays_41 fl_X10_70 sh_x rfl ?_
      refine e_iload_n dX10_plays_44 rfl ?_
      refine cS2r dX10_plays_45 mo_X10_at ml_X10_137 (Nat.le_of_ble_eq_true rfl) (by omega) (c_atN (sa_x_bestGiven) (by decide) (by first | omega | decide)) ?_
      refine e_iret dX10_plays_48 rfl ?_
      exact ⟨by unfold playsQ; rw [if_neg c2, if_pos hsh10, nI_clamp (by omega), (g3 j hj).resolve_left hne]; rfl, hs1.trans g1⟩
    · -- 10 goes on
      refine e_bipush (v := (-2)) dX10_plays_13 (by decide) ?_
      refine e_iret dX10_plays_15 rfl ?_
      exact ⟨by unfold playsQ; rw [if_neg c2, if_neg (b2i_eq0.mp c10)], SC.rfl'⟩
end XPY
