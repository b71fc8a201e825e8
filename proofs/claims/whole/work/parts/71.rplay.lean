section RPY
def rPre (M : Mm) (E : Gs) (st : Nat) (pa : Nat → Int32) (q : Pq) : Prop := M.1 238 60 = q.1 ∧ (∀ k, k < E.Y.ns → q.1 = -1 ∨ M.1 283 k = q.2 k) ∧ ∀ k, k < st → M.1 282 k = pa k
def rPost (M M' : Mm) (E : Gs) (st : Nat) (q : Pq) : Prop := RC M M' ∧ M'.1 238 60 = q.1 ∧ (∀ k, k < E.Y.ns → q.1 = -1 ∨ M'.1 283 k = q.2 k) ∧ ∀ k, k < st → M'.1 282 k = M.1 282 k
theorem sc282 : rsd 282 ∧ ¬ 282 = 238 ∧ ¬ 282 = 273 := ⟨by unfold rsd; omega, by omega, by omega⟩
set_option maxHeartbeats 4000000 in
set_option maxRecDepth 20000 in
theorem l_rgive {G : Gt} {M : Mm} {E : Gs} (hJ : RJ M E) {r st mn : Nat} {op tk : Int32} {pa : Nat → Int32} {q : Pq} (hst : st < E.Y.ns) (hpa : ∀ k, k < st → M.1 282 k = pa k) (hrec : ∀ {M : Mm} {tk : Int32} {mn : Nat} {pa : Nat → Int32} {q : Pq}, RJ M E → rPre M E (st + 1) pa q → Call G (4 + r) mX11_givesOut [.ref 238, .int (nI (st + 1)), .int tk, .int (nI mn)] M (fun v M' => v = none ∧ rPost M M' E (st + 1) (gF E.Y E.S r (st + 1) tk mn pa q))) : ∀ (k : Nat) (i : Nat) (Mc : Mm), (i ≤ E.Y.n) → (E.Y.n < i + k) → (rPost M Mc E st (gIn (fun tk' pa' q' => gF E.Y E.S r (st + 1) tk' (mn + 1) pa' q') op tk pa st q i)) → Ev G (4 + (r + 1)) mX11_givesOut 77 [.ref 238, .int (nI st), .int tk, .int (nI mn), .int op, .int (nI i)] [] Mc (fun v M' => v = none ∧ rPost M M' E st (gF E.Y E.S r (st + 1) tk mn (updF pa st (-1)) (gIn (fun tk' pa' q' => gF E.Y E.S r (st + 1) tk' (mn + 1) pa' q') op tk pa st q E.Y.n))) := by
  intro k
  induction k with
  | zero => intro i Mc hi hk hv; exact absurd hk (by omega)
  | succ k ih =>
    intro i Mc hi hk hv
    have hJc := hv.1.keep hJ
    have hYc := hJc.1
    have h6 := hYc.1.2
    have hs5 := hYc.2.1.2
    refine e_iload dX11_givesOut_77 rfl ?_
    refine e_aload_n dX11_givesOut_79 rfl ?_
    refine e_getR dX11_givesOut_80 fl_X11_13 sh_m rfl ?_
    refine e_iconst (v := 0) dX11_givesOut_83 (by decide) ?_
    refine e_ialdN (j := 0) dX11_givesOut_84 (sa_m_yard) (by decide) (by omega) ?_
    rw [hYc.1.1]
    refine e_icmp_ge (tgt := 131) dX11_givesOut_85 (by decide) (fun c85 => ?_) (fun c85 => ?_)
    · -- 85 jumps
      have hin : i = E.Y.n := by have := ge_of (i := i) (n := E.Y.n) (by omega) (by omega) c85; omega
      subst hin
      refine e_aload_n dX11_givesOut_131 rfl ?_
      refine e_getR dX11_givesOut_132 fl_X11_141 sh_m rfl ?_
      refine e_iload_n dX11_givesOut_135 rfl ?_
      refine e_iconst (v := (-1)) dX11_givesOut_136 (by decide) ?_
      refine e_iastN (j := st) dX11_givesOut_137 (sa_m_row) (by decide) (by omega) ?_
      have hs1 : RC Mc (setI Mc 282 st (-1)) := RC.rfl'.i sc282
      have hp1 : rPre (setI Mc 282 st (-1)) E (st + 1) (updF pa st (-1)) (gIn (fun tk' pa' q' => gF E.Y E.S r (st + 1) tk' (mn + 1) pa' q') op tk pa st q E.Y.n) := by
        refine ⟨by rw [setI_1, if_neg (by omega)]; exact hv.2.1, fun k hk => by rw [setI_1, if_neg (by omega)]; exact hv.2.2.1 k hk, fun k hk => ?_⟩
        rw [setI_1]
        unfold updF
        by_cases e : k = st
        · rw [if_pos ⟨rfl, e⟩, if_pos e]
        · rw [if_neg (fun x => e x.2), if_neg e, hv.2.2.2 k (by omega)]; exact hpa k (by omega)
      refine e_aload_n dX11_givesOut_138 rfl ?_
      refine e_iload_n dX11_givesOut_139 rfl ?_
      refine e_iconst (v := 1) dX11_givesOut_140 (by decide) ?_
      refine e_iaddN (a := st) (b := 1) dX11_givesOut_141 ?_
      refine e_iload_n dX11_givesOut_142 rfl ?_
      refine e_iload_n dX11_givesOut_143 rfl ?_
      refine cV3x dX11_givesOut_144 mo_X11_givesOut ml_X11_443 sh_m rfl (Nat.le_of_ble_eq_true rfl) (by omega) (hrec ((hv.1.trans hs1).keep hJ) hp1) ?_
      rintro r1 M1 ⟨rfl, g1, g2, g3, g4⟩
      dsimp only [Option.toList, List.cons_append, List.nil_append]
      refine e_vret dX11_givesOut_147 rfl ?_
      exact ⟨rfl, (hv.1.trans hs1).trans g1, g2, g3, fun k hk => by rw [g4 k (by omega), setI_1, if_neg (by omega)]; exact hv.2.2.2 k hk⟩
    · -- 85 goes on
      have hlt : i < E.Y.n := lt_of (i := i) (n := E.Y.n) (by omega) (by omega) c85
      refine e_iload dX11_givesOut_88 rfl ?_
      refine e_iload dX11_givesOut_90 rfl ?_
      refine e_ishr dX11_givesOut_92 ?_
      refine e_iconst (v := 1) dX11_givesOut_93 (by decide) ?_
      refine e_iand dX11_givesOut_94 ?_
      refine e_if_ne (tgt := 101) dX11_givesOut_95 (by decide) (fun c95 => ?_) (fun c95 => ?_)
      · -- 95 jumps
        have hb : bitI op (nI i) := by
          rcases and1 (op >>> (nI i &&& 31)) with e | e
          · exact absurd e c95
          · exact e
        refine e_aload_n dX11_givesOut_101 rfl ?_
        refine e_getR dX11_givesOut_102 fl_X11_141 sh_m rfl ?_
        refine e_iload_n dX11_givesOut_105 rfl ?_
        refine e_iload dX11_givesOut_106 rfl ?_
        refine e_iastN (j := st) dX11_givesOut_108 (sa_m_row) (by decide) (by omega) ?_
        have hs1 : RC Mc (setI Mc 282 st (nI i)) := RC.rfl'.i sc282
        have hp1 : rPre (setI Mc 282 st (nI i)) E (st + 1) (updF pa st (nI i)) (gIn (fun tk' pa' q' => gF E.Y E.S r (st + 1) tk' (mn + 1) pa' q') op tk pa st q i) := by
          refine ⟨by rw [setI_1, if_neg (by omega)]; exact hv.2.1, fun k hk => by rw [setI_1, if_neg (by omega)]; exact hv.2.2.1 k hk, fun k hk => ?_⟩
          rw [setI_1]
          unfold updF
          by_cases e : k = st
          · rw [if_pos ⟨rfl, e⟩, if_pos e]
          · rw [if_neg (fun x => e x.2), if_neg e, hv.2.2.2 k (by omega)]; exact hpa k (by omega)
        refine e_aload_n dX11_givesOut_109 rfl ?_
        refine e_iload_n dX11_givesOut_110 rfl ?_
        refine e_iconst (v := 1) dX11_givesOut_111 (by decide) ?_
        refine e_iaddN (a := st) (b := 1) dX11_givesOut_112 ?_
        refine e_iload_n dX11_givesOut_113 rfl ?_
        refine e_iconst (v := 1) dX11_givesOut_114 (by decide) ?_
        refine e_iload dX11_givesOut_115 rfl ?_
        refine e_ishl dX11_givesOut_117 ?_
        refine e_ior dX11_givesOut_118 ?_
        refine e_iload_n dX11_givesOut_119 rfl ?_
        refine e_iconst (v := 1) dX11_givesOut_120 (by decide) ?_
        refine e_iaddN (a := mn) (b := 1) dX11_givesOut_121 ?_
        refine cV3x dX11_givesOut_122 mo_X11_givesOut ml_X11_443 sh_m rfl (Nat.le_of_ble_eq_true rfl) (by omega) (hrec ((hv.1.trans hs1).keep hJ) hp1) ?_
        rintro r1 M1 ⟨rfl, g1, g2, g3, g4⟩
        dsimp only [Option.toList, List.cons_append, List.nil_append]
        refine e_iinc (ls' := [_, _, _, _, _, _]) dX11_givesOut_125 rfl (nI_i1 _) (by decide) rfl ?_
        refine e_goto (tgt := 77) dX11_givesOut_128 (by decide) ?_
        refine ih (i + 1) M1 (by omega) (by omega) ?_
        rw [show gIn (fun tk' pa' q' => gF E.Y E.S r (st + 1) tk' (mn + 1) pa' q') op tk pa st q (i + 1) = gF E.Y E.S r (st + 1) (tk ||| b1 (nI i)) (mn + 1) (updF pa st (nI i)) (gIn (fun tk' pa' q' => gF E.Y E.S r (st + 1) tk' (mn + 1) pa' q') op tk pa st q i) from if_pos (decide_eq_true hb)]
        exact ⟨(hv.1.trans hs1).trans g1, g2, g3, fun k hk => by rw [g4 k (by omega), setI_1, if_neg (by omega)]; exact hv.2.2.2 k hk⟩
      · -- 95 goes on
        have hb : ¬ bitI op (nI i) := fun q => by unfold bitI at q; rw [c95] at q; exact absurd q (by decide)
        refine e_goto (tgt := 125) dX11_givesOut_98 (by decide) ?_
        refine e_iinc (ls' := [_, _, _, _, _, _]) dX11_givesOut_125 rfl (nI_i1 _) (by decide) rfl ?_
        refine e_goto (tgt := 77) dX11_givesOut_128 (by decide) ?_
        refine ih (i + 1) Mc (by omega) (by omega) ?_
        rw [show gIn (fun tk' pa' q' => gF E.Y E.S r (st + 1) tk' (mn + 1) pa' q') op tk pa st q (i + 1) = gIn (fun tk' pa' q' => gF E.Y E.S r (st + 1) tk' (mn + 1) pa' q') op tk pa st q i from if_neg (by rw [decide_eq_false hb]; decide)]
        exact hv
set_option maxHeartbeats 4000000 in
set_option maxRecDepth 20000 in
theorem l_rbest {G : Gt} {M Ms : Mm} {E : Gs} {st mn dd : Nat} {b c w : Value} {v : Int32} (hs : RC M Ms) (hb : Ms.1 238 60 = nI mn) (h5 : E.Y.ns ≤ 5) (hR : ∀ k, k < st → Ms.1 282 k = M.1 282 k) (hst : st = E.Y.ns) {pa : Nat → Int32} (hpa : ∀ k, k < st → M.1 282 k = pa k) : ∀ (k : Nat) (i : Nat) (Mc : Mm), (i ≤ 5) → (5 < i + k) → (OA 283 Ms Mc) → (∀ k, k < i → Mc.1 283 k = Ms.1 282 k) → Ev G dd mX11_givesOut 36 [.ref 238, b, c, .int v, .int (nI i), w] [] Mc (fun v M' => v = none ∧ rPost M M' E st (nI mn, pa)) := by
  intro k
  induction k with
  | zero => intro i Mc hi hk hO hv; exact absurd hk (by omega)
  | succ k ih =>
    intro i Mc hi hk hO hv
    refine e_iload dX11_givesOut_36 rfl ?_
    refine e_iconst (v := 5) dX11_givesOut_38 (by decide) ?_
    refine e_icmp_ge (tgt := 62) dX11_givesOut_39 (by decide) (fun c39 => ?_) (fun c39 => ?_)
    · -- 39 jumps
      have hin : i = 5 := by have := ge_of (i := i) (n := 5) (by omega) (by omega) c39; omega
      subst hin
      refine e_vret dX11_givesOut_62 rfl ?_
      exact ⟨rfl, hs.trans (hO.rc (by omega)), by rw [hO.2 238 (by decide)]; exact hb, fun k hk => Or.inr (by rw [hv k (by omega), hR k (by omega)]; exact hpa k (by omega)), fun k hk => by rw [hO.2 282 (by decide)]; exact hR k hk⟩
    · -- 39 goes on
      have hlt : i < 5 := lt_of (i := i) (n := 5) (by omega) (by omega) c39
      refine e_aload_n dX11_givesOut_42 rfl ?_
      refine e_getR dX11_givesOut_43 fl_X11_144 sh_m rfl ?_
      refine e_iload dX11_givesOut_46 rfl ?_
      refine e_aload_n dX11_givesOut_48 rfl ?_
      refine e_getR dX11_givesOut_49 fl_X11_141 sh_m rfl ?_
      refine e_iload dX11_givesOut_52 rfl ?_
      refine e_ialdN (j := i) dX11_givesOut_54 (sa_m_row) (by decide) (by omega) ?_
      refine e_iastN (j := i) dX11_givesOut_55 (sa_m_bestRow) (by decide) (by omega) ?_
      refine e_iinc (ls' := [_, _, _, _, _, _]) dX11_givesOut_56 rfl (nI_i1 _) (by decide) rfl ?_
      refine e_goto (tgt := 36) dX11_givesOut_59 (by decide) ?_
      refine ih (i + 1) _ (by omega) (by omega) (hO.i _ _) (fun k hk => ?_)
      rw [setI_1]
      by_cases e : k = i
      · rw [if_pos ⟨rfl, e⟩, e, hO.2 282 (by decide)]
      · rw [if_neg (fun x => e x.2)]; exact hv k (by omega)
set_option maxHeartbeats 4000000 in
set_option maxRecDepth 20000 in
theorem r_givesOut {G : Gt} {E : Gs} : ∀ (r : Nat) {M : Mm} {st mn : Nat} {tk : Int32} {pa : Nat → Int32} {q : Pq}, st + r = E.Y.ns → RJ M E → rPre M E st pa q → Call G (4 + r) mX11_givesOut [.ref 238, .int (nI st), .int tk, .int (nI mn)] M (fun v M' => v = none ∧ rPost M M' E st (gF E.Y E.S r st tk mn pa q)) := by
  intro r
  induction r with
  | zero =>
    intro M st mn tk pa q hst hJ hp
    refine Call.intro rfl (Nat.le_of_ble_eq_true rfl) ?_
    show Ev G _ mX11_givesOut 0 [.ref 238, .int (nI st), .int tk, .int (nI mn), RA, RA] [] M _
    have hY := hJ.1
    have h6 := hY.1.2
    have hs5 := hY.2.1.2
    have hL := hJ.2.1
    have hS := hJ.2.2.1
    refine e_iload_n dX11_givesOut_0 rfl ?_
    refine e_aload_n dX11_givesOut_1 rfl ?_
    refine e_getR dX11_givesOut_2 fl_X11_13 sh_m rfl ?_
    refine e_iconst (v := 1) dX11_givesOut_5 (by decide) ?_
    refine e_ialdN (j := 1) dX11_givesOut_6 (sa_m_yard) (by decide) (by omega) ?_
    rw [hY.2.1.1]
    refine e_iadd dX11_givesOut_7 ?_
    refine e_iload_n dX11_givesOut_8 rfl ?_
    refine e_isub dX11_givesOut_9 ?_
    refine e_aload_n dX11_givesOut_10 rfl ?_
    refine e_getI dX11_givesOut_11 fl_X11_440 sh_m rfl ?_
    rw [hp.1]
    refine e_icmp_gt (tgt := 18) dX11_givesOut_14 (by decide) (fun c14 => ?_) (fun c14 => ?_)
    · -- 14 jumps
      refine e_iload_n dX11_givesOut_18 rfl ?_
      refine e_aload_n dX11_givesOut_19 rfl ?_
      refine e_getR dX11_givesOut_20 fl_X11_13 sh_m rfl ?_
      refine e_iconst (v := 1) dX11_givesOut_23 (by decide) ?_
      refine e_ialdN (j := 1) dX11_givesOut_24 (sa_m_yard) (by decide) (by omega) ?_
      rw [hY.2.1.1]
      refine e_icmp_ne (tgt := 63) dX11_givesOut_25 (by decide) (fun c25 => absurd c25 (fun q => q (by rw [show st = E.Y.ns by omega]))) (fun c25 => ?_)
      refine e_aload_n dX11_givesOut_28 rfl ?_
      refine e_iload_n dX11_givesOut_29 rfl ?_
      refine e_putI dX11_givesOut_30 fl_X11_440 sh_m rfl rfl rfl ?_
      refine e_iconst (v := 0) dX11_givesOut_33 (by decide) ?_
      refine e_istore (ls' := [_, _, _, _, _, _]) dX11_givesOut_34 (by decide) rfl ?_
      rw [show gF E.Y E.S 0 st tk mn pa q = (nI mn, pa) from if_pos c14]
      refine l_rbest (RC.rfl'.f (by omega)) (by rw [setI_1, if_pos ⟨rfl, rfl⟩]) hs5 (fun k hk => by rw [setI_1, if_neg (by omega)]) (by omega) hp.2.2 6 0 _ (by omega) (by omega) OA.rfl' (fun k hk => absurd hk (by omega))
    · -- 14 goes on
      refine e_vret dX11_givesOut_17 rfl ?_
      refine ⟨rfl, ?_⟩
      rw [show gF E.Y E.S 0 st tk mn pa q = q from if_neg c14]
      exact ⟨RC.rfl', hp.1, hp.2.1, fun _ _ => rfl⟩
  | succ r ih =>
    intro M st mn tk pa q hst hJ hp
    refine Call.intro rfl (Nat.le_of_ble_eq_true rfl) ?_
    show Ev G _ mX11_givesOut 0 [.ref 238, .int (nI st), .int tk, .int (nI mn), RA, RA] [] M _
    have hY := hJ.1
    have h6 := hY.1.2
    have hs5 := hY.2.1.2
    have hL := hJ.2.1
    have hS := hJ.2.2.1
    refine e_iload_n dX11_givesOut_0 rfl ?_
    refine e_aload_n dX11_givesOut_1 rfl ?_
    refine e_getR dX11_givesOut_2 fl_X11_13 sh_m rfl ?_
    refine e_iconst (v := 1) dX11_givesOut_5 (by decide) ?_
    refine e_ialdN (j := 1) dX11_givesOut_6 (sa_m_yard) (by decide) (by omega) ?_
    rw [hY.2.1.1]
    refine e_iadd dX11_givesOut_7 ?_
    refine e_iload_n dX11_givesOut_8 rfl ?_
    refine e_isub dX11_givesOut_9 ?_
    refine e_aload_n dX11_givesOut_10 rfl ?_
    refine e_getI dX11_givesOut_11 fl_X11_440 sh_m rfl ?_
    rw [hp.1]
    refine e_icmp_gt (tgt := 18) dX11_givesOut_14 (by decide) (fun c14 => ?_) (fun c14 => ?_)
    · -- 14 jumps
      refine e_iload_n dX11_givesOut_18 rfl ?_
      refine e_aload_n dX11_givesOut_19 rfl ?_
      refine e_getR dX11_givesOut_20 fl_X11_13 sh_m rfl ?_
      refine e_iconst (v := 1) dX11_givesOut_23 (by decide) ?_
      refine e_ialdN (j := 1) dX11_givesOut_24 (sa_m_yard) (by decide) (by omega) ?_
      rw [hY.2.1.1]
      refine e_icmp_ne (tgt := 63) dX11_givesOut_25 (by decide) (fun c25 => ?_) (fun c25 => absurd c25 (fun q => absurd (nI_injN (by omega) (by omega) q) (by omega)))
      refine e_aload_n dX11_givesOut_63 rfl ?_
      refine e_iload_n dX11_givesOut_64 rfl ?_
      refine cV1r dX11_givesOut_65 mo_X11_hadBy ml_X11_437 sh_m rfl (Nat.le_of_ble_eq_true rfl) (by omega) (r_hadBy hY hS (by omega)) ?_
      refine e_iload_n dX11_givesOut_68 rfl ?_
      refine e_iconst (v := (-1)) dX11_givesOut_69 (by decide) ?_
      refine e_ixor dX11_givesOut_70 ?_
      refine e_iand dX11_givesOut_71 ?_
      refine e_istore (ls' := [_, _, _, _, _, _]) dX11_givesOut_72 (by decide) rfl ?_
      refine e_iconst (v := 0) dX11_givesOut_74 (by decide) ?_
      refine e_istore (ls' := [_, _, _, _, _, _]) dX11_givesOut_75 (by decide) rfl ?_
      refine l_rgive hJ (by omega) hp.2.2 (fun {M1 tk1 mn1 pa1 q1} hX1 hp1 => ih (st := st + 1) (by omega) hX1 hp1) (E.Y.n + 1) 0 M (by omega) (by omega) ⟨RC.rfl', hp.1, hp.2.1, fun _ _ => rfl⟩ |>.weaken ?_
      rintro v M1 ⟨rfl, hpo⟩
      refine ⟨rfl, ?_⟩
      rw [show gF E.Y E.S (r + 1) st tk mn pa q = _ from if_pos c14]
      exact hpo
    · -- 14 goes on
      refine e_vret dX11_givesOut_17 rfl ?_
      refine ⟨rfl, ?_⟩
      rw [show gF E.Y E.S (r + 1) st tk mn pa q = q from if_neg c14]
      exact ⟨RC.rfl', hp.1, hp.2.1, fun _ _ => rfl⟩
set_option maxHeartbeats 4000000 in
set_option maxRecDepth 20000 in
theorem r_plays {G : Gt} {M : Mm} {E : Gs} (hJ : RJ M E) {i : Int32} : Call G 10 mX11_plays [.ref 238, .int i] M (fun r M' => r = some (.int (playsQ E i)) ∧ RC M M') := by
  refine Call.intro rfl (Nat.le_of_ble_eq_true rfl) ?_
  show Ev G _ mX11_plays 0 [.ref 238, .int i] [] M _
  refine e_aload_n dX11_plays_0 rfl ?_
  refine e_iconst (v := 0) dX11_plays_1 (by decide) ?_
  refine e_putI dX11_plays_2 fl_X11_153 sh_m rfl rfl rfl ?_
  refine th0 (fun M1 hC1 => ?_)
  have hJ := hC1.keep hJ
  have hY := hJ.1
  have h6 := hY.1.2
  have hs5 := hY.2.1.2
  have hL := hJ.2.1
  have hS := hJ.2.2.1
  refine e_iload_n dX11_plays_5 rfl ?_
  refine e_iconst (v := (-1)) dX11_plays_6 (by decide) ?_
  refine e_icmp_eq (tgt := 21) dX11_plays_7 (by decide) (fun c7 => ?_) (fun c7 => ?_)
  · -- 7 jumps
    refine e_aload_n dX11_plays_21 rfl ?_
    refine e_iconst (v := (-1)) dX11_plays_22 (by decide) ?_
    refine e_putI dX11_plays_23 fl_X11_440 sh_m rfl rfl rfl ?_
    have hC2 : RC M1 (setI M1 238 60 (-1)) := RC.rfl'.f (by omega)
    have hJ2 := hC2.keep hJ
    refine e_aload_n dX11_plays_26 rfl ?_
    refine e_iconst (v := 0) dX11_plays_27 (by decide) ?_
    refine e_iconst (v := 0) dX11_plays_28 (by decide) ?_
    refine e_iconst (v := 0) dX11_plays_29 (by decide) ?_
    refine cV3x dX11_plays_30 mo_X11_givesOut ml_X11_443 sh_m rfl (Nat.le_of_ble_eq_true rfl) (by omega) (r_givesOut (E := E) E.Y.ns (st := 0) (mn := 0) (tk := 0) (pa := fun _ => 0) (q := (-1, fun _ => 0)) (by omega) hJ2 ⟨by rw [setI_1, if_pos ⟨rfl, rfl⟩], fun _ _ => Or.inl rfl, fun k hk => absurd hk (by omega)⟩) ?_
    rintro r1 M2 ⟨rfl, g1, g2, g3, g4⟩
    dsimp only [Option.toList, List.cons_append, List.nil_append]
    have hne := (gF_ne (Y := E.Y) (S := E.S) E.Y.ns 0 0 0 (fun _ => 0) (-1, fun _ => 0) (by omega) hs5 (by omega)).2 rfl
    refine e_iload_n dX11_plays_33 rfl ?_
    refine e_iconst (v := (-1)) dX11_plays_34 (by decide) ?_
    refine e_icmp_ne (tgt := 45) dX11_plays_35 (by decide) (fun c35 => absurd c35 (fun q => q c7)) (fun c35 => ?_)
    refine e_aload_n dX11_plays_38 rfl ?_
    refine e_getI dX11_plays_39 fl_X11_440 sh_m rfl ?_
    refine e_goto (tgt := 51) dX11_plays_42 (by decide) ?_
    refine e_iret dX11_plays_51 rfl ?_
    exact ⟨by unfold playsQ; rw [if_pos c7, g2]; rfl, hC1.trans (hC2.trans g1)⟩
  · -- 7 goes on
    refine e_aload_n dX11_plays_10 rfl ?_
    refine e_iload_n dX11_plays_11 rfl ?_
    refine cV1r dX11_plays_12 mo_X11_isStage ml_X11_400 sh_m rfl (Nat.le_of_ble_eq_true rfl) (by omega) (r_isStage (by assumption)) ?_
    refine e_if_ne (tgt := 21) dX11_plays_15 (by decide) (fun c15 => ?_) (fun c15 => ?_)
    · -- 15 jumps
      have hsh15 : ¬ i < 0 ∧ i < nI E.Y.ns := by
        by_cases h : (¬ i < 0 ∧ i < nI E.Y.ns)
        · exact h
        · exact absurd (b2i_f h) c15
      obtain ⟨j, hj, rfl⟩ := shed_of (by omega) hsh15
      refine e_aload_n dX11_plays_21 rfl ?_
      refine e_iconst (v := (-1)) dX11_plays_22 (by decide) ?_
      refine e_putI dX11_plays_23 fl_X11_440 sh_m rfl rfl rfl ?_
      have hC2 : RC M1 (setI M1 238 60 (-1)) := RC.rfl'.f (by omega)
      have hJ2 := hC2.keep hJ
      refine e_aload_n dX11_plays_26 rfl ?_
      refine e_iconst (v := 0) dX11_plays_27 (by decide) ?_
      refine e_iconst (v := 0) dX11_plays_28 (by decide) ?_
      refine e_iconst (v := 0) dX11_plays_29 (by decide) ?_
      refine cV3x dX11_plays_30 mo_X11_givesOut ml_X11_443 sh_m rfl (Nat.le_of_ble_eq_true rfl) (by omega) (r_givesOut (E := E) E.Y.ns (st := 0) (mn := 0) (tk := 0) (pa := fun _ => 0) (q := (-1, fun _ => 0)) (by omega) hJ2 ⟨by rw [setI_1, if_pos ⟨rfl, rfl⟩], fun _ _ => Or.inl rfl, fun k hk => absurd hk (by omega)⟩) ?_
      rintro r1 M2 ⟨rfl, g1, g2, g3, g4⟩
      dsimp only [Option.toList, List.cons_append, List.nil_append]
      have hne := (gF_ne (Y := E.Y) (S := E.S) E.Y.ns 0 0 0 (fun _ => 0) (-1, fun _ => 0) (by omega) hs5 (by omega)).2 rfl
      refine e_iload_n dX11_plays_33 rfl ?_
      refine e_iconst (v := (-1)) dX11_plays_34 (by decide) ?_
      refine e_icmp_ne (tgt := 45) dX11_plays_35 (by decide) (fun c35 => ?_) (fun c35 => absurd c35 c7)
      refine e_aload_n dX11_plays_45 rfl ?_
      refine e_getR dX11_plays_46 fl_X11_144 sh_m rfl ?_
      refine e_iload_n dX11_plays_49 rfl ?_
      refine e_ialdN (j := j) dX11_plays_50 (sa_m_bestRow) (by decide) (by omega) ?_
      refine e_iret dX11_plays_51 rfl ?_
      exact ⟨by unfold playsQ; rw [if_neg c7, if_pos hsh15, nI_clamp (by omega), (g3 j hj).resolve_left hne]; rfl, hC1.trans (hC2.trans g1)⟩
    · -- 15 goes on
      refine e_bipush (v := (-2)) dX11_plays_18 (by decide) ?_
      refine e_iret dX11_plays_20 rfl ?_
      exact ⟨by unfold playsQ; rw [if_neg c7, if_neg (b2i_eq0.mp c15)], hC1⟩
end RPY
