section RYM
set_option maxHeartbeats 500000 in
set_option maxRecDepth 20000 in
theorem r_readsShed {G : Gt} {M : Mm} {t : Tv} {x : Xv} {P : Pv} (hG : GX M t x) (hP : RPy M P.1) : Call G 5 mX11_readsShed [.ref 238] M (fun r M' => LnY M M' t (tkS t (rs7 t x P) 59) (addSP P.1 (wdX t (rs1 t x P)) (kindX t (rs2 t x P)) (nmX t (rs4 t x P)) (nmX t (rs6 t x P))) r) := by
  obtain ⟨hx0, hx2, hI, hZ, g4, g5, g6, g7, g8⟩ := id hG
  have ht := hZ.2.1
  have hn6 := hP.1.2
  refine Call.intro rfl (Nat.le_of_ble_eq_true rfl) ?_
  show Ev G _ mX11_readsShed 0 [.ref 238, RA] [] M _
  refine e_bipush (v := 6) dX11_readsShed_0 (by decide) ?_
  refine e_aload_n dX11_readsShed_2 rfl ?_
  refine e_getR dX11_readsShed_3 fl_X11_13 sh_m rfl ?_
  refine e_iconst (v := 4) dX11_readsShed_6 (by decide) ?_
  refine e_ialdN (j := 4) dX11_readsShed_7 (sa_m_yard) (by decide) (by omega) ?_
  rw [hP.1.1]
  refine e_iaddN (a := 6) (b := P.1.n) dX11_readsShed_8 ?_
  refine e_istore_n (ls' := [_, _]) dX11_readsShed_9 (by decide) rfl ?_
  refine e_iload_n dX11_readsShed_10 rfl ?_
  refine e_bipush (v := 12) dX11_readsShed_11 (by decide) ?_
  refine e_icmp_ne (tgt := 22) dX11_readsShed_13 (by decide) (fun c13 => ?_) (fun c13 => ?_)
  · -- 13 jumps
    have hl : P.1.n < 6 := by have : ¬ P.1.n = 6 := fun e => c13 (by rw [e]; rfl); omega
    refine e_aload_n dX11_readsShed_22 rfl ?_
    refine cV0x dX11_readsShed_23 mo_X11_nextToken ml_X11_224 sh_m rfl (Nat.le_of_ble_eq_true rfl) (by omega) (c_nt hG OF.rfl' rfl) ?_
    rintro r M2 ⟨rfl, hN, hG2⟩
    dsimp only [Option.toList, List.cons_append, List.nil_append]
    have hP2 := hP.of hN.of
    refine e_aload_n dX11_readsShed_26 rfl ?_
    refine cV0x dX11_readsShed_27 mo_X11_needsNew ml_X11_298 sh_m rfl (Nat.le_of_ble_eq_true rfl) (by omega) (r_needsNew hG2 hP2.nm hP2.sm) ?_
    rintro r M3 ⟨hO3, hA3, hF3⟩
    rcases hA3 with ⟨z1, rfl, z2⟩ | ⟨z1, rfl, z2⟩
    · -- ok at 27
      dsimp only [Option.toList, List.cons_append, List.nil_append]
      refine e_if_ne (tgt := 35) dX11_readsShed_30 (by decide) (fun c30 => ?_) (fun c30 => absurd c30 (by decide))
      refine e_aload_n dX11_readsShed_35 rfl ?_
      refine e_getR dX11_readsShed_36 fl_X11_23 sh_m rfl ?_
      refine e_iload_n dX11_readsShed_39 rfl ?_
      refine e_aload_n dX11_readsShed_40 rfl ?_
      refine e_ldc2 dX11_readsShed_41 kl_X11_266 ?_
      refine cV1r dX11_readsShed_44 mo_X11_isWord ml_X11_209 sh_m rfl (Nat.le_of_ble_eq_true rfl) (by omega) (r_isWord (k := 14) z2 (by decide)) ?_
      refine e_if_eq (tgt := 54) dX11_readsShed_47 (by decide) (fun c47 => ?_) (fun c47 => ?_)
      · -- 47 jumps
        refine e_aload_n dX11_readsShed_54 rfl ?_
        refine e_ldc2 dX11_readsShed_55 kl_X11_268 ?_
        refine cV1r dX11_readsShed_58 mo_X11_isWord ml_X11_209 sh_m rfl (Nat.le_of_ble_eq_true rfl) (by omega) (r_isWord (k := 15) z2 (by decide)) ?_
        refine e_if_eq (tgt := 68) dX11_readsShed_61 (by decide) (fun c61 => ?_) (fun c61 => ?_)
        · -- 61 jumps
          refine e_aload_n dX11_readsShed_68 rfl ?_
          refine e_ldc2 dX11_readsShed_69 kl_X11_270 ?_
          refine cV1r dX11_readsShed_72 mo_X11_isWord ml_X11_209 sh_m rfl (Nat.le_of_ble_eq_true rfl) (by omega) (r_isWord (k := 16) z2 (by decide)) ?_
          refine e_if_eq (tgt := 82) dX11_readsShed_75 (by decide) (fun c75 => ?_) (fun c75 => ?_)
          · -- 75 jumps
            refine e_aload_n dX11_readsShed_82 rfl ?_
            refine e_ldc2 dX11_readsShed_83 kl_X11_272 ?_
            refine cV1r dX11_readsShed_86 mo_X11_isWord ml_X11_209 sh_m rfl (Nat.le_of_ble_eq_true rfl) (by omega) (r_isWord (k := 17) z2 (by decide)) ?_
            refine e_if_eq (tgt := 96) dX11_readsShed_89 (by decide) (fun c89 => ?_) (fun c89 => ?_)
            · -- 89 jumps
              refine e_iconst (v := (-1)) dX11_readsShed_96 (by decide) ?_
              have e : rs1 t x P = advX t x := by show advX t (if P.1.n < 6 then x else failX t 5 x) = _; rw [if_pos hl]
              dsimp only [rs7, rs6, rs5, rs4, rs3, rs2]
              rw [e]
              have hv : kindX t (tkM t (advX t x) P.1) = -1 := by unfold kindX; rw [if_neg (b2i_eq0.mp c47), if_neg (b2i_eq0.mp c61), if_neg (b2i_eq0.mp c75), if_neg (b2i_eq0.mp c89)]
              refine (s_rs97 z2 (SBd.st (hP.of (hN.of.trans hO3))) hl (hF3 z1) hv).weaken (fun r M9 hh => ⟨(hN.of.trans hO3).yg.trans hh.1, hh.2⟩)
            · -- 89 goes on
              refine e_iconst (v := 3) dX11_readsShed_92 (by decide) ?_
              refine e_goto (tgt := 97) dX11_readsShed_93 (by decide) ?_
              have e : rs1 t x P = advX t x := by show advX t (if P.1.n < 6 then x else failX t 5 x) = _; rw [if_pos hl]
              dsimp only [rs7, rs6, rs5, rs4, rs3, rs2]
              rw [e]
              have hv : kindX t (tkM t (advX t x) P.1) = 3 := by unfold kindX; rw [if_neg (b2i_eq0.mp c47), if_neg (b2i_eq0.mp c61), if_neg (b2i_eq0.mp c75), if_pos (Classical.not_not.mp (fun q => c89 (b2i_f q)))]
              refine (s_rs97 z2 (SBd.st (hP.of (hN.of.trans hO3))) hl (hF3 z1) hv).weaken (fun r M9 hh => ⟨(hN.of.trans hO3).yg.trans hh.1, hh.2⟩)
          · -- 75 goes on
            refine e_iconst (v := 2) dX11_readsShed_78 (by decide) ?_
            refine e_goto (tgt := 97) dX11_readsShed_79 (by decide) ?_
            have e : rs1 t x P = advX t x := by show advX t (if P.1.n < 6 then x else failX t 5 x) = _; rw [if_pos hl]
            dsimp only [rs7, rs6, rs5, rs4, rs3, rs2]
            rw [e]
            have hv : kindX t (tkM t (advX t x) P.1) = 2 := by unfold kindX; rw [if_neg (b2i_eq0.mp c47), if_neg (b2i_eq0.mp c61), if_pos (Classical.not_not.mp (fun q => c75 (b2i_f q)))]
            refine (s_rs97 z2 (SBd.st (hP.of (hN.of.trans hO3))) hl (hF3 z1) hv).weaken (fun r M9 hh => ⟨(hN.of.trans hO3).yg.trans hh.1, hh.2⟩)
        · -- 61 goes on
          refine e_iconst (v := 1) dX11_readsShed_64 (by decide) ?_
          refine e_goto (tgt := 97) dX11_readsShed_65 (by decide) ?_
          have e : rs1 t x P = advX t x := by show advX t (if P.1.n < 6 then x else failX t 5 x) = _; rw [if_pos hl]
          dsimp only [rs7, rs6, rs5, rs4, rs3, rs2]
          rw [e]
          have hv : kindX t (tkM t (advX t x) P.1) = 1 := by unfold kindX; rw [if_neg (b2i_eq0.mp c47), if_pos (Classical.not_not.mp (fun q => c61 (b2i_f q)))]
          refine (s_rs97 z2 (SBd.st (hP.of (hN.of.trans hO3))) hl (hF3 z1) hv).weaken (fun r M9 hh => ⟨(hN.of.trans hO3).yg.trans hh.1, hh.2⟩)
      · -- 47 goes on
        refine e_iconst (v := 0) dX11_readsShed_50 (by decide) ?_
        refine e_goto (tgt := 97) dX11_readsShed_51 (by decide) ?_
        have e : rs1 t x P = advX t x := by show advX t (if P.1.n < 6 then x else failX t 5 x) = _; rw [if_pos hl]
        dsimp only [rs7, rs6, rs5, rs4, rs3, rs2]
        rw [e]
        have hv : kindX t (tkM t (advX t x) P.1) = 0 := by unfold kindX; rw [if_pos (Classical.not_not.mp (fun q => c47 (b2i_f q)))]
        refine (s_rs97 z2 (SBd.st (hP.of (hN.of.trans hO3))) hl (hF3 z1) hv).weaken (fun r M9 hh => ⟨(hN.of.trans hO3).yg.trans hh.1, hh.2⟩)
    · -- no at 27
      dsimp only [Option.toList, List.cons_append, List.nil_append]
      refine e_if_ne (tgt := 35) dX11_readsShed_30 (by decide) (fun c30 => absurd c30 (by decide)) (fun c30 => ?_)
      refine e_iconst (v := 0) dX11_readsShed_33 (by decide) ?_
      refine e_zret dX11_readsShed_34 rfl (by first | rfl | exact b2i_nar _) ?_
      have e : rs1 t x P = advX t x := by show advX t (if P.1.n < 6 then x else failX t 5 x) = _; rw [if_pos hl]
      have e2 : tkS t (rs7 t x P) 59 = tkM t (advX t x) P.1 := by dsimp only [rs7, rs6, rs5, rs4, rs3, rs2]; rw [e, st_K z1, st_W z1, st_N z1, st_W z1, st_N z1, st_S z1]
      exact ⟨(hN.of.trans hO3).yg, Or.inr ⟨by rw [e2]; exact z1, rfl, by rw [e2]; exact z2⟩, fun q => absurd q (by rw [e2]; exact z1)⟩
  · -- 13 goes on
    refine e_aload_n dX11_readsShed_16 rfl ?_
    refine e_iconst (v := 5) dX11_readsShed_17 (by decide) ?_
    refine cV1r dX11_readsShed_18 mo_X11_fails ml_X11_217 sh_m rfl (Nat.le_of_ble_eq_true rfl) (by omega) (r_fails (k := 5) g5) ?_
    refine e_zret dX11_readsShed_21 rfl (by first | rfl | exact b2i_nar _) ?_
    have hl : ¬ P.1.n < 6 := by have := nI_injN (a := 6 + P.1.n) (b := 12) (by omega) (by omega) c13; omega
    have hz := fail_nz (t := t) (x := x) (k := 5) (by decide) hx2 hI
    have e1 : rs1 t x P = failX t (nI 5) x := by show advX t (if P.1.n < 6 then x else failX t 5 x) = _; rw [if_neg hl]; exact fl_adv (by decide) hx2 hI
    have hz1 : ¬ (rs1 t x P).1 = 0 := by rw [e1]; exact hz
    have e2 : tkS t (rs7 t x P) 59 = rs1 t x P := by show tkS t (rs7 t x P) 59 = _; dsimp only [rs7, rs6, rs5, rs4, rs3, rs2]; rw [st_M hz1, st_K hz1, st_W hz1, st_N hz1, st_W hz1, st_N hz1, st_S hz1]
    exact ⟨of9.yg, RA1.f hG (k := 5) (by decide) (e2.trans e1), fun q => absurd q (by rw [e2]; exact hz1)⟩
/-- a stage being told -/
def GBd (M Mc : Mm) (Y : Yv) (fa fb : Option Int32) (fn : Option Int64) : Prop := YG M Mc ∧ RPy Mc Y ∧ (∀ v, fa = some v → Mc.1 247 (5 + Y.ns) = v) ∧ (∀ v, fb = some v → Mc.1 248 (5 + Y.ns) = v) ∧ ∀ v, fn = some v → Mc.2.1 242 (5 + Y.ns) = v
section
variable {M Mc M1 : Mm} {Y : Yv} {fa fb : Option Int32} {fn : Option Int64} {v : Int32} {w : Int64}
theorem GBd.st (h : RPy M Y) : GBd M M Y none none none := ⟨YG.rfl', h, nosome, nosome, fun v q => absurd q (by simp)⟩
theorem GBd.of (h : GBd M Mc Y fa fb fn) (hO : OF Mc M1) : GBd M M1 Y fa fb fn := ⟨h.1.trans hO.yg, h.2.1.of hO, fun v q => by rw [hO.1 247 (by decide)]; exact h.2.2.1 v q, fun v q => by rw [hO.1 248 (by decide)]; exact h.2.2.2.1 v q, fun v q => by rw [hO.2.1 242 (by decide)]; exact h.2.2.2.2 v q⟩
theorem GBd.a (h : GBd M Mc Y fa fb fn) : GBd M (setI Mc 247 (5 + Y.ns) v) Y (some v) fb fn := ⟨h.1.s (by unfold okY; omega), h.2.1.bey (by omega), fun z q => by rw [setI_p]; exact Option.some.inj q, fun z q => by rw [setI_n (by decide)]; exact h.2.2.2.1 z q, h.2.2.2.2⟩
theorem GBd.b (h : GBd M Mc Y fa fb fn) : GBd M (setI Mc 248 (5 + Y.ns) v) Y fa (some v) fn := ⟨h.1.s (by unfold okY; omega), h.2.1.bey (by omega), fun z q => by rw [setI_n (by decide)]; exact h.2.2.1 z q, fun z q => by rw [setI_p]; exact Option.some.inj q, h.2.2.2.2⟩
theorem GBd.n (h : GBd M Mc Y fa fb fn) : GBd M (setL Mc 242 (5 + Y.ns) w) Y fa fb (some w) := ⟨h.1.sl (by unfold okL; omega), h.2.1.beyl (by omega), h.2.2.1, h.2.2.2.1, fun z q => by rw [setL_21, if_pos ⟨rfl, rfl⟩]; exact Option.some.inj q⟩
theorem GBd.fin {a b : Int32} (h : GBd M Mc Y (some a) (some b) (some w)) (hl : Y.ns < 5) : YG M (setI Mc 240 5 (nI (Y.ns + 1))) ∧ RPy (setI Mc 240 5 (nI (Y.ns + 1))) (addGP Y w a b) := by
  obtain ⟨hF, ⟨h1, h2, h3, h4, h5, h6, h7⟩, z1, z2, z3⟩ := h
  refine ⟨hF.s (by unfold okY; omega), ⟨by rw [setI_1, if_neg (by omega)]; exact h1.1, h1.2⟩, ⟨by rw [setI_p]; rfl, by show Y.ns + 1 ≤ 5; omega⟩, ⟨by rw [setI_1, if_neg (by omega)]; exact h3.1, h3.2⟩, ⟨by rw [setI_1, if_neg (by omega)]; exact h4.1, by rw [setI_n (by decide)]; exact h4.2⟩, fun j hj => ?_, fun j hj => ?_, fun j hj => ?_⟩
  · rw [setI_n (by decide), setI_n (by decide), setI_n (by decide), setI_n (by decide)]
    obtain ⟨y1, y2, y3, y4, y5⟩ := h5 j hj
    rw [y1, y2, y3, y4, show (setI Mc 240 5 (nI (Y.ns + 1))).2.1 241 (6 + j) = Mc.2.1 241 (6 + j) from rfl, y5]
    refine ⟨?_, ?_, ?_, ?_, ?_⟩ <;> simp [addGP, Yv.n, Yv.ns, Yv.nf, Yv.roof, Yv.kind, Yv.heat, Yv.crow, Yv.near, Yv.name, Yv.low, Yv.high, Yv.frost, Yv.sname]
  · have hj2 : j < Y.ns + 1 := hj
    rw [setI_n (by decide), setI_n (by decide)]
    by_cases q : j = Y.ns
    · rw [q, z1 a rfl, z2 b rfl, show (setI Mc 240 5 (nI (Y.ns + 1))).2.1 242 (5 + Y.ns) = Mc.2.1 242 (5 + Y.ns) from rfl, z3 w rfl]
      refine ⟨?_, ?_, ?_⟩ <;> simp [addGP, Yv.n, Yv.ns, Yv.nf, Yv.roof, Yv.kind, Yv.heat, Yv.crow, Yv.near, Yv.name, Yv.low, Yv.high, Yv.frost, Yv.sname]
    · obtain ⟨y1, y2, y3⟩ := h6 j (by omega)
      rw [y1, y2, show (setI Mc 240 5 (nI (Y.ns + 1))).2.1 242 (5 + j) = Mc.2.1 242 (5 + j) from rfl, y3]
      refine ⟨?_, ?_, ?_⟩ <;> simp [addGP, Yv.n, Yv.ns, Yv.nf, Yv.roof, Yv.kind, Yv.heat, Yv.crow, Yv.near, Yv.name, Yv.low, Yv.high, Yv.frost, Yv.sname, show ¬ j = Y.2.1 from q]
  · rw [setI_n (by decide), h7 j hj]; simp [addGP, Yv.n, Yv.ns, Yv.nf, Yv.roof, Yv.kind, Yv.heat, Yv.crow, Yv.near, Yv.name, Yv.low, Yv.high, Yv.frost, Yv.sname]
end
set_option maxHeartbeats 500000 in
set_option maxRecDepth 20000 in
theorem r_readsStage {G : Gt} {M : Mm} {t : Tv} {x : Xv} {P : Pv} (hG : GX M t x) (hP : RPy M P.1) : Call G 5 mX11_readsStage [.ref 238] M (fun r M' => LnY M M' t (tkS t (rg6 t x P) 59) (addGP P.1 (wdX t (rg1 t x P)) (nmX t (rg3 t x P)) (nmX t (rg5 t x P))) r) := by
  obtain ⟨hx0, hx2, hI, hZ, g4, g5, g6, g7, g8⟩ := id hG
  have ht := hZ.2.1
  have hn5 := hP.2.1.2
  refine Call.intro rfl (Nat.le_of_ble_eq_true rfl) ?_
  show Ev G _ mX11_readsStage 0 [.ref 238, RA] [] M _
  refine e_iconst (v := 5) dX11_readsStage_0 (by decide) ?_
  refine e_aload_n dX11_readsStage_1 rfl ?_
  refine e_getR dX11_readsStage_2 fl_X11_13 sh_m rfl ?_
  refine e_iconst (v := 5) dX11_readsStage_5 (by decide) ?_
  refine e_ialdN (j := 5) dX11_readsStage_6 (sa_m_yard) (by decide) (by omega) ?_
  rw [hP.2.1.1]
  refine e_iaddN (a := 5) (b := P.1.ns) dX11_readsStage_7 ?_
  refine e_istore_n (ls' := [_, _]) dX11_readsStage_8 (by decide) rfl ?_
  refine e_iload_n dX11_readsStage_9 rfl ?_
  refine e_bipush (v := 10) dX11_readsStage_10 (by decide) ?_
  refine e_icmp_ne (tgt := 21) dX11_readsStage_12 (by decide) (fun c12 => ?_) (fun c12 => ?_)
  · -- 12 jumps
    have hl : P.1.ns < 5 := by have : ¬ P.1.ns = 5 := fun e => c12 (by rw [e]; rfl); omega
    refine e_aload_n dX11_readsStage_21 rfl ?_
    refine cV0x dX11_readsStage_22 mo_X11_nextToken ml_X11_224 sh_m rfl (Nat.le_of_ble_eq_true rfl) (by omega) (c_nt hG OF.rfl' rfl) ?_
    rintro r M2 ⟨rfl, hN, hG2⟩
    dsimp only [Option.toList, List.cons_append, List.nil_append]
    have hP2 := hP.of hN.of
    refine e_aload_n dX11_readsStage_25 rfl ?_
    refine cV0x dX11_readsStage_26 mo_X11_needsNew ml_X11_298 sh_m rfl (Nat.le_of_ble_eq_true rfl) (by omega) (r_needsNew hG2 hP2.nm hP2.sm) ?_
    rintro r M3 ⟨hO3, hA3, hF3⟩
    have hB3 := GBd.st hP |>.of (hN.of.trans hO3)
    rcases hA3 with ⟨z1, rfl, z2⟩ | ⟨z1, rfl, z2⟩
    · -- ok at 26
      dsimp only [Option.toList, List.cons_append, List.nil_append]
      have hG3 := z2
      have hw3 := hF3 z1
      refine e_if_ne (tgt := 34) dX11_readsStage_29 (by decide) (fun c29 => ?_) (fun c29 => absurd c29 (by decide))
      refine e_aload_n dX11_readsStage_34 rfl ?_
      refine e_ldc2 dX11_readsStage_35 kl_X11_250 ?_
      refine e_iconst (v := 0) dX11_readsStage_38 (by decide) ?_
      refine e_bipush (v := 60) dX11_readsStage_39 (by decide) ?_
      refine cV3x dX11_readsStage_41 mo_X11_needsBoth ml_X11_301 sh_m rfl (Nat.le_of_ble_eq_true rfl) (by omega) (r_needsBoth (k := 6) hG3 (by decide)) ?_
      rintro r M4 ⟨hO4, hA4, hF4, hf4⟩
      have hB4 := hB3.of hO4
      rcases hA4 with ⟨z1, rfl, z2⟩ | ⟨z1, rfl, z2⟩
      · -- ok at 41
        dsimp only [Option.toList, List.cons_append, List.nil_append]
        have hG4 := z2
        refine e_if_ne (tgt := 49) dX11_readsStage_44 (by decide) (fun c44 => ?_) (fun c44 => absurd c44 (by decide))
        refine e_aload_n dX11_readsStage_49 rfl ?_
        refine e_getR dX11_readsStage_50 fl_X11_35 sh_m rfl ?_
        refine e_iload_n dX11_readsStage_53 rfl ?_
        refine e_aload_n dX11_readsStage_54 rfl ?_
        refine e_getI dX11_readsStage_55 fl_X11_278 sh_m rfl ?_
        rw [hF4 z1]
        refine e_iastN (j := (5 + P.1.ns)) dX11_readsStage_58 (sa_m_wantsFrom) (by decide) (by omega) ?_
        have hB5 := hB4.a (v := nmX t (tkW t (tkM t (advX t x) P.1) 6))
        refine e_aload_n dX11_readsStage_59 rfl ?_
        refine e_ldc2 dX11_readsStage_60 kl_X11_252 ?_
        refine e_aload_n dX11_readsStage_63 rfl ?_
        refine e_getR dX11_readsStage_64 fl_X11_35 sh_m rfl ?_
        refine e_iload_n dX11_readsStage_67 rfl ?_
        refine e_ialdN (j := (5 + P.1.ns)) dX11_readsStage_68 (sa_m_wantsFrom) (by decide) (by omega) ?_
        rw [setI_p]
        refine e_bipush (v := 99) dX11_readsStage_69 (by decide) ?_
        refine cV3x dX11_readsStage_71 mo_X11_needsBoth ml_X11_301 sh_m rfl (Nat.le_of_ble_eq_true rfl) (by omega) (r_needsBoth (k := 7) (hG4.s (by omega)) (by decide)) ?_
        rintro r M6 ⟨hO6, hA6, hF6, hf6⟩
        have hB6 := hB5.of hO6
        rcases hA6 with ⟨z1, rfl, z2⟩ | ⟨z1, rfl, z2⟩
        · -- ok at 71
          dsimp only [Option.toList, List.cons_append, List.nil_append]
          have hG6 := z2
          refine e_if_ne (tgt := 79) dX11_readsStage_74 (by decide) (fun c74 => ?_) (fun c74 => absurd c74 (by decide))
          refine e_aload_n dX11_readsStage_79 rfl ?_
          refine e_getR dX11_readsStage_80 fl_X11_38 sh_m rfl ?_
          refine e_iload_n dX11_readsStage_83 rfl ?_
          refine e_aload_n dX11_readsStage_84 rfl ?_
          refine e_getI dX11_readsStage_85 fl_X11_278 sh_m rfl ?_
          rw [hF6 z1]
          refine e_iastN (j := (5 + P.1.ns)) dX11_readsStage_88 (sa_m_wantsTo) (by decide) (by omega) ?_
          have hB7 := hB6.b (v := nmX t (tkW t (tkN t (tkW t (tkM t (advX t x) P.1) 6) 0 60) 7))
          refine e_aload_n dX11_readsStage_89 rfl ?_
          refine e_getR dX11_readsStage_90 fl_X11_20 sh_m rfl ?_
          refine e_iload_n dX11_readsStage_93 rfl ?_
          refine e_aload_n dX11_readsStage_94 rfl ?_
          refine e_getL dX11_readsStage_95 fl_X11_295 sh_m rfl ?_
          rw [show (setI M6 248 (5 + P.1.ns) _).2.1 238 38 = wdX t (advX t x) from hf6.trans ((show (setI M4 247 (5 + P.1.ns) _).2.1 238 38 = M4.2.1 238 38 from rfl).trans (hf4.trans hw3))]
          refine e_lastN (j := (5 + P.1.ns)) dX11_readsStage_98 (sa_m_stageName) (by decide) (by omega) ?_
          have hB8 := hB7.n (w := wdX t (advX t x))
          have hFin := hB8.fin hl
          refine e_aload_n dX11_readsStage_99 rfl ?_
          refine e_getR dX11_readsStage_100 fl_X11_13 sh_m rfl ?_
          refine e_iconst (v := 5) dX11_readsStage_103 (by decide) ?_
          refine e_dup2 dX11_readsStage_104 rfl rfl ?_
          refine e_ialdN (j := 5) dX11_readsStage_105 (sa_m_yard) (by decide) (by omega) ?_
          rw [hB8.2.1.2.1.1]
          refine e_iconst (v := 1) dX11_readsStage_106 (by decide) ?_
          refine e_iaddN (a := P.1.ns) (b := 1) dX11_readsStage_107 ?_
          refine e_iastN (j := 5) dX11_readsStage_108 (sa_m_yard) (by decide) (by omega) ?_
          refine e_aload_n dX11_readsStage_109 rfl ?_
          refine cV0x dX11_readsStage_110 mo_X11_closes ml_X11_305 sh_m rfl (Nat.le_of_ble_eq_true rfl) (by omega) (r_closes (((hG6.s (by omega)).sl (by omega)).s (by omega))) ?_
          rintro r M8 ⟨hO8, hA8⟩
          rcases hA8 with ⟨z1, rfl, z2⟩ | ⟨z1, rfl, z2⟩
          · -- ok at 110
            dsimp only [Option.toList, List.cons_append, List.nil_append]
            refine e_zret dX11_readsStage_113 rfl (by first | rfl | exact b2i_nar _) ?_
            have e : rg1 t x P = advX t x := by show advX t (if P.1.ns < 5 then x else failX t 5 x) = _; rw [if_pos hl]
            dsimp only [rg6, rg5, rg4, rg3, rg2]
            rw [e]
            exact ⟨hFin.1.trans hO8.yg, Or.inl ⟨z1, rfl, z2⟩, fun _ => hFin.2.of hO8⟩
          · -- no at 110
            dsimp only [Option.toList, List.cons_append, List.nil_append]
            refine e_zret dX11_readsStage_113 rfl (by first | rfl | exact b2i_nar _) ?_
            have e : rg1 t x P = advX t x := by show advX t (if P.1.ns < 5 then x else failX t 5 x) = _; rw [if_pos hl]
            dsimp only [rg6, rg5, rg4, rg3, rg2]
            rw [e]
            exact ⟨hFin.1.trans hO8.yg, Or.inr ⟨z1, rfl, z2⟩, fun q => absurd q z1⟩
        · -- no at 71
          dsimp only [Option.toList, List.cons_append, List.nil_append]
          refine e_if_ne (tgt := 79) dX11_readsStage_74 (by decide) (fun c74 => absurd c74 (by decide)) (fun c74 => ?_)
          refine e_iconst (v := 0) dX11_readsStage_77 (by decide) ?_
          refine e_zret dX11_readsStage_78 rfl (by first | rfl | exact b2i_nar _) ?_
          have e : rg1 t x P = advX t x := by show advX t (if P.1.ns < 5 then x else failX t 5 x) = _; rw [if_pos hl]
          have e2 : tkS t (rg6 t x P) 59 = (tkN t (tkW t (tkN t (tkW t (tkM t (advX t x) P.1) 6) 0 60) 7) (nmX t (tkW t (tkM t (advX t x) P.1) 6)) 99) := by dsimp only [rg6, rg5, rg4, rg3, rg2]; rw [e, st_S z1]
          exact ⟨hB6.1, Or.inr ⟨by rw [e2]; exact z1, rfl, by rw [e2]; exact z2⟩, fun q => absurd q (by rw [e2]; exact z1)⟩
      · -- no at 41
        dsimp only [Option.toList, List.cons_append, List.nil_append]
        refine e_if_ne (tgt := 49) dX11_readsStage_44 (by decide) (fun c44 => absurd c44 (by decide)) (fun c44 => ?_)
        refine e_iconst (v := 0) dX11_readsStage_47 (by decide) ?_
        refine e_zret dX11_readsStage_48 rfl (by first | rfl | exact b2i_nar _) ?_
        have e : rg1 t x P = advX t x := by show advX t (if P.1.ns < 5 then x else failX t 5 x) = _; rw [if_pos hl]
        have e2 : tkS t (rg6 t x P) 59 = (tkN t (tkW t (tkM t (advX t x) P.1) 6) 0 60) := by dsimp only [rg6, rg5, rg4, rg3, rg2]; rw [e, st_W z1, st_N z1, st_S z1]
        exact ⟨hB4.1, Or.inr ⟨by rw [e2]; exact z1, rfl, by rw [e2]; exact z2⟩, fun q => absurd q (by rw [e2]; exact z1)⟩
    · -- no at 26
      dsimp only [Option.toList, List.cons_append, List.nil_append]
      refine e_if_ne (tgt := 34) dX11_readsStage_29 (by decide) (fun c29 => absurd c29 (by decide)) (fun c29 => ?_)
      refine e_iconst (v := 0) dX11_readsStage_32 (by decide) ?_
      refine e_zret dX11_readsStage_33 rfl (by first | rfl | exact b2i_nar _) ?_
      have e : rg1 t x P = advX t x := by show advX t (if P.1.ns < 5 then x else failX t 5 x) = _; rw [if_pos hl]
      have e2 : tkS t (rg6 t x P) 59 = (tkM t (advX t x) P.1) := by dsimp only [rg6, rg5, rg4, rg3, rg2]; rw [e, st_W z1, st_N z1, st_W z1, st_N z1, st_S z1]
      exact ⟨(hN.of.trans hO3).yg, Or.inr ⟨by rw [e2]; exact z1, rfl, by rw [e2]; exact z2⟩, fun q => absurd q (by rw [e2]; exact z1)⟩
  · -- 12 goes on
    refine e_aload_n dX11_readsStage_15 rfl ?_
    refine e_iconst (v := 5) dX11_readsStage_16 (by decide) ?_
    refine cV1r dX11_readsStage_17 mo_X11_fails ml_X11_217 sh_m rfl (Nat.le_of_ble_eq_true rfl) (by omega) (r_fails (k := 5) g5) ?_
    refine e_zret dX11_readsStage_20 rfl (by first | rfl | exact b2i_nar _) ?_
    have hl : ¬ P.1.ns < 5 := by have := nI_injN (a := 5 + P.1.ns) (b := 10) (by omega) (by omega) c12; omega
    have hz := fail_nz (t := t) (x := x) (k := 5) (by decide) hx2 hI
    have e1 : rg1 t x P = failX t (nI 5) x := by show advX t (if P.1.ns < 5 then x else failX t 5 x) = _; rw [if_neg hl]; exact fl_adv (by decide) hx2 hI
    have hz1 : ¬ (rg1 t x P).1 = 0 := by rw [e1]; exact hz
    have e2 : tkS t (rg6 t x P) 59 = rg1 t x P := by show tkS t (rg6 t x P) 59 = _; dsimp only [rg6, rg5, rg4, rg3, rg2]; rw [st_M hz1, st_W hz1, st_N hz1, st_W hz1, st_N hz1, st_S hz1]
    exact ⟨of9.yg, RA1.f hG (k := 5) (by decide) (e2.trans e1), fun q => absurd q (by rw [e2]; exact hz1)⟩
theorem RPy.roof {M : Mm} {Y : Yv} {v : Int32} (h : ∃ M0, RPy M0 Y ∧ (∀ c k, ¬ c = 238 → M.1 c k = M0.1 c k) ∧ (∀ c k, ¬ c = 238 → M.2.1 c k = M0.2.1 c k)) (h24 : M.1 238 24 = 1) (hv : ¬ v = 0) : RPy (setI M 240 7 v) (setRP Y v) := by
  obtain ⟨M0, ⟨h1, h2, h3, h4, h5, h6, h7⟩, e1, e2⟩ := h
  refine ⟨⟨by rw [setI_1, if_neg (by omega), e1 240 4 (by decide)]; exact h1.1, h1.2⟩, ⟨by rw [setI_1, if_neg (by omega), e1 240 5 (by decide)]; exact h2.1, h2.2⟩, ⟨by rw [setI_1, if_neg (by omega), e1 240 6 (by decide)]; exact h3.1, h3.2⟩, ⟨by rw [setI_p]; show v = if v = 0 then 30 else v; rw [if_neg hv], by rw [setI_n (by decide), h24]; show (1 : Int32) = if v = 0 then 0 else 1; rw [if_neg hv]⟩, fun j hj => ?_, fun j hj => ?_, fun j hj => ?_⟩
  · rw [setI_n (by decide), setI_n (by decide), setI_n (by decide), setI_n (by decide), e1 243 _ (by decide), e1 244 _ (by decide), e1 245 _ (by decide), e1 246 _ (by decide), show (setI M 240 7 v).2.1 241 (6 + j) = M.2.1 241 (6 + j) from rfl, e2 241 _ (by decide)]; exact h5 j hj
  · rw [setI_n (by decide), setI_n (by decide), e1 247 _ (by decide), e1 248 _ (by decide), show (setI M 240 7 v).2.1 242 (5 + j) = M.2.1 242 (5 + j) from rfl, e2 242 _ (by decide)]; exact h6 j hj
  · rw [setI_n (by decide), e1 249 _ (by decide)]; exact h7 j hj
theorem GX.f24 {M : Mm} {t : Tv} {x : Xv} {v : Int32} (h : GX M t x) : GX (setI M 238 24 v) t x := by
  obtain ⟨a, b, e, ⟨z1, z2, z3⟩, e1, e2, e3, e4, e5⟩ := h
  exact ⟨a, b, e, ⟨by rw [setI_1, if_neg (by omega)]; exact z1, z2, fun k hk => by rw [setI_n (by decide)]; exact z3 k hk⟩, by rw [setI_1, if_neg (by omega)]; exact e1, by rw [setI_1, if_neg (by omega)]; exact e2, by rw [setI_1, if_neg (by omega)]; exact e3, e4, fun q => by rw [setI_1, if_neg (by omega)]; exact e5 q⟩
set_option maxHeartbeats 500000 in
set_option maxRecDepth 20000 in
theorem r_readsRoof {G : Gt} {M : Mm} {t : Tv} {x : Xv} {P : Pv} (hG : GX M t x) (hP : RPy M P.1) (hr0 : ¬ P.1.roof = 0 → 0 < P.1.roof) : Call G 4 mX11_readsRoof [.ref 238] M (fun r M' => LnY M M' t (tkS t (tkN t (rr1 t x P) 5 60) 59) (setRP P.1 (nmX t (rr1 t x P))) r) := by
  obtain ⟨hx0, hx2, hI, hZ, g4, g5, g6, g7, g8⟩ := id hG
  have ht := hZ.2.1
  refine Call.intro rfl (Nat.le_of_ble_eq_true rfl) ?_
  show Ev G _ mX11_readsRoof 0 [.ref 238] [] M _
  refine e_aload_n dX11_readsRoof_0 rfl ?_
  refine e_getI dX11_readsRoof_1 fl_X11_311 sh_m rfl ?_
  rw [hP.2.2.2.1.2]
  refine e_if_eq (tgt := 13) dX11_readsRoof_4 (by decide) (fun c4 => ?_) (fun c4 => ?_)
  · -- 4 jumps
    have hz0 : P.1.roof = 0 := by by_cases q : P.1.roof = 0; exact q; rw [if_neg q] at c4; exact absurd c4 (by decide)
    refine e_aload_n dX11_readsRoof_13 rfl ?_
    refine e_iconst (v := 1) dX11_readsRoof_14 (by decide) ?_
    refine e_putI dX11_readsRoof_15 fl_X11_311 sh_m rfl (by first | rfl | exact b2i_nar _ | assumption) rfl ?_
    refine e_aload_n dX11_readsRoof_18 rfl ?_
    refine cV0x dX11_readsRoof_19 mo_X11_nextToken ml_X11_224 sh_m rfl (Nat.le_of_ble_eq_true rfl) (by omega) (c_nt hG.f24 OF.rfl' rfl) ?_
    rintro r M2 ⟨rfl, hN, hG2⟩
    dsimp only [Option.toList, List.cons_append, List.nil_append]
    refine e_aload_n dX11_readsRoof_22 rfl ?_
    refine e_iconst (v := 5) dX11_readsRoof_23 (by decide) ?_
    refine e_bipush (v := 60) dX11_readsRoof_24 (by decide) ?_
    refine cV2x dX11_readsRoof_26 mo_X11_needsNumber ml_X11_281 sh_m rfl (Nat.le_of_ble_eq_true rfl) (by omega) (r_needsNumber hG2) ?_
    rintro r M3 ⟨hO3, hA3, hF3, -⟩
    rcases hA3 with ⟨z1, rfl, z2⟩ | ⟨z1, rfl, z2⟩
    · -- ok at 26
      dsimp only [Option.toList, List.cons_append, List.nil_append]
      have hG3 := z2
      refine e_if_ne (tgt := 34) dX11_readsRoof_29 (by decide) (fun c29 => ?_) (fun c29 => absurd c29 (by decide))
      refine e_aload_n dX11_readsRoof_34 rfl ?_
      refine e_getR dX11_readsRoof_35 fl_X11_13 sh_m rfl ?_
      refine e_bipush (v := 7) dX11_readsRoof_38 (by decide) ?_
      refine e_aload_n dX11_readsRoof_40 rfl ?_
      refine e_getI dX11_readsRoof_41 fl_X11_278 sh_m rfl ?_
      rw [hF3 z1]
      refine e_iastN (j := 7) dX11_readsRoof_44 (sa_m_yard) (by decide) (by omega) ?_
      have h24 : M3.1 238 24 = 1 := (hO3.2.2.2 24 (by omega)).trans ((hN.of.2.2.2 24 (by omega)).trans (by rw [setI_p]))
      have hv0 : ¬ nmX t (advX t x) = 0 := fun q => by have := (tkN_0 z1 hG2.2.1 hI).2; rw [q] at this; exact this.1 (by decide)
      have hR7 := RPy.roof (M := M3) (Y := P.1) (v := nmX t (advX t x)) ⟨M, hP, fun c k q => by rw [hO3.1 c q, hN.of.1 c q, setI_n q], fun c k q => by rw [hO3.2.1 c q, hN.of.2.1 c q]; rfl⟩ h24 hv0
      refine e_aload_n dX11_readsRoof_45 rfl ?_
      refine cV0x dX11_readsRoof_46 mo_X11_closes ml_X11_305 sh_m rfl (Nat.le_of_ble_eq_true rfl) (by omega) (r_closes (hG3.s (by omega))) ?_
      rintro r M4 ⟨hO4, hA4⟩
      rcases hA4 with ⟨z1, rfl, z2⟩ | ⟨z1, rfl, z2⟩
      · -- ok at 46
        dsimp only [Option.toList, List.cons_append, List.nil_append]
        refine e_zret dX11_readsRoof_49 rfl (by first | rfl | exact b2i_nar _) ?_
        have e1 : rr1 t x P = advX t x := by show advX t (if 0 < P.1.roof then failX t 3 x else x) = _; rw [if_neg (fun q => by rw [hz0] at q; exact absurd q (by decide))]
        rw [e1]
        exact ⟨(((YG.rfl'.f24.trans hN.of.yg).trans hO3.yg).s (by unfold okY; omega)).trans hO4.yg, Or.inl ⟨z1, rfl, z2⟩, fun _ => hR7.of hO4⟩
      · -- no at 46
        dsimp only [Option.toList, List.cons_append, List.nil_append]
        refine e_zret dX11_readsRoof_49 rfl (by first | rfl | exact b2i_nar _) ?_
        have e1 : rr1 t x P = advX t x := by show advX t (if 0 < P.1.roof then failX t 3 x else x) = _; rw [if_neg (fun q => by rw [hz0] at q; exact absurd q (by decide))]
        rw [e1]
        exact ⟨(((YG.rfl'.f24.trans hN.of.yg).trans hO3.yg).s (by unfold okY; omega)).trans hO4.yg, Or.inr ⟨z1, rfl, z2⟩, fun q => absurd q z1⟩
    · -- no at 26
      dsimp only [Option.toList, List.cons_append, List.nil_append]
      refine e_if_ne (tgt := 34) dX11_readsRoof_29 (by decide) (fun c29 => absurd c29 (by decide)) (fun c29 => ?_)
      refine e_iconst (v := 0) dX11_readsRoof_32 (by decide) ?_
      refine e_zret dX11_readsRoof_33 rfl (by first | rfl | exact b2i_nar _) ?_
      have e1 : rr1 t x P = advX t x := by show advX t (if 0 < P.1.roof then failX t 3 x else x) = _; rw [if_neg (fun q => by rw [hz0] at q; exact absurd q (by decide))]
      have e2 : tkS t (tkN t (rr1 t x P) 5 60) 59 = tkN t (advX t x) 5 60 := by rw [e1, st_S z1]
      exact ⟨(YG.rfl'.f24.trans hN.of.yg).trans hO3.yg, Or.inr ⟨by rw [e2]; exact z1, rfl, by rw [e2]; exact z2⟩, fun q => absurd q (by rw [e2]; exact z1)⟩
  · -- 4 goes on
    refine e_aload_n dX11_readsRoof_7 rfl ?_
    refine e_iconst (v := 3) dX11_readsRoof_8 (by decide) ?_
    refine cV1r dX11_readsRoof_9 mo_X11_fails ml_X11_217 sh_m rfl (Nat.le_of_ble_eq_true rfl) (by omega) (r_fails (k := 3) g5) ?_
    refine e_zret dX11_readsRoof_12 rfl (by first | rfl | exact b2i_nar _) ?_
    have h0 : 0 < P.1.roof := by by_cases q : P.1.roof = 0; rw [if_pos q] at c4; exact absurd rfl c4; exact hr0 q
    have hz := fail_nz (t := t) (x := x) (k := 3) (by decide) hx2 hI
    have e1 : rr1 t x P = failX t (nI 3) x := by show advX t (if 0 < P.1.roof then failX t 3 x else x) = _; rw [if_pos h0]; exact fl_adv (by decide) hx2 hI
    have hz1 : ¬ (rr1 t x P).1 = 0 := by rw [e1]; exact hz
    have e2 : tkS t (tkN t (rr1 t x P) 5 60) 59 = rr1 t x P := by show tkS t (tkN t (rr1 t x P) 5 60) 59 = _; rw [st_N hz1, st_S hz1]
    exact ⟨of9.yg, RA1.f hG (k := 3) (by decide) (e2.trans e1), fun q => absurd q (by rw [e2]; exact hz1)⟩
end RYM
