section RYF
theorem RPy.near {M : Mm} {Y : Yv} {a b : Nat} (h : RPy M Y) (ha : a < Y.n) (hb : b < Y.n) (hab : ¬ a = b) : RPy (setI (setI M 246 (6 + a) (Y.near a ||| b1 (nI b))) 246 (6 + b) (Y.near b ||| b1 (nI a))) (addNP Y a b) := by
  obtain ⟨h1, h2, h3, h4, h5, h6, h7⟩ := h
  refine ⟨⟨by rw [setI_n (by decide), setI_n (by decide)]; exact h1.1, h1.2⟩, ⟨by rw [setI_n (by decide), setI_n (by decide)]; exact h2.1, h2.2⟩, ⟨by rw [setI_n (by decide), setI_n (by decide)]; exact h3.1, h3.2⟩, ⟨by rw [setI_n (by decide), setI_n (by decide)]; exact h4.1, by rw [setI_n (by decide), setI_n (by decide)]; exact h4.2⟩, fun j hj => ?_, fun j hj => ?_, fun j hj => ?_⟩
  · obtain ⟨y1, y2, y3, y4, y5⟩ := h5 j hj
    rw [setI_n (by decide), setI_n (by decide), setI_n (by decide), setI_n (by decide), setI_n (by decide), setI_n (by decide), y1, y2, y3, show (setI (setI M 246 (6 + a) (Y.near a ||| b1 (nI b))) 246 (6 + b) (Y.near b ||| b1 (nI a))).2.1 241 (6 + j) = M.2.1 241 (6 + j) from rfl, y5]
    refine ⟨rfl, rfl, rfl, ?_, rfl⟩
    show _ = if 3 = 3 ∧ j = b then (if b = a then Y.near a ||| b1 (nI b) else Y.near b) ||| b1 (nI a) else if 3 = 3 ∧ j = a then Y.near a ||| b1 (nI b) else Y.near j
    by_cases q : j = b
    · rw [if_pos ⟨rfl, q⟩, if_neg (fun z => hab z.symm), q, setI_p]
    · rw [if_neg (fun z => q z.2), setI_1, if_neg (by omega)]
      by_cases z : j = a
      · rw [if_pos ⟨rfl, z⟩, z, setI_p]
      · rw [if_neg (fun y => z y.2), setI_1, if_neg (by omega)]; exact y4
  · rw [setI_n (by decide), setI_n (by decide), setI_n (by decide), setI_n (by decide)]; exact h6 j hj
  · rw [setI_n (by decide), setI_n (by decide)]; exact h7 j hj
theorem rn6_f {t : Tv} {x : Xv} {P : Pv} (h : ¬ (rn4 t x P).1 = 0) : rn6 t x P = rn4 t x P := by
  show advX t (if rnD t x P then failX t 3 (rn4 t x P) else rn4 t x P) = _
  split
  · rw [fail_f h, adv_f h]
  · rw [adv_f h]
set_option maxHeartbeats 500000 in
set_option maxRecDepth 20000 in
theorem r_readsNear {G : Gt} {M : Mm} {t : Tv} {x : Xv} {P : Pv} (hG : GX M t x) (hP : RPy M P.1) : Call G 4 mX11_readsNear [.ref 238] M (fun r M' => LnY M M' t (tkS t (rn6 t x P) 59) (addNP P.1 (rnA t x P) (rnB t x P)) r) := by
  obtain ⟨hx0, hx2, hI, hZ, g4, g5, g6, g7, g8⟩ := id hG
  have ht := hZ.2.1
  have hn6 := hP.1.2
  refine Call.intro rfl (Nat.le_of_ble_eq_true rfl) ?_
  show Ev G _ mX11_readsNear 0 [.ref 238, RA] [] M _
  refine e_aload_n dX11_readsNear_0 rfl ?_
  refine cV0x dX11_readsNear_1 mo_X11_nextToken ml_X11_224 sh_m rfl (Nat.le_of_ble_eq_true rfl) (by omega) (c_nt hG OF.rfl' rfl) ?_
  rintro r M2 ⟨rfl, hN, hG2⟩
  dsimp only [Option.toList, List.cons_append, List.nil_append]
  have hP2 := hP.of hN.of
  refine e_aload_n dX11_readsNear_4 rfl ?_
  refine e_iconst (v := 1) dX11_readsNear_5 (by decide) ?_
  refine cV1x dX11_readsNear_6 mo_X11_needsShed ml_X11_308 sh_m rfl (Nat.le_of_ble_eq_true rfl) (by omega) (r_needsShed hG2 (q := 1) (by decide) hP2.nm) ?_
  rintro r M3 ⟨hO3, hA3, hF3⟩
  rcases hA3 with ⟨z1, rfl, z2⟩ | ⟨z1, rfl, z2⟩
  · -- ok at 6
    dsimp only [Option.toList, List.cons_append, List.nil_append]
    have hG3 := z2
    obtain ⟨a, la, fa, va⟩ := hF3 z1
    refine e_if_ne (tgt := 14) dX11_readsNear_9 (by decide) (fun c9 => ?_) (fun c9 => absurd c9 (by decide))
    refine e_aload_n dX11_readsNear_14 rfl ?_
    refine e_getI dX11_readsNear_15 fl_X11_278 sh_m rfl ?_
    rw [va]
    refine e_istore_n (ls' := [_, _]) dX11_readsNear_18 (by decide) rfl ?_
    refine e_aload_n dX11_readsNear_19 rfl ?_
    refine cV0x dX11_readsNear_20 mo_X11_nextToken ml_X11_224 sh_m rfl (Nat.le_of_ble_eq_true rfl) (by omega) (c_nt hG3 OF.rfl' rfl) ?_
    rintro r M4 ⟨rfl, hN4, hG4⟩
    dsimp only [Option.toList, List.cons_append, List.nil_append]
    refine e_aload_n dX11_readsNear_23 rfl ?_
    refine e_iconst (v := 1) dX11_readsNear_24 (by decide) ?_
    refine cV1x dX11_readsNear_25 mo_X11_needsShed ml_X11_308 sh_m rfl (Nat.le_of_ble_eq_true rfl) (by omega) (r_needsShed hG4 (q := 1) (by decide) ((hP2.of hO3).of hN4.of).nm) ?_
    rintro r M5 ⟨hO5a, hA5, hF5⟩
    have hO5 : OF M M5 := ((hN.of.trans hO3).trans hN4.of).trans hO5a
    have hP5 := hP.of hO5
    rcases hA5 with ⟨z1, rfl, z2⟩ | ⟨z1, rfl, z2⟩
    · -- ok at 25
      dsimp only [Option.toList, List.cons_append, List.nil_append]
      have hG5 := z2
      obtain ⟨b, lb, fb, vb⟩ := hF5 z1
      have eA : rnA t x P = a := by show (fnd P.1.name P.1.n (wdX t (rn1 t x))).getD 0 = a; rw [fa]; rfl
      have eB : rnB t x P = b := by show (fnd P.1.name P.1.n (wdX t (rn3 t x P))).getD 0 = b; rw [fb]; rfl
      refine e_if_ne (tgt := 33) dX11_readsNear_28 (by decide) (fun c28 => ?_) (fun c28 => absurd c28 (by decide))
      refine e_iload_n dX11_readsNear_33 rfl ?_
      refine e_aload_n dX11_readsNear_34 rfl ?_
      refine e_getI dX11_readsNear_35 fl_X11_278 sh_m rfl ?_
      rw [vb]
      refine e_icmp_eq (tgt := 61) dX11_readsNear_38 (by decide) (fun c38 => ?_) (fun c38 => ?_)
      · -- 38 jumps
        refine e_aload_n dX11_readsNear_61 rfl ?_
        refine e_iconst (v := 3) dX11_readsNear_62 (by decide) ?_
        refine cV1r dX11_readsNear_63 mo_X11_fails ml_X11_217 sh_m rfl (Nat.le_of_ble_eq_true rfl) (by omega) (r_fails (k := 3) hG5.2.2.2.2.2.1) ?_
        refine e_zret dX11_readsNear_66 rfl (by first | rfl | exact b2i_nar _) ?_
        have hz := fail_nz (t := t) (x := rn4 t x P) (k := 3) (by decide) hG5.2.1 hI
        have e2 : tkS t (rn6 t x P) 59 = failX t (nI 3) (rn4 t x P) := by
          have e6 : rn6 t x P = failX t (nI 3) (rn4 t x P) := by
            show advX t (if rnD t x P then failX t 3 (rn4 t x P) else rn4 t x P) = _
            rw [if_pos (Or.inl (by rw [eA, eB]; exact nI_injN (by omega) (by omega) c38))]; exact fl_adv (by decide) hG5.2.1 hI
          rw [e6, st_S hz]
        exact ⟨(hO5.trans of9).yg, RA1.f hG5 (k := 3) (by decide) e2, fun q => absurd q (by rw [e2]; exact hz)⟩
      · -- 38 goes on
        refine e_aload_n dX11_readsNear_41 rfl ?_
        refine e_getR dX11_readsNear_42 fl_X11_32 sh_m rfl ?_
        refine e_bipush (v := 6) dX11_readsNear_45 (by decide) ?_
        refine e_iload_n dX11_readsNear_47 rfl ?_
        refine e_iaddN (a := 6) (b := a) dX11_readsNear_48 ?_
        refine e_ialdN (j := (6 + a)) dX11_readsNear_49 (sa_m_near) (by decide) (by omega) ?_
        rw [(hP5.2.2.2.2.1 a la).2.2.2.1]
        refine e_aload_n dX11_readsNear_50 rfl ?_
        refine e_getI dX11_readsNear_51 fl_X11_278 sh_m rfl ?_
        rw [vb]
        refine e_ishr dX11_readsNear_54 ?_
        refine e_iconst (v := 1) dX11_readsNear_55 (by decide) ?_
        refine e_iand dX11_readsNear_56 ?_
        refine e_iconst (v := 1) dX11_readsNear_57 (by decide) ?_
        refine e_icmp_ne (tgt := 67) dX11_readsNear_58 (by decide) (fun c58 => ?_) (fun c58 => ?_)
        · -- 58 jumps
          have hab : ¬ a = b := fun q => c38 (by rw [q])
          have e6 : rn6 t x P = advX t (rn4 t x P) := by
            show advX t (if rnD t x P then failX t 3 (rn4 t x P) else rn4 t x P) = _
            rw [if_neg (fun q => by rcases q with q | q; exact hab (by rw [← eA, ← eB]; exact q); rw [eA, eB] at q; exact c58 q)]
          refine e_aload_n dX11_readsNear_67 rfl ?_
          refine e_getR dX11_readsNear_68 fl_X11_32 sh_m rfl ?_
          refine e_bipush (v := 6) dX11_readsNear_71 (by decide) ?_
          refine e_iload_n dX11_readsNear_73 rfl ?_
          refine e_iaddN (a := 6) (b := a) dX11_readsNear_74 ?_
          refine e_dup2 dX11_readsNear_75 rfl rfl ?_
          refine e_ialdN (j := (6 + a)) dX11_readsNear_76 (sa_m_near) (by decide) (by omega) ?_
          rw [(hP5.2.2.2.2.1 a la).2.2.2.1]
          refine e_iconst (v := 1) dX11_readsNear_77 (by decide) ?_
          refine e_aload_n dX11_readsNear_78 rfl ?_
          refine e_getI dX11_readsNear_79 fl_X11_278 sh_m rfl ?_
          rw [vb]
          refine e_ishl dX11_readsNear_82 ?_
          refine e_ior dX11_readsNear_83 ?_
          refine e_iastN (j := (6 + a)) dX11_readsNear_84 (sa_m_near) (by decide) (by omega) ?_
          refine e_aload_n dX11_readsNear_85 rfl ?_
          refine e_getR dX11_readsNear_86 fl_X11_32 sh_m rfl ?_
          refine e_bipush (v := 6) dX11_readsNear_89 (by decide) ?_
          refine e_aload_n dX11_readsNear_91 rfl ?_
          refine e_getI dX11_readsNear_92 fl_X11_278 sh_m rfl ?_
          rw [setI_n (by decide), vb]
          refine e_iaddN (a := 6) (b := b) dX11_readsNear_95 ?_
          refine e_dup2 dX11_readsNear_96 rfl rfl ?_
          refine e_ialdN (j := (6 + b)) dX11_readsNear_97 (sa_m_near) (by decide) (by omega) ?_
          rw [setI_1, if_neg (by omega), (hP5.2.2.2.2.1 b lb).2.2.2.1]
          refine e_iconst (v := 1) dX11_readsNear_98 (by decide) ?_
          refine e_iload_n dX11_readsNear_99 rfl ?_
          refine e_ishl dX11_readsNear_100 ?_
          refine e_ior dX11_readsNear_101 ?_
          refine e_iastN (j := (6 + b)) dX11_readsNear_102 (sa_m_near) (by decide) (by omega) ?_
          refine e_aload_n dX11_readsNear_103 rfl ?_
          refine cV0x dX11_readsNear_104 mo_X11_nextToken ml_X11_224 sh_m rfl (Nat.le_of_ble_eq_true rfl) (by omega) (c_nt ((hG5.s (by omega)).s (by omega)) OF.rfl' rfl) ?_
          rintro r M7 ⟨rfl, hN7, hG7⟩
          dsimp only [Option.toList, List.cons_append, List.nil_append]
          have hR7 := hP5.near la lb hab
          refine e_aload_n dX11_readsNear_107 rfl ?_
          refine cV0x dX11_readsNear_108 mo_X11_closes ml_X11_305 sh_m rfl (Nat.le_of_ble_eq_true rfl) (by omega) (r_closes (x := rn6 t x P) (by rw [e6]; exact hG7)) ?_
          rintro r M8 ⟨hO8, hA8⟩
          rcases hA8 with ⟨z1, rfl, z2⟩ | ⟨z1, rfl, z2⟩
          · -- ok at 108
            dsimp only [Option.toList, List.cons_append, List.nil_append]
            refine e_zret dX11_readsNear_111 rfl (by first | rfl | exact b2i_nar _) ?_
            rw [eA, eB]
            exact ⟨((((hO5.yg).s (by unfold okY; omega)).s (by unfold okY; omega)).trans hN7.of.yg).trans hO8.yg, Or.inl ⟨z1, rfl, z2⟩, fun _ => (hR7.of hN7.of).of hO8⟩
          · -- no at 108
            dsimp only [Option.toList, List.cons_append, List.nil_append]
            refine e_zret dX11_readsNear_111 rfl (by first | rfl | exact b2i_nar _) ?_
            rw [eA, eB]
            exact ⟨((((hO5.yg).s (by unfold okY; omega)).s (by unfold okY; omega)).trans hN7.of.yg).trans hO8.yg, Or.inr ⟨z1, rfl, z2⟩, fun q => absurd q z1⟩
        · -- 58 goes on
          refine e_aload_n dX11_readsNear_61 rfl ?_
          refine e_iconst (v := 3) dX11_readsNear_62 (by decide) ?_
          refine cV1r dX11_readsNear_63 mo_X11_fails ml_X11_217 sh_m rfl (Nat.le_of_ble_eq_true rfl) (by omega) (r_fails (k := 3) hG5.2.2.2.2.2.1) ?_
          refine e_zret dX11_readsNear_66 rfl (by first | rfl | exact b2i_nar _) ?_
          have hz := fail_nz (t := t) (x := rn4 t x P) (k := 3) (by decide) hG5.2.1 hI
          have e2 : tkS t (rn6 t x P) 59 = failX t (nI 3) (rn4 t x P) := by
            have e6 : rn6 t x P = failX t (nI 3) (rn4 t x P) := by
              show advX t (if rnD t x P then failX t 3 (rn4 t x P) else rn4 t x P) = _
              rw [if_pos (Or.inr (by rw [eA, eB]; exact c58))]; exact fl_adv (by decide) hG5.2.1 hI
            rw [e6, st_S hz]
          exact ⟨(hO5.trans of9).yg, RA1.f hG5 (k := 3) (by decide) e2, fun q => absurd q (by rw [e2]; exact hz)⟩
    · -- no at 25
      dsimp only [Option.toList, List.cons_append, List.nil_append]
      refine e_if_ne (tgt := 33) dX11_readsNear_28 (by decide) (fun c28 => absurd c28 (by decide)) (fun c28 => ?_)
      refine e_iconst (v := 0) dX11_readsNear_31 (by decide) ?_
      refine e_zret dX11_readsNear_32 rfl (by first | rfl | exact b2i_nar _) ?_
      have e2 : tkS t (rn6 t x P) 59 = rn4 t x P := by rw [rn6_f z1, st_S z1]
      exact ⟨hO5.yg, Or.inr ⟨by rw [e2]; exact z1, rfl, by rw [e2]; exact z2⟩, fun q => absurd q (by rw [e2]; exact z1)⟩
  · -- no at 6
    dsimp only [Option.toList, List.cons_append, List.nil_append]
    refine e_if_ne (tgt := 14) dX11_readsNear_9 (by decide) (fun c9 => absurd c9 (by decide)) (fun c9 => ?_)
    refine e_iconst (v := 0) dX11_readsNear_12 (by decide) ?_
    refine e_zret dX11_readsNear_13 rfl (by first | rfl | exact b2i_nar _) ?_
    have e2 : tkS t (rn6 t x P) 59 = rn2 t x P := by
      have e4 : rn4 t x P = rn2 t x P := by show shH t (advX t (rn2 t x P)) P.1 = _; rw [adv_f z1, st_H z1]
      rw [rn6_f (by rw [e4]; exact z1), e4, st_S z1]
    exact ⟨(hN.of.trans hO3).yg, Or.inr ⟨by rw [e2]; exact z1, rfl, by rw [e2]; exact z2⟩, fun q => absurd q (by rw [e2]; exact z1)⟩
theorem RPy.frost {M : Mm} {Y : Yv} {v : Int32} (h : RPy M Y) (hl : Y.nf < 12) : RPy (setI (setI M 249 (12 + Y.nf) v) 240 6 (nI (Y.nf + 1))) (addFP Y v) ∧ (addFP Y v).nf = Y.nf + 1 := by
  obtain ⟨h1, h2, h3, h4, h5, h6, h7⟩ := h
  have e : addFP Y v = (Y.n, Y.ns, Y.nf + 1, Y.roof, fun f j => if f = 6 ∧ j = Y.nf then v else Y.2.2.2.2.1 f j, Y.2.2.2.2.2.1, Y.gE) := by unfold addFP; rw [if_pos hl]
  rw [e]
  refine ⟨⟨⟨by rw [setI_1, if_neg (by omega), setI_n (by decide)]; exact h1.1, h1.2⟩, ⟨by rw [setI_1, if_neg (by omega), setI_n (by decide)]; exact h2.1, h2.2⟩, ⟨by rw [setI_p], by show Y.nf + 1 ≤ 12; omega⟩, ⟨by rw [setI_1, if_neg (by omega), setI_n (by decide)]; exact h4.1, by rw [setI_n (by decide), setI_n (by decide)]; exact h4.2⟩, fun j hj => ?_, fun j hj => ?_, fun j hj => ?_⟩, rfl⟩
  · rw [setI_n (by decide), setI_n (by decide), setI_n (by decide), setI_n (by decide), setI_n (by decide), setI_n (by decide), setI_n (by decide), setI_n (by decide)]; exact h5 j hj
  · rw [setI_n (by decide), setI_n (by decide), setI_n (by decide), setI_n (by decide)]; exact h6 j hj
  · have hj2 : j < Y.nf + 1 := hj
    rw [setI_n (by decide)]
    show _ = if 6 = 6 ∧ j = Y.nf then v else Y.frost j
    by_cases q : j = Y.nf
    · rw [if_pos ⟨rfl, q⟩, q, setI_p]
    · rw [if_neg (fun z => q z.2), setI_1, if_neg (by omega)]; exact h7 j (by omega)
theorem frL_f {t : Tv} {k : Nat} {r : Xv × Yv} (h : ¬ r.1.1 = 0) : frL t k r = r := by
  cases k with
  | zero => rfl
  | succ k => rw [frL, if_neg (fun q => h q.1)]
theorem nm_le9 {t : Tv} {x : Xv} (hN : isN t x) (h : ¬ 9 < nmX t x) : vWi (nmX t x) 0 9 := ⟨nm_nn hN, h⟩
set_option maxHeartbeats 500000 in
set_option maxRecDepth 20000 in
theorem l_frost {G : Gt} {t : Tv} {x : Xv} {P : Pv} {M : Mm} : ∀ (k : Nat) (i : Nat) (r : Xv × Yv) (Mc : Mm), (1 ≤ i ∧ i ≤ 12) → (12 < i + k) → (frL t 12 (tkN t (rf1 t x P) 0 9, addFP P.1 (nmX t (rf1 t x P))) = frL t (13 - i) r) → (GX Mc t r.1 ∧ RPy Mc r.2 ∧ r.2.nf = i ∧ YG M Mc) → Ev G 4 mX11_readsFrost 20 [.ref 238] [] Mc (fun q M' => LnY M M' t (tkS t (frL t 12 (tkN t (rf1 t x P) 0 9, addFP P.1 (nmX t (rf1 t x P)))).1 59) (frL t 12 (tkN t (rf1 t x P) 0 9, addFP P.1 (nmX t (rf1 t x P)))).2 q) := by
  intro k
  induction k with
  | zero => intro i r Mc hi hk hr hT; exact absurd hk (by omega)
  | succ k ih =>
    intro i r Mc hi hk hr hT
    obtain ⟨hx0, hx2, hI, hZ, g4, g5, g6, g7, g8⟩ := id hT.1
    have hE := hT.2.2.1
    refine e_aload_n dX11_readsFrost_20 rfl ?_
    refine e_getR dX11_readsFrost_21 fl_X11_13 sh_m rfl ?_
    refine e_bipush (v := 6) dX11_readsFrost_24 (by decide) ?_
    refine e_ialdN (j := 6) dX11_readsFrost_26 (sa_m_yard) (by decide) (by omega) ?_
    rw [hT.2.1.2.2.1.1, hE]
    refine e_if_eq (tgt := 38) dX11_readsFrost_27 (by decide) (fun c27 => absurd c27 (fun q => by have := nI_injN (a := i) (b := 0) (by omega) (by omega) q; omega)) (fun c27 => ?_)
    refine e_aload_n dX11_readsFrost_30 rfl ?_
    refine e_getI dX11_readsFrost_31 fl_X11_178 sh_m rfl ?_
    rw [g6]
    refine e_iconst (v := 2) dX11_readsFrost_34 (by decide) ?_
    refine e_icmp_ne (tgt := 122) dX11_readsFrost_35 (by decide) (fun c35 => ?_) (fun c35 => ?_)
    · -- 35 jumps
      refine e_aload_n dX11_readsFrost_122 rfl ?_
      refine cV0x dX11_readsFrost_123 mo_X11_closes ml_X11_305 sh_m rfl (Nat.le_of_ble_eq_true rfl) (by omega) (r_closes hT.1) ?_
      rintro r1 M8 ⟨hO8, hA8⟩
      rcases hA8 with ⟨z1, rfl, z2⟩ | ⟨z1, rfl, z2⟩
      · -- ok at 123
        dsimp only [Option.toList, List.cons_append, List.nil_append]
        refine e_zret dX11_readsFrost_126 rfl (by first | rfl | exact b2i_nar _) ?_
        have hN : ¬ isN t r.1 := fun q => c35 (kR_2.mpr q.2)
        have e2 : frL t (13 - i) r = r := by rw [show 13 - i = (12 - i) + 1 by omega, frL, if_neg hN]
        rw [hr, e2]
        exact ⟨hT.2.2.2.trans hO8.yg, Or.inl ⟨z1, rfl, z2⟩, fun _ => hT.2.1.of hO8⟩
      · -- no at 123
        dsimp only [Option.toList, List.cons_append, List.nil_append]
        refine e_zret dX11_readsFrost_126 rfl (by first | rfl | exact b2i_nar _) ?_
        have hN : ¬ isN t r.1 := fun q => c35 (kR_2.mpr q.2)
        have e2 : frL t (13 - i) r = r := by rw [show 13 - i = (12 - i) + 1 by omega, frL, if_neg hN]
        rw [hr, e2]
        exact ⟨hT.2.2.2.trans hO8.yg, Or.inr ⟨z1, rfl, z2⟩, fun _ => hT.2.1.of hO8⟩
    · -- 35 goes on
      refine e_aload_n dX11_readsFrost_38 rfl ?_
      refine e_getI dX11_readsFrost_39 fl_X11_178 sh_m rfl ?_
      rw [g6]
      refine e_iconst (v := 2) dX11_readsFrost_42 (by decide) ?_
      refine e_icmp_eq (tgt := 52) dX11_readsFrost_43 (by decide) (fun c43 => ?_) (fun c43 => absurd c43 (fun q => q c35))
      refine e_aload_n dX11_readsFrost_52 rfl ?_
      refine e_getI dX11_readsFrost_53 fl_X11_175 sh_m rfl ?_
      rw [g8 (kR_2.mp c35)]
      refine e_bipush (v := 9) dX11_readsFrost_56 (by decide) ?_
      refine e_icmp_le (tgt := 67) dX11_readsFrost_58 (by decide) (fun c58 => ?_) (fun c58 => ?_)
      · -- 58 jumps
        refine e_aload_n dX11_readsFrost_67 rfl ?_
        refine e_getR dX11_readsFrost_68 fl_X11_13 sh_m rfl ?_
        refine e_bipush (v := 6) dX11_readsFrost_71 (by decide) ?_
        refine e_ialdN (j := 6) dX11_readsFrost_73 (sa_m_yard) (by decide) (by omega) ?_
        rw [hT.2.1.2.2.1.1, hE]
        refine e_bipush (v := 12) dX11_readsFrost_74 (by decide) ?_
        refine e_icmp_ne (tgt := 85) dX11_readsFrost_76 (by decide) (fun c76 => ?_) (fun c76 => ?_)
        · -- 76 jumps
          have hl : i < 12 := by have : ¬ i = 12 := fun e => c76 (by rw [e]; rfl); omega
          refine e_aload_n dX11_readsFrost_85 rfl ?_
          refine e_getR dX11_readsFrost_86 fl_X11_41 sh_m rfl ?_
          refine e_bipush (v := 12) dX11_readsFrost_89 (by decide) ?_
          refine e_aload_n dX11_readsFrost_91 rfl ?_
          refine e_getR dX11_readsFrost_92 fl_X11_13 sh_m rfl ?_
          refine e_bipush (v := 6) dX11_readsFrost_95 (by decide) ?_
          refine e_ialdN (j := 6) dX11_readsFrost_97 (sa_m_yard) (by decide) (by omega) ?_
          rw [hT.2.1.2.2.1.1, hE]
          refine e_iaddN (a := 12) (b := i) dX11_readsFrost_98 ?_
          refine e_aload_n dX11_readsFrost_99 rfl ?_
          refine e_getI dX11_readsFrost_100 fl_X11_175 sh_m rfl ?_
          rw [g8 (kR_2.mp c35)]
          refine e_iastN (j := (12 + i)) dX11_readsFrost_103 (sa_m_frost) (by decide) (by omega) ?_
          refine e_aload_n dX11_readsFrost_104 rfl ?_
          refine e_getR dX11_readsFrost_105 fl_X11_13 sh_m rfl ?_
          refine e_bipush (v := 6) dX11_readsFrost_108 (by decide) ?_
          refine e_dup2 dX11_readsFrost_110 rfl rfl ?_
          refine e_ialdN (j := 6) dX11_readsFrost_111 (sa_m_yard) (by decide) (by omega) ?_
          rw [setI_n (by decide), hT.2.1.2.2.1.1, hE]
          refine e_iconst (v := 1) dX11_readsFrost_112 (by decide) ?_
          refine e_iaddN (a := i) (b := 1) dX11_readsFrost_113 ?_
          refine e_iastN (j := 6) dX11_readsFrost_114 (sa_m_yard) (by decide) (by omega) ?_
          refine e_aload_n dX11_readsFrost_115 rfl ?_
          refine cV0x dX11_readsFrost_116 mo_X11_nextToken ml_X11_224 sh_m rfl (Nat.le_of_ble_eq_true rfl) (by omega) (c_nt ((hT.1.s (by omega)).s (by omega)) OF.rfl' rfl) ?_
          rintro r1 M2 ⟨rfl, hN2, hG2⟩
          dsimp only [Option.toList, List.cons_append, List.nil_append]
          refine e_goto (tgt := 20) dX11_readsFrost_119 (by decide) ?_
          have hN : isN t r.1 := ⟨hx0, kR_2.mp c35⟩
          have hv := nm_le9 hN c58
          have e1 : tkN t r.1 0 9 = advX t r.1 := by unfold tkN; rw [if_pos hN, if_pos hv]
          obtain ⟨q1, q2⟩ := hT.2.1.frost (v := nmX t r.1) (by omega)
          rw [hE] at q1 q2
          refine ih (i + 1) (tkN t r.1 0 9, addFP r.2 (nmX t r.1)) M2 (by omega) (by omega) ?_ ⟨by rw [e1]; exact hG2, q1.of hN2.of, q2, ((hT.2.2.2.s (by unfold okY; omega)).s (by unfold okY; omega)).trans hN2.of.yg⟩
          rw [hr, show 13 - i = (12 - i) + 1 by omega, frL, if_pos hN, if_neg (fun q => by omega), show 13 - (i + 1) = 12 - i by omega]
        · -- 76 goes on
          refine e_aload_n dX11_readsFrost_79 rfl ?_
          refine e_iconst (v := 5) dX11_readsFrost_80 (by decide) ?_
          refine cV1r dX11_readsFrost_81 mo_X11_fails ml_X11_217 sh_m rfl (Nat.le_of_ble_eq_true rfl) (by omega) (r_fails (k := 5) g5) ?_
          refine e_zret dX11_readsFrost_84 rfl (by first | rfl | exact b2i_nar _) ?_
          have hN : isN t r.1 := ⟨hx0, kR_2.mp c35⟩
          have hi12 : i = 12 := nI_injN (by omega) (by omega) c76
          have hz := fail_nz (t := t) (x := r.1) (k := 5) (by decide) hx2 hI
          have e2 : frL t (13 - i) r = (failX t (nI 5) r.1, addFP r.2 (nmX t r.1)) := by
            rw [hi12]
            show frL t (0 + 1) r = _
            rw [frL, if_pos hN, if_pos ⟨rfl, nm_le9 hN c58⟩, frL]
            exact congrArg (fun z => (z, addFP r.2 (nmX t r.1))) (st_N hz)
          rw [hr, e2]
          have e3 : tkS t (failX t (nI 5) r.1) 59 = failX t (nI 5) r.1 := st_S hz
          exact ⟨hT.2.2.2.trans of9.yg, RA1.f hT.1 (k := 5) (by decide) e3, fun q => absurd q (by show ¬ (tkS t (failX t (nI 5) r.1) 59).1 = 0; rw [e3]; exact hz)⟩
      · -- 58 goes on
        refine e_aload_n dX11_readsFrost_61 rfl ?_
        refine e_iconst (v := 4) dX11_readsFrost_62 (by decide) ?_
        refine cV1r dX11_readsFrost_63 mo_X11_fails ml_X11_217 sh_m rfl (Nat.le_of_ble_eq_true rfl) (by omega) (r_fails (k := 4) g5) ?_
        refine e_zret dX11_readsFrost_66 rfl (by first | rfl | exact b2i_nar _) ?_
        have hN : isN t r.1 := ⟨hx0, kR_2.mp c35⟩
        have hz := fail_nz (t := t) (x := r.1) (k := 4) (by decide) hx2 hI
        have e1 : tkN t r.1 0 9 = failX t (nI 4) r.1 := by unfold tkN; rw [if_pos hN, if_neg (fun q => q.2 c58)]; exact fl_adv (by decide) hx2 hI
        have e2 : frL t (13 - i) r = (failX t (nI 4) r.1, addFP r.2 (nmX t r.1)) := by
          rw [show 13 - i = (12 - i) + 1 by omega, frL, if_pos hN, if_neg (fun q => q.2.2 c58), e1]
          exact frL_f hz
        rw [hr, e2]
        have e3 : tkS t (failX t (nI 4) r.1) 59 = failX t (nI 4) r.1 := st_S hz
        exact ⟨hT.2.2.2.trans of9.yg, RA1.f hT.1 (k := 4) (by decide) e3, fun q => absurd q (by show ¬ (tkS t (failX t (nI 4) r.1) 59).1 = 0; rw [e3]; exact hz)⟩
set_option maxHeartbeats 500000 in
set_option maxRecDepth 20000 in
theorem s_frost {G : Gt} {M Mc : Mm} {t : Tv} {x : Xv} {P : Pv} (hx : x.1 = 0) (hf : P.1.nf = 0) (hG : GX Mc t (rf1 t x P)) (hP : RPy Mc P.1) (hF : YG M Mc) : Ev G 4 mX11_readsFrost 20 [.ref 238] [] Mc (fun q M' => LnY M M' t (tkS t (frL t 12 (tkN t (rf1 t x P) 0 9, addFP P.1 (nmX t (rf1 t x P)))).1 59) (frL t 12 (tkN t (rf1 t x P) 0 9, addFP P.1 (nmX t (rf1 t x P)))).2 q) := by
  obtain ⟨hx0, hx2, hI, hZ, g4, g5, g6, g7, g8⟩ := id hG
  refine e_aload_n dX11_readsFrost_20 rfl ?_
  refine e_getR dX11_readsFrost_21 fl_X11_13 sh_m rfl ?_
  refine e_bipush (v := 6) dX11_readsFrost_24 (by decide) ?_
  refine e_ialdN (j := 6) dX11_readsFrost_26 (sa_m_yard) (by decide) (by omega) ?_
  rw [hP.2.2.1.1, hf]
  refine e_if_eq (tgt := 38) dX11_readsFrost_27 (by decide) (fun c27 => ?_) (fun c27 => absurd c27 (fun q => q rfl))
  refine e_aload_n dX11_readsFrost_38 rfl ?_
  refine e_getI dX11_readsFrost_39 fl_X11_178 sh_m rfl ?_
  rw [g6]
  refine e_iconst (v := 2) dX11_readsFrost_42 (by decide) ?_
  refine e_icmp_eq (tgt := 52) dX11_readsFrost_43 (by decide) (fun c43 => ?_) (fun c43 => ?_)
  · -- 43 jumps
    refine e_aload_n dX11_readsFrost_52 rfl ?_
    refine e_getI dX11_readsFrost_53 fl_X11_175 sh_m rfl ?_
    rw [g8 (kR_2.mp c43)]
    refine e_bipush (v := 9) dX11_readsFrost_56 (by decide) ?_
    refine e_icmp_le (tgt := 67) dX11_readsFrost_58 (by decide) (fun c58 => ?_) (fun c58 => ?_)
    · -- 58 jumps
      refine e_aload_n dX11_readsFrost_67 rfl ?_
      refine e_getR dX11_readsFrost_68 fl_X11_13 sh_m rfl ?_
      refine e_bipush (v := 6) dX11_readsFrost_71 (by decide) ?_
      refine e_ialdN (j := 6) dX11_readsFrost_73 (sa_m_yard) (by decide) (by omega) ?_
      rw [hP.2.2.1.1, hf]
      refine e_bipush (v := 12) dX11_readsFrost_74 (by decide) ?_
      refine e_icmp_ne (tgt := 85) dX11_readsFrost_76 (by decide) (fun c76 => ?_) (fun c76 => absurd c76 (by decide))
      refine e_aload_n dX11_readsFrost_85 rfl ?_
      refine e_getR dX11_readsFrost_86 fl_X11_41 sh_m rfl ?_
      refine e_bipush (v := 12) dX11_readsFrost_89 (by decide) ?_
      refine e_aload_n dX11_readsFrost_91 rfl ?_
      refine e_getR dX11_readsFrost_92 fl_X11_13 sh_m rfl ?_
      refine e_bipush (v := 6) dX11_readsFrost_95 (by decide) ?_
      refine e_ialdN (j := 6) dX11_readsFrost_97 (sa_m_yard) (by decide) (by omega) ?_
      rw [hP.2.2.1.1, hf]
      refine e_iaddN (a := 12) (b := 0) dX11_readsFrost_98 ?_
      refine e_aload_n dX11_readsFrost_99 rfl ?_
      refine e_getI dX11_readsFrost_100 fl_X11_175 sh_m rfl ?_
      rw [g8 (kR_2.mp c43)]
      refine e_iastN (j := (12 + 0)) dX11_readsFrost_103 (sa_m_frost) (by decide) (by omega) ?_
      refine e_aload_n dX11_readsFrost_104 rfl ?_
      refine e_getR dX11_readsFrost_105 fl_X11_13 sh_m rfl ?_
      refine e_bipush (v := 6) dX11_readsFrost_108 (by decide) ?_
      refine e_dup2 dX11_readsFrost_110 rfl rfl ?_
      refine e_ialdN (j := 6) dX11_readsFrost_111 (sa_m_yard) (by decide) (by omega) ?_
      rw [setI_n (by decide), hP.2.2.1.1, hf]
      refine e_iconst (v := 1) dX11_readsFrost_112 (by decide) ?_
      refine e_iaddN (a := 0) (b := 1) dX11_readsFrost_113 ?_
      refine e_iastN (j := 6) dX11_readsFrost_114 (sa_m_yard) (by decide) (by omega) ?_
      refine e_aload_n dX11_readsFrost_115 rfl ?_
      refine cV0x dX11_readsFrost_116 mo_X11_nextToken ml_X11_224 sh_m rfl (Nat.le_of_ble_eq_true rfl) (by omega) (c_nt ((hG.s (by omega)).s (by omega)) OF.rfl' rfl) ?_
      rintro r1 M2 ⟨rfl, hN2, hG2⟩
      dsimp only [Option.toList, List.cons_append, List.nil_append]
      refine e_goto (tgt := 20) dX11_readsFrost_119 (by decide) ?_
      have hN : isN t (rf1 t x P) := ⟨hx0, kR_2.mp c43⟩
      have hv := nm_le9 hN c58
      have e1 : tkN t (rf1 t x P) 0 9 = advX t (rf1 t x P) := by unfold tkN; rw [if_pos hN, if_pos hv]
      obtain ⟨q1, q2⟩ := hP.frost (v := nmX t (rf1 t x P)) (by omega)
      rw [hf] at q1 q2
      exact l_frost (P := P) 13 1 (tkN t (rf1 t x P) 0 9, addFP P.1 (nmX t (rf1 t x P))) M2 (by omega) (by omega) rfl ⟨by rw [e1]; exact hG2, q1.of hN2.of, q2, ((hF.s (by unfold okY; omega)).s (by unfold okY; omega)).trans hN2.of.yg⟩
    · -- 58 goes on
      refine e_aload_n dX11_readsFrost_61 rfl ?_
      refine e_iconst (v := 4) dX11_readsFrost_62 (by decide) ?_
      refine cV1r dX11_readsFrost_63 mo_X11_fails ml_X11_217 sh_m rfl (Nat.le_of_ble_eq_true rfl) (by omega) (r_fails (k := 4) g5) ?_
      refine e_zret dX11_readsFrost_66 rfl (by first | rfl | exact b2i_nar _) ?_
      have hz := fail_nz (t := t) (x := rf1 t x P) (k := 4) (by decide) hx2 hI
      have e1 : tkN t (rf1 t x P) 0 9 = failX t (nI 4) (rf1 t x P) := by unfold tkN; rw [if_pos ⟨hx0, kR_2.mp c43⟩, if_neg (fun q => q.2 c58)]; exact fl_adv (by decide) hx2 hI
      have e2 : (frL t 12 (tkN t (rf1 t x P) 0 9, addFP P.1 (nmX t (rf1 t x P)))).1 = failX t (nI 4) (rf1 t x P) := by rw [e1]; exact congrArg Prod.fst (frL_f hz)
      have e3 : tkS t (frL t 12 (tkN t (rf1 t x P) 0 9, addFP P.1 (nmX t (rf1 t x P)))).1 59 = failX t (nI 4) (rf1 t x P) := by rw [e2]; exact st_S hz
      exact ⟨hF.trans of9.yg, RA1.f hG (k := 4) (by decide) e3, fun q => absurd q (by rw [e3]; exact hz)⟩
  · -- 43 goes on
    refine e_aload_n dX11_readsFrost_46 rfl ?_
    refine e_iconst (v := 1) dX11_readsFrost_47 (by decide) ?_
    refine cV1r dX11_readsFrost_48 mo_X11_fails ml_X11_217 sh_m rfl (Nat.le_of_ble_eq_true rfl) (by omega) (r_fails (k := 1) g5) ?_
    refine e_zret dX11_readsFrost_51 rfl (by first | rfl | exact b2i_nar _) ?_
    have hz := fail_nz (t := t) (x := rf1 t x P) (k := 1) (by decide) hx2 hI
    have e1 : tkN t (rf1 t x P) 0 9 = failX t (nI 1) (rf1 t x P) := by unfold tkN; rw [if_neg (fun q => c43 (kR_2.mpr q.2))]; exact fl_adv (by decide) hx2 hI
    have e2 : (frL t 12 (tkN t (rf1 t x P) 0 9, addFP P.1 (nmX t (rf1 t x P)))).1 = failX t (nI 1) (rf1 t x P) := by rw [e1]; exact congrArg Prod.fst (frL_f hz)
    have e3 : tkS t (frL t 12 (tkN t (rf1 t x P) 0 9, addFP P.1 (nmX t (rf1 t x P)))).1 59 = failX t (nI 1) (rf1 t x P) := by rw [e2]; exact st_S hz
    exact ⟨hF.trans of9.yg, RA1.f hG (k := 1) (by decide) e3, fun q => absurd q (by rw [e3]; exact hz)⟩
set_option maxHeartbeats 500000 in
set_option maxRecDepth 20000 in
theorem r_readsFrost {G : Gt} {M : Mm} {t : Tv} {x : Xv} {P : Pv} (hG : GX M t x) (hP : RPy M P.1) : Call G 4 mX11_readsFrost [.ref 238] M (fun q M' => LnY M M' t (tkS t (frL t 12 (tkN t (rf1 t x P) 0 9, addFP P.1 (nmX t (rf1 t x P)))).1 59) (frL t 12 (tkN t (rf1 t x P) 0 9, addFP P.1 (nmX t (rf1 t x P)))).2 q) := by
  obtain ⟨hx0, hx2, hI, hZ, g4, g5, g6, g7, g8⟩ := id hG
  have ht := hZ.2.1
  have hf12 := hP.2.2.1.2
  refine Call.intro rfl (Nat.le_of_ble_eq_true rfl) ?_
  show Ev G _ mX11_readsFrost 0 [.ref 238] [] M _
  refine e_aload_n dX11_readsFrost_0 rfl ?_
  refine e_getR dX11_readsFrost_1 fl_X11_13 sh_m rfl ?_
  refine e_bipush (v := 6) dX11_readsFrost_4 (by decide) ?_
  refine e_ialdN (j := 6) dX11_readsFrost_6 (sa_m_yard) (by decide) (by omega) ?_
  rw [hP.2.2.1.1]
  refine e_if_le (tgt := 16) dX11_readsFrost_7 (by decide) (fun c7 => ?_) (fun c7 => ?_)
  · -- 7 jumps
    have hz0 : P.1.nf = 0 := by by_cases q : P.1.nf = 0; exact q; exact absurd ((nI_ltI (a := 0) (b := P.1.nf) (by omega) (by omega)).mpr (by omega)) c7
    have e1 : rf1 t x P = advX t x := by show advX t (if 0 < P.1.nf then failX t 3 x else x) = _; rw [if_neg (by omega)]
    refine e_aload_n dX11_readsFrost_16 rfl ?_
    refine cV0x dX11_readsFrost_17 mo_X11_nextToken ml_X11_224 sh_m rfl (Nat.le_of_ble_eq_true rfl) (by omega) (c_nt hG OF.rfl' rfl) ?_
    rintro r M2 ⟨rfl, hN, hG2⟩
    dsimp only [Option.toList, List.cons_append, List.nil_append]
    exact s_frost hx0 hz0 (by rw [e1]; exact hG2) (hP.of hN.of) hN.of.yg
  · -- 7 goes on
    refine e_aload_n dX11_readsFrost_10 rfl ?_
    refine e_iconst (v := 3) dX11_readsFrost_11 (by decide) ?_
    refine cV1r dX11_readsFrost_12 mo_X11_fails ml_X11_217 sh_m rfl (Nat.le_of_ble_eq_true rfl) (by omega) (r_fails (k := 3) g5) ?_
    refine e_zret dX11_readsFrost_15 rfl (by first | rfl | exact b2i_nar _) ?_
    have h0 : 0 < P.1.nf := by by_cases q : P.1.nf = 0; rw [q] at c7; exact absurd c7 (by decide); omega
    have hz := fail_nz (t := t) (x := x) (k := 3) (by decide) hx2 hI
    have e1 : rf1 t x P = failX t (nI 3) x := by show advX t (if 0 < P.1.nf then failX t 3 x else x) = _; rw [if_pos h0]; exact fl_adv (by decide) hx2 hI
    have hz1 : ¬ (rf1 t x P).1 = 0 := by rw [e1]; exact hz
    have e2 : (frL t 12 (tkN t (rf1 t x P) 0 9, addFP P.1 (nmX t (rf1 t x P)))).1 = rf1 t x P := by rw [st_N hz1]; exact congrArg Prod.fst (frL_f hz1)
    have e3 : tkS t (frL t 12 (tkN t (rf1 t x P) 0 9, addFP P.1 (nmX t (rf1 t x P)))).1 59 = rf1 t x P := by rw [e2]; exact st_S hz1
    exact ⟨of9.yg, RA1.f hG (k := 3) (by decide) (e3.trans e1), fun q => absurd q (by rw [e3]; exact hz1)⟩
end RYF
