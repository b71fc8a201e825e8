section XYC
def yardR (b : Nat) (E : Gs) : Xv × Pv := rdY b E.1
def yardY (b : Nat) (E : Gs) : Yv := laidY (fillP (yardR b E).2)
def yardE (b : Nat) (E : Gs) : Gs := if (yardR b E).1.1 = 0 then ((0, E.1.2), yardY b E, emR, begV (yardY b E), emR, fun _ => none, (0, E.us)) else E.setT (0, E.1.2)
set_option maxHeartbeats 4000000 in
set_option maxRecDepth 20000 in
theorem c_yard {G : Gt} {M : Mm} {E : Gs} {y y' w w' p : Nat} (hX : XJ M E y y' w w' p) {b : Nat} (hb : 35 ≤ b ∧ b ≤ 40) (hI : TI E.1) : Call G 101 mX10_yard [.ref 0] M (fun r M' => r = some (.int (yardR b E).1.1) ∧ XE M M' (yardE b E)) := by
  obtain ⟨⟨hld, hsl, hy, hy', hyy⟩, ⟨hpl, hsp, hw, hw', hww⟩, hY, hW, hS, hV, hK, ⟨hpt, hp16, hun, hu16, hU⟩, ⟨htl, htl2, htc⟩⟩ := id hX
  have h6 := hY.1.2
  have hs5 := hY.2.1.2
  have hy1 := yd_two hy
  have hy2 := yd_two hy'
  refine Call.intro rfl (Nat.le_of_ble_eq_true rfl) ?_
  show Ev G _ mX10_yard 0 [.ref 0, RA, RA] [] M _
  refine e_aload_n dX10_yard_0 rfl ?_
  refine e_getR dX10_yard_1 fl_X10_10 sh_x rfl ?_
  refine e_aload_n dX10_yard_4 rfl ?_
  refine e_getP dX10_yard_5 fl_X10_23 sh_x rfl ?_
  first | rw [hsl] | (simp only [setI_2, setI_22, setL_22]; rw [hsl])
  refine cS2x dX10_yard_8 mo_X9_read ml_X10_94 (Nat.le_of_ble_eq_true rfl) (by omega) (c_read (b := b) hb hy' hI ⟨htl, htl2, htc⟩) ?_
  rintro r M1 ⟨rfl, hF, hG, hR⟩
  dsimp only [Option.toList, List.cons_append, List.nil_append]
  have hld1 : M1.2.2 0 1 = y := by rw [hF.2.2 0 (by decide)]; exact hld
  have hsl1 : M1.2.2 0 2 = y' := by rw [hF.2.2 0 (by decide)]; exact hsl
  have hpl1 : M1.2.2 0 3 = w := by rw [hF.2.2 0 (by decide)]; exact hpl
  have hsp1 : M1.2.2 0 4 = w' := by rw [hF.2.2 0 (by decide)]; exact hsp
  refine e_istore_n (ls' := [_, _, _]) dX10_yard_11 (by decide) rfl ?_
  refine e_aload_n dX10_yard_12 rfl ?_
  refine e_getR dX10_yard_13 fl_X10_10 sh_x rfl ?_
  refine cV0v dX10_yard_16 mo_X4_empty ml_X10_100 sh_tk rfl (Nat.le_of_ble_eq_true rfl) (by omega) (c_empty) ?_
  refine e_iload_n dX10_yard_19 rfl ?_
  refine e_if_ne (tgt := 45) dX10_yard_20 (by decide) (fun c20 => ?_) (fun c20 => ?_)
  · -- 20 jumps
    refine e_iload_n dX10_yard_45 rfl ?_
    refine e_iret dX10_yard_46 rfl ?_
    have hF1 : ∀ i, ¬ i = 6 → ¬ (y' ≤ i ∧ i ≤ y' + 13) → (setI M1 6 1 0).1 i = M.1 i := fun i a b => by
      funext z
      rw [setI_1, if_neg (by omega), hF.1 i a b]
    have e : yardE b E = E.setT (0, E.1.2) := if_neg c20
    rw [e]
    have hX1 := hX.fr0 (M' := setI M1 6 1 0) (fun i a _ c => hF1 i a c) (fun i a c => hF.2.1 i a c) (hF.2.2 0 (by decide)) (by rw [setI_1, if_pos ⟨rfl, rfl⟩])
    exact ⟨rfl, ⟨y, y', w, w', p, hX1⟩, fun i hi => ⟨hF1 i (by omega) (by omega), hF.2.1 i (by omega) (by omega), hF.2.2 i (by omega)⟩⟩
  · -- 20 goes on
    have hld := hld1
    have hsl := hsl1
    obtain ⟨hP9, hL9⟩ := hR c20
    have hPO := fillP_l (rdB_l (b := b) hb.1 hI 1000 ((0, 0), (emY, exO)) (Nat.zero_le _) (fun _ => Or.inl rfl) c20)
    have hYn0 : YX M1 y' (yardY b E) := YX_laid hP9 hL9 hPO
    have hYn : YX (setI M1 6 1 0) y' (yardY b E) := hYn0.cg (fun i a c => by funext z; rw [setI_1, if_neg (by omega)]) rfl rfl
    refine e_aload_n dX10_yard_23 rfl ?_
    refine e_getP dX10_yard_24 fl_X10_23 sh_x rfl ?_
    first | rw [hsl] | (simp only [setI_2, setI_22, setL_22]; rw [hsl])
    refine e_astore_n (ls' := [_, _, _]) dX10_yard_27 (by decide) rfl ?_
    refine e_aload_n dX10_yard_28 rfl ?_
    refine e_aload_n dX10_yard_29 rfl ?_
    refine e_getP dX10_yard_30 fl_X10_19 sh_x rfl ?_
    first | rw [hld] | (simp only [setI_2, setI_22, setL_22]; rw [hld])
    refine e_putP dX10_yard_33 fl_X10_23 sh_x rfl rfl rfl ?_
    refine e_aload_n dX10_yard_36 rfl ?_
    refine e_aload_n dX10_yard_37 rfl ?_
    refine e_putP dX10_yard_38 fl_X10_19 sh_x rfl rfl rfl ?_
    refine e_aload_n dX10_yard_41 rfl ?_
    refine cV0x dX10_yard_42 mo_X10_beginYard ml_X10_103 sh_x rfl (Nat.le_of_ble_eq_true rfl) (by omega) (c_beginYard (y := y') (w := w) (Y := yardY b E) (by rw [setP_22, if_pos ⟨rfl, rfl⟩]) (by rw [setP_22, if_neg (by decide), setP_22, if_neg (by decide)]; exact hpl1) hy' hw (hYn.cg (fun _ _ _ => rfl) rfl rfl)) ?_
    rintro r M2 ⟨rfl, hB⟩
    dsimp only [Option.toList, List.cons_append, List.nil_append]
    refine e_iload_n dX10_yard_45 rfl ?_
    refine e_iret dX10_yard_46 rfl ?_
    have hF1 : ∀ i, ¬ i = 6 → ¬ (y' ≤ i ∧ i ≤ y' + 13) → (setI M1 6 1 0).1 i = M.1 i := fun i a b => by
      funext z
      rw [setI_1, if_neg (by omega), hF.1 i a b]
    have e : yardE b E = ((0, E.1.2), yardY b E, emR, begV (yardY b E), emR, fun _ => none, (0, E.us)) := if_pos c20
    rw [e]
    obtain ⟨b1, b2, b3, b4, b5, b6, b7, b8⟩ := hB
    have hbn : ∀ q, ¬ byC w q → M2.1 q = (setI M1 6 1 0).1 q := fun q hq => b2 q hq
    refine ⟨rfl, ⟨y', y, w, w', p, ⟨by rw [b1, setP_22, if_pos ⟨rfl, rfl⟩], by rw [b1, setP_22, if_neg (by decide), setP_22, if_pos ⟨rfl, rfl⟩], hy', hy, fun e => hyy e.symm⟩, ⟨by rw [b1, setP_22, if_neg (by decide), setP_22, if_neg (by decide)]; exact hpl1, by rw [b1, setP_22, if_neg (by decide), setP_22, if_neg (by decide)]; exact hsp1, hw, hw', hww⟩, hYn.cg (fun i a c => by rw [hbn i (by unfold byC; omega)]) (by rw [b1]; rfl) (by rw [b1]; rfl), ⟨b5, Nat.zero_le _, fun k hk => absurd hk (Nat.not_lt_zero k)⟩, b4, ⟨b6, Nat.zero_le _, fun k hk => absurd hk (Nat.not_lt_zero k)⟩, fun k hk => b8 k hk, ⟨?_, hp16, b7, Nat.zero_le _, fun k hk => absurd hk (Nat.not_lt_zero k)⟩, ⟨?_, Nat.zero_le _, fun k hk => absurd hk (Nat.not_lt_zero k)⟩⟩, fun i hi => ⟨?_, ?_, ?_⟩⟩
    · rw [b3 10 (by decide)]; show (setI M1 6 1 0).1 0 10 = _; rw [hF1 0 (by omega) (by omega)]; exact hpt
    · rw [hbn 6 (by unfold byC; omega), setI_1, if_pos ⟨rfl, rfl⟩]; rfl
    · rw [hbn i (by unfold byC; omega)]; exact hF1 i (by omega) (by omega)
    · rw [b1]; exact hF.2.1 i (by omega) (by omega)
    · rw [b1]; show (setP (setP (setI M1 6 1 0) 0 2 y) 0 1 y').2.2 i = _; rw [show (setP (setP (setI M1 6 1 0) 0 2 y) 0 1 y').2.2 i = M1.2.2 i from by funext z; rw [setP_22, if_neg (by omega), setP_22, if_neg (by omega)]; rfl]; exact hF.2.2 i (by omega)
end XYC
