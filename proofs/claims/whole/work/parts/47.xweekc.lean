section XWC
theorem YX.cg {M M' : Mm} {y : Nat} {Y : Yv} (h : YX M y Y) (h1 : ∀ i, y ≤ i → i ≤ y + 11 → M'.1 i = M.1 i) (h2 : M'.2.1 (y + 1) = M.2.1 (y + 1)) (h3 : M'.2.1 (y + 6) = M.2.1 (y + 6)) : YX M' y Y := by
  obtain ⟨a, b, c, d, e, g, k, l⟩ := h
  unfold YX
  rw [h1 y (by omega) (by omega), h1 (y + 2) (by omega) (by omega), h1 (y + 3) (by omega) (by omega), h1 (y + 4) (by omega) (by omega), h1 (y + 5) (by omega) (by omega), h1 (y + 7) (by omega) (by omega), h1 (y + 8) (by omega) (by omega), h1 (y + 9) (by omega) (by omega), h2, h3]
  exact ⟨a, b, c, d, e, g, k, fun q => (l q).congr (h1 _ (by omega) (by omega)) (h1 _ (by omega) (by omega))⟩
theorem YX.yp {M : Mm} {y : Nat} {Y : Yv} (h : YX M y Y) : YP M y (Y, exO) := by
  obtain ⟨a, b, c, d, e, g, k, l⟩ := h
  exact ⟨a, b, c, d, e, g, k⟩
/-- the tape gone, the spare week and the spare yard changed -/
theorem XJ.fr0 {M M' : Mm} {E : Gs} {y y' w w' p : Nat} (hX : XJ M E y y' w w' p) (h1 : ∀ i, ¬ i = 6 → ¬ (w' ≤ i ∧ i ≤ w' + 3) → ¬ (y' ≤ i ∧ i ≤ y' + 13) → M'.1 i = M.1 i) (h2 : ∀ i, ¬ i = 6 → ¬ (y' ≤ i ∧ i ≤ y' + 13) → M'.2.1 i = M.2.1 i) (h3 : M'.2.2 0 = M.2.2 0) (h6 : M'.1 6 1 = 0) : XJ M' (E.setT (0, E.1.2)) y y' w w' p := by
  obtain ⟨⟨hld, hsl, hy, hy', hyy⟩, ⟨hpl, hsp, hw, hw', hww⟩, hY, hW, hS, hV, hK, ⟨hpt, hp16, hun, hu16, hU⟩, ⟨htl, htl2, htc⟩⟩ := hX
  have hy1 := yd_two hy
  have hy2 := yd_two hy'
  exact ⟨⟨by rw [h3]; exact hld, by rw [h3]; exact hsl, hy, hy', hyy⟩, ⟨by rw [h3]; exact hpl, by rw [h3]; exact hsp, hw, hw', hww⟩, hY.cg (fun i a b => h1 i (by omega) (by omega) (by omega)) (h2 _ (by omega) (by omega)) (h2 _ (by omega) (by omega)), hW.congr (fun q a b => h1 q (by omega) (by omega) (by omega)), hS.congr (fun q a b => h1 q (by omega) (by omega) (by omega)), hV.congr (fun q a b => h1 q (by omega) (by omega) (by omega)), fun k hk => (hK k hk).congr (fun i a b => h1 i (by omega) (by omega) (by omega)), ⟨by rw [h1 0 (by omega) (by omega) (by omega)]; exact hpt, hp16, by rw [h1 0 (by omega) (by omega) (by omega)]; exact hun, hu16, fun k hk => (hU k hk).congr (fun q a b => h1 q (by have := rng_ge p E.un k; omega) (by have := rng_ge p E.un k; omega) (by have := rng_ge p E.un k; omega))⟩, ⟨h6, Nat.zero_le _, fun k hk => absurd hk (Nat.not_lt_zero k)⟩⟩
theorem XJ.swapW {M : Mm} {E : Gs} {y y' w w' p : Nat} {W : Rv} (hX : XJ M E y y' w w' p) (hR : RX M w' 40 W) : XJ (setP (setP M 0 4 w) 0 3 w') (E.setW W) y y' w' w p := by
  obtain ⟨⟨hld, hsl, hy, hy', hyy⟩, ⟨hpl, hsp, hw, hw', hww⟩, hY, hW, hS, hV, hK, hU, hT⟩ := hX
  exact ⟨⟨by rw [setP_22, if_neg (by decide), setP_22, if_neg (by decide)]; exact hld, by rw [setP_22, if_neg (by decide), setP_22, if_neg (by decide)]; exact hsl, hy, hy', hyy⟩, ⟨by rw [setP_22, if_pos ⟨rfl, rfl⟩], by rw [setP_22, if_neg (by decide), setP_22, if_pos ⟨rfl, rfl⟩], hw', hw, fun e => hww e.symm⟩, hY.cg (fun _ _ _ => rfl) rfl rfl, hR, hS, hV, hK, hU, hT⟩
def weekR (E : Gs) : Xv × Rv := wdW E.1 E.Y 41
def weekE (E : Gs) : Gs := if (weekR E).1.1 = 0 then (E.setT (0, E.1.2)).setW (weekR E).2 else E.setT (0, E.1.2)
set_option maxHeartbeats 4000000 in
set_option maxRecDepth 20000 in
theorem c_empty {G : Gt} {M : Mm}  : Call G 1 mX4_empty [.ref 6] M (eqQ none (setI M 6 1 0)) := by
  refine Call.intro rfl (Nat.le_of_ble_eq_true rfl) ?_
  show Ev G _ mX4_empty 0 [.ref 6] [] M _
  refine e_aload_n dX4_empty_0 rfl ?_
  refine e_iconst (v := 0) dX4_empty_1 (by decide) ?_
  refine e_putI dX4_empty_2 fl_X4_28 sh_tk rfl rfl rfl ?_
  refine e_vret dX4_empty_5 rfl ?_
  exact ⟨rfl, rfl⟩
set_option maxHeartbeats 4000000 in
set_option maxRecDepth 20000 in
theorem c_week {G : Gt} {M : Mm} {E : Gs} {y y' w w' p : Nat} (hX : XJ M E y y' w w' p) (hI : TI E.1) : Call G 12 mX10_week [.ref 0] M (fun r M' => r = some (.int (weekR E).1.1) ∧ XE M M' (weekE E)) := by
  obtain ⟨⟨hld, hsl, hy, hy', hyy⟩, ⟨hpl, hsp, hw, hw', hww⟩, hY, hW, hS, hV, hK, ⟨hpt, hp16, hun, hu16, hU⟩, ⟨htl, htl2, htc⟩⟩ := id hX
  have h6 := hY.1.2
  have hs5 := hY.2.1.2
  have hw36 : 36 ≤ w' := by omega
  have hwk' := wk2 hw'
  have hwk := wk2 hw
  refine Call.intro rfl (Nat.le_of_ble_eq_true rfl) ?_
  show Ev G _ mX10_week 0 [.ref 0, RA, RA] [] M _
  refine e_aload_n dX10_week_0 rfl ?_
  refine e_getR dX10_week_1 fl_X10_10 sh_x rfl ?_
  refine e_aload_n dX10_week_4 rfl ?_
  refine e_getP dX10_week_5 fl_X10_33 sh_x rfl ?_
  first | rw [hsp] | (simp only [setI_2, setI_22, setL_22]; rw [hsp])
  refine e_aload_n dX10_week_8 rfl ?_
  refine e_getP dX10_week_9 fl_X10_19 sh_x rfl ?_
  first | rw [hld] | (simp only [setI_2, setI_22, setL_22]; rw [hld])
  refine cS3x dX10_week_12 mo_X6_read ml_X10_125 (Nat.le_of_ble_eq_true rfl) (by omega) (c_wkRead (w := w') (P := (E.Y, exO)) rfl hwk' hw36 hy hI ⟨htl, htl2, htc⟩ hY.yp) ?_
  rintro r M1 ⟨rfl, hF, hG, hR⟩
  dsimp only [Option.toList, List.cons_append, List.nil_append]
  have hpl1 : M1.2.2 0 3 = w := by rw [hF.2.2 0 (by decide)]; exact hpl
  have hsp1 : M1.2.2 0 4 = w' := by rw [hF.2.2 0 (by decide)]; exact hsp
  refine e_istore_n (ls' := [_, _, _]) dX10_week_15 (by decide) rfl ?_
  refine e_aload_n dX10_week_16 rfl ?_
  refine e_getR dX10_week_17 fl_X10_10 sh_x rfl ?_
  refine cV0v dX10_week_20 mo_X4_empty ml_X10_100 sh_tk rfl (Nat.le_of_ble_eq_true rfl) (by omega) (c_empty) ?_
  refine e_iload_n dX10_week_23 rfl ?_
  refine e_if_ne (tgt := 45) dX10_week_24 (by decide) (fun c24 => ?_) (fun c24 => ?_)
  · -- 24 jumps
    refine e_iload_n dX10_week_45 rfl ?_
    refine e_iret dX10_week_46 rfl ?_
    have hF1 : ∀ i, ¬ i = 6 → ¬ (w' ≤ i ∧ i ≤ w' + 3) → ¬ (y' ≤ i ∧ i ≤ y' + 13) → (setI M1 6 1 0).1 i = M.1 i := fun i a b _ => by
      funext z
      rw [setI_1, if_neg (by omega), hF.1 i a b]
    have hX1 := hX.fr0 (M' := setI M1 6 1 0) hF1 (fun i a _ => hF.2.1 i a) (hF.2.2 0 (by decide)) (by rw [setI_1, if_pos ⟨rfl, rfl⟩])
    have e : weekE E = E.setT (0, E.1.2) := if_neg c24
    rw [e]
    exact ⟨rfl, ⟨y, y', w, w', p, hX1⟩, fun i hi => ⟨hF1 i (by omega) (by omega) (by have := yd_two hy'; omega), hF.2.1 i (by omega), hF.2.2 i (by omega)⟩⟩
  · -- 24 goes on
    have hpl := hpl1
    have hsp := hsp1
    refine e_aload_n dX10_week_27 rfl ?_
    refine e_getP dX10_week_28 fl_X10_33 sh_x rfl ?_
    first | rw [hsp] | (simp only [setI_2, setI_22, setL_22]; rw [hsp])
    refine e_astore_n (ls' := [_, _, _]) dX10_week_31 (by decide) rfl ?_
    refine e_aload_n dX10_week_32 rfl ?_
    refine e_aload_n dX10_week_33 rfl ?_
    refine e_getP dX10_week_34 fl_X10_29 sh_x rfl ?_
    first | rw [hpl] | (simp only [setI_2, setI_22, setL_22]; rw [hpl])
    refine e_putP dX10_week_37 fl_X10_33 sh_x rfl rfl rfl ?_
    refine e_aload_n dX10_week_40 rfl ?_
    refine e_aload_n dX10_week_41 rfl ?_
    refine e_putP dX10_week_42 fl_X10_29 sh_x rfl rfl rfl ?_
    refine e_iload_n dX10_week_45 rfl ?_
    refine e_iret dX10_week_46 rfl ?_
    have hF1 : ∀ i, ¬ i = 6 → ¬ (w' ≤ i ∧ i ≤ w' + 3) → ¬ (y' ≤ i ∧ i ≤ y' + 13) → (setI M1 6 1 0).1 i = M.1 i := fun i a b _ => by
      funext z
      rw [setI_1, if_neg (by omega), hF.1 i a b]
    have hX1 := hX.fr0 (M' := setI M1 6 1 0) hF1 (fun i a _ => hF.2.1 i a) (hF.2.2 0 (by decide)) (by rw [setI_1, if_pos ⟨rfl, rfl⟩])
    have e : weekE E = (E.setT (0, E.1.2)).setW (weekR E).2 := if_pos c24
    rw [e]
    have hR2 : RX (setI M1 6 1 0) w' 40 (weekR E).2 := (hR c24).congr (fun q a b => by funext z; rw [setI_1, if_neg (by omega)])
    exact ⟨rfl, ⟨y, y', w', w, p, hX1.swapW hR2⟩, fun i hi => ⟨hF1 i (by omega) (by omega) (by have := yd_two hy'; omega), hF.2.1 i (by omega), by rw [show (setP (setP (setI M1 6 1 0) 0 4 w) 0 3 w').2.2 i = M1.2.2 i from by funext z; rw [setP_22, if_neg (by omega), setP_22, if_neg (by omega)]; rfl]; exact hF.2.2 i (by omega)⟩⟩
end XWC
