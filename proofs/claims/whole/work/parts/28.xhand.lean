section XHA
def Gs.setS (E : Gs) (S : Sv) : Gs := (E.1, E.2.1, E.2.2.1, S, E.2.2.2.2)
def Gs.setV (E : Gs) (V : Rv) : Gs := (E.1, E.2.1, E.2.2.1, E.2.2.2.1, V, E.2.2.2.2.2)
def Gs.setK (E : Gs) (K : Nat → Option (Sv × Rv × Rv)) : Gs := (E.1, E.2.1, E.2.2.1, E.2.2.2.1, E.2.2.2.2.1, K, E.2.2.2.2.2.2)
def Gs.setU (E : Gs) (u : Nat × (Nat → Sv)) : Gs := (E.1, E.2.1, E.2.2.1, E.2.2.2.1, E.2.2.2.2.1, E.2.2.2.2.2.1, u)
def Gs.setW (E : Gs) (W : Rv) : Gs := (E.1, E.2.1, W, E.2.2.2)
def Gs.setT (E : Gs) (t : Nat × (Nat → Int32)) : Gs := (t, E.2)
/-- what can be undone, the present one behind it, 16 at most -/
def pushU (E : Gs) : Nat × (Nat → Sv) := if E.un < 16 then (E.un + 1, fun k => if k = E.un then E.S else E.us k) else (16, fun k => if k = 15 then E.S else E.us (k + 1))
def remE (E : Gs) : Gs := E.setU (pushU E)
/-- what stays outside of the standing in use -/
theorem XJ.upS {M M' : Mm} {E : Gs} {y y' w w' p : Nat} {S : Sv} (hX : XJ M E y y' w w' p) (h2 : M'.2 = M.2) (hf : ∀ i, ¬ (44 ≤ i ∧ i ≤ 50) → ¬ i = y + 12 → ¬ i = y + 13 → M'.1 i = M.1 i) (hS : SX M' 44 E.Y.n S) : XJ M' (E.setS S) y y' w w' p := by
  obtain ⟨⟨hld, hsl, hy, hy', hyy⟩, ⟨hpl, hsp, hw, hw', hww⟩, hY, hW, hS0, hV, hK, ⟨hpt, hp16, hun, hu16, hU⟩, ⟨htl, htl2, htc⟩⟩ := hX
  have hyl := yd_le hy
  have hyl' := yd_le hy'
  refine ⟨⟨by rw [h2]; exact hld, by rw [h2]; exact hsl, hy, hy', hyy⟩, ⟨by rw [h2]; exact hpl, by rw [h2]; exact hsp, hw, hw', hww⟩, hY.congr h2 (fun i a b => hf i (by omega) (by omega) (by omega)), hW.congr (fun q a b => hf q (by omega) (by omega) (by omega)), hS, hV.congr (fun q a b => hf q (by omega) (by omega) (by omega)), fun k hk => (hK k hk).congr (fun i a b => hf i (by omega) (by omega) (by omega)), ⟨by rw [hf 0 (by omega) (by omega) (by omega)]; exact hpt, hp16, by rw [hf 0 (by omega) (by omega) (by omega)]; exact hun, hu16, fun k hk => (hU k hk).congr (fun q a b => hf q (by have := rng_ge p E.un k; omega) (by have := rng_ge p E.un k; omega) (by have := rng_ge p E.un k; omega))⟩, ⟨by rw [hf 6 (by omega) (by omega) (by omega)]; exact htl, htl2, fun k hk => by rw [hf 7 (by omega) (by omega) (by omega)]; exact htc k hk⟩⟩
theorem rng_inj {p u k : Nat} (hp : p < 16) (hu : u ≤ 16) (hk : k < u) (hu2 : u < 16) : ¬ rng p u k = 126 + 7 * p := by
  unfold rng
  omega
theorem XJ.rem {M M' : Mm} {E : Gs} {y y' w w' p : Nat} (hX : XJ M E y y' w w' p) (h2 : M'.2 = M.2) (hf : ∀ i, ¬ (126 + 7 * p ≤ i ∧ i ≤ 126 + 7 * p + 6) → ¬ i = 0 → M'.1 i = M.1 i) (hS : SX M' (126 + 7 * p) E.Y.n E.S)
    (h10 : M'.1 0 10 = nI ((p + 1) % 16)) (h11 : M'.1 0 11 = nI (pushU E).1) : XJ M' (remE E) y y' w w' ((p + 1) % 16) := by
  obtain ⟨⟨hld, hsl, hy, hy', hyy⟩, ⟨hpl, hsp, hw, hw', hww⟩, hY, hW, hS', hV, hK, ⟨hpt, hp16, hun, hu16, hU⟩, ⟨htl, htl2, htc⟩⟩ := hX
  have hyl := yd_le hy
  have hyl' := yd_le hy'
  refine ⟨⟨by rw [h2]; exact hld, by rw [h2]; exact hsl, hy, hy', hyy⟩, ⟨by rw [h2]; exact hpl, by rw [h2]; exact hsp, hw, hw', hww⟩, hY.congr h2 (fun i a b => hf i (by omega) (by omega)), hW.congr (fun q a b => hf q (by omega) (by omega)), hS'.congr (fun q a b => hf q (by omega) (by omega)), hV.congr (fun q a b => hf q (by omega) (by omega)), fun k hk => (hK k hk).congr (fun i a b => hf i (by omega) (by omega)), ⟨h10, Nat.mod_lt _ (by decide), h11, ?_, fun k hk => ?_⟩, ⟨by rw [hf 6 (by omega) (by omega)]; exact htl, htl2, fun k hk => by rw [hf 7 (by omega) (by omega)]; exact htc k hk⟩⟩
  · show (pushU E).1 ≤ 16
    unfold pushU
    split
    · show E.un + 1 ≤ 16; omega
    · exact Nat.le_refl _
  · show SX M' (rng ((p + 1) % 16) (pushU E).1 k) E.Y.n ((pushU E).2 k)
    have hk' : k < (pushU E).1 := hk
    by_cases h16 : E.un < 16
    · have e1 : pushU E = (E.un + 1, fun k => if k = E.un then E.S else E.us k) := if_pos h16
      rw [e1] at hk' ⊢
      have hk2 : k < E.un + 1 := hk'
      show SX M' (rng ((p + 1) % 16) (E.un + 1) k) E.Y.n (if k = E.un then E.S else E.us k)
      by_cases e : k = E.un
      · rw [if_pos e, show rng ((p + 1) % 16) (E.un + 1) k = 126 + 7 * p from by unfold rng; omega]
        exact hS
      · rw [if_neg e, show rng ((p + 1) % 16) (E.un + 1) k = rng p E.un k from by unfold rng; omega]
        have hne := rng_inj hp16 hu16 (show k < E.un by omega) h16
        exact (hU k (by omega)).congr (fun q a b => hf q (by unfold rng at hne a b; omega) (by have := rng_ge p E.un k; omega))
    · have e1 : pushU E = (16, fun k => if k = 15 then E.S else E.us (k + 1)) := if_neg h16
      have hun' : E.un = 16 := by omega
      rw [e1] at hk' ⊢
      have hk2 : k < 16 := hk'
      show SX M' (rng ((p + 1) % 16) 16 k) E.Y.n (if k = 15 then E.S else E.us (k + 1))
      by_cases e : k = 15
      · rw [if_pos e, show rng ((p + 1) % 16) 16 k = 126 + 7 * p from by unfold rng; omega]
        exact hS
      · rw [if_neg e, show rng ((p + 1) % 16) 16 k = rng p E.un (k + 1) from by unfold rng; omega]
        have h3 := hU (k + 1) (by omega)
        exact h3.congr (fun q a b => hf q (by unfold rng at a b; omega) (by have := rng_ge p E.un (k + 1); omega))
set_option maxHeartbeats 4000000 in
set_option maxRecDepth 20000 in
theorem c_pastAt {G : Gt} {M : Mm} {p : Nat} (hp : p < 16) : Call G 1 mX10_pastAt [.ref 0, .int (nI p)] M (eqQ (some (.ref (126 + 7 * p))) M) := by
  refine Call.intro rfl (Nat.le_of_ble_eq_true rfl) ?_
  show Ev G _ mX10_pastAt 0 [.ref 0, .int (nI p)] [] M _
  refine e_iload_n dX10_pastAt_0 rfl ?_
  refine e_if_lt (tgt := 22) dX10_pastAt_1 (by decide) (fun c1 => absurd c1 (nI_pos (by omega))) (fun c1 => ?_)
  refine e_iload_n dX10_pastAt_4 rfl ?_
  refine e_aload_n dX10_pastAt_5 rfl ?_
  refine e_getR dX10_pastAt_6 fl_X10_59 sh_x rfl ?_
  refine e_alenS dX10_pastAt_9 (sa_x_past) rfl ?_
  refine e_icmp_ge (tgt := 22) dX10_pastAt_10 (by decide) (fun c10 => absurd c10 (fun q => q ((nI_ltI (b := 16) (by omega) (by omega)).mpr hp))) (fun c10 => ?_)
  refine e_aload_n dX10_pastAt_13 rfl ?_
  refine e_getR dX10_pastAt_14 fl_X10_59 sh_x rfl ?_
  refine e_iload_n dX10_pastAt_17 rfl ?_
  refine e_sald dX10_pastAt_18 (sa_x_past) (in_of (by decide) hp) ?_
  rw [nI_clamp (by omega)]
  refine e_goto (tgt := 23) dX10_pastAt_19 (by decide) ?_
  refine e_aret dX10_pastAt_23 rfl ?_
  exact ⟨rfl, rfl⟩
set_option maxHeartbeats 4000000 in
set_option maxRecDepth 20000 in
theorem c_remember {G : Gt} {M : Mm} {E : Gs} {y y' w w' p : Nat} (hX : XJ M E y y' w w' p) : Call G 3 mX10_remember [.ref 0] M (fun r M' => r = none ∧ XJ M' (remE E) y y' w w' ((p + 1) % 16) ∧ M'.2 = M.2 ∧ (∀ i, ¬ (126 ≤ i ∧ i < 238) → ¬ i = 0 → M'.1 i = M.1 i)) := by
  obtain ⟨⟨hld, hsl, hy, hy', hyy⟩, ⟨hpl, hsp, hw, hw', hww⟩, hY, hW, hS, hV, hK, ⟨hpt, hp16, hun, hu16, hU⟩, ⟨htl, htl2, htc⟩⟩ := id hX
  have h6 := hY.1.2
  have hs5 := hY.2.1.2
  have hpst : 126 + 7 * p ∈ stA := by
    have h := rng_st p 16 0
    unfold rng at h
    rw [show 126 + 7 * ((p + 16 - 16 + 0) % 16) = 126 + 7 * p by omega] at h
    exact h
  refine Call.intro rfl (Nat.le_of_ble_eq_true rfl) ?_
  show Ev G _ mX10_remember 0 [.ref 0, RA] [] M _
  refine e_aload_n dX10_remember_0 rfl ?_
  refine e_aload_n dX10_remember_1 rfl ?_
  refine e_getI dX10_remember_2 fl_X10_217 sh_x rfl ?_
  rw [hpt]
  refine cV1r dX10_remember_5 mo_X10_pastAt ml_X10_220 sh_x rfl (Nat.le_of_ble_eq_true rfl) (by omega) (c_pastAt hp16) ?_
  refine e_astore_n (ls' := [_, _]) dX10_remember_8 (by decide) rfl ?_
  refine e_aload_n dX10_remember_9 rfl ?_
  refine e_ifnull dX10_remember_10 ?_
  refine e_aload_n dX10_remember_13 rfl ?_
  refine e_aload_n dX10_remember_14 rfl ?_
  refine e_getR dX10_remember_15 fl_X10_39 sh_x rfl ?_
  refine cV1x dX10_remember_18 mo_X3_copyFrom ml_X10_224 (sh_st (by first | assumption | decide)) rfl (Nat.le_of_ble_eq_true rfl) (by omega) (c_copyS (o := 126 + 7 * p) (q := 44) hpst (by decide) (by omega)) ?_
  rintro r M1 ⟨rfl, h2, hf, hc⟩
  dsimp only [Option.toList, List.cons_append, List.nil_append]
  refine e_aload_n dX10_remember_21 rfl ?_
  refine e_aload_n dX10_remember_22 rfl ?_
  refine e_getI dX10_remember_23 fl_X10_217 sh_x rfl ?_
  rw [hf 0 (by omega), hpt]
  refine e_iconst (v := 1) dX10_remember_26 (by decide) ?_
  refine e_iadd dX10_remember_27 ?_
  rw [nI_1]
  refine e_bipush (v := 16) dX10_remember_28 (by decide) ?_
  refine e_irem dX10_remember_30 (by decide) ?_
  rw [show nI (p + 1) - nI (p + 1) / 16 * 16 = nI ((p + 1) % 16) from pk_rem (d := 16) (by omega) (by omega) (by omega)]
  refine e_putI dX10_remember_31 fl_X10_217 sh_x rfl rfl rfl ?_
  refine e_aload_n dX10_remember_34 rfl ?_
  refine e_aload_n dX10_remember_35 rfl ?_
  refine e_getI dX10_remember_36 fl_X10_114 sh_x rfl ?_
  rw [setI_1, if_neg (by omega), hf 0 (by omega), hun]
  refine e_iconst (v := 1) dX10_remember_39 (by decide) ?_
  refine e_iadd dX10_remember_40 ?_
  rw [nI_1]
  have hmin : (if (16 : Int32) < nI (E.un + 1) then (16 : Int32) else nI (E.un + 1)) = nI (pushU E).1 := by
    have h16 : ((16 : Int32) < nI (E.un + 1)) ↔ 16 < E.un + 1 := nI_ltI (a := 16) (by omega) (by omega)
    unfold pushU
    by_cases h : E.un < 16
    · rw [if_pos h, if_neg (fun q => by have := h16.mp q; omega)]
    · rw [if_neg h, if_pos (h16.mpr (by omega))]; rfl
  refine e_bipush (v := 16) dX10_remember_41 (by decide) ?_
  refine e_min dX10_remember_43 (mem_g 772 (by decide +kernel) rfl) (mem_g 425 (by decide +kernel) rfl) (mem_g 15 (by decide +kernel) rfl) (mem_g 426 (by decide +kernel) rfl) (Nat.le_of_ble_eq_true rfl) (by omega) ?_
  refine e_putI dX10_remember_46 fl_X10_114 sh_x rfl rfl rfl ?_
  refine e_vret dX10_remember_49 rfl ?_
  refine ⟨rfl, hX.rem h2 (fun i hi h0 => ?_) ?_ ?_ ?_, h2, fun i hi h0 => ?_⟩
  · funext k; rw [setI_1, if_neg (fun e => h0 e.1), setI_1, if_neg (fun e => h0 e.1), hf i (by omega)]
  · exact (hc _ _ h6 hS).congr (fun q a b => by funext k; rw [setI_1, if_neg (by omega), setI_1, if_neg (by omega)])
  · rw [setI_1, if_neg (by omega), setI_1, if_pos ⟨rfl, rfl⟩]
  · rw [setI_1, if_pos ⟨rfl, rfl⟩]; exact hmin
  · funext k; rw [setI_1, if_neg (fun e => h0 e.1), setI_1, if_neg (fun e => h0 e.1), hf i (by omega)]
theorem remE_S (E : Gs) : (remE E).S = E.S := rfl
theorem remE_Y (E : Gs) : (remE E).Y = E.Y := rfl
def nightE (E : Gs) : Gs := (remE E).setS (nightV E.Y E.S)
def heatE (E : Gs) (j : Nat) (v : Int32) : Gs := (remE E).setS (heatV E.S j v)
def lightE (E : Gs) (i : Int32) : Gs := (remE E).setS (litV E.S i)
def pullE (E : Gs) (j : Nat) (v : Int32) : Gs := (remE E).setS (loseV E.S j v)
/-- how a call ends for the class: the answer, the new whole, the reference's cells as they were -/
def XE (M M' : Mm) (E' : Gs) : Prop := (∃ y y' w w' p, XJ M' E' y y' w w' p) ∧ ∀ i, 238 ≤ i → M'.1 i = M.1 i ∧ M'.2.1 i = M.2.1 i ∧ M'.2.2 i = M.2.2 i
set_option maxHeartbeats 4000000 in
set_option maxRecDepth 20000 in
theorem c_night {G : Gt} {M : Mm} {E : Gs} {y y' w w' p : Nat} (hX : XJ M E y y' w w' p) {T : Nat} (hI : SI E.Y E.S T) (hT : T < 2 ^ 31) : Call G 5 mX10_night [.ref 0] M (fun r M' => r = some (.int (popN E.Y E.S)) ∧ XE M M' (nightE E)) := by
  obtain ⟨⟨hld, hsl, hy, hy', hyy⟩, ⟨hpl, hsp, hw, hw', hww⟩, hY, hW, hS, hV, hK, ⟨hpt, hp16, hun, hu16, hU⟩, ⟨htl, htl2, htc⟩⟩ := id hX
  have h6 := hY.1.2
  have hs5 := hY.2.1.2
  obtain ⟨r0, hr0, hr6, hs0, t, ht, htT⟩ := id hI
  refine Call.intro rfl (Nat.le_of_ble_eq_true rfl) ?_
  show Ev G _ mX10_night 0 [.ref 0] [] M _
  refine e_aload_n dX10_night_0 rfl ?_
  refine cV0x dX10_night_1 mo_X10_remember ml_X10_192 sh_x rfl (Nat.le_of_ble_eq_true rfl) (by omega) (c_remember hX) ?_
  rintro r M1 ⟨rfl, hX1, hr2, hrf⟩
  dsimp only [Option.toList, List.cons_append, List.nil_append]
  obtain ⟨⟨hld, hsl, hy, hy', hyy⟩, ⟨hpl, hsp, hw, hw', hww⟩, hY, hW, hS, hV, hK, ⟨hpt, hp16, hun, hu16, hU⟩, ⟨htl, htl2, htc⟩⟩ := id (hX1)
  refine e_aload_n dX10_night_4 rfl ?_
  refine e_getR dX10_night_5 fl_X10_39 sh_x rfl ?_
  refine e_aload_n dX10_night_8 rfl ?_
  refine e_getP dX10_night_9 fl_X10_19 sh_x rfl ?_
  first | rw [hld] | (simp only [setI_2, setI_22, setL_22]; rw [hld])
  refine e_aload_n dX10_night_12 rfl ?_
  refine e_getP dX10_night_13 fl_X10_19 sh_x rfl ?_
  first | rw [hld] | (simp only [setI_2, setI_22, setL_22]; rw [hld])
  refine e_aload_n dX10_night_16 rfl ?_
  refine e_getR dX10_night_17 fl_X10_39 sh_x rfl ?_
  refine e_getI dX10_night_20 fl_X10_169 (sh_st (by first | assumption | decide)) rfl ?_
  rw [hS.2.1, remE_S, ht]
  refine cV1r dX10_night_23 mo_X8_frostOf ml_X10_172 (sh_yd (by first | assumption | decide)) rfl (Nat.le_of_ble_eq_true rfl) (by omega) (c_frostOf (by first | assumption | decide) (by assumption) (by omega)) ?_
  refine cV2x dX10_night_26 mo_X3_pass ml_X10_195 (sh_st (by first | assumption | decide)) rfl (Nat.le_of_ble_eq_true rfl) (by omega) (c_pass (o := 44) (by decide) hy hY hS hI) ?_
  rintro r M2 ⟨rfl, h2, hf, hS1, hcr⟩
  dsimp only [Option.toList, List.cons_append, List.nil_append]
  refine e_iret dX10_night_29 rfl ?_
  refine ⟨by unfold popN; rw [ht]; rfl, ⟨y, y', w, w', (p + 1) % 16, ?_⟩, fun i hi => ⟨?_, by rw [h2, hr2], by rw [h2, hr2]⟩⟩
  · exact hX1.upS h2 (fun i a b c => hf i (by omega) b c) (by rw [← ht] at hS1; exact hS1)
  · have hyl := yd_le hy
    rw [hf i (by omega) (by omega) (by omega), hrf i (by omega) (by omega)]
set_option maxHeartbeats 4000000 in
set_option maxRecDepth 20000 in
theorem c_heat {G : Gt} {M : Mm} {E : Gs} {y y' w w' p : Nat} (hX : XJ M E y y' w w' p) {i v : Int32} : Call G 4 mX10_heat [.ref 0, .int i, .int v] M (fun r M' => (vSh E i ∧ vWi v 0 9 → r = some (.int (E.S.heat i.toNatClampNeg)) ∧ XE M M' (heatE E i.toNatClampNeg v)) ∧ (¬ (vSh E i ∧ vWi v 0 9) → r = some (.int (-1)) ∧ M' = M)) := by
  obtain ⟨⟨hld, hsl, hy, hy', hyy⟩, ⟨hpl, hsp, hw, hw', hww⟩, hY, hW, hS, hV, hK, ⟨hpt, hp16, hun, hu16, hU⟩, ⟨htl, htl2, htc⟩⟩ := id hX
  have h6 := hY.1.2
  have hs5 := hY.2.1.2
  refine Call.intro rfl (Nat.le_of_ble_eq_true rfl) ?_
  show Ev G _ mX10_heat 0 [.ref 0, .int i, .int v, RA] [] M _
  refine e_aload_n dX10_heat_0 rfl ?_
  refine e_iload_n dX10_heat_1 rfl ?_
  refine cV1r dX10_heat_2 mo_X10_isShed ml_X10_130 sh_x rfl (Nat.le_of_ble_eq_true rfl) (by omega) (c_isShed (by assumption)) ?_
  refine e_if_eq (tgt := 18) dX10_heat_5 (by decide) (fun c5 => ?_) (fun c5 => ?_)
  · -- 5 jumps
    refine e_iconst (v := (-1)) dX10_heat_18 (by decide) ?_
    refine e_iret dX10_heat_19 rfl ?_
    exact ⟨fun h => absurd h.1 (b2i_eq0.mp c5), fun _ => ⟨rfl, rfl⟩⟩
  · -- 5 goes on
    have c5 : vSh E i := by
      by_cases h : (vSh E i)
      · exact h
      · exact absurd (b2i_f h) c5
    refine e_iload_n dX10_heat_8 rfl ?_
    refine e_iconst (v := 0) dX10_heat_9 (by decide) ?_
    refine e_bipush (v := 9) dX10_heat_10 (by decide) ?_
    refine cS3r dX10_heat_12 mo_X10_within ml_X10_199 (Nat.le_of_ble_eq_true rfl) (by omega) (c_within) ?_
    refine e_if_ne (tgt := 20) dX10_heat_15 (by decide) (fun c15 => ?_) (fun c15 => ?_)
    · -- 15 jumps
      have c15 : vWi v 0 9 := by
        by_cases h : (vWi v 0 9)
        · exact h
        · exact absurd (b2i_f h) c15
      obtain ⟨j, hj, rfl⟩ := shed_of (by omega) c5
      refine e_aload_n dX10_heat_20 rfl ?_
      refine e_getR dX10_heat_21 fl_X10_39 sh_x rfl ?_
      refine e_getR dX10_heat_24 fl_X10_141 (sh_st (by first | assumption | decide)) rfl ?_
      refine e_iload_n dX10_heat_27 rfl ?_
      refine cS2r dX10_heat_28 mo_X10_at ml_X10_137 (Nat.le_of_ble_eq_true rfl) (by omega) (c_atN (sa_st_heats (by first | assumption | decide)) (by decide) (by first | omega | decide)) ?_
      rw [(hS.2.2.2 j hj).1]
      refine e_istore_n (ls' := [_, _, _, _]) dX10_heat_31 (by decide) rfl ?_
      refine e_aload_n dX10_heat_32 rfl ?_
      refine cV0x dX10_heat_33 mo_X10_remember ml_X10_192 sh_x rfl (Nat.le_of_ble_eq_true rfl) (by omega) (c_remember hX) ?_
      rintro r M1 ⟨rfl, hX1, hr2, hrf⟩
      dsimp only [Option.toList, List.cons_append, List.nil_append]
      obtain ⟨⟨hld, hsl, hy, hy', hyy⟩, ⟨hpl, hsp, hw, hw', hww⟩, hY, hW, hS, hV, hK, ⟨hpt, hp16, hun, hu16, hU⟩, ⟨htl, htl2, htc⟩⟩ := id (hX1)
      refine e_aload_n dX10_heat_36 rfl ?_
      refine e_getR dX10_heat_37 fl_X10_39 sh_x rfl ?_
      refine e_iload_n dX10_heat_40 rfl ?_
      refine e_iload_n dX10_heat_41 rfl ?_
      refine cV2v dX10_heat_42 mo_X3_heatTo ml_X10_203 (sh_st (by first | assumption | decide)) rfl (Nat.le_of_ble_eq_true rfl) (by omega) (c_heatTo (by first | assumption | decide) (by omega)) ?_
      refine e_iload_n dX10_heat_45 rfl ?_
      refine e_iret dX10_heat_46 rfl ?_
      refine ⟨fun _ => ?_, fun h => absurd ⟨c5, c15⟩ h⟩
      rw [nI_clamp (by omega)]
      refine ⟨rfl, ⟨y, y', w, w', (p + 1) % 16, ?_⟩, fun i hi => ⟨?_, by rw [← hr2]; rfl, by rw [← hr2]; rfl⟩⟩
      · exact hX1.upS rfl (fun i a b c => by funext k; rw [setI_1, if_neg (by omega)]) hS.heat
      · funext k; rw [setI_1, if_neg (by omega), hrf i (by omega) (by omega)]
    · -- 15 goes on
      refine e_iconst (v := (-1)) dX10_heat_18 (by decide) ?_
      refine e_iret dX10_heat_19 rfl ?_
      exact ⟨fun h => absurd h.2 (b2i_eq0.mp c15), fun _ => ⟨rfl, rfl⟩⟩
set_option maxHeartbeats 4000000 in
set_option maxRecDepth 20000 in
theorem c_light {G : Gt} {M : Mm} {E : Gs} {y y' w w' p : Nat} (hX : XJ M E y y' w w' p) {i : Int32} : Call G 4 mX10_light [.ref 0, .int i] M (fun r M' => (vSh E i ∧ ¬ bitI E.S.lit i → r = some (.int 1) ∧ XE M M' (lightE E i)) ∧ (¬ (vSh E i ∧ ¬ bitI E.S.lit i) → r = some (.int 0) ∧ M' = M)) := by
  obtain ⟨⟨hld, hsl, hy, hy', hyy⟩, ⟨hpl, hsp, hw, hw', hww⟩, hY, hW, hS, hV, hK, ⟨hpt, hp16, hun, hu16, hU⟩, ⟨htl, htl2, htc⟩⟩ := id hX
  have h6 := hY.1.2
  have hs5 := hY.2.1.2
  refine Call.intro rfl (Nat.le_of_ble_eq_true rfl) ?_
  show Ev G _ mX10_light 0 [.ref 0, .int i] [] M _
  refine e_aload_n dX10_light_0 rfl ?_
  refine e_iload_n dX10_light_1 rfl ?_
  refine cV1r dX10_light_2 mo_X10_isShed ml_X10_130 sh_x rfl (Nat.le_of_ble_eq_true rfl) (by omega) (c_isShed (by assumption)) ?_
  refine e_if_eq (tgt := 19) dX10_light_5 (by decide) (fun c5 => ?_) (fun c5 => ?_)
  · -- 5 jumps
    refine e_iconst (v := 0) dX10_light_19 (by decide) ?_
    refine e_zret dX10_light_20 rfl (by first | rfl | exact b2i_nar _) ?_
    exact ⟨fun h => absurd h.1 (b2i_eq0.mp c5), fun _ => ⟨rfl, rfl⟩⟩
  · -- 5 goes on
    have c5 : vSh E i := by
      by_cases h : (vSh E i)
      · exact h
      · exact absurd (b2i_f h) c5
    refine e_aload_n dX10_light_8 rfl ?_
    refine e_getR dX10_light_9 fl_X10_39 sh_x rfl ?_
    refine e_iload_n dX10_light_12 rfl ?_
    refine cV1r dX10_light_13 mo_X3_isLit ml_X10_150 (sh_st (by first | assumption | decide)) rfl (Nat.le_of_ble_eq_true rfl) (by omega) (c_isLit (by first | assumption | decide)) ?_
    rw [hS.2.2.1]
    refine e_if_eq (tgt := 21) dX10_light_16 (by decide) (fun c16 => ?_) (fun c16 => ?_)
    · -- 16 jumps
      refine e_aload_n dX10_light_21 rfl ?_
      refine cV0x dX10_light_22 mo_X10_remember ml_X10_192 sh_x rfl (Nat.le_of_ble_eq_true rfl) (by omega) (c_remember hX) ?_
      rintro r M1 ⟨rfl, hX1, hr2, hrf⟩
      dsimp only [Option.toList, List.cons_append, List.nil_append]
      obtain ⟨⟨hld, hsl, hy, hy', hyy⟩, ⟨hpl, hsp, hw, hw', hww⟩, hY, hW, hS, hV, hK, ⟨hpt, hp16, hun, hu16, hU⟩, ⟨htl, htl2, htc⟩⟩ := id (hX1)
      refine e_aload_n dX10_light_25 rfl ?_
      refine e_getR dX10_light_26 fl_X10_39 sh_x rfl ?_
      refine e_iload_n dX10_light_29 rfl ?_
      refine cV1r dX10_light_30 mo_X3_lightUp ml_X10_207 (sh_st (by first | assumption | decide)) rfl (Nat.le_of_ble_eq_true rfl) (by omega) (c_lightUp (by first | assumption | decide)) ?_
      refine e_zret dX10_light_33 rfl (by first | rfl | exact b2i_nar _) ?_
      have c16 := b2i_eq0.mp c16
      refine ⟨fun _ => ⟨by rw [hS.2.2.1, remE_S, b2i_t c16], ⟨y, y', w, w', (p + 1) % 16, ?_⟩, fun i hi => ⟨?_, by rw [← hr2]; rfl, by rw [← hr2]; rfl⟩⟩, fun h => absurd ⟨c5, c16⟩ h⟩
      · exact hX1.upS rfl (fun i a b c => by funext k; rw [setI_1, if_neg (by omega)]) hS.lit
      · funext k; rw [setI_1, if_neg (by omega), hrf i (by omega) (by omega)]
    · -- 16 goes on
      refine e_iconst (v := 0) dX10_light_19 (by decide) ?_
      refine e_zret dX10_light_20 rfl (by first | rfl | exact b2i_nar _) ?_
      have c16 : bitI E.S.lit i := Classical.not_not.mp (fun q => c16 (b2i_f q))
      exact ⟨fun h => absurd c16 h.2, fun _ => ⟨rfl, rfl⟩⟩
set_option maxHeartbeats 4000000 in
set_option maxRecDepth 20000 in
theorem c_pull {G : Gt} {M : Mm} {E : Gs} {y y' w w' p : Nat} (hX : XJ M E y y' w w' p) {i v : Int32} : Call G 4 mX10_pull [.ref 0, .int i, .int v] M (fun r M' => (vSh E i ∧ vWi v 1 20 ∧ canB E.S i.toNatClampNeg v = true → r = some (.int (E.S.crow i.toNatClampNeg - v)) ∧ XE M M' (pullE E i.toNatClampNeg v)) ∧ (¬ (vSh E i ∧ vWi v 1 20 ∧ canB E.S i.toNatClampNeg v = true) → r = some (.int (-1)) ∧ M' = M)) := by
  obtain ⟨⟨hld, hsl, hy, hy', hyy⟩, ⟨hpl, hsp, hw, hw', hww⟩, hY, hW, hS, hV, hK, ⟨hpt, hp16, hun, hu16, hU⟩, ⟨htl, htl2, htc⟩⟩ := id hX
  have h6 := hY.1.2
  have hs5 := hY.2.1.2
  refine Call.intro rfl (Nat.le_of_ble_eq_true rfl) ?_
  show Ev G _ mX10_pull 0 [.ref 0, .int i, .int v] [] M _
  refine e_aload_n dX10_pull_0 rfl ?_
  refine e_iload_n dX10_pull_1 rfl ?_
  refine cV1r dX10_pull_2 mo_X10_isShed ml_X10_130 sh_x rfl (Nat.le_of_ble_eq_true rfl) (by omega) (c_isShed (by assumption)) ?_
  refine e_if_eq (tgt := 30) dX10_pull_5 (by decide) (fun c5 => ?_) (fun c5 => ?_)
  · -- 5 jumps
    refine e_iconst (v := (-1)) dX10_pull_30 (by decide) ?_
    refine e_iret dX10_pull_31 rfl ?_
    exact ⟨fun h => absurd h.1 (b2i_eq0.mp c5), fun _ => ⟨rfl, rfl⟩⟩
  · -- 5 goes on
    have c5 : vSh E i := by
      by_cases h : (vSh E i)
      · exact h
      · exact absurd (b2i_f h) c5
    obtain ⟨j, hj, rfl⟩ := shed_of (by omega) c5
    refine e_iload_n dX10_pull_8 rfl ?_
    refine e_iconst (v := 1) dX10_pull_9 (by decide) ?_
    refine e_bipush (v := 20) dX10_pull_10 (by decide) ?_
    refine cS3r dX10_pull_12 mo_X10_within ml_X10_199 (Nat.le_of_ble_eq_true rfl) (by omega) (c_within) ?_
    refine e_if_eq (tgt := 30) dX10_pull_15 (by decide) (fun c15 => ?_) (fun c15 => ?_)
    · -- 15 jumps
      refine e_iconst (v := (-1)) dX10_pull_30 (by decide) ?_
      refine e_iret dX10_pull_31 rfl ?_
      exact ⟨fun h => absurd h.2.1 (b2i_eq0.mp c15), fun _ => ⟨rfl, rfl⟩⟩
    · -- 15 goes on
      have c15 : vWi v 1 20 := by
        by_cases h : (vWi v 1 20)
        · exact h
        · exact absurd (b2i_f h) c15
      refine e_aload_n dX10_pull_18 rfl ?_
      refine e_getR dX10_pull_19 fl_X10_39 sh_x rfl ?_
      refine e_iload_n dX10_pull_22 rfl ?_
      refine e_iload_n dX10_pull_23 rfl ?_
      refine cV2r dX10_pull_24 mo_X3_canLose ml_X10_210 (sh_st (by first | assumption | decide)) rfl (Nat.le_of_ble_eq_true rfl) (by omega) (c_canLose (by first | assumption | decide) (by omega)) ?_
      rw [(hS.2.2.2 j hj).2.1, (hS.2.2.2 j hj).2.2.1]
      refine e_if_ne (tgt := 32) dX10_pull_27 (by decide) (fun c27 => ?_) (fun c27 => ?_)
      · -- 27 jumps
        refine e_aload_n dX10_pull_32 rfl ?_
        refine cV0x dX10_pull_33 mo_X10_remember ml_X10_192 sh_x rfl (Nat.le_of_ble_eq_true rfl) (by omega) (c_remember hX) ?_
        rintro r M1 ⟨rfl, hX1, hr2, hrf⟩
        dsimp only [Option.toList, List.cons_append, List.nil_append]
        obtain ⟨⟨hld, hsl, hy, hy', hyy⟩, ⟨hpl, hsp, hw, hw', hww⟩, hY, hW, hS, hV, hK, ⟨hpt, hp16, hun, hu16, hU⟩, ⟨htl, htl2, htc⟩⟩ := id (hX1)
        refine e_aload_n dX10_pull_36 rfl ?_
        refine e_getR dX10_pull_37 fl_X10_39 sh_x rfl ?_
        refine e_iload_n dX10_pull_40 rfl ?_
        refine e_iload_n dX10_pull_41 rfl ?_
        refine cV2v dX10_pull_42 mo_X3_lose ml_X10_214 (sh_st (by first | assumption | decide)) rfl (Nat.le_of_ble_eq_true rfl) (by omega) (c_lose (by first | assumption | decide) (by omega)) ?_
        refine e_aload_n dX10_pull_45 rfl ?_
        refine e_getR dX10_pull_46 fl_X10_39 sh_x rfl ?_
        refine e_getR dX10_pull_49 fl_X10_144 (sh_st (by first | assumption | decide)) rfl ?_
        refine e_iload_n dX10_pull_52 rfl ?_
        refine cS2r dX10_pull_53 mo_X10_at ml_X10_137 (Nat.le_of_ble_eq_true rfl) (by omega) (c_atN (sa_st_crowns (by first | assumption | decide)) (by decide) (by first | omega | decide)) ?_
        refine e_iret dX10_pull_56 rfl ?_
        have c27 : ¬ E.S.crow j < v ∧ ¬ E.S.high j < 10 := Classical.not_not.mp (fun q => c27 (b2i_f q))
        refine ⟨fun _ => ?_, fun h => absurd ⟨c5, c15, by rw [nI_clamp (by omega)]; exact decide_eq_true c27⟩ h⟩
        rw [nI_clamp (by omega)]
        refine ⟨by rw [loseM_c, if_pos rfl, (hS.2.2.2 j hj).2.1, remE_S], ⟨y, y', w, w', (p + 1) % 16, ?_⟩, fun i hi => ⟨?_, by rw [loseM_2, hr2], by rw [loseM_2, hr2]⟩⟩
        · exact hX1.upS loseM_2 (fun i a b c => loseM_fr (by omega) (by omega)) (hS.lose hj)
        · rw [loseM_fr (by omega) (by omega), hrf i (by omega) (by omega)]
      · -- 27 goes on
        refine e_iconst (v := (-1)) dX10_pull_30 (by decide) ?_
        refine e_iret dX10_pull_31 rfl ?_
        have c27 := b2i_eq0.mp c27
        exact ⟨fun h => absurd (by have := h.2.2; rw [nI_clamp (by omega)] at this; exact of_decide_eq_true this) c27, fun _ => ⟨rfl, rfl⟩⟩
end XHA
