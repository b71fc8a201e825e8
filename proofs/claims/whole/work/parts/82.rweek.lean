section RWK2
/-- a tape taken up -/
def BGF (M M' : Mm) : Prop := (∀ i, ¬ i = 238 → M'.1 i = M.1 i) ∧ (∀ i, ¬ i = 238 → M'.2.1 i = M.2.1 i) ∧ M'.2.2 = M.2.2 ∧ ∀ k, k = 23 ∨ k = 24 ∨ k = 54 → M'.1 238 k = M.1 238 k
theorem RJ.upO {M M' : Mm} {E : Gs} {t : Tv} (h : RJ M E) (hF : BGF M M') (hT : TR0 M' t) : RJ M' (E.setT t) := by
  obtain ⟨hY, hL, hS0, hW, hV, hK, ⟨hd, hd2, hU⟩, -⟩ := h
  have h6 := hY.1.2
  exact ⟨hY.congr (fun i a b => hF.1 i (by omega)) (fun i _ => hF.2.1 i (by omega)), hL.congr (fun i a b => hF.1 i (by omega)), hS0.congr h6 (fun k _ => by rw [hF.1 273 (by omega)]), hW.congr (fun i a b => hF.1 i (by omega)), hV.congr (fun i a b => hF.1 i (by omega)), fun k hk => (hK k hk).congr h6 (fun i a => hF.1 i (by omega)), ⟨(hF.2.2.2 54 (by omega)).trans hd, hd2, fun k hk => (hU k hk).congr h6 (fun q _ => by rw [hF.1 278 (by omega)])⟩, hT⟩
theorem BGF.ot {M M' : Mm} (h : BGF M M') : OT M M' := ⟨fun i a => ⟨h.1 i (by omega), h.2.1 i (by omega)⟩, h.2.2.1⟩
theorem WKF.ot {M M' : Mm} (h : WKF M M') : OT M M' := ⟨fun i a => ⟨h.2.2.1 i (by omega) (by omega), h.2.1 i (by omega)⟩, h.1⟩
theorem RLi.wk {M M' : Mm} {r : Nat} {W : Rv} (h : RLi M r W) (hr : r ≤ 4) (hF : WKF M M') : RLi M' r W := by
  have h40 := h.2.1
  exact ⟨by rw [hF.2.2.2.1 r (by omega)]; exact h.1, h40, fun k hk => by rw [hF.2.2.2.2.1 266 _ (by omega) (by omega) (by omega), hF.2.2.2.2.1 267 _ (by omega) (by omega) (by omega), hF.2.2.2.2.1 268 _ (by omega) (by omega) (by omega)]; exact h.2.2 k hk⟩
theorem RJ.wk {M M' : Mm} {E : Gs} (h : RJ M E) (hF : WKF M M') : RJ M' E := by
  obtain ⟨hY, hL, hS0, hW, hV, hK, ⟨hd, hd2, hU⟩, ⟨ht, ht2, htc⟩⟩ := h
  have h6 := hY.1.2
  have cg : ∀ i, ¬ i = 238 → ¬ (265 ≤ i ∧ i ≤ 268) → M'.1 i = M.1 i := hF.2.2.1
  exact ⟨hY.congr (fun i a b => cg i (by omega) (by omega)) (fun i _ => hF.2.1 i (by omega)), hL.congr (fun i a b => cg i (by omega) (by omega)), hS0.congr h6 (fun k _ => by rw [cg 273 (by omega) (by omega)]), hW.wk (by omega) hF, hV.congr (fun i a b => cg i (by omega) (by omega)), fun k hk => (hK k hk).congr' h6 (by rw [cg 279 (by omega) (by omega)]) (fun z _ => by rw [cg 277 (by omega) (by omega)]) (fun W hW => hW.wk (by omega) hF) (fun V hV => hV.congr (fun i a b => cg i (by omega) (by omega))), ⟨(hF.2.2.2.2.2 54 (by omega)).trans hd, hd2, fun k hk => (hU k hk).congr h6 (fun q _ => by rw [cg 278 (by omega) (by omega)])⟩, ⟨(hF.2.2.2.2.2 1 (by omega)).trans ht, ht2, fun k hk => by rw [cg 239 (by omega) (by omega)]; exact htc k hk⟩⟩
theorem RJ.lli {M M' : Mm} {E : Gs} {W : Rv} (h : RJ M E) (hW : RLi M 5 W) (hL : LLi M M' 5 0) : RJ M' (E.setW W) := h.upQ (W := W) (V := E.V) (K := E.K) hL.qf (hW.to hL) (h.2.2.2.2.1.lli hL) (fun k hk => (h.2.2.2.2.2.1 k hk).congr' h.1.1.2 (by rw [hL.2.1 279 (by omega)]) (fun z _ => by rw [hL.2.1 277 (by omega)]) (fun W hW => hW.keep hL (by omega)) (fun V hV => hV.lli hL))
set_option maxHeartbeats 4000000 in
set_option maxRecDepth 20000 in
theorem r_begins {G : Gt} {M : Mm} {t : Tv} (hT : TR0 M t) (hI : TI t) : Call G 3 mX11_begins [.ref 238] M (fun r M' => r = none ∧ BGF M M' ∧ GX M' t (0, 0) ∧ M'.1 238 1 = 0) := by
  refine Call.intro rfl (Nat.le_of_ble_eq_true rfl) ?_
  show Ev G _ mX11_begins 0 [.ref 238] [] M _
  refine e_aload_n dX11_begins_0 rfl ?_
  refine e_aload_n dX11_begins_1 rfl ?_
  refine e_getI dX11_begins_2 fl_X11_159 sh_m rfl ?_
  rw [hT.1]
  refine e_putI dX11_begins_5 fl_X11_162 sh_m rfl rfl rfl ?_
  refine e_aload_n dX11_begins_8 rfl ?_
  refine e_iconst (v := 0) dX11_begins_9 (by decide) ?_
  refine e_putI dX11_begins_10 fl_X11_159 sh_m rfl rfl rfl ?_
  refine e_aload_n dX11_begins_13 rfl ?_
  refine e_iconst (v := 0) dX11_begins_14 (by decide) ?_
  refine e_putI dX11_begins_15 fl_X11_165 sh_m rfl rfl rfl ?_
  have hZ : TZ (setI (setI (setI M 238 3 (nI t.1)) 238 1 0) 238 4 0) t := ⟨by rw [setI_1, if_neg (by omega), setI_1, if_neg (by omega), setI_p], hT.2.1, fun k hk => by rw [setI_n (by decide), setI_n (by decide), setI_n (by decide)]; exact hT.2.2 k hk⟩
  refine e_aload_n dX11_begins_18 rfl ?_
  refine cV0x dX11_begins_19 mo_X11_nextToken ml_X11_224 sh_m rfl (Nat.le_of_ble_eq_true rfl) (by omega) (r_nextToken hI hZ (i := 0) (Nat.zero_le _) (by rw [setI_p]; rfl)) ?_
  rintro r M2 ⟨rfl, hN, hQ⟩
  dsimp only [Option.toList, List.cons_append, List.nil_append]
  refine e_vret dX11_begins_22 rfl ?_
  refine ⟨rfl, ⟨fun i q => ?_, fun i q => ?_, ?_, fun k q => ?_⟩, ⟨rfl, Nat.zero_le _, hI, hN.tz hZ, hQ⟩, ?_⟩
  · rw [hN.1 i q]; funext z; rw [setI_n q, setI_n q, setI_n q]
  · rw [hN.2.1 i q]; rfl
  · rw [hN.2.2.1]; rfl
  · rw [hN.2.2.2.1 k (by omega), setI_1, if_neg (by omega), setI_1, if_neg (by omega), setI_1, if_neg (by omega)]
  · rw [hN.2.2.2.1 1 (by omega), setI_1, if_neg (by omega), setI_p]
theorem wdB_no {t : Tv} {Y : Yv} {n : Nat} {r : Xv × Rv} (h : ¬ goX t r.1) : wdB t Y n r = r := by
  cases n with
  | zero => rfl
  | succ n => rw [wdB, if_neg h]
theorem wdB_go {t : Tv} {Y : Yv} {n : Nat} {r : Xv × Rv} (h : goX t r.1) : wdB t Y (n + 1) r = wdB t Y n (tkS t (wl3 t r.1 r.2 Y) 59, addR r.2 (dhX t r.1) (wlA t r.1 r.2 Y) (wlB t r.1 r.2 Y)) := by rw [wdB, if_pos h]
set_option maxHeartbeats 4000000 in
set_option maxRecDepth 20000 in
theorem l_rweek {G : Gt} {M : Mm} {t : Tv} {Y : Yv} {N : Nat} (hN41 : N = 41) (hn : NMs M 0 Y) : ∀ (k : Nat) (x : Xv) (W : Rv) (Mc : Mm), (W.1 ≤ 40) → (40 < W.1 + k) → (GX Mc t x) → (WKF M Mc) → (RLi Mc 5 W) → (wdW t Y N = wdB t Y (N - W.1) (x, W)) → Ev G 5 mX11_week 16 [.ref 238] [] Mc (fun r M' => ((wdW t Y N).1.1 = 0 → r = some (.int 0) ∧ ∃ M2, WKF M M2 ∧ RLi M2 5 (wdW t Y N).2 ∧ LLi M2 M' 5 0) ∧ (¬ (wdW t Y N).1.1 = 0 → r = some (.int (wdW t Y N).1.1) ∧ WKF M M')) := by
  intro k
  induction k with
  | zero => intro x W Mc hi hk hG hF hW hr; exact absurd hk (by omega)
  | succ k ih =>
    intro x W Mc hi hk hG hF hW hr
    obtain ⟨hx0, hx2, hI, hZ, g4, g5, g6, g7, g8⟩ := id hG
    refine e_aload_n dX11_week_16 rfl ?_
    refine e_getI dX11_week_17 fl_X11_178 sh_m rfl ?_
    rw [g6]
    refine e_if_eq (tgt := 35) dX11_week_20 (by decide) (fun c20 => ?_) (fun c20 => ?_)
    · -- 20 jumps
      have hg : ¬ goX t x := fun q => q.2 (kR_0.mp c20)
      have hres : wdW t Y N = (x, W) := hr.trans (wdB_no hg)
      refine e_aload_n dX11_week_35 rfl ?_
      refine e_iconst (v := 5) dX11_week_36 (by decide) ?_
      refine e_iconst (v := 0) dX11_week_37 (by decide) ?_
      refine cV2x dX11_week_38 mo_X11_laysLines ml_X11_359 sh_m rfl (Nat.le_of_ble_eq_true rfl) (by omega) (r_laysLines (p := 5) (q := 0) (by decide) (by decide) (by decide)) ?_
      rintro r M2 ⟨rfl, hL2⟩
      dsimp only [Option.toList, List.cons_append, List.nil_append]
      refine e_iconst (v := 0) dX11_week_41 (by decide) ?_
      refine e_iret dX11_week_42 rfl ?_
      rw [hres]
      exact ⟨fun _ => ⟨rfl, Mc, hF, hW, hL2⟩, fun q => absurd hx0 q⟩
    · -- 20 goes on
      have hg : goX t x := ⟨hx0, fun q => c20 (kR_0.mpr q)⟩
      have hr2 := hr
      rw [show N - W.1 = (N - (W.1 + 1)) + 1 by omega, wdB_go hg] at hr2
      refine e_aload_n dX11_week_23 rfl ?_
      refine cV0x dX11_week_24 mo_X11_readsLine ml_X11_356 sh_m rfl (Nat.le_of_ble_eq_true rfl) (by omega) (r_readsLine hG hW (hF.nm hn)) ?_
      rintro r M2 ⟨hO2, hA2, hW2⟩
      rcases hA2 with ⟨z1, rfl, z2⟩ | ⟨z1, rfl, z2⟩
      · -- ok at 24
        dsimp only [Option.toList, List.cons_append, List.nil_append]
        have hl : W.1 < 40 := by have h1 := (hW2 z1).2.1; have h2 : W.1 + 1 ≤ 40 := h1; omega
        refine e_if_ne (tgt := 16) dX11_week_27 (by decide) (fun c27 => ?_) (fun c27 => absurd c27 (by decide))
        exact ih _ _ M2 (by show W.1 + 1 ≤ 40; omega) (by show 40 < W.1 + 1 + k; omega) z2 (hF.trans hO2) (hW2 z1) (by show _ = wdB t Y (N - (W.1 + 1)) _; rw [hr2])
      · -- no at 24
        dsimp only [Option.toList, List.cons_append, List.nil_append]
        refine e_if_ne (tgt := 16) dX11_week_27 (by decide) (fun c27 => absurd c27 (by decide)) (fun c27 => ?_)
        refine e_aload_n dX11_week_30 rfl ?_
        refine e_getI dX11_week_31 fl_X11_189 sh_m rfl ?_
        refine e_iret dX11_week_34 rfl ?_
        have hres := hr2.trans (wdB_no (r := (tkS t (wl3 t x W Y) 59, addR W (dhX t x) (wlA t x W Y) (wlB t x W Y))) (fun q => z1 q.1))
        rw [hres]
        exact ⟨fun q => absurd q z1, fun _ => ⟨by rw [z2], hF.trans hO2⟩⟩
set_option maxHeartbeats 4000000 in
set_option maxRecDepth 20000 in
theorem r_week {G : Gt} {M : Mm} {E : Gs} (hJ : RJ M E) (hI : TI E.1) : Call G 5 mX11_week [.ref 238] M (fun r M' => r = some (.int (weekR E).1.1) ∧ RE M M' (weekE E)) := by
  refine Call.intro rfl (Nat.le_of_ble_eq_true rfl) ?_
  show Ev G _ mX11_week 0 [.ref 238] [] M _
  refine e_aload_n dX11_week_0 rfl ?_
  refine e_iconst (v := 0) dX11_week_1 (by decide) ?_
  refine e_putI dX11_week_2 fl_X11_153 sh_m rfl rfl rfl ?_
  refine th0 (fun M1 hC1 => ?_)
  have hJ := hC1.keep hJ
  have hY := hJ.1
  have h6 := hY.1.2
  have hs5 := hY.2.1.2
  have hL := hJ.2.1
  have hS := hJ.2.2.1
  refine e_aload_n dX11_week_5 rfl ?_
  refine e_getR dX11_week_6 fl_X11_90 sh_m rfl ?_
  refine e_iconst (v := 5) dX11_week_9 (by decide) ?_
  refine e_iconst (v := 0) dX11_week_10 (by decide) ?_
  refine e_iastN (j := 5) dX11_week_11 (sa_m_lines) (by decide) (by omega) ?_
  have hF5 : WKF M1 (setI M1 265 5 0) := WKF.rfl'.s5
  have hJ5 := hJ.wk hF5
  have hT5 : TR0 (setI M1 265 5 0) E.1 := hJ5.2.2.2.2.2.2.2
  refine e_aload_n dX11_week_12 rfl ?_
  refine cV0x dX11_week_13 mo_X11_begins ml_X11_318 sh_m rfl (Nat.le_of_ble_eq_true rfl) (by omega) (r_begins hT5 hI) ?_
  rintro r M2 ⟨rfl, hB, hG, h1⟩
  dsimp only [Option.toList, List.cons_append, List.nil_append]
  have hJ6 : RJ M2 (E.setT (0, E.1.2)) := hJ5.upO hB ⟨h1, Nat.zero_le _, fun k hk => absurd hk (Nat.not_lt_zero k)⟩
  have hW6 : RLi M2 5 emR := ⟨by rw [hB.1 265 (by decide), setI_p]; rfl, Nat.zero_le _, fun k hk => absurd hk (Nat.not_lt_zero k)⟩
  refine (l_rweek (N := 41) rfl (Y := E.Y) hJ6.1.nm 41 (0, 0) emR M2 (Nat.zero_le _) (by decide) hG WKF.rfl' hW6 rfl).weaken (fun r M3 h => ?_)
  have e : wdW E.1 E.Y 41 = weekR E := rfl
  rw [e] at h
  by_cases hz : (weekR E).1.1 = 0
  · obtain ⟨h0, M4, h2, h3, h4⟩ := h.1 hz
    have e2 : weekE E = (E.setT (0, E.1.2)).setW (weekR E).2 := if_pos hz
    rw [e2, hz]
    exact ⟨h0, (hJ6.wk h2).lli h3 h4, hC1.ot.trans ((hF5.ot.trans hB.ot).trans (h2.ot.trans h4.ot))⟩
  · obtain ⟨h0, h2⟩ := h.2 hz
    have e2 : weekE E = E.setT (0, E.1.2) := if_neg hz
    rw [e2]
    exact ⟨h0, hJ6.wk h2, hC1.ot.trans ((hF5.ot.trans hB.ot).trans h2.ot)⟩
end RWK2
