section RHA
/-- what a call of the reference leaves as it was -/
def OT (M M' : Mm) : Prop := (∀ i, i < 238 ∨ 285 ≤ i → M'.1 i = M.1 i ∧ M'.2.1 i = M.2.1 i) ∧ M'.2.2 = M.2.2
theorem OT.rfl' {M : Mm} : OT M M := ⟨fun _ _ => ⟨rfl, rfl⟩, rfl⟩
theorem OT.trans {A B C : Mm} (h : OT A B) (k : OT B C) : OT A C := ⟨fun i q => ⟨(k.1 i q).1.trans (h.1 i q).1, (k.1 i q).2.trans (h.1 i q).2⟩, k.2.trans h.2⟩
theorem OT.i {M Mc : Mm} (h : OT M Mc) {c k : Nat} {v : Int32} (hc : 238 ≤ c ∧ c ≤ 284) : OT M (setI Mc c k v) := ⟨fun i q => ⟨by rw [← (h.1 i q).1]; funext z; rw [setI_n (by omega)], (h.1 i q).2⟩, h.2⟩
theorem OT.cp {M Mc : Mm} (h : OT M Mc) {a p t b n : Nat} (ht : 238 ≤ t ∧ t ≤ 284) : OT M (cpR Mc a p t b n) := ⟨fun i q => ⟨by rw [cpR_ne (by omega)]; exact (h.1 i q).1, (h.1 i q).2⟩, h.2⟩
theorem RD.ot {M M' : Mm} (h : RD M M') : OT M M' := ⟨fun i q => ⟨h.2.2.1 i (by unfold rsd; omega), h.2.1 i (by omega)⟩, h.1⟩
theorem RC.ot {M M' : Mm} (h : RC M M') : OT M M' := h.1.ot
theorem O3.ot {M M' : Mm} (h : O3 M M') : OT M M' := h.rd.ot
/-- how a call of the reference ends -/
def RE (M M' : Mm) (E' : Gs) : Prop := RJ M' E' ∧ OT M M'
theorem RC.re {M M' : Mm} {E : Gs} (h : RC M M') (hJ : RJ M E) : RE M M' E := ⟨h.keep hJ, h.ot⟩
theorem RJ.upS {M M' : Mm} {E : Gs} {S' : Sv} (h : RJ M E) (hD : RD M M') (hS : RW M' 273 0 E.Y.n S') : RJ M' (E.setS S') := by
  obtain ⟨hY, hL, hS0, hW, hV, hK, ⟨hd, hd2, hU⟩, ⟨ht, ht2, htc⟩⟩ := h
  have h6 := hY.1.2
  exact ⟨hD.ry hY, hD.rl hL, hS, hW.congr (fun i a b => hD.2.2.1 i (by unfold rsd; omega)), hV.congr (fun i a b => hD.2.2.1 i (by unfold rsd; omega)), fun k hk => (hK k hk).congr h6 (fun i a => hD.2.2.1 i (by unfold rsd; omega)), ⟨(hD.2.2.2 54 (by omega)).trans hd, hd2, fun k hk => (hU k hk).congr h6 (fun q _ => by rw [hD.2.2.1 278 (by unfold rsd; omega)])⟩, ⟨(hD.2.2.2 1 (by omega)).trans ht, ht2, fun k hk => by rw [hD.2.2.1 239 (by unfold rsd; omega)]; exact htc k hk⟩⟩
/-- what can be undone, and nothing else -/
def KU2 (M M' : Mm) : Prop := M'.2 = M.2 ∧ (∀ i, ¬ i = 278 → ¬ i = 238 → M'.1 i = M.1 i) ∧ ∀ k, ¬ k = 54 → M'.1 238 k = M.1 238 k
theorem KU2.ot {M M' : Mm} (h : KU2 M M') : OT M M' := ⟨fun i q => ⟨h.2.1 i (by omega) (by omega), by rw [h.1]⟩, by rw [h.1]⟩
theorem RJ.upU {M M' : Mm} {E : Gs} {u : Nat × (Nat → Sv)} (h : RJ M E) (hK2 : KU2 M M') (h54 : M'.1 238 54 = nI u.1) (h16 : u.1 ≤ 16) (hu : ∀ k, k < u.1 → RW M' 278 (26 * k) E.Y.n (u.2 k)) : RJ M' (E.setU u) := by
  obtain ⟨hY, hL, hS0, hW, hV, hK, ⟨hd, hd2, hU⟩, ⟨ht, ht2, htc⟩⟩ := h
  have h6 := hY.1.2
  exact ⟨hY.congr (fun i a b => hK2.2.1 i (by omega) (by omega)) (fun i _ => by rw [hK2.1]), hL.congr (fun i a b => hK2.2.1 i (by omega) (by omega)), hS0.congr h6 (fun k _ => by rw [hK2.2.1 273 (by omega) (by omega)]), hW.congr (fun i a b => hK2.2.1 i (by omega) (by omega)), hV.congr (fun i a b => hK2.2.1 i (by omega) (by omega)), fun k hk => (hK k hk).congr h6 (fun i a => hK2.2.1 i (by omega) (by omega)), ⟨h54, h16, hu⟩, ⟨(hK2.2.2 1 (by omega)).trans ht, ht2, fun k hk => by rw [hK2.2.1 239 (by omega) (by omega)]; exact htc k hk⟩⟩
theorem pushU_16 (E : Gs) : (pushU E).1 ≤ 16 := by
  unfold pushU; split
  · show E.un + 1 ≤ 16; omega
  · exact Nat.le_refl 16
set_option maxHeartbeats 4000000 in
set_option maxRecDepth 20000 in
theorem s_keep49 {G : Gt} {Mc : Mm} {d : Nat} {u : Value} (hd : Mc.1 238 54 = nI d) (hd16 : d < 16) : Ev G 2 mX11_keeps 49 [.ref 238, u] [] Mc (fun r M' => r = none ∧ M' = setI (cpR Mc 273 0 278 (26 * d) 26) 238 54 (nI (d + 1))) := by
  refine e_aload_n dX11_keeps_49 rfl ?_
  refine e_getR dX11_keeps_50 fl_X11_114 sh_m rfl ?_
  refine e_iconst (v := 0) dX11_keeps_53 (by decide) ?_
  refine e_aload_n dX11_keeps_54 rfl ?_
  refine e_getR dX11_keeps_55 fl_X11_129 sh_m rfl ?_
  refine e_bipush (v := 26) dX11_keeps_58 (by decide) ?_
  refine e_aload_n dX11_keeps_60 rfl ?_
  refine e_getI dX11_keeps_61 fl_X11_353 sh_m rfl ?_
  rw [hd]
  refine e_imulN (a := 26) (b := d) dX11_keeps_64 ?_
  refine cS4v dX11_keeps_65 mo_X11_copies ml_X11_403 (Nat.le_of_ble_eq_true rfl) (by omega) (r_copies (p := 0) (b := (26 * d)) (sa_m_s) (sa_m_undone) (by omega) (by omega) (by decide) (by decide) (by decide)) ?_
  refine e_aload_n dX11_keeps_68 rfl ?_
  refine e_dup dX11_keeps_69 rfl ?_
  refine e_getI dX11_keeps_70 fl_X11_353 sh_m rfl ?_
  rw [cpR_ne (by decide), hd]
  refine e_iconst (v := 1) dX11_keeps_73 (by decide) ?_
  refine e_iaddN (a := d) (b := 1) dX11_keeps_74 ?_
  refine e_putI dX11_keeps_75 fl_X11_353 sh_m rfl rfl rfl ?_
  refine e_vret dX11_keeps_78 rfl ?_
  exact ⟨rfl, rfl⟩
set_option maxHeartbeats 4000000 in
set_option maxRecDepth 20000 in
theorem l_keep {G : Gt} {M : Mm} {E : Gs} (hJ : RJ M E) (h16 : E.un = 16) : ∀ (k : Nat) (i : Nat) (Mc : Mm), (i ≤ 390) → (390 < i + k) → (OA 278 M Mc) → (∀ k, k < 416 → Mc.1 278 k = if k < i then M.1 278 (k + 26) else M.1 278 k) → Ev G 2 mX11_keeps 11 [.ref 238, .int (nI i)] [] Mc (fun r M' => r = none ∧ KU2 M M' ∧ M'.1 238 54 = nI (pushU E).1 ∧ ∀ k, k < (pushU E).1 → RW M' 278 (26 * k) E.Y.n ((pushU E).2 k)) := by
  intro k
  induction k with
  | zero => intro i Mc hi hk hO hv; exact absurd hk (by omega)
  | succ k ih =>
    intro i Mc hi hk hO hv
    have hY := hJ.1
    have h6 := hY.1.2
    have hs5 := hY.2.1.2
    have hL := hJ.2.1
    have hS := hJ.2.2.1
    refine e_iload_n dX11_keeps_11 rfl ?_
    refine e_sipush (v := 390) dX11_keeps_12 (by decide) ?_
    refine e_icmp_ge (tgt := 39) dX11_keeps_15 (by decide) (fun c15 => ?_) (fun c15 => ?_)
    · -- 15 jumps
      have hin : i = 390 := by have := ge_of (i := i) (n := 390) (by omega) (by omega) c15; omega
      subst hin
      refine e_aload_n dX11_keeps_39 rfl ?_
      refine e_dup dX11_keeps_40 rfl ?_
      refine e_getI dX11_keeps_41 fl_X11_353 sh_m rfl ?_
      refine e_iconst (v := 1) dX11_keeps_44 (by decide) ?_
      refine e_isub dX11_keeps_45 ?_
      refine e_putI dX11_keeps_46 fl_X11_353 sh_m rfl rfl rfl ?_
      have e54 : M.1 238 54 = nI 16 := by rw [← h16]; exact hJ.2.2.2.2.2.2.1.1
      have hU := hJ.2.2.2.2.2.2.1.2.2
      refine (s_keep49 (d := 15) (by rw [setI_p, hO.2 238 (by decide), e54]; rfl) (by decide)).weaken (fun r M3 h => ?_)
      obtain ⟨rfl, rfl⟩ := h
      have hp : pushU E = (16, fun k => if k = 15 then E.S else E.us (k + 1)) := if_neg (by omega)
      rw [hp]
      refine ⟨rfl, ⟨hO.1, fun q a b => ?_, fun k hk => ?_⟩, by rw [setI_p], fun k hk => ?_⟩
      · rw [show (setI (cpR (setI Mc 238 54 _) 273 0 278 (26 * 15) 26) 238 54 (nI (15 + 1))).1 q = Mc.1 q from by funext z; rw [setI_n b, cpR_ne a, setI_n b]]; exact hO.2 q a
      · rw [setI_1, if_neg (fun x => hk x.2), cpR_ne (by decide), setI_1, if_neg (fun x => hk x.2), hO.2 238 (by decide)]
      · have hk16 : k < 16 := hk
        show RW _ 278 (26 * k) E.Y.n (if k = 15 then E.S else E.us (k + 1))
        by_cases e : k = 15
        · subst e
          rw [if_pos rfl]
          exact hS.congr h6 (fun z hz => by rw [setI_n (by decide), cpR_eq hz, setI_n (by decide), hO.2 273 (by decide)])
        · rw [if_neg e]
          refine (hU (k + 1) (by omega)).congr h6 (fun z hz => ?_)
          rw [setI_n (by decide), cpR_out (by omega), setI_n (by decide), hv _ (by omega), if_pos (by omega)]
          rw [show 26 * k + z + 26 = 26 * (k + 1) + z by omega]
    · -- 15 goes on
      have hlt : i < 390 := lt_of (i := i) (n := 390) (by omega) (by omega) c15
      refine e_aload_n dX11_keeps_18 rfl ?_
      refine e_getR dX11_keeps_19 fl_X11_129 sh_m rfl ?_
      refine e_iload_n dX11_keeps_22 rfl ?_
      refine e_aload_n dX11_keeps_23 rfl ?_
      refine e_getR dX11_keeps_24 fl_X11_129 sh_m rfl ?_
      refine e_iload_n dX11_keeps_27 rfl ?_
      refine e_bipush (v := 26) dX11_keeps_28 (by decide) ?_
      refine e_iaddN (a := i) (b := 26) dX11_keeps_30 ?_
      refine e_ialdN (j := (i + 26)) dX11_keeps_31 (sa_m_undone) (by decide) (by omega) ?_
      refine e_iastN (j := i) dX11_keeps_32 (sa_m_undone) (by decide) (by omega) ?_
      refine e_iinc (ls' := [_, _]) dX11_keeps_33 rfl (nI_i1 _) (by decide) rfl ?_
      refine e_goto (tgt := 11) dX11_keeps_36 (by decide) ?_
      refine ih (i + 1) _ (by omega) (by omega) (hO.i _ _) (fun k hk => ?_)
      rw [hv (i + 26) (by omega), if_neg (by omega), setI_1]
      by_cases e : k = i
      · subst e; rw [if_pos ⟨rfl, rfl⟩, if_pos (by omega)]
      · rw [if_neg (fun x => e x.2), hv k hk]
        by_cases l : k < i
        · rw [if_pos l, if_pos (by omega)]
        · rw [if_neg l, if_neg (by omega)]
set_option maxHeartbeats 4000000 in
set_option maxRecDepth 20000 in
theorem r_keeps {G : Gt} {M : Mm} {E : Gs} (hJ : RJ M E) : Call G 2 mX11_keeps [.ref 238] M (fun r M' => r = none ∧ KU2 M M' ∧ RJ M' (remE E)) := by
  have hY := hJ.1
  have h6 := hY.1.2
  have hs5 := hY.2.1.2
  have hL := hJ.2.1
  have hS := hJ.2.2.1
  have hU := hJ.2.2.2.2.2.2.1
  refine Call.intro rfl (Nat.le_of_ble_eq_true rfl) ?_
  show Ev G _ mX11_keeps 0 [.ref 238, RA] [] M _
  refine e_aload_n dX11_keeps_0 rfl ?_
  refine e_getI dX11_keeps_1 fl_X11_353 sh_m rfl ?_
  rw [hU.1]
  refine e_bipush (v := 16) dX11_keeps_4 (by decide) ?_
  refine e_icmp_ne (tgt := 49) dX11_keeps_6 (by decide) (fun c6 => ?_) (fun c6 => ?_)
  · -- 6 jumps
    have hlt : E.un < 16 := by have := hU.2.1; have : ¬ E.un = 16 := fun e => c6 (by rw [e]; rfl); omega
    refine (s_keep49 hU.1 hlt).weaken (fun r M3 h => ?_)
    obtain ⟨rfl, rfl⟩ := h
    have hp : pushU E = (E.un + 1, fun k => if k = E.un then E.S else E.us k) := if_pos hlt
    have hK2 : KU2 M (setI (cpR M 273 0 278 (26 * E.un) 26) 238 54 (nI (E.un + 1))) := ⟨rfl, fun q a b => by funext z; rw [setI_n b, cpR_ne a], fun k hk => by rw [setI_1, if_neg (fun x => hk x.2), cpR_ne (by decide)]⟩
    refine ⟨rfl, hK2, hJ.upU hK2 (by rw [hp, setI_p]) (pushU_16 E) (fun k hk => ?_)⟩
    rw [hp] at hk ⊢
    have hk2 : k < E.un + 1 := hk
    show RW _ 278 (26 * k) E.Y.n (if k = E.un then E.S else E.us k)
    by_cases e : k = E.un
    · subst e
      rw [if_pos rfl]
      exact hS.congr h6 (fun z hz => by rw [setI_n (by decide), cpR_eq hz])
    · rw [if_neg e]
      exact (hU.2.2 k (by omega)).congr h6 (fun z hz => by rw [setI_n (by decide), cpR_out (by omega)])
  · -- 6 goes on
    have h16 : E.un = 16 := nI_injN (by have := hU.2.1; omega) (by omega) c6
    refine e_iconst (v := 0) dX11_keeps_9 (by decide) ?_
    refine e_istore_n (ls' := [_, _]) dX11_keeps_10 (by decide) rfl ?_
    refine (l_keep hJ h16 391 0 M (by omega) (by omega) OA.rfl' (fun k hk => by rw [if_neg (by omega)])).weaken (fun r M3 h => ?_)
    obtain ⟨h0, h1, h2, h3⟩ := h
    exact ⟨h0, h1, hJ.upU h1 h2 (pushU_16 E) h3⟩
set_option maxHeartbeats 4000000 in
set_option maxRecDepth 20000 in
theorem r_night {G : Gt} {M : Mm} {E : Gs} (hJ : RJ M E) {T : Nat} (hI : SI E.Y E.S T) (hT : T < 2 ^ 31) (hN : NS E.Y) : Call G 7 mX11_night [.ref 238] M (fun r M' => r = some (.int (popN E.Y E.S)) ∧ RE M M' (nightE E)) := by
  refine Call.intro rfl (Nat.le_of_ble_eq_true rfl) ?_
  show Ev G _ mX11_night 0 [.ref 238] [] M _
  refine e_aload_n dX11_night_0 rfl ?_
  refine e_iconst (v := 0) dX11_night_1 (by decide) ?_
  refine e_putI dX11_night_2 fl_X11_153 sh_m rfl rfl rfl ?_
  refine th0 (fun M1 hC1 => ?_)
  have hJ := hC1.keep hJ
  have hY := hJ.1
  have h6 := hY.1.2
  have hs5 := hY.2.1.2
  have hL := hJ.2.1
  have hS := hJ.2.2.1
  refine e_aload_n dX11_night_5 rfl ?_
  refine cV0x dX11_night_6 mo_X11_keeps ml_X11_407 sh_m rfl (Nat.le_of_ble_eq_true rfl) (by omega) (r_keeps hJ) ?_
  rintro r M2 ⟨rfl, hK2, hJ2⟩
  dsimp only [Option.toList, List.cons_append, List.nil_append]
  have hY2 : RY M2 E.Y := hJ2.1
  have hS2 : RW M2 273 0 E.Y.n E.S := hJ2.2.2.1
  obtain ⟨r0, -, -, -, t, ht, htT⟩ := id hI
  have hL2 : RLw M2 E.Y.gE := hJ2.2.1
  refine e_aload_n dX11_night_9 rfl ?_
  refine cV0x dX11_night_10 mo_X11_passesAsTold ml_X11_410 sh_m rfl (Nat.le_of_ble_eq_true rfl) (by omega) (r_passesAsTold hY2 hS2 hL2 hN ht (by omega)) ?_
  rintro r M3 ⟨rfl, hp1, hp2, hp3⟩
  dsimp only [Option.toList, List.cons_append, List.nil_append]
  refine e_iret dX11_night_13 rfl ?_
  exact ⟨rfl, hJ2.upS hp1.rd hp2, hC1.ot.trans (hK2.ot.trans hp1.rd.ot)⟩
set_option maxHeartbeats 4000000 in
set_option maxRecDepth 20000 in
theorem r_heat {G : Gt} {M : Mm} {E : Gs} (hJ : RJ M E) {i v : Int32} : Call G 3 mX11_heat [.ref 238, .int i, .int v] M (fun r M' => (vSh E i ∧ vWi v 0 9 → r = some (.int (E.S.heat i.toNatClampNeg)) ∧ RE M M' (heatE E i.toNatClampNeg v)) ∧ (¬ (vSh E i ∧ vWi v 0 9) → r = some (.int (-1)) ∧ RC M M')) := by
  refine Call.intro rfl (Nat.le_of_ble_eq_true rfl) ?_
  show Ev G _ mX11_heat 0 [.ref 238, .int i, .int v, RA] [] M _
  refine e_aload_n dX11_heat_0 rfl ?_
  refine e_iconst (v := 0) dX11_heat_1 (by decide) ?_
  refine e_putI dX11_heat_2 fl_X11_153 sh_m rfl rfl rfl ?_
  refine th0 (fun M1 hC1 => ?_)
  have hJ := hC1.keep hJ
  have hY := hJ.1
  have h6 := hY.1.2
  have hs5 := hY.2.1.2
  have hL := hJ.2.1
  have hS := hJ.2.2.1
  refine e_aload_n dX11_heat_5 rfl ?_
  refine e_iload_n dX11_heat_6 rfl ?_
  refine cV1r dX11_heat_7 mo_X11_isShed ml_X11_397 sh_m rfl (Nat.le_of_ble_eq_true rfl) (by omega) (r_isShed (by assumption)) ?_
  refine e_if_eq (tgt := 23) dX11_heat_10 (by decide) (fun c10 => ?_) (fun c10 => ?_)
  · -- 10 jumps
    refine e_iconst (v := (-1)) dX11_heat_23 (by decide) ?_
    refine e_iret dX11_heat_24 rfl ?_
    exact ⟨fun h => absurd h.1 (b2i_eq0.mp c10), fun _ => ⟨rfl, hC1⟩⟩
  · -- 10 goes on
    have hsh10 : ¬ i < 0 ∧ i < nI E.Y.n := by
      by_cases h : (¬ i < 0 ∧ i < nI E.Y.n)
      · exact h
      · exact absurd (b2i_f h) c10
    obtain ⟨j, hj, rfl⟩ := shed_of (by omega) hsh10
    refine e_iload_n dX11_heat_13 rfl ?_
    refine e_iconst (v := 0) dX11_heat_14 (by decide) ?_
    refine e_bipush (v := 9) dX11_heat_15 (by decide) ?_
    refine cS3r dX11_heat_17 mo_X11_within ml_X11_274 (Nat.le_of_ble_eq_true rfl) (by omega) (r_within) ?_
    refine e_if_ne (tgt := 25) dX11_heat_20 (by decide) (fun c20 => ?_) (fun c20 => ?_)
    · -- 20 jumps
      have c20 : vWi v 0 9 := by
        by_cases h : (vWi v 0 9)
        · exact h
        · exact absurd (b2i_f h) c20
      refine e_aload_n dX11_heat_25 rfl ?_
      refine cV0x dX11_heat_26 mo_X11_keeps ml_X11_407 sh_m rfl (Nat.le_of_ble_eq_true rfl) (by omega) (r_keeps hJ) ?_
      rintro r M2 ⟨rfl, hK2, hJ2⟩
      dsimp only [Option.toList, List.cons_append, List.nil_append]
      have hY2 : RY M2 E.Y := hJ2.1
      have hS2 : RW M2 273 0 E.Y.n E.S := hJ2.2.2.1
      refine e_aload_n dX11_heat_29 rfl ?_
      refine e_getR dX11_heat_30 fl_X11_114 sh_m rfl ?_
      refine e_iconst (v := 2) dX11_heat_33 (by decide) ?_
      refine e_iload_n dX11_heat_34 rfl ?_
      refine e_iaddN (a := 2) (b := j) dX11_heat_35 ?_
      refine e_ialdN (j := (2 + j)) dX11_heat_36 (sa_m_s) (by decide) (by omega) ?_
      rw [hS2.ht hj]
      refine e_istore_n (ls' := [_, _, _, _]) dX11_heat_37 (by decide) rfl ?_
      refine e_aload_n dX11_heat_38 rfl ?_
      refine e_getR dX11_heat_39 fl_X11_114 sh_m rfl ?_
      refine e_iconst (v := 2) dX11_heat_42 (by decide) ?_
      refine e_iload_n dX11_heat_43 rfl ?_
      refine e_iaddN (a := 2) (b := j) dX11_heat_44 ?_
      refine e_iload_n dX11_heat_45 rfl ?_
      refine e_iastN (j := (2 + j)) dX11_heat_46 (sa_m_s) (by decide) (by omega) ?_
      refine e_iload_n dX11_heat_47 rfl ?_
      refine e_iret dX11_heat_48 rfl ?_
      refine ⟨fun _ => ⟨by rw [nI_clamp (by omega)], ?_⟩, fun h => absurd ⟨hsh10, c20⟩ h⟩
      rw [nI_clamp (by omega)]
      have hO : O3 M2 (setI M2 273 (2 + j) v) := O3.rfl'.i _ _
      exact ⟨hJ2.upS hO.rd (hS2.heat hj h6), hC1.ot.trans (hK2.ot.trans hO.ot)⟩
    · -- 20 goes on
      refine e_iconst (v := (-1)) dX11_heat_23 (by decide) ?_
      refine e_iret dX11_heat_24 rfl ?_
      exact ⟨fun h => absurd h.2 (b2i_eq0.mp c20), fun _ => ⟨rfl, hC1⟩⟩
set_option maxHeartbeats 4000000 in
set_option maxRecDepth 20000 in
theorem r_light {G : Gt} {M : Mm} {E : Gs} (hJ : RJ M E) {i : Int32} : Call G 3 mX11_light [.ref 238, .int i] M (fun r M' => (vSh E i ∧ ¬ bitI E.S.lit i → r = some (.int 1) ∧ RE M M' (lightE E i)) ∧ (¬ (vSh E i ∧ ¬ bitI E.S.lit i) → r = some (.int 0) ∧ RC M M')) := by
  refine Call.intro rfl (Nat.le_of_ble_eq_true rfl) ?_
  show Ev G _ mX11_light 0 [.ref 238, .int i] [] M _
  refine e_aload_n dX11_light_0 rfl ?_
  refine e_iconst (v := 0) dX11_light_1 (by decide) ?_
  refine e_putI dX11_light_2 fl_X11_153 sh_m rfl rfl rfl ?_
  refine th0 (fun M1 hC1 => ?_)
  have hJ := hC1.keep hJ
  have hY := hJ.1
  have h6 := hY.1.2
  have hs5 := hY.2.1.2
  have hL := hJ.2.1
  have hS := hJ.2.2.1
  refine e_aload_n dX11_light_5 rfl ?_
  refine e_iload_n dX11_light_6 rfl ?_
  refine cV1r dX11_light_7 mo_X11_isShed ml_X11_397 sh_m rfl (Nat.le_of_ble_eq_true rfl) (by omega) (r_isShed (by assumption)) ?_
  refine e_if_eq (tgt := 21) dX11_light_10 (by decide) (fun c10 => ?_) (fun c10 => ?_)
  · -- 10 jumps
    refine e_iconst (v := 0) dX11_light_21 (by decide) ?_
    refine e_zret dX11_light_22 rfl (by first | rfl | exact b2i_nar _) ?_
    exact ⟨fun h => absurd h.1 (b2i_eq0.mp c10), fun _ => ⟨rfl, hC1⟩⟩
  · -- 10 goes on
    have c10 : vSh E i := by
      by_cases h : (vSh E i)
      · exact h
      · exact absurd (b2i_f h) c10
    refine e_aload_n dX11_light_13 rfl ?_
    refine e_iload_n dX11_light_14 rfl ?_
    refine cV1r dX11_light_15 mo_X11_isLit ml_X11_363 sh_m rfl (Nat.le_of_ble_eq_true rfl) (by omega) (r_isLit (by assumption)) ?_
    refine e_if_eq (tgt := 23) dX11_light_18 (by decide) (fun c18 => ?_) (fun c18 => ?_)
    · -- 18 jumps
      refine e_aload_n dX11_light_23 rfl ?_
      refine cV0x dX11_light_24 mo_X11_keeps ml_X11_407 sh_m rfl (Nat.le_of_ble_eq_true rfl) (by omega) (r_keeps hJ) ?_
      rintro r M2 ⟨rfl, hK2, hJ2⟩
      dsimp only [Option.toList, List.cons_append, List.nil_append]
      have hY2 : RY M2 E.Y := hJ2.1
      have hS2 : RW M2 273 0 E.Y.n E.S := hJ2.2.2.1
      refine e_aload_n dX11_light_27 rfl ?_
      refine e_getR dX11_light_28 fl_X11_114 sh_m rfl ?_
      refine e_iconst (v := 1) dX11_light_31 (by decide) ?_
      refine e_dup2 dX11_light_32 rfl rfl ?_
      refine e_ialdN (j := 1) dX11_light_33 (sa_m_s) (by decide) (by omega) ?_
      rw [hS2.li]
      refine e_iconst (v := 1) dX11_light_34 (by decide) ?_
      refine e_iload_n dX11_light_35 rfl ?_
      refine e_ishl dX11_light_36 ?_
      refine e_ior dX11_light_37 ?_
      refine e_iastN (j := 1) dX11_light_38 (sa_m_s) (by decide) (by omega) ?_
      refine e_iconst (v := 1) dX11_light_39 (by decide) ?_
      refine e_zret dX11_light_40 rfl (by first | rfl | exact b2i_nar _) ?_
      have c18 := b2i_eq0.mp c18
      have hO : O3 M2 (setI M2 273 1 (E.S.lit ||| b1 i)) := O3.rfl'.i _ _
      exact ⟨fun _ => ⟨rfl, hJ2.upS hO.rd (hS2.lit h6), hC1.ot.trans (hK2.ot.trans hO.ot)⟩, fun h => absurd ⟨c10, c18⟩ h⟩
    · -- 18 goes on
      refine e_iconst (v := 0) dX11_light_21 (by decide) ?_
      refine e_zret dX11_light_22 rfl (by first | rfl | exact b2i_nar _) ?_
      have c18 : bitI E.S.lit i := Classical.not_not.mp (fun q => c18 (b2i_f q))
      exact ⟨fun h => absurd c18 h.2, fun _ => ⟨rfl, hC1⟩⟩
set_option maxHeartbeats 4000000 in
set_option maxRecDepth 20000 in
theorem r_pull {G : Gt} {M : Mm} {E : Gs} (hJ : RJ M E) {i v : Int32} : Call G 3 mX11_pull [.ref 238, .int i, .int v] M (fun r M' => (vSh E i ∧ vWi v 1 20 ∧ canB E.S i.toNatClampNeg v = true → r = some (.int (E.S.crow i.toNatClampNeg - v)) ∧ RE M M' (pullE E i.toNatClampNeg v)) ∧ (¬ (vSh E i ∧ vWi v 1 20 ∧ canB E.S i.toNatClampNeg v = true) → r = some (.int (-1)) ∧ RC M M')) := by
  refine Call.intro rfl (Nat.le_of_ble_eq_true rfl) ?_
  show Ev G _ mX11_pull 0 [.ref 238, .int i, .int v] [] M _
  refine e_aload_n dX11_pull_0 rfl ?_
  refine e_iconst (v := 0) dX11_pull_1 (by decide) ?_
  refine e_putI dX11_pull_2 fl_X11_153 sh_m rfl rfl rfl ?_
  refine th0 (fun M1 hC1 => ?_)
  have hJ := hC1.keep hJ
  have hY := hJ.1
  have h6 := hY.1.2
  have hs5 := hY.2.1.2
  have hL := hJ.2.1
  have hS := hJ.2.2.1
  refine e_aload_n dX11_pull_5 rfl ?_
  refine e_iload_n dX11_pull_6 rfl ?_
  refine cV1r dX11_pull_7 mo_X11_isShed ml_X11_397 sh_m rfl (Nat.le_of_ble_eq_true rfl) (by omega) (r_isShed (by assumption)) ?_
  refine e_if_eq (tgt := 32) dX11_pull_10 (by decide) (fun c10 => ?_) (fun c10 => ?_)
  · -- 10 jumps
    refine e_iconst (v := (-1)) dX11_pull_32 (by decide) ?_
    refine e_iret dX11_pull_33 rfl ?_
    exact ⟨fun h => absurd h.1 (b2i_eq0.mp c10), fun _ => ⟨rfl, hC1⟩⟩
  · -- 10 goes on
    have hsh10 : ¬ i < 0 ∧ i < nI E.Y.n := by
      by_cases h : (¬ i < 0 ∧ i < nI E.Y.n)
      · exact h
      · exact absurd (b2i_f h) c10
    obtain ⟨j, hj, rfl⟩ := shed_of (by omega) hsh10
    refine e_iload_n dX11_pull_13 rfl ?_
    refine e_iconst (v := 1) dX11_pull_14 (by decide) ?_
    refine e_bipush (v := 20) dX11_pull_15 (by decide) ?_
    refine cS3r dX11_pull_17 mo_X11_within ml_X11_274 (Nat.le_of_ble_eq_true rfl) (by omega) (r_within) ?_
    refine e_if_eq (tgt := 32) dX11_pull_20 (by decide) (fun c20 => ?_) (fun c20 => ?_)
    · -- 20 jumps
      refine e_iconst (v := (-1)) dX11_pull_32 (by decide) ?_
      refine e_iret dX11_pull_33 rfl ?_
      exact ⟨fun h => absurd h.2.1 (b2i_eq0.mp c20), fun _ => ⟨rfl, hC1⟩⟩
    · -- 20 goes on
      have c20 : vWi v 1 20 := by
        by_cases h : (vWi v 1 20)
        · exact h
        · exact absurd (b2i_f h) c20
      refine e_aload_n dX11_pull_23 rfl ?_
      refine e_iload_n dX11_pull_24 rfl ?_
      refine e_iload_n dX11_pull_25 rfl ?_
      refine cV2r dX11_pull_26 mo_X11_canPull ml_X11_413 sh_m rfl (Nat.le_of_ble_eq_true rfl) (by omega) (r_canPull hS hj h6) ?_
      refine e_if_ne (tgt := 34) dX11_pull_29 (by decide) (fun c29 => ?_) (fun c29 => ?_)
      · -- 29 jumps
        have c29 : canB E.S j v = true := Classical.not_not.mp (fun q => c29 (b2i_f q))
        refine e_aload_n dX11_pull_34 rfl ?_
        refine cV0x dX11_pull_35 mo_X11_keeps ml_X11_407 sh_m rfl (Nat.le_of_ble_eq_true rfl) (by omega) (r_keeps hJ) ?_
        rintro r M2 ⟨rfl, hK2, hJ2⟩
        dsimp only [Option.toList, List.cons_append, List.nil_append]
        have hY2 : RY M2 E.Y := hJ2.1
        have hS2 : RW M2 273 0 E.Y.n E.S := hJ2.2.2.1
        refine e_aload_n dX11_pull_38 rfl ?_
        refine e_iload_n dX11_pull_39 rfl ?_
        refine e_iload_n dX11_pull_40 rfl ?_
        refine cV2x dX11_pull_41 mo_X11_pulls ml_X11_416 sh_m rfl (Nat.le_of_ble_eq_true rfl) (by omega) (r_pulls hS2 hj h6) ?_
        rintro r M3 ⟨rfl, hO, hR⟩
        dsimp only [Option.toList, List.cons_append, List.nil_append]
        refine e_aload_n dX11_pull_44 rfl ?_
        refine e_getR dX11_pull_45 fl_X11_114 sh_m rfl ?_
        refine e_bipush (v := 8) dX11_pull_48 (by decide) ?_
        refine e_iload_n dX11_pull_50 rfl ?_
        refine e_iaddN (a := 8) (b := j) dX11_pull_51 ?_
        refine e_ialdN (j := (8 + j)) dX11_pull_52 (sa_m_s) (by decide) (by omega) ?_
        rw [hR.cr hj, show (loseV E.S j v).crow j = E.S.crow j - v from if_pos rfl]
        refine e_iret dX11_pull_53 rfl ?_
        refine ⟨fun _ => ?_, fun h => absurd ⟨hsh10, c20, by rw [nI_clamp (by omega)]; exact c29⟩ h⟩
        rw [nI_clamp (by omega)]
        exact ⟨rfl, hJ2.upS hO.rd hR, hC1.ot.trans (hK2.ot.trans hO.ot)⟩
      · -- 29 goes on
        refine e_iconst (v := (-1)) dX11_pull_32 (by decide) ?_
        refine e_iret dX11_pull_33 rfl ?_
        have c29 := b2i_eq0.mp c29
        exact ⟨fun h => absurd (by have := h.2.2; rw [nI_clamp (by omega)] at this; exact this) c29, fun _ => ⟨rfl, hC1⟩⟩
set_option maxHeartbeats 4000000 in
set_option maxRecDepth 20000 in
theorem r_undo {G : Gt} {M : Mm} {E : Gs} (hJ : RJ M E) : Call G 2 mX11_undo [.ref 238] M (fun r M' => (0 < E.un → r = some (.int 1) ∧ RE M M' (undoE E)) ∧ (E.un = 0 → r = some (.int 0) ∧ RC M M')) := by
  refine Call.intro rfl (Nat.le_of_ble_eq_true rfl) ?_
  show Ev G _ mX11_undo 0 [.ref 238] [] M _
  refine e_aload_n dX11_undo_0 rfl ?_
  refine e_iconst (v := 0) dX11_undo_1 (by decide) ?_
  refine e_putI dX11_undo_2 fl_X11_153 sh_m rfl rfl rfl ?_
  refine th0 (fun M1 hC1 => ?_)
  have hJ := hC1.keep hJ
  have hY := hJ.1
  have h6 := hY.1.2
  have hs5 := hY.2.1.2
  have hL := hJ.2.1
  have hS := hJ.2.2.1
  refine e_aload_n dX11_undo_5 rfl ?_
  refine e_getI dX11_undo_6 fl_X11_353 sh_m rfl ?_
  have hU := hJ.2.2.2.2.2.2.1
  rw [hU.1]
  refine e_if_ne (tgt := 14) dX11_undo_9 (by decide) (fun c9 => ?_) (fun c9 => ?_)
  · -- 9 jumps
    have hpos : 0 < E.un := Nat.pos_of_ne_zero (fun e => c9 (by rw [e]; rfl))
    have hu16 := hU.2.1
    refine e_aload_n dX11_undo_14 rfl ?_
    refine e_dup dX11_undo_15 rfl ?_
    refine e_getI dX11_undo_16 fl_X11_353 sh_m rfl ?_
    rw [hU.1]
    refine e_iconst (v := 1) dX11_undo_19 (by decide) ?_
    refine e_isub dX11_undo_20 ?_
    rw [show nI E.un - 1 = nI (E.un - 1) from nI_subN (b := 1) (by omega)]
    refine e_putI dX11_undo_21 fl_X11_353 sh_m rfl rfl rfl ?_
    refine e_aload_n dX11_undo_24 rfl ?_
    refine e_getR dX11_undo_25 fl_X11_129 sh_m rfl ?_
    refine e_bipush (v := 26) dX11_undo_28 (by decide) ?_
    refine e_aload_n dX11_undo_30 rfl ?_
    refine e_getI dX11_undo_31 fl_X11_353 sh_m rfl ?_
    rw [setI_p]
    refine e_imulN (a := 26) (b := (E.un - 1)) dX11_undo_34 ?_
    refine e_aload_n dX11_undo_35 rfl ?_
    refine e_getR dX11_undo_36 fl_X11_114 sh_m rfl ?_
    refine e_iconst (v := 0) dX11_undo_39 (by decide) ?_
    refine cS4v dX11_undo_40 mo_X11_copies ml_X11_403 (Nat.le_of_ble_eq_true rfl) (by omega) (r_copies (p := (26 * (E.un - 1))) (b := 0) (sa_m_undone) (sa_m_s) (by omega) (by omega) (by decide) (by decide) (by decide)) ?_
    refine e_iconst (v := 1) dX11_undo_43 (by decide) ?_
    refine e_zret dX11_undo_44 rfl (by first | rfl | exact b2i_nar _) ?_
    have hK2 : KU2 M1 (setI M1 238 54 (nI (E.un - 1))) := ⟨rfl, fun q a b => by funext z; rw [setI_n b], fun k hk => by rw [setI_1, if_neg (fun x => hk x.2)]⟩
    have hJ2 : RJ (setI M1 238 54 (nI (E.un - 1))) (E.setU (E.un - 1, E.us)) := hJ.upU hK2 (by rw [setI_p]) (by show E.un - 1 ≤ 16; omega) (fun k hk => (hU.2.2 k (by have hk2 : k < E.un - 1 := hk; omega)).congr h6 (fun z _ => by rw [setI_n (by decide)]))
    have hD : RD (setI M1 238 54 (nI (E.un - 1))) (cpR (setI M1 238 54 (nI (E.un - 1))) 278 (26 * (E.un - 1)) 273 0 26) := RD.rfl'.cp ⟨by unfold rsd; omega, by omega⟩
    refine ⟨fun _ => ⟨rfl, ?_, hC1.ot.trans (hK2.ot.trans hD.ot)⟩, fun h => absurd h (by omega)⟩
    exact hJ2.upS hD ((hU.2.2 (E.un - 1) (by omega)).congr h6 (fun z hz => by rw [cpR_eq hz, setI_n (by decide)]))
  · -- 9 goes on
    have h0 : E.un = 0 := nI_injN (b := 0) (by have := hU.2.1; omega) (by omega) c9
    refine e_iconst (v := 0) dX11_undo_12 (by decide) ?_
    refine e_zret dX11_undo_13 rfl (by first | rfl | exact b2i_nar _) ?_
    exact ⟨fun h => absurd h (by omega), fun _ => ⟨rfl, hC1⟩⟩
end RHA
