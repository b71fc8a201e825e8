section RNM
/-- names in the reference: sheds in half r, stages in the second half -/
def NMs (M : Mm) (r : Nat) (Y : Yv) : Prop := M.1 240 (4 * r + 0) = nI Y.n ∧ Y.n ≤ 6 ∧ ∀ j, j < Y.n → M.2.1 241 (6 * r + j) = Y.name j
def SMs (M : Mm) (Y : Yv) : Prop := M.1 240 (4 * 1 + 1) = nI Y.ns ∧ Y.ns ≤ 5 ∧ ∀ j, j < Y.ns → M.2.1 242 (5 * 1 + j) = Y.sname j
theorem RY.nm {M : Mm} {Y : Yv} (h : RY M Y) : NMs M 0 Y := ⟨h.1.1, h.1.2, fun j hj => by rw [Nat.mul_zero, Nat.zero_add]; exact (h.2.2.2.2.1 j hj).2.2.2.2⟩
theorem oI_is {o : Option Nat} {k : Nat} (hk : k < 2 ^ 31) (h : ∀ b, o = some b → b < k) (hn : ¬ oI o < 0) : o.isSome = true := by
  cases o with
  | none => exact absurd ((oI_neg hk h).mpr rfl) hn
  | some b => rfl
theorem GX.o37 {M : Mm} {t : Tv} {x : Xv} {v : Int32} (h : GX M t x) : GX (setI M 238 37 v) t x := h.of (OF.rfl'.i (by omega)) (fun k a b => by rw [setI_1, if_neg (by omega)]) rfl
theorem GX.l38 {M : Mm} {t : Tv} {x : Xv} {v : Int64} (h : GX M t x) : GX (setL M 238 38 v) t x := h.of OF.rfl'.l (fun k a b => rfl) (by rw [setL_21, if_neg (by omega)])
set_option maxHeartbeats 4000000 in
set_option maxRecDepth 20000 in
theorem l_rshedN {G : Gt} {M : Mm} {Y : Yv} {r : Nat} (hr : r ≤ 1) (h : NMs M r Y) : ∀ (k : Nat) (i : Nat), (i ≤ Y.n) → (Y.n < i + k) → (fnd Y.name Y.n (M.2.1 238 7) = fstN (fun j => decide (Y.name j = M.2.1 238 7)) i (Y.n - i)) → Ev G 1 mX11_shedNamed 5 [.ref 238, .int (nI r), .int (nI (6 * r + i))] [] M (eqQ (some (.int (oI (fnd Y.name Y.n (M.2.1 238 7))))) M) := by
  intro k
  induction k with
  | zero => intro i hi hk hs; exact absurd hk (by omega)
  | succ k ih =>
    intro i hi hk hs
    have h6 := h.2.1
    refine e_iload_n dX11_shedNamed_5 rfl ?_
    refine e_bipush (v := 6) dX11_shedNamed_6 (by decide) ?_
    refine e_iload_n dX11_shedNamed_8 rfl ?_
    refine e_imulN (a := 6) (b := r) dX11_shedNamed_9 ?_
    refine e_aload_n dX11_shedNamed_10 rfl ?_
    refine e_getR dX11_shedNamed_11 fl_X11_13 sh_m rfl ?_
    refine e_iconst (v := 4) dX11_shedNamed_14 (by decide) ?_
    refine e_iload_n dX11_shedNamed_15 rfl ?_
    refine e_imulN (a := 4) (b := r) dX11_shedNamed_16 ?_
    refine e_iconst (v := 0) dX11_shedNamed_17 (by decide) ?_
    refine e_iaddN (a := (4 * r)) (b := 0) dX11_shedNamed_18 ?_
    refine e_ialdN (j := ((4 * r) + 0)) dX11_shedNamed_19 (sa_m_yard) (by decide) (by omega) ?_
    rw [h.1]
    refine e_iaddN (a := (6 * r)) (b := Y.n) dX11_shedNamed_20 ?_
    refine e_icmp_ge (tgt := 51) dX11_shedNamed_21 (by decide) (fun c21 => ?_) (fun c21 => ?_)
    · -- 21 jumps
      have hge := ge_of (i := 6 * r + i) (n := 6 * r + Y.n) (by omega) (by omega) c21
      refine e_iconst (v := (-1)) dX11_shedNamed_51 (by decide) ?_
      refine e_iret dX11_shedNamed_52 rfl ?_
      exact ⟨by rw [hs, show i = Y.n by omega, fst_e]; rfl, rfl⟩
    · -- 21 goes on
      have hlt : i < Y.n := by have := lt_of (i := 6 * r + i) (n := 6 * r + Y.n) (by omega) (by omega) c21; omega
      refine e_aload_n dX11_shedNamed_24 rfl ?_
      refine e_getR dX11_shedNamed_25 fl_X11_16 sh_m rfl ?_
      refine e_iload_n dX11_shedNamed_28 rfl ?_
      refine e_laldN (j := (6 * r + i)) dX11_shedNamed_29 (sa_m_shedName) (by decide) (by omega) ?_
      rw [h.2.2 i hlt]
      refine e_aload_n dX11_shedNamed_30 rfl ?_
      refine e_getL dX11_shedNamed_31 fl_X11_171 sh_m rfl ?_
      refine e_lcmp dX11_shedNamed_34 ?_
      refine e_if_ne (tgt := 45) dX11_shedNamed_35 (by decide) (fun c35 => ?_) (fun c35 => ?_)
      · -- 35 jumps
        refine e_iinc (ls' := [_, _, _]) dX11_shedNamed_45 rfl (nI_i1 _) (by decide) rfl ?_
        refine e_goto (tgt := 5) dX11_shedNamed_48 (by decide) ?_
        exact ih (i + 1) (by omega) (by omega) (hs.trans (fst_f hlt (decide_eq_false (fun q => c35 (cmp0.mpr q)))))
      · -- 35 goes on
        refine e_iload_n dX11_shedNamed_38 rfl ?_
        refine e_bipush (v := 6) dX11_shedNamed_39 (by decide) ?_
        refine e_iload_n dX11_shedNamed_41 rfl ?_
        refine e_imulN (a := 6) (b := r) dX11_shedNamed_42 ?_
        refine e_isub dX11_shedNamed_43 ?_
        rw [show nI (6 * r + i) - nI (6 * r) = nI i from (nI_subN (by omega)).trans (by rw [Nat.add_sub_cancel_left])]
        refine e_iret dX11_shedNamed_44 rfl ?_
        exact ⟨by rw [hs, fst_t hlt (decide_eq_true (cmp0.mp c35))]; rfl, rfl⟩
set_option maxHeartbeats 4000000 in
set_option maxRecDepth 20000 in
theorem r_shedNamed {G : Gt} {M : Mm} {Y : Yv} {r : Nat} (hr : r ≤ 1) (h : NMs M r Y) : Call G 1 mX11_shedNamed [.ref 238, .int (nI r)] M (eqQ (some (.int (oI (fnd Y.name Y.n (M.2.1 238 7))))) M) := by
  refine Call.intro rfl (Nat.le_of_ble_eq_true rfl) ?_
  show Ev G _ mX11_shedNamed 0 [.ref 238, .int (nI r), RA] [] M _
  refine e_bipush (v := 6) dX11_shedNamed_0 (by decide) ?_
  refine e_iload_n dX11_shedNamed_2 rfl ?_
  refine e_imulN (a := 6) (b := r) dX11_shedNamed_3 ?_
  refine e_istore_n (ls' := [_, _, _]) dX11_shedNamed_4 (by decide) rfl ?_
  exact l_rshedN hr h (Y.n + 1) 0 (by omega) (by omega) rfl
set_option maxHeartbeats 4000000 in
set_option maxRecDepth 20000 in
theorem l_rstageN {G : Gt} {M : Mm} {Y : Yv} (h : SMs M Y) : ∀ (k : Nat) (i : Nat), (i ≤ Y.ns) → (Y.ns < i + k) → (fnd Y.sname Y.ns (M.2.1 238 7) = fstN (fun j => decide (Y.sname j = M.2.1 238 7)) i (Y.ns - i)) → Ev G 1 mX11_stageNamed 4 [.ref 238, .int (nI 1), .int (nI (5 * 1 + i))] [] M (eqQ (some (.int (oI (fnd Y.sname Y.ns (M.2.1 238 7))))) M) := by
  intro k
  induction k with
  | zero => intro i hi hk hs; exact absurd hk (by omega)
  | succ k ih =>
    intro i hi hk hs
    have h6 := h.2.1
    refine e_iload_n dX11_stageNamed_4 rfl ?_
    refine e_iconst (v := 5) dX11_stageNamed_5 (by decide) ?_
    refine e_iload_n dX11_stageNamed_6 rfl ?_
    refine e_imulN (a := 5) (b := 1) dX11_stageNamed_7 ?_
    refine e_aload_n dX11_stageNamed_8 rfl ?_
    refine e_getR dX11_stageNamed_9 fl_X11_13 sh_m rfl ?_
    refine e_iconst (v := 4) dX11_stageNamed_12 (by decide) ?_
    refine e_iload_n dX11_stageNamed_13 rfl ?_
    refine e_imulN (a := 4) (b := 1) dX11_stageNamed_14 ?_
    refine e_iconst (v := 1) dX11_stageNamed_15 (by decide) ?_
    refine e_iaddN (a := (4 * 1)) (b := 1) dX11_stageNamed_16 ?_
    refine e_ialdN (j := ((4 * 1) + 1)) dX11_stageNamed_17 (sa_m_yard) (by decide) (by omega) ?_
    rw [h.1]
    refine e_iaddN (a := (5 * 1)) (b := Y.ns) dX11_stageNamed_18 ?_
    refine e_icmp_ge (tgt := 48) dX11_stageNamed_19 (by decide) (fun c19 => ?_) (fun c19 => ?_)
    · -- 19 jumps
      have hge := ge_of (i := 5 * 1 + i) (n := 5 * 1 + Y.ns) (by omega) (by omega) c19
      refine e_iconst (v := (-1)) dX11_stageNamed_48 (by decide) ?_
      refine e_iret dX11_stageNamed_49 rfl ?_
      exact ⟨by rw [hs, show i = Y.ns by omega, fst_e]; rfl, rfl⟩
    · -- 19 goes on
      have hlt : i < Y.ns := by have := lt_of (i := 5 * 1 + i) (n := 5 * 1 + Y.ns) (by omega) (by omega) c19; omega
      refine e_aload_n dX11_stageNamed_22 rfl ?_
      refine e_getR dX11_stageNamed_23 fl_X11_20 sh_m rfl ?_
      refine e_iload_n dX11_stageNamed_26 rfl ?_
      refine e_laldN (j := (5 * 1 + i)) dX11_stageNamed_27 (sa_m_stageName) (by decide) (by omega) ?_
      rw [h.2.2 i hlt]
      refine e_aload_n dX11_stageNamed_28 rfl ?_
      refine e_getL dX11_stageNamed_29 fl_X11_171 sh_m rfl ?_
      refine e_lcmp dX11_stageNamed_32 ?_
      refine e_if_ne (tgt := 42) dX11_stageNamed_33 (by decide) (fun c33 => ?_) (fun c33 => ?_)
      · -- 33 jumps
        refine e_iinc (ls' := [_, _, _]) dX11_stageNamed_42 rfl (nI_i1 _) (by decide) rfl ?_
        refine e_goto (tgt := 4) dX11_stageNamed_45 (by decide) ?_
        exact ih (i + 1) (by omega) (by omega) (hs.trans (fst_f hlt (decide_eq_false (fun q => c33 (cmp0.mpr q)))))
      · -- 33 goes on
        refine e_iload_n dX11_stageNamed_36 rfl ?_
        refine e_iconst (v := 5) dX11_stageNamed_37 (by decide) ?_
        refine e_iload_n dX11_stageNamed_38 rfl ?_
        refine e_imulN (a := 5) (b := 1) dX11_stageNamed_39 ?_
        refine e_isub dX11_stageNamed_40 ?_
        rw [show nI (5 * 1 + i) - nI (5 * 1) = nI i from (nI_subN (by omega)).trans (by rw [Nat.add_sub_cancel_left])]
        refine e_iret dX11_stageNamed_41 rfl ?_
        exact ⟨by rw [hs, fst_t hlt (decide_eq_true (cmp0.mp c33))]; rfl, rfl⟩
set_option maxHeartbeats 4000000 in
set_option maxRecDepth 20000 in
theorem r_stageNamed {G : Gt} {M : Mm} {Y : Yv} (h : SMs M Y) : Call G 1 mX11_stageNamed [.ref 238, .int (nI 1)] M (eqQ (some (.int (oI (fnd Y.sname Y.ns (M.2.1 238 7))))) M) := by
  refine Call.intro rfl (Nat.le_of_ble_eq_true rfl) ?_
  show Ev G _ mX11_stageNamed 0 [.ref 238, .int (nI 1), RA] [] M _
  refine e_iconst (v := 5) dX11_stageNamed_0 (by decide) ?_
  refine e_iload_n dX11_stageNamed_1 rfl ?_
  refine e_imulN (a := 5) (b := 1) dX11_stageNamed_2 ?_
  refine e_istore_n (ls' := [_, _, _]) dX11_stageNamed_3 (by decide) rfl ?_
  exact l_rstageN h (Y.ns + 1) 0 (by omega) (by omega) rfl
set_option maxHeartbeats 4000000 in
set_option maxRecDepth 20000 in
theorem r_needsNew {G : Gt} {M : Mm} {t : Tv} {x : Xv} {Y : Yv} (hG : GX M t x) (hn : NMs M 1 Y) (hs : SMs M Y) : Call G 3 mX11_needsNew [.ref 238] M (fun r M' => OF M M' ∧ RA1 M' t (tkM t x Y) r ∧ ((tkM t x Y).1 = 0 → M'.2.1 238 38 = wdX t x)) := by
  obtain ⟨hx0, hx2, hI, hZ, g4, g5, g6, g7, g8⟩ := id hG
  have ht := hZ.2.1
  have h6 := hn.2.1
  have h5 := hs.2.1
  refine Call.intro rfl (Nat.le_of_ble_eq_true rfl) ?_
  show Ev G _ mX11_needsNew 0 [.ref 238] [] M _
  refine e_aload_n dX11_needsNew_0 rfl ?_
  refine cV0r dX11_needsNew_1 mo_X11_isKept ml_X11_285 sh_m rfl (Nat.le_of_ble_eq_true rfl) (by omega) (r_isKept hG) ?_
  refine e_if_eq (tgt := 13) dX11_needsNew_4 (by decide) (fun c4 => ?_) (fun c4 => ?_)
  · -- 4 jumps
    have hm : isM t x := Classical.not_not.mp (b2i_eq0.mp c4)
    refine e_aload_n dX11_needsNew_13 rfl ?_
    refine e_iconst (v := 1) dX11_needsNew_14 (by decide) ?_
    refine cV1r dX11_needsNew_15 mo_X11_shedNamed ml_X11_289 sh_m rfl (Nat.le_of_ble_eq_true rfl) (by omega) (r_shedNamed (r := 1) (by decide) hn) ?_
    rw [g7 hm.2.1]
    refine e_if_ge (tgt := 29) dX11_needsNew_18 (by decide) (fun c18 => ?_) (fun c18 => ?_)
    · -- 18 jumps
      refine e_aload_n dX11_needsNew_29 rfl ?_
      refine e_iconst (v := 3) dX11_needsNew_30 (by decide) ?_
      refine cV1r dX11_needsNew_31 mo_X11_fails ml_X11_217 sh_m rfl (Nat.le_of_ble_eq_true rfl) (by omega) (r_fails (k := 3) g5) ?_
      refine e_zret dX11_needsNew_34 rfl (by first | rfl | exact b2i_nar _) ?_
      have hu : usedP Y (wdX t x) = true := by unfold usedP; rw [oI_is (o := fnd Y.name Y.n (wdX t x)) (k := 6) (by omega) (fun b h => by have := (fnd_lt h).1; omega) c18]; exact Bool.true_or _
      have e : tkM t x Y = failX t (nI 3) x := by unfold tkM; rw [if_pos hm, if_pos hu]; exact fl_adv (by decide) hx2 hI
      exact ⟨of9, RA1.f hG (k := 3) (by decide) e, fun q => absurd q (by rw [e]; exact fail_nz (by decide) hx2 hI)⟩
    · -- 18 goes on
      refine e_aload_n dX11_needsNew_21 rfl ?_
      refine e_iconst (v := 1) dX11_needsNew_22 (by decide) ?_
      refine cV1r dX11_needsNew_23 mo_X11_stageNamed ml_X11_292 sh_m rfl (Nat.le_of_ble_eq_true rfl) (by omega) (r_stageNamed hs) ?_
      rw [g7 hm.2.1]
      refine e_if_lt (tgt := 35) dX11_needsNew_26 (by decide) (fun c26 => ?_) (fun c26 => ?_)
      · -- 26 jumps
        refine e_aload_n dX11_needsNew_35 rfl ?_
        refine e_aload_n dX11_needsNew_36 rfl ?_
        refine e_getL dX11_needsNew_37 fl_X11_171 sh_m rfl ?_
        rw [g7 hm.2.1]
        refine e_putL dX11_needsNew_40 fl_X11_295 sh_m rfl rfl rfl ?_
        refine e_aload_n dX11_needsNew_43 rfl ?_
        refine cV0x dX11_needsNew_44 mo_X11_nextToken ml_X11_224 sh_m rfl (Nat.le_of_ble_eq_true rfl) (by omega) (c_nt hG OF.rfl'.l rfl) ?_
        rintro r M2 ⟨rfl, hN, hG2⟩
        dsimp only [Option.toList, List.cons_append, List.nil_append]
        refine e_iconst (v := 1) dX11_needsNew_47 (by decide) ?_
        refine e_zret dX11_needsNew_48 rfl (by first | rfl | exact b2i_nar _) ?_
        have hu : usedP Y (wdX t x) = false := by unfold usedP; rw [(oI_neg (o := fnd Y.name Y.n (wdX t x)) (k := 6) (by omega) (fun b h => by have := (fnd_lt h).1; omega)).mp c18, (oI_neg (o := fnd Y.sname Y.ns (wdX t x)) (k := 5) (by omega) (fun b h => by have := (fnd_lt h).1; omega)).mp c26]; rfl
        have e : tkM t x Y = advX t x := by unfold tkM; rw [if_pos hm, if_neg (by rw [hu]; decide)]
        rw [e]
        exact ⟨OF.rfl'.l.trans hN.of, Or.inl ⟨hG2.1, rfl, hG2⟩, fun _ => by rw [hN.2.2.2.2 38 (by decide), setL_21, if_pos ⟨rfl, rfl⟩]⟩
      · -- 26 goes on
        refine e_aload_n dX11_needsNew_29 rfl ?_
        refine e_iconst (v := 3) dX11_needsNew_30 (by decide) ?_
        refine cV1r dX11_needsNew_31 mo_X11_fails ml_X11_217 sh_m rfl (Nat.le_of_ble_eq_true rfl) (by omega) (r_fails (k := 3) g5) ?_
        refine e_zret dX11_needsNew_34 rfl (by first | rfl | exact b2i_nar _) ?_
        have hu : usedP Y (wdX t x) = true := by unfold usedP; rw [oI_is (o := fnd Y.sname Y.ns (wdX t x)) (k := 5) (by omega) (fun b h => by have := (fnd_lt h).1; omega) c26]; exact Bool.or_true _
        have e : tkM t x Y = failX t (nI 3) x := by unfold tkM; rw [if_pos hm, if_pos hu]; exact fl_adv (by decide) hx2 hI
        exact ⟨of9, RA1.f hG (k := 3) (by decide) e, fun q => absurd q (by rw [e]; exact fail_nz (by decide) hx2 hI)⟩
  · -- 4 goes on
    refine e_aload_n dX11_needsNew_7 rfl ?_
    refine e_iconst (v := 1) dX11_needsNew_8 (by decide) ?_
    refine cV1r dX11_needsNew_9 mo_X11_fails ml_X11_217 sh_m rfl (Nat.le_of_ble_eq_true rfl) (by omega) (r_fails (k := 1) g5) ?_
    refine e_zret dX11_needsNew_12 rfl (by first | rfl | exact b2i_nar _) ?_
    have hm : ¬ isM t x := Classical.not_not.mp (fun q => c4 (b2i_f q))
    have e : tkM t x Y = failX t (nI 1) x := by unfold tkM; rw [if_neg hm]; exact fl_adv (by decide) hx2 hI
    exact ⟨of9, RA1.f hG (k := 1) (by decide) e, fun q => absurd q (by rw [e]; exact fail_nz (by decide) hx2 hI)⟩
set_option maxHeartbeats 4000000 in
set_option maxRecDepth 20000 in
theorem r_needsShed {G : Gt} {M : Mm} {t : Tv} {x : Xv} {Y : Yv} (hG : GX M t x) {q : Nat} (hq : q ≤ 1) (hn : NMs M q Y) : Call G 2 mX11_needsShed [.ref 238, .int (nI q)] M (fun r M' => OF M M' ∧ RA1 M' t (shH t x Y) r ∧ ((shH t x Y).1 = 0 → ∃ j, j < Y.n ∧ fnd Y.name Y.n (wdX t x) = some j ∧ M'.1 238 37 = nI j)) := by
  obtain ⟨hx0, hx2, hI, hZ, g4, g5, g6, g7, g8⟩ := id hG
  have ht := hZ.2.1
  have h6 := hn.2.1
  refine Call.intro rfl (Nat.le_of_ble_eq_true rfl) ?_
  show Ev G _ mX11_needsShed 0 [.ref 238, .int (nI q)] [] M _
  refine e_aload_n dX11_needsShed_0 rfl ?_
  refine cV0r dX11_needsShed_1 mo_X11_isKept ml_X11_285 sh_m rfl (Nat.le_of_ble_eq_true rfl) (by omega) (r_isKept hG) ?_
  refine e_if_eq (tgt := 13) dX11_needsShed_4 (by decide) (fun c4 => ?_) (fun c4 => ?_)
  · -- 4 jumps
    have hm : isM t x := Classical.not_not.mp (b2i_eq0.mp c4)
    refine e_aload_n dX11_needsShed_13 rfl ?_
    refine e_aload_n dX11_needsShed_14 rfl ?_
    refine e_iload_n dX11_needsShed_15 rfl ?_
    refine cV1r dX11_needsShed_16 mo_X11_shedNamed ml_X11_289 sh_m rfl (Nat.le_of_ble_eq_true rfl) (by omega) (r_shedNamed hq hn) ?_
    rw [g7 hm.2.1]
    refine e_putI dX11_needsShed_19 fl_X11_278 sh_m rfl rfl rfl ?_
    refine e_aload_n dX11_needsShed_22 rfl ?_
    refine e_getI dX11_needsShed_23 fl_X11_278 sh_m rfl ?_
    rw [setI_p]
    refine e_if_ge (tgt := 37) dX11_needsShed_26 (by decide) (fun c26 => ?_) (fun c26 => ?_)
    · -- 26 jumps
      obtain ⟨j, hj⟩ := Option.ne_none_iff_exists'.mp (fun q => c26 ((oI_neg (o := fnd Y.name Y.n (wdX t x)) (k := 6) (by omega) (fun b h => by have := (fnd_lt h).1; omega)).mpr q))
      refine e_iconst (v := 1) dX11_needsShed_37 (by decide) ?_
      refine e_goto (tgt := 42) dX11_needsShed_38 (by decide) ?_
      refine e_zret dX11_needsShed_42 rfl (by first | rfl | exact b2i_nar _) ?_
      have e : shH t x Y = x := by unfold shH; rw [if_pos hm, if_pos (by rw [hj]; rfl)]
      rw [e]
      exact ⟨OF.rfl'.i (by omega), Or.inl ⟨hx0, rfl, hG.o37⟩, fun _ => ⟨j, (fnd_lt hj).1, hj, by rw [setI_p, hj]; rfl⟩⟩
    · -- 26 goes on
      have hz := (oI_neg (o := fnd Y.name Y.n (wdX t x)) (k := 6) (by omega) (fun b h => by have := (fnd_lt h).1; omega)).mp c26
      refine e_aload_n dX11_needsShed_29 rfl ?_
      refine e_iconst (v := 2) dX11_needsShed_30 (by decide) ?_
      refine cV1r dX11_needsShed_31 mo_X11_fails ml_X11_217 sh_m rfl (Nat.le_of_ble_eq_true rfl) (by omega) (r_fails (k := 2) (by rw [setI_1, if_neg (by omega)]; exact g5)) ?_
      refine e_if_eq (tgt := 41) dX11_needsShed_34 (by decide) (fun c34 => ?_) (fun c34 => absurd c34 (by decide))
      refine e_iconst (v := 0) dX11_needsShed_41 (by decide) ?_
      refine e_zret dX11_needsShed_42 rfl (by first | rfl | exact b2i_nar _) ?_
      have e : shH t x Y = failX t (nI 2) x := by unfold shH; rw [if_pos hm, if_neg (by rw [hz]; decide)]; rfl
      exact ⟨(OF.rfl'.i (by omega)).i (by omega), RA1.f hG.o37 (k := 2) (by decide) e, fun q => absurd q (by rw [e]; exact fail_nz (by decide) hx2 hI)⟩
  · -- 4 goes on
    refine e_aload_n dX11_needsShed_7 rfl ?_
    refine e_iconst (v := 1) dX11_needsShed_8 (by decide) ?_
    refine cV1r dX11_needsShed_9 mo_X11_fails ml_X11_217 sh_m rfl (Nat.le_of_ble_eq_true rfl) (by omega) (r_fails (k := 1) g5) ?_
    refine e_zret dX11_needsShed_12 rfl (by first | rfl | exact b2i_nar _) ?_
    have hm : ¬ isM t x := Classical.not_not.mp (fun q => c4 (b2i_f q))
    have e : shH t x Y = failX t (nI 1) x := by unfold shH; rw [if_neg hm]; rfl
    exact ⟨of9, RA1.f hG (k := 1) (by decide) e, fun q => absurd q (by rw [e]; exact fail_nz (by decide) hx2 hI)⟩
end RNM
