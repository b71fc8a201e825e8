section RMQ
theorem RLi.lse {M M' : Mm} {p q r : Nat} {W : Rv} (h : RLi M r W) (hL : LSe M M' p q) : RLi M' r W := h.congr (fun i a b => hL.2.1 i (by omega))
theorem RS.lli {M M' : Mm} {p q r : Nat} {V : Rv} (h : RS M r V) (hL : LLi M M' p q) : RS M' r V := h.congr (fun i a b => hL.2.1 i (by omega))
theorem LLi.qf {M M' : Mm} {p q : Nat} (h : LLi M M' p q) : QF M M' := ⟨h.1, fun i a _ _ => h.2.1 i (by omega)⟩
theorem LSe.qf {M M' : Mm} {p q : Nat} (h : LSe M M' p q) : QF M M' := ⟨h.1, fun i a _ _ => h.2.1 i (by omega)⟩
theorem QF.i9 {M : Mm} {k : Nat} {v : Int32} : QF M (setI M 279 k v) := ⟨rfl, fun i _ _ c => by funext z; rw [setI_n c]⟩
theorem QF.cp7 {M : Mm} {b : Nat} : QF M (cpR M 273 0 277 b 26) := ⟨rfl, fun i _ c _ => cpR_ne c⟩
theorem RJ.lay {M Mb Mc : Mm} {E : Gs} {k : Nat} (h : RJ M E) (hk : k < 4) (hVI : VI E.V) (hB : LLi (setI M 279 k 1) Mb 0 (1 + k)) (hC : LSe Mb Mc 0 (1 + k)) : RJ (cpR Mc 273 0 277 (26 * k) 26) (layE E k) := by
  have h6 := h.1.1.2
  have hQ1 : QF M Mc := (QF.i9.trans hB.qf).trans hC.qf
  have e79 : ∀ z, (cpR Mc 273 0 277 (26 * k) 26).1 279 z = if z = k then 1 else M.1 279 z := fun z => by
    rw [cpR_ne (by decide), hC.2.1 279 (by decide), hB.2.1 279 (by decide), setI_1]
    by_cases e : z = k
    · rw [if_pos ⟨rfl, e⟩, if_pos e]
    · rw [if_neg (fun x => e x.2), if_neg e]
  have cl : ∀ {r : Nat} {W : Rv}, RLi M r W → RLi (setI M 279 k 1) r W := fun hh => hh.congr (fun i a b => by funext z; rw [setI_n (by omega)])
  have cs : ∀ {r : Nat} {V : Rv}, RS M r V → RS (setI M 279 k 1) r V := fun hh => hh.congr (fun i a b => by funext z; rw [setI_n (by omega)])
  have dl : ∀ {r : Nat} {W : Rv}, RLi Mc r W → RLi (cpR Mc 273 0 277 (26 * k) 26) r W := fun hh => hh.congr (fun i a b => cpR_ne (by omega))
  have ds : ∀ {r : Nat} {V : Rv}, RS Mc r V → RS (cpR Mc 273 0 277 (26 * k) 26) r V := fun hh => hh.congr (fun i a b => cpR_ne (by omega))
  refine h.upQ (W := E.W) (V := E.V) (K := fun q => if q = k then some (E.S, E.W, E.V) else E.K q) (hQ1.trans QF.cp7) (dl (((cl h.2.2.2.1).keep hB (by omega)).lse hC)) (ds (((cs h.2.2.2.2.1).lli hB).keep hC (by omega))) (fun j hj => ?_)
  by_cases e : j = k
  · subst e
    show RM _ j E.Y.n (if j = j then some (E.S, E.W, E.V) else E.K j)
    rw [if_pos rfl]
    refine ⟨by rw [e79, if_pos rfl], h.2.2.1.congr h6 (fun z hz => ?_), dl (((cl h.2.2.2.1).to hB).lse hC), ds (((cs h.2.2.2.2.1).lli hB).to hVI hC)⟩
    rw [cpR_eq hz, hQ1.2 273 (by omega) (by omega) (by omega)]
  · show RM _ j E.Y.n (if j = k then some (E.S, E.W, E.V) else E.K j)
    rw [if_neg e]
    refine (h.2.2.2.2.2.1 j hj).congr' h6 (by rw [e79, if_neg e]) (fun z hz => ?_) (fun W hW => dl (((cl hW).keep hB (by omega)).lse hC)) (fun V hV => ds (((cs hV).lli hB).keep hC (by omega)))
    rw [cpR_out (by omega), hC.2.1 277 (by decide), hB.2.1 277 (by decide), setI_n (by decide)]
theorem RJ.back {M Mb Mc : Mm} {E : Gs} {k : Nat} {q : Sv × Rv × Rv} (h : RJ M E) (hk : k < 4) (hK : E.K k = some q) (hVI : VI q.2.2) (hB : LLi (setI M 279 k 1) Mb (1 + k) 0) (hC : LSe Mb Mc (1 + k) 0) : RJ (setI (cpR Mc 277 (26 * k) 273 0 26) 238 54 0) (backE E q) := by
  have h6 := h.1.1.2
  have hM := h.2.2.2.2.2.1 k hk
  rw [hK] at hM
  obtain ⟨m1, m2, m3, m4⟩ := hM
  have hQ1 : QF M Mc := (QF.i9.trans hB.qf).trans hC.qf
  have cl : ∀ {r : Nat} {W : Rv}, RLi M r W → RLi (setI M 279 k 1) r W := fun hh => hh.congr (fun i a b => by funext z; rw [setI_n (by omega)])
  have cs : ∀ {r : Nat} {V : Rv}, RS M r V → RS (setI M 279 k 1) r V := fun hh => hh.congr (fun i a b => by funext z; rw [setI_n (by omega)])
  have e79 : ∀ z, Mc.1 279 z = M.1 279 z := fun z => by
    rw [hC.2.1 279 (by decide), hB.2.1 279 (by decide), setI_1]
    by_cases e : z = k
    · subst e; rw [if_pos ⟨rfl, rfl⟩]; exact m1.symm
    · rw [if_neg (fun x => e x.2)]
  have hJ1 := h.upQ (W := q.2.1) (V := q.2.2) (K := E.K) hQ1 (((cl m3).to hB).lse hC) (((cs m4).lli hB).to hVI hC) (fun j hj => (h.2.2.2.2.2.1 j hj).congr' h6 (e79 j) (fun z hz => by rw [hC.2.1 277 (by decide), hB.2.1 277 (by decide), setI_n (by decide)]) (fun W hW => ((cl hW).keep hB (by omega)).lse hC) (fun V hV => ((cs hV).lli hB).keep hC (by omega)))
  have hD : RD Mc (cpR Mc 277 (26 * k) 273 0 26) := RD.rfl'.cp ⟨by unfold rsd; omega, by omega⟩
  have hJ2 := hJ1.upS hD (S' := q.1) (m2.congr h6 (fun z hz => by rw [cpR_eq hz, hC.2.1 277 (by decide), hB.2.1 277 (by decide), setI_n (by decide)]))
  exact hJ2.upU (u := (0, E.us)) ⟨rfl, fun i a b => by funext z; rw [setI_n b], fun z hz => by rw [setI_1, if_neg (fun x => hz x.2)]⟩ (by rw [setI_p]; rfl) (Nat.zero_le 16) (fun z hz => absurd hz (Nat.not_lt_zero z))
theorem wi3 {k : Nat} (hk : k < 4) : vWi (nI k) 0 3 := ⟨fun q => absurd ((nI_ltI (b := 0) (by omega) (by omega)).mp q) (by omega), fun q => absurd ((nI_ltI (a := 3) (by omega) (by omega)).mp q) (by omega)⟩
theorem wi34 {i : Int32} (h : vWi i 0 3) : ¬ i < 0 ∧ i < nI 4 := by
  obtain ⟨t, h1, -, e⟩ := wi_of (a := 0) (b := 3) (by decide) (by decide) h
  rw [e]
  exact ⟨fun q => absurd ((nI_ltI (b := 0) (by omega) (by omega)).mp q) (by omega), (nI_ltI (by omega) (by omega)).mpr (by omega)⟩
set_option maxHeartbeats 4000000 in
set_option maxRecDepth 20000 in
theorem r_markN {G : Gt} {M : Mm} {E : Gs} (hJ : RJ M E) {i b : Int32} (hk : ¬ (¬ i < 0 ∧ i < nI 4)) : Call G 2 mX11_mark [.ref 238, .int i, .int b] M (fun r M' => r = some (.int 0) ∧ RC M M') := by
  refine Call.intro rfl (Nat.le_of_ble_eq_true rfl) ?_
  show Ev G _ mX11_mark 0 [.ref 238, .int i, .int b, RA, RA] [] M _
  refine e_aload_n dX11_mark_0 rfl ?_
  refine e_iconst (v := 0) dX11_mark_1 (by decide) ?_
  refine e_putI dX11_mark_2 fl_X11_153 sh_m rfl rfl rfl ?_
  refine th0 (fun M1 hC1 => ?_)
  have hJ := hC1.keep hJ
  have hY := hJ.1
  have h6 := hY.1.2
  have hs5 := hY.2.1.2
  have hL := hJ.2.1
  have hS := hJ.2.2.1
  refine e_iload_n dX11_mark_5 rfl ?_
  refine e_iconst (v := 0) dX11_mark_6 (by decide) ?_
  refine e_iconst (v := 3) dX11_mark_7 (by decide) ?_
  refine cS3r dX11_mark_8 mo_X11_within ml_X11_274 (Nat.le_of_ble_eq_true rfl) (by omega) (r_within) ?_
  refine e_if_eq (tgt := 27) dX11_mark_11 (by decide) (fun c11 => ?_) (fun c11 => absurd c11 (fun q => q (b2i_f (fun z => hk (wi34 z)))))
  refine e_iconst (v := 0) dX11_mark_27 (by decide) ?_
  refine e_zret dX11_mark_28 rfl (by first | rfl | exact b2i_nar _) ?_
  exact ⟨rfl, hC1⟩
set_option maxHeartbeats 4000000 in
set_option maxRecDepth 20000 in
theorem r_markL {G : Gt} {M : Mm} {E : Gs} (hJ : RJ M E) {k : Nat} (hk : k < 4) (hVI : VI E.V) : Call G 2 mX11_mark [.ref 238, .int (nI k), .int 0] M (fun r M' => r = some (.int 1) ∧ RE M M' (layE E k)) := by
  refine Call.intro rfl (Nat.le_of_ble_eq_true rfl) ?_
  show Ev G _ mX11_mark 0 [.ref 238, .int (nI k), .int 0, RA, RA] [] M _
  refine e_aload_n dX11_mark_0 rfl ?_
  refine e_iconst (v := 0) dX11_mark_1 (by decide) ?_
  refine e_putI dX11_mark_2 fl_X11_153 sh_m rfl rfl rfl ?_
  refine th0 (fun M1 hC1 => ?_)
  have hJ := hC1.keep hJ
  have hY := hJ.1
  have h6 := hY.1.2
  have hs5 := hY.2.1.2
  have hL := hJ.2.1
  have hS := hJ.2.2.1
  refine e_iload_n dX11_mark_5 rfl ?_
  refine e_iconst (v := 0) dX11_mark_6 (by decide) ?_
  refine e_iconst (v := 3) dX11_mark_7 (by decide) ?_
  refine cS3r dX11_mark_8 mo_X11_within ml_X11_274 (Nat.le_of_ble_eq_true rfl) (by omega) (r_within) ?_
  refine e_if_eq (tgt := 27) dX11_mark_11 (by decide) (fun c11 => absurd c11 (fun q => b2i_eq0.mp q (wi3 hk))) (fun c11 => ?_)
  refine e_iload_n dX11_mark_14 rfl ?_
  refine e_if_eq (tgt := 29) dX11_mark_15 (by decide) (fun c15 => ?_) (fun c15 => absurd c15 (by decide))
  refine e_aload_n dX11_mark_29 rfl ?_
  refine e_getR dX11_mark_30 fl_X11_132 sh_m rfl ?_
  refine e_iload_n dX11_mark_33 rfl ?_
  refine e_iconst (v := 1) dX11_mark_34 (by decide) ?_
  refine e_zastN (j := k) dX11_mark_35 (sa_m_isLaid) (by decide) (by omega) ?_
  rw [nar01 (Or.inr rfl)]
  refine e_iload_n dX11_mark_36 rfl ?_
  refine e_if_eq (tgt := 46) dX11_mark_37 (by decide) (fun c37 => ?_) (fun c37 => absurd c37 (by decide))
  refine e_iconst (v := 0) dX11_mark_46 (by decide) ?_
  refine e_istore_n (ls' := [_, _, _, _, _]) dX11_mark_47 (by decide) rfl ?_
  refine e_iload_n dX11_mark_48 rfl ?_
  refine e_if_eq (tgt := 56) dX11_mark_49 (by decide) (fun c49 => ?_) (fun c49 => absurd c49 (by decide))
  refine e_iconst (v := 1) dX11_mark_56 (by decide) ?_
  refine e_iload_n dX11_mark_57 rfl ?_
  refine e_iaddN (a := 1) (b := k) dX11_mark_58 ?_
  refine e_istore (ls' := [_, _, _, _, _]) dX11_mark_59 (by decide) rfl ?_
  refine e_aload_n dX11_mark_61 rfl ?_
  refine e_iload_n dX11_mark_62 rfl ?_
  refine e_iload dX11_mark_63 rfl ?_
  refine cV2x dX11_mark_65 mo_X11_laysLines ml_X11_359 sh_m rfl (Nat.le_of_ble_eq_true rfl) (by omega) (r_laysLines (p := 0) (q := (1 + k)) (by omega) (by omega) (by omega)) ?_
  rintro r M2 ⟨rfl, hB⟩
  dsimp only [Option.toList, List.cons_append, List.nil_append]
  refine e_aload_n dX11_mark_68 rfl ?_
  refine e_iload_n dX11_mark_69 rfl ?_
  refine e_iload dX11_mark_70 rfl ?_
  refine cV2x dX11_mark_72 mo_X11_laysSeen ml_X11_493 sh_m rfl (Nat.le_of_ble_eq_true rfl) (by omega) (r_laysSeen (p := 0) (q := (1 + k)) (by omega) (by omega) (by omega)) ?_
  rintro r M3 ⟨rfl, hC⟩
  dsimp only [Option.toList, List.cons_append, List.nil_append]
  refine e_iload_n dX11_mark_75 rfl ?_
  refine e_if_eq (tgt := 103) dX11_mark_76 (by decide) (fun c76 => ?_) (fun c76 => absurd c76 (by decide))
  refine e_aload_n dX11_mark_103 rfl ?_
  refine e_getR dX11_mark_104 fl_X11_114 sh_m rfl ?_
  refine e_iconst (v := 0) dX11_mark_107 (by decide) ?_
  refine e_aload_n dX11_mark_108 rfl ?_
  refine e_getR dX11_mark_109 fl_X11_126 sh_m rfl ?_
  refine e_bipush (v := 26) dX11_mark_112 (by decide) ?_
  refine e_iload_n dX11_mark_114 rfl ?_
  refine e_imulN (a := 26) (b := k) dX11_mark_115 ?_
  refine cS4v dX11_mark_116 mo_X11_copies ml_X11_403 (Nat.le_of_ble_eq_true rfl) (by omega) (r_copies (p := 0) (b := (26 * k)) (sa_m_s) (sa_m_marked) (by omega) (by omega) (by decide) (by decide) (by decide)) ?_
  refine e_iconst (v := 1) dX11_mark_119 (by decide) ?_
  refine e_zret dX11_mark_120 rfl (by first | rfl | exact b2i_nar _) ?_
  exact ⟨rfl, hJ.lay hk hVI hB hC, hC1.ot.trans ((((OT.rfl'.i (by omega)).trans hB.ot).trans hC.ot).cp (by omega))⟩
set_option maxHeartbeats 4000000 in
set_option maxRecDepth 20000 in
theorem r_markB0 {G : Gt} {M : Mm} {E : Gs} (hJ : RJ M E) {k : Nat} (hk : k < 4) (hK : E.K k = none) : Call G 2 mX11_mark [.ref 238, .int (nI k), .int 1] M (fun r M' => r = some (.int 0) ∧ RC M M') := by
  refine Call.intro rfl (Nat.le_of_ble_eq_true rfl) ?_
  show Ev G _ mX11_mark 0 [.ref 238, .int (nI k), .int 1, RA, RA] [] M _
  refine e_aload_n dX11_mark_0 rfl ?_
  refine e_iconst (v := 0) dX11_mark_1 (by decide) ?_
  refine e_putI dX11_mark_2 fl_X11_153 sh_m rfl rfl rfl ?_
  refine th0 (fun M1 hC1 => ?_)
  have hJ := hC1.keep hJ
  have hY := hJ.1
  have h6 := hY.1.2
  have hs5 := hY.2.1.2
  have hL := hJ.2.1
  have hS := hJ.2.2.1
  refine e_iload_n dX11_mark_5 rfl ?_
  refine e_iconst (v := 0) dX11_mark_6 (by decide) ?_
  refine e_iconst (v := 3) dX11_mark_7 (by decide) ?_
  refine cS3r dX11_mark_8 mo_X11_within ml_X11_274 (Nat.le_of_ble_eq_true rfl) (by omega) (r_within) ?_
  refine e_if_eq (tgt := 27) dX11_mark_11 (by decide) (fun c11 => absurd c11 (fun q => b2i_eq0.mp q (wi3 hk))) (fun c11 => ?_)
  refine e_iload_n dX11_mark_14 rfl ?_
  refine e_if_eq (tgt := 29) dX11_mark_15 (by decide) (fun c15 => absurd c15 (by decide)) (fun c15 => ?_)
  refine e_aload_n dX11_mark_18 rfl ?_
  refine e_getR dX11_mark_19 fl_X11_132 sh_m rfl ?_
  refine e_iload_n dX11_mark_22 rfl ?_
  refine e_zaldN (j := k) dX11_mark_23 (sa_m_isLaid) (by decide) (by omega) ?_
  have hm := hJ.2.2.2.2.2.1 k hk
  rw [hK] at hm
  rw [show M1.1 279 k = 0 from hm]
  refine e_if_ne (tgt := 29) dX11_mark_24 (by decide) (fun c24 => absurd c24 (by decide)) (fun c24 => ?_)
  refine e_iconst (v := 0) dX11_mark_27 (by decide) ?_
  refine e_zret dX11_mark_28 rfl (by first | rfl | exact b2i_nar _) ?_
  exact ⟨rfl, hC1⟩
set_option maxHeartbeats 4000000 in
set_option maxRecDepth 20000 in
theorem r_markB1 {G : Gt} {M : Mm} {E : Gs} (hJ : RJ M E) {k : Nat} {q : Sv × Rv × Rv} (hk : k < 4) (hK : E.K k = some q) (hVI : VI q.2.2) : Call G 2 mX11_mark [.ref 238, .int (nI k), .int 1] M (fun r M' => r = some (.int 1) ∧ RE M M' (backE E q)) := by
  refine Call.intro rfl (Nat.le_of_ble_eq_true rfl) ?_
  show Ev G _ mX11_mark 0 [.ref 238, .int (nI k), .int 1, RA, RA] [] M _
  refine e_aload_n dX11_mark_0 rfl ?_
  refine e_iconst (v := 0) dX11_mark_1 (by decide) ?_
  refine e_putI dX11_mark_2 fl_X11_153 sh_m rfl rfl rfl ?_
  refine th0 (fun M1 hC1 => ?_)
  have hJ := hC1.keep hJ
  have hY := hJ.1
  have h6 := hY.1.2
  have hs5 := hY.2.1.2
  have hL := hJ.2.1
  have hS := hJ.2.2.1
  refine e_iload_n dX11_mark_5 rfl ?_
  refine e_iconst (v := 0) dX11_mark_6 (by decide) ?_
  refine e_iconst (v := 3) dX11_mark_7 (by decide) ?_
  refine cS3r dX11_mark_8 mo_X11_within ml_X11_274 (Nat.le_of_ble_eq_true rfl) (by omega) (r_within) ?_
  refine e_if_eq (tgt := 27) dX11_mark_11 (by decide) (fun c11 => absurd c11 (fun q => b2i_eq0.mp q (wi3 hk))) (fun c11 => ?_)
  refine e_iload_n dX11_mark_14 rfl ?_
  refine e_if_eq (tgt := 29) dX11_mark_15 (by decide) (fun c15 => absurd c15 (by decide)) (fun c15 => ?_)
  refine e_aload_n dX11_mark_18 rfl ?_
  refine e_getR dX11_mark_19 fl_X11_132 sh_m rfl ?_
  refine e_iload_n dX11_mark_22 rfl ?_
  refine e_zaldN (j := k) dX11_mark_23 (sa_m_isLaid) (by decide) (by omega) ?_
  have hm := hJ.2.2.2.2.2.1 k hk
  rw [hK] at hm
  rw [hm.1]
  refine e_if_ne (tgt := 29) dX11_mark_24 (by decide) (fun c24 => ?_) (fun c24 => absurd c24 (by decide))
  refine e_aload_n dX11_mark_29 rfl ?_
  refine e_getR dX11_mark_30 fl_X11_132 sh_m rfl ?_
  refine e_iload_n dX11_mark_33 rfl ?_
  refine e_iconst (v := 1) dX11_mark_34 (by decide) ?_
  refine e_zastN (j := k) dX11_mark_35 (sa_m_isLaid) (by decide) (by omega) ?_
  rw [nar01 (Or.inr rfl)]
  refine e_iload_n dX11_mark_36 rfl ?_
  refine e_if_eq (tgt := 46) dX11_mark_37 (by decide) (fun c37 => absurd c37 (by decide)) (fun c37 => ?_)
  refine e_iconst (v := 1) dX11_mark_40 (by decide) ?_
  refine e_iload_n dX11_mark_41 rfl ?_
  refine e_iaddN (a := 1) (b := k) dX11_mark_42 ?_
  refine e_goto (tgt := 47) dX11_mark_43 (by decide) ?_
  refine e_istore_n (ls' := [_, _, _, _, _]) dX11_mark_47 (by decide) rfl ?_
  refine e_iload_n dX11_mark_48 rfl ?_
  refine e_if_eq (tgt := 56) dX11_mark_49 (by decide) (fun c49 => absurd c49 (by decide)) (fun c49 => ?_)
  refine e_iconst (v := 0) dX11_mark_52 (by decide) ?_
  refine e_goto (tgt := 59) dX11_mark_53 (by decide) ?_
  refine e_istore (ls' := [_, _, _, _, _]) dX11_mark_59 (by decide) rfl ?_
  refine e_aload_n dX11_mark_61 rfl ?_
  refine e_iload_n dX11_mark_62 rfl ?_
  refine e_iload dX11_mark_63 rfl ?_
  refine cV2x dX11_mark_65 mo_X11_laysLines ml_X11_359 sh_m rfl (Nat.le_of_ble_eq_true rfl) (by omega) (r_laysLines (p := (1 + k)) (q := 0) (by omega) (by omega) (by omega)) ?_
  rintro r M2 ⟨rfl, hB⟩
  dsimp only [Option.toList, List.cons_append, List.nil_append]
  refine e_aload_n dX11_mark_68 rfl ?_
  refine e_iload_n dX11_mark_69 rfl ?_
  refine e_iload dX11_mark_70 rfl ?_
  refine cV2x dX11_mark_72 mo_X11_laysSeen ml_X11_493 sh_m rfl (Nat.le_of_ble_eq_true rfl) (by omega) (r_laysSeen (p := (1 + k)) (q := 0) (by omega) (by omega) (by omega)) ?_
  rintro r M3 ⟨rfl, hC⟩
  dsimp only [Option.toList, List.cons_append, List.nil_append]
  refine e_iload_n dX11_mark_75 rfl ?_
  refine e_if_eq (tgt := 103) dX11_mark_76 (by decide) (fun c76 => absurd c76 (by decide)) (fun c76 => ?_)
  refine e_aload_n dX11_mark_79 rfl ?_
  refine e_getR dX11_mark_80 fl_X11_126 sh_m rfl ?_
  refine e_bipush (v := 26) dX11_mark_83 (by decide) ?_
  refine e_iload_n dX11_mark_85 rfl ?_
  refine e_imulN (a := 26) (b := k) dX11_mark_86 ?_
  refine e_aload_n dX11_mark_87 rfl ?_
  refine e_getR dX11_mark_88 fl_X11_114 sh_m rfl ?_
  refine e_iconst (v := 0) dX11_mark_91 (by decide) ?_
  refine cS4v dX11_mark_92 mo_X11_copies ml_X11_403 (Nat.le_of_ble_eq_true rfl) (by omega) (r_copies (p := (26 * k)) (b := 0) (sa_m_marked) (sa_m_s) (by omega) (by omega) (by decide) (by decide) (by decide)) ?_
  refine e_aload_n dX11_mark_95 rfl ?_
  refine e_iconst (v := 0) dX11_mark_96 (by decide) ?_
  refine e_putI dX11_mark_97 fl_X11_353 sh_m rfl rfl rfl ?_
  refine e_goto (tgt := 119) dX11_mark_100 (by decide) ?_
  refine e_iconst (v := 1) dX11_mark_119 (by decide) ?_
  refine e_zret dX11_mark_120 rfl (by first | rfl | exact b2i_nar _) ?_
  exact ⟨rfl, hJ.back hk hK hVI hB hC, hC1.ot.trans (((((OT.rfl'.i (by omega)).trans hB.ot).trans hC.ot).cp (by omega)).i (by omega))⟩
end RMQ
