section RYG
set_option maxHeartbeats 500000 in
set_option maxRecDepth 20000 in
theorem il_st {G : Gt} {M : Mm} {Q : Option Value → Mm → Prop} {i : Nat} (hi : i < 4) (k : Ev G 7 mX11_yard 46 [.ref 238, .int (nI (i + 1))] [] (setI M 279 i (vp_nar .boolean 0)) Q) : Ev G 7 mX11_yard 46 [.ref 238, .int (nI i)] [] M (Q) := by
  refine e_iload_n dX11_yard_46 rfl ?_
  refine e_iconst (v := 4) dX11_yard_47 (by decide) ?_
  refine e_icmp_ge (tgt := 64) dX11_yard_48 (by decide) (fun c48 => absurd c48 (fun q => by have := ge_of (i := i) (n := 4) (by omega) (by omega) q; omega)) (fun c48 => ?_)
  refine e_aload_n dX11_yard_51 rfl ?_
  refine e_getR dX11_yard_52 fl_X11_132 sh_m rfl ?_
  refine e_iload_n dX11_yard_55 rfl ?_
  refine e_iconst (v := 0) dX11_yard_56 (by decide) ?_
  refine e_zastN (j := i) dX11_yard_57 (sa_m_isLaid) (by decide) (by omega) ?_
  refine e_iinc (ls' := [_, _]) dX11_yard_58 rfl (nI_i1 _) (by decide) rfl ?_
  refine e_goto (tgt := 46) dX11_yard_61 (by decide) ?_
  exact k
set_option maxHeartbeats 500000 in
set_option maxRecDepth 20000 in
theorem il_en {G : Gt} {M : Mm} {Q : Option Value → Mm → Prop} (k : Q (some (.int 0)) M) : Ev G 7 mX11_yard 46 [.ref 238, .int (nI 4)] [] M (Q) := by
  refine e_iload_n dX11_yard_46 rfl ?_
  refine e_iconst (v := 4) dX11_yard_47 (by decide) ?_
  refine e_icmp_ge (tgt := 64) dX11_yard_48 (by decide) (fun c48 => ?_) (fun c48 => absurd c48 (fun q => by have := lt_of (i := 4) (n := 4) (by omega) (by omega) q; omega))
  refine e_iconst (v := 0) dX11_yard_64 (by decide) ?_
  refine e_iret dX11_yard_65 rfl ?_
  exact k
theorem yd_end {M2 M4 : Mm} {P : Pv} {t0 : Nat → Int32} {us : Nat → Sv} {v0 v1 v2 v3 : Int32} (hP : RPy M2 P.1) (hl : RPl M2 P.2) (h1 : M2.1 238 1 = 0) (hO : O3 (setI (setI (lyM M2) 250 0 (nI 0)) 251 0 (nI P.2.nf.length)) M4) (hW : RW M4 273 0 (laidY (fillP P)).n (begV (laidY (fillP P)))) (e0 : v0 = 0) (e1 : v1 = 0) (e2 : v2 = 0) (e3 : v3 = 0) :
    RJ (setI (setI (setI (setI (setI (setI (setI M4 265 0 0) 269 0 0) 238 54 0) 279 0 v0) 279 1 v1) 279 2 v2) 279 3 v3) ((0, t0), laidY (fillP P), emR, begV (laidY (fillP P)), emR, fun _ => none, (0, us)) := by
  subst e0 e1 e2 e3
  have n6 : (laidY (fillP P)).n ≤ 6 := (laid_ry (ly_ry hP)).1.2
  have k1 : ∀ i, 240 ≤ i → i ≤ 252 → (setI (setI (setI (setI (setI (setI (setI M4 265 0 0) 269 0 0) 238 54 0) 279 0 0) 279 1 0) 279 2 0) 279 3 0).1 i = (setI (setI (lyM M2) 250 0 (nI 0)) 251 0 (nI P.2.nf.length)).1 i := fun i a b => by
    funext k
    rw [setI_n (by omega), setI_n (by omega), setI_n (by omega), setI_n (by omega), setI_n (by omega), setI_n (by omega), setI_n (by omega), hO.2 i (by omega)]
  have k2 : ∀ i, ¬ i = 250 → ¬ i = 251 → (setI (setI (lyM M2) 250 0 (nI 0)) 251 0 (nI P.2.nf.length)).1 i = (lyM M2).1 i := fun i a b => by
    funext k
    rw [setI_n b, setI_n a]
  refine ⟨?_, ?_, ?_, ?_, ?_, fun k hk => ?_, ⟨?_, Nat.zero_le _, fun k hk => absurd hk (Nat.not_lt_zero k)⟩, ⟨?_, Nat.zero_le _, fun k hk => absurd hk (Nat.not_lt_zero k)⟩⟩
  · exact (laid_ry (ly_ry hP)).congr (fun i a b => (k1 i a (by omega)).trans (k2 i (by omega) (by omega))) (fun i _ => by show M4.2.1 i = _; rw [hO.1]; rfl)
  · refine ly_rl hl ?_ ?_ (fun k hk => ?_)
    · rw [k1 250 (by decide) (by decide), setI_n (by decide), setI_p]
    · rw [k1 251 (by decide) (by decide), setI_p]
    · rw [k1 252 (by decide) (by decide), k2 252 (by decide) (by decide)]; exact ly_252 hk
  · exact hW.congr n6 (fun k _ => by rw [setI_n (by decide), setI_n (by decide), setI_n (by decide), setI_n (by decide), setI_n (by decide), setI_n (by decide), setI_n (by decide)])
  · refine ⟨?_, Nat.zero_le _, fun k hk => absurd hk (Nat.not_lt_zero k)⟩
    rw [setI_n (by decide), setI_n (by decide), setI_n (by decide), setI_n (by decide), setI_n (by decide), setI_n (by decide), setI_p]; rfl
  · refine ⟨?_, Nat.zero_le _, fun k hk => absurd hk (Nat.not_lt_zero k)⟩
    rw [setI_n (by decide), setI_n (by decide), setI_n (by decide), setI_n (by decide), setI_n (by decide), setI_p]; rfl
  · show (setI (setI (setI (setI (setI (setI (setI M4 265 0 0) 269 0 0) 238 54 0) 279 0 0) 279 1 0) 279 2 0) 279 3 0).1 279 k = 0
    rcases (by omega : k = 0 ∨ k = 1 ∨ k = 2 ∨ k = 3) with rfl | rfl | rfl | rfl <;> simp [setI_1]
  · rw [setI_n (by decide), setI_n (by decide), setI_n (by decide), setI_n (by decide), setI_p]; rfl
  · rw [setI_n (by decide), setI_n (by decide), setI_n (by decide), setI_n (by decide), setI_1, if_neg (by decide), setI_n (by decide), setI_n (by decide), hO.2 238 (by decide), setI_n (by decide), setI_n (by decide), congrFun (ly_ne (by decide)) 1, h1]; rfl
theorem ly_ot {M : Mm} : OT M (lyM M) := ⟨fun i q => ⟨ly_ne (by omega), ly_Lne (by omega)⟩, rfl⟩
set_option maxHeartbeats 500000 in
set_option maxRecDepth 20000 in
theorem r_yard {G : Gt} {M : Mm} {E : Gs} (hJ : RJ M E) {b : Nat} (hb : 35 ≤ b) (hI : TI E.1) : Call G 7 mX11_yard [.ref 238] M (fun r M' => r = some (.int (yardR b E).1.1) ∧ RE M M' (yardE b E)) := by
  refine Call.intro rfl (Nat.le_of_ble_eq_true rfl) ?_
  show Ev G _ mX11_yard 0 [.ref 238, RA] [] M _
  refine e_aload_n dX11_yard_0 rfl ?_
  refine e_iconst (v := 0) dX11_yard_1 (by decide) ?_
  refine e_putI dX11_yard_2 fl_X11_153 sh_m rfl rfl rfl ?_
  refine th0 (fun M1 hC1 => ?_)
  have hJ := hC1.keep hJ
  have hY := hJ.1
  have h6 := hY.1.2
  have hs5 := hY.2.1.2
  have hL := hJ.2.1
  have hS := hJ.2.2.1
  refine e_aload_n dX11_yard_5 rfl ?_
  refine cV0x dX11_yard_6 mo_X11_readsAll ml_X11_347 sh_m rfl (Nat.le_of_ble_eq_true rfl) (by omega) (r_readsAll (b := b) hb hJ.2.2.2.2.2.2.2 hI) ?_
  rintro r M2 ⟨hB, h1, hA⟩
  rcases hA with ⟨z1, rfl, hG, hP, hl⟩ | ⟨z1, rfl, h9⟩
  · -- ok at 6
    dsimp only [Option.toList, List.cons_append, List.nil_append]
    refine e_if_ne (tgt := 17) dX11_yard_9 (by decide) (fun c9 => ?_) (fun c9 => absurd c9 (by decide))
    refine e_aload_n dX11_yard_17 rfl ?_
    refine cV0v dX11_yard_18 mo_X11_lays ml_X11_350 sh_m rfl (Nat.le_of_ble_eq_true rfl) (by omega) (r_lays (L := (rdY b E.1).2.2.nf.length) hl.1 hl.2.1) ?_
    have hRY : RY (setI (setI (lyM M2) 250 0 (nI 0)) 251 0 (nI (rdY b E.1).2.2.nf.length)) (yardY b E) := (laid_ry (ly_ry hP)).congr (fun i a c => by funext k; rw [setI_n (by omega), setI_n (by omega)]) (fun i _ => rfl)
    refine e_aload_n dX11_yard_21 rfl ?_
    refine cV0x dX11_yard_22 mo_X11_fresh0 ml_X11_150 sh_m rfl (Nat.le_of_ble_eq_true rfl) (by omega) (r_fresh0 (Y := yardY b E) hRY) ?_
    rintro r M4 ⟨rfl, hO4, hW4⟩
    dsimp only [Option.toList, List.cons_append, List.nil_append]
    refine e_aload_n dX11_yard_25 rfl ?_
    refine e_getR dX11_yard_26 fl_X11_90 sh_m rfl ?_
    refine e_iconst (v := 0) dX11_yard_29 (by decide) ?_
    refine e_iconst (v := 0) dX11_yard_30 (by decide) ?_
    refine e_iastN (j := 0) dX11_yard_31 (sa_m_lines) (by decide) (by omega) ?_
    refine e_aload_n dX11_yard_32 rfl ?_
    refine e_getR dX11_yard_33 fl_X11_102 sh_m rfl ?_
    refine e_iconst (v := 0) dX11_yard_36 (by decide) ?_
    refine e_iconst (v := 0) dX11_yard_37 (by decide) ?_
    refine e_iastN (j := 0) dX11_yard_38 (sa_m_seens) (by decide) (by omega) ?_
    refine e_aload_n dX11_yard_39 rfl ?_
    refine e_iconst (v := 0) dX11_yard_40 (by decide) ?_
    refine e_putI dX11_yard_41 fl_X11_353 sh_m rfl rfl rfl ?_
    refine e_iconst (v := 0) dX11_yard_44 (by decide) ?_
    refine e_istore_n (ls' := [_, _]) dX11_yard_45 (by decide) rfl ?_
    have hz : (yardR b E).1.1 = 0 := z1
    have e2 : yardE b E = ((0, E.1.2), yardY b E, emR, begV (yardY b E), emR, fun _ => none, (0, E.us)) := if_pos hz
    rw [e2, hz]
    refine il_st (i := 0) (by decide) (il_st (i := 1) (by decide) (il_st (i := 2) (by decide) (il_st (i := 3) (by decide) (il_en ?_))))
    exact ⟨rfl, yd_end (P := (rdY b E.1).2) hP hl h1 hO4 hW4 rfl rfl rfl rfl, hC1.ot.trans (hB.ot.trans ((((((((((ly_ot.i (by decide)).i (by decide)).trans hO4.ot).i (by decide)).i (by decide)).i (by decide)).i (by decide)).i (by decide)).i (by decide)).i (by decide)))⟩
  · -- no at 6
    dsimp only [Option.toList, List.cons_append, List.nil_append]
    refine e_if_ne (tgt := 17) dX11_yard_9 (by decide) (fun c9 => absurd c9 (by decide)) (fun c9 => ?_)
    refine e_aload_n dX11_yard_12 rfl ?_
    refine e_getI dX11_yard_13 fl_X11_189 sh_m rfl ?_
    rw [h9]
    refine e_iret dX11_yard_16 rfl ?_
    have hz : ¬ (yardR b E).1.1 = 0 := z1
    have e2 : yardE b E = E.setT (0, E.1.2) := if_neg hz
    rw [e2]
    exact ⟨rfl, hJ.upYB hB ⟨h1, Nat.zero_le _, fun k hk => absurd hk (Nat.not_lt_zero k)⟩, hC1.ot.trans hB.ot⟩
end RYG
