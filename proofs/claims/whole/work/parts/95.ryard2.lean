section RYE
theorem sgm_move {a b : Nat → Int32} : ∀ (L : List Int32) (p q : Nat), (∀ k, k < L.length → b (p + k) = a (q + k)) → sgm a q L → sgm b p L := by
  intro L
  induction L with
  | nil => intro p q _ _; trivial
  | cons c cs ih =>
    intro p q h hs
    refine ⟨(h 0 (by rw [List.length_cons]; omega)).trans hs.1, ih (p + 1) (q + 1) (fun k hk => ?_) hs.2⟩
    have := h (k + 1) (by rw [List.length_cons]; omega)
    rwa [show p + (k + 1) = p + 1 + k by omega, show q + (k + 1) = q + 1 + k by omega] at this
theorem laid_ry {M : Mm} {P : Pv} (h : RY M P.1) : RY M (laidY P) := h
theorem ly_ry {M : Mm} {P : Pv} (h : RPy M P.1) : RY (lyM M) (fillP P).1 := by
  obtain ⟨h1, h2, h3, h4, h5, h6, h7⟩ := h
  have key : RY (lyM M) (setRP P.1 (if P.1.roof = 0 then 30 else P.1.roof)) := by
    have b6 := h1.2
    have b5 := h2.2
    have b12 := h3.2
    refine ⟨⟨(ly_240 (by decide)).trans h1.1, h1.2⟩, ⟨(ly_240 (by decide)).trans h2.1, h2.2⟩, ⟨(ly_240 (by decide)).trans h3.1, h3.2⟩, (ly_240 (by decide)).trans h4.1, fun j hj => ?_, fun j hj => ?_, fun j hj => ?_⟩
    · have hj : j < P.1.n := hj
      rw [ly_243 (by omega), ly_244 (by omega), ly_245 (by omega), ly_246 (by omega), ly_241 (by omega)]; exact h5 j hj
    · have hj : j < P.1.ns := hj
      rw [ly_247 (by omega), ly_248 (by omega), ly_242 (by omega)]; exact h6 j hj
    · have hj : j < P.1.nf := hj
      rw [ly_249 (by omega)]; exact h7 j hj
  show RY (lyM M) (if P.1.roof = 0 then setRP P.1 30 else P.1)
  by_cases q : P.1.roof = 0
  · rw [if_pos q] at key ⊢; exact key
  · rw [if_neg q] at key ⊢; exact key
theorem ly_rl {M M' : Mm} {P : Pv} (h : RPl M P.2) (h250 : M'.1 250 0 = nI 0) (h251 : M'.1 251 0 = nI P.2.nf.length) (h252 : ∀ k, k < 1000 → M'.1 252 k = M.1 252 (1000 + k)) : RLw M' (laidY (fillP P)).gE := by
  obtain ⟨-, -, -, hs, hl, hw⟩ := h
  refine ⟨0, P.2.nf.length, h250, h251, by decide, hl, ?_⟩
  show _ ∨ (_ ∧ ∃ b nf va, _ ∧ _ ∧ _ ∧ ∀ a b c d, (if P.2.po.length = 0 then exW else P.2).va (fc4 a b c d) = _)
  rcases hw with ⟨q1, q2⟩ | ⟨q1, q2, B, q3⟩
  · refine Or.inl ⟨by omega, fun a b c d => ?_⟩
    show (if P.2.po.length = 0 then exW else P.2).va (fc4 a b c d) = a
    rw [if_pos q1]; rfl
  · refine Or.inr ⟨q2, B, P.2.nf, P.2.va, q3, Nat.zero_add _, sgm_move P.2.nf 0 1000 (fun k hk => by rw [Nat.zero_add]; exact h252 k (by omega)) hs, fun a b c d => ?_⟩
    rw [if_neg (by omega)]
theorem YB.ot {A B : Mm} (h : YB A B) : OT A B := ⟨fun i q => ⟨by funext k; exact h.2.2.1 i k (by omega) (by unfold okY; omega) (by unfold okW; omega), by funext k; exact h.2.1 i k (by omega) (by unfold okL; omega)⟩, h.1⟩
theorem RJ.upYB {M M' : Mm} {E : Gs} {t : Tv} (h : RJ M E) (hF : YB M M') (hT : TR0 M' t) : RJ M' (E.setT t) := by
  obtain ⟨hY, hL, hS, hW, hV, hK, ⟨hd, hd2, hU⟩, -⟩ := h
  have h6 := hY.1.2
  have k1 : ∀ i, 255 ≤ i → M'.1 i = M.1 i := fun i a => by funext k; exact hF.2.2.1 i k (by omega) (by unfold okY; omega) (by unfold okW; omega)
  refine ⟨?_, ?_, hS.congr h6 (fun k _ => by rw [k1 273 (by decide)]), hW.congr (fun i a b => k1 i (by omega)), hV.congr (fun i a b => k1 i (by omega)), fun k hk => (hK k hk).congr h6 (fun i a => k1 i (by omega)), ⟨hF.2.2.2.trans hd, hd2, fun k hk => (hU k hk).congr h6 (fun q _ => by rw [k1 278 (by decide)])⟩, hT⟩
  · obtain ⟨y1, y2, y3, y4, y5, y6, y7⟩ := hY
    have b5 := y2.2
    have b12 := y3.2
    have z : ∀ k, k < 4 → M'.1 240 k = M.1 240 k := fun k hk => hF.2.2.1 240 k (by decide) (by unfold okY; omega) (by unfold okW; omega)
    refine ⟨⟨(z 0 (by decide)).trans y1.1, y1.2⟩, ⟨(z 1 (by decide)).trans y2.1, y2.2⟩, ⟨(z 2 (by decide)).trans y3.1, y3.2⟩, (z 3 (by decide)).trans y4, fun j hj => ?_, fun j hj => ?_, fun j hj => ?_⟩
    · have hj2 : j < E.Y.n := hj
      rw [hF.2.2.1 243 j (by decide) (by unfold okY; omega) (by unfold okW; omega), hF.2.2.1 244 j (by decide) (by unfold okY; omega) (by unfold okW; omega), hF.2.2.1 245 j (by decide) (by unfold okY; omega) (by unfold okW; omega), hF.2.2.1 246 j (by decide) (by unfold okY; omega) (by unfold okW; omega), hF.2.1 241 j (by decide) (by unfold okL; omega)]
      exact y5 j hj
    · have hj2 : j < E.Y.ns := hj
      rw [hF.2.2.1 247 j (by decide) (by unfold okY; omega) (by unfold okW; omega), hF.2.2.1 248 j (by decide) (by unfold okY; omega) (by unfold okW; omega), hF.2.1 242 j (by decide) (by unfold okL; omega)]
      exact y6 j hj
    · have hj2 : j < E.Y.nf := hj
      rw [hF.2.2.1 249 j (by decide) (by unfold okY; omega) (by unfold okW; omega)]; exact y7 j hj
  · obtain ⟨w, u, h1, h2, h3, h4, h5⟩ := hL
    refine ⟨w, u, (hF.2.2.1 250 0 (by decide) (by unfold okY; omega) (by unfold okW; omega)).trans h1, (hF.2.2.1 251 0 (by decide) (by unfold okY; omega) (by unfold okW; omega)).trans h2, h3, h4, ?_⟩
    rcases h5 with q | ⟨q1, b, nf, va, q2, q3, q4, q5⟩
    · exact Or.inl q
    · exact Or.inr ⟨q1, b, nf, va, q2, q3, sgm_congr nf w (fun k a c => hF.2.2.1 252 k (by decide) (by unfold okY; omega) (by unfold okW; omega)) q4, q5⟩
set_option maxHeartbeats 500000 in
set_option maxRecDepth 20000 in
theorem r_lays {G : Gt} {M : Mm} {L : Nat} (h250 : M.1 250 1 = nI 1000) (h251 : M.1 251 1 = nI (1000 + L)) : Call G 2 mX11_lays [.ref 238] M (eqQ none (setI (setI (lyM M) 250 0 (nI 0)) 251 0 (nI L))) := by
  refine Call.intro rfl (Nat.le_of_ble_eq_true rfl) ?_
  show Ev G _ mX11_lays 0 [.ref 238] [] M _
  refine e_aload_n dX11_lays_0 rfl ?_
  refine e_getR dX11_lays_1 fl_X11_13 sh_m rfl ?_
  refine e_iconst (v := 4) dX11_lays_4 (by decide) ?_
  refine cS2v dX11_lays_5 mo_X11_shifts ml_X11_339 (Nat.le_of_ble_eq_true rfl) (by omega) (r_shifts (n := 4) sa_m_yard (by decide) (by decide)) ?_
  refine e_aload_n dX11_lays_8 rfl ?_
  refine e_getR dX11_lays_9 fl_X11_16 sh_m rfl ?_
  refine e_bipush (v := 6) dX11_lays_12 (by decide) ?_
  refine cS2v dX11_lays_14 mo_X11_shiftsNames ml_X11_343 (Nat.le_of_ble_eq_true rfl) (by omega) (r_shiftsNames (n := 6) sa_m_shedName (by decide) (by decide)) ?_
  refine e_aload_n dX11_lays_17 rfl ?_
  refine e_getR dX11_lays_18 fl_X11_20 sh_m rfl ?_
  refine e_iconst (v := 5) dX11_lays_21 (by decide) ?_
  refine cS2v dX11_lays_22 mo_X11_shiftsNames ml_X11_343 (Nat.le_of_ble_eq_true rfl) (by omega) (r_shiftsNames (n := 5) sa_m_stageName (by decide) (by decide)) ?_
  refine e_aload_n dX11_lays_25 rfl ?_
  refine e_getR dX11_lays_26 fl_X11_23 sh_m rfl ?_
  refine e_bipush (v := 6) dX11_lays_29 (by decide) ?_
  refine cS2v dX11_lays_31 mo_X11_shifts ml_X11_339 (Nat.le_of_ble_eq_true rfl) (by omega) (r_shifts (n := 6) sa_m_kind (by decide) (by decide)) ?_
  refine e_aload_n dX11_lays_34 rfl ?_
  refine e_getR dX11_lays_35 fl_X11_26 sh_m rfl ?_
  refine e_bipush (v := 6) dX11_lays_38 (by decide) ?_
  refine cS2v dX11_lays_40 mo_X11_shifts ml_X11_339 (Nat.le_of_ble_eq_true rfl) (by omega) (r_shifts (n := 6) sa_m_heatTold (by decide) (by decide)) ?_
  refine e_aload_n dX11_lays_43 rfl ?_
  refine e_getR dX11_lays_44 fl_X11_29 sh_m rfl ?_
  refine e_bipush (v := 6) dX11_lays_47 (by decide) ?_
  refine cS2v dX11_lays_49 mo_X11_shifts ml_X11_339 (Nat.le_of_ble_eq_true rfl) (by omega) (r_shifts (n := 6) sa_m_crownsTold (by decide) (by decide)) ?_
  refine e_aload_n dX11_lays_52 rfl ?_
  refine e_getR dX11_lays_53 fl_X11_32 sh_m rfl ?_
  refine e_bipush (v := 6) dX11_lays_56 (by decide) ?_
  refine cS2v dX11_lays_58 mo_X11_shifts ml_X11_339 (Nat.le_of_ble_eq_true rfl) (by omega) (r_shifts (n := 6) sa_m_near (by decide) (by decide)) ?_
  refine e_aload_n dX11_lays_61 rfl ?_
  refine e_getR dX11_lays_62 fl_X11_35 sh_m rfl ?_
  refine e_iconst (v := 5) dX11_lays_65 (by decide) ?_
  refine cS2v dX11_lays_66 mo_X11_shifts ml_X11_339 (Nat.le_of_ble_eq_true rfl) (by omega) (r_shifts (n := 5) sa_m_wantsFrom (by decide) (by decide)) ?_
  refine e_aload_n dX11_lays_69 rfl ?_
  refine e_getR dX11_lays_70 fl_X11_38 sh_m rfl ?_
  refine e_iconst (v := 5) dX11_lays_73 (by decide) ?_
  refine cS2v dX11_lays_74 mo_X11_shifts ml_X11_339 (Nat.le_of_ble_eq_true rfl) (by omega) (r_shifts (n := 5) sa_m_wantsTo (by decide) (by decide)) ?_
  refine e_aload_n dX11_lays_77 rfl ?_
  refine e_getR dX11_lays_78 fl_X11_41 sh_m rfl ?_
  refine e_bipush (v := 12) dX11_lays_81 (by decide) ?_
  refine cS2v dX11_lays_83 mo_X11_shifts ml_X11_339 (Nat.le_of_ble_eq_true rfl) (by omega) (r_shifts (n := 12) sa_m_frost (by decide) (by decide)) ?_
  refine e_aload_n dX11_lays_86 rfl ?_
  refine e_getR dX11_lays_87 fl_X11_50 sh_m rfl ?_
  refine e_sipush (v := 1000) dX11_lays_90 (by decide) ?_
  refine cS2v dX11_lays_93 mo_X11_shifts ml_X11_339 (Nat.le_of_ble_eq_true rfl) (by omega) (r_shifts (n := 1000) sa_m_codes (by decide) (by decide)) ?_
  show Ev G _ mX11_lays 96 _ _ (lyM M) _
  refine e_aload_n dX11_lays_96 rfl ?_
  refine e_getR dX11_lays_97 fl_X11_44 sh_m rfl ?_
  refine e_iconst (v := 0) dX11_lays_100 (by decide) ?_
  refine e_aload_n dX11_lays_101 rfl ?_
  refine e_getR dX11_lays_102 fl_X11_44 sh_m rfl ?_
  refine e_iconst (v := 1) dX11_lays_105 (by decide) ?_
  refine e_ialdN (j := 1) dX11_lays_106 (sa_m_lineFrom) (by decide) (by omega) ?_
  rw [show (lyM M).1 250 1 = nI 1000 from (congrFun (ly_ne (by decide)) 1).trans h250]
  refine e_sipush (v := 1000) dX11_lays_107 (by decide) ?_
  refine e_isub dX11_lays_110 ?_
  rw [show nI 1000 - (1000 : Int32) = nI 0 by decide]
  refine e_iastN (j := 0) dX11_lays_111 (sa_m_lineFrom) (by decide) (by omega) ?_
  refine e_aload_n dX11_lays_112 rfl ?_
  refine e_getR dX11_lays_113 fl_X11_47 sh_m rfl ?_
  refine e_iconst (v := 0) dX11_lays_116 (by decide) ?_
  refine e_aload_n dX11_lays_117 rfl ?_
  refine e_getR dX11_lays_118 fl_X11_47 sh_m rfl ?_
  refine e_iconst (v := 1) dX11_lays_121 (by decide) ?_
  refine e_ialdN (j := 1) dX11_lays_122 (sa_m_lineTo) (by decide) (by omega) ?_
  rw [setI_n (by decide), show (lyM M).1 251 1 = nI (1000 + L) from (congrFun (ly_ne (by decide)) 1).trans h251]
  refine e_sipush (v := 1000) dX11_lays_123 (by decide) ?_
  refine e_isub dX11_lays_126 ?_
  rw [show nI (1000 + L) - (1000 : Int32) = nI L from (nI_subN (a := 1000 + L) (b := 1000) (by omega)).trans (by rw [Nat.add_sub_cancel_left])]
  refine e_iastN (j := 0) dX11_lays_127 (sa_m_lineTo) (by decide) (by omega) ?_
  refine e_vret dX11_lays_128 rfl ?_
  exact ⟨rfl, rfl⟩
end RYE
