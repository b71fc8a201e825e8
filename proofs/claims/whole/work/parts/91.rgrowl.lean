section RGL
/-- what the law's line touches -/
def okW (c k : Nat) : Prop := (c = 250 ∧ k = 1) ∨ (c = 251 ∧ k = 1) ∨ (c = 252 ∧ 1000 ≤ k) ∨ c = 253 ∨ c = 254
def WG (M M' : Mm) : Prop := M'.2.2 = M.2.2 ∧ (∀ c, ¬ c = 238 → M'.2.1 c = M.2.1 c) ∧ (∀ c k, ¬ c = 238 → ¬ okW c k → M'.1 c k = M.1 c k) ∧ ∀ k, k = 1 ∨ k = 3 ∨ k = 24 ∨ k = 54 → M'.1 238 k = M.1 238 k
theorem WG.rfl' {M : Mm} : WG M M := ⟨rfl, fun _ _ => rfl, fun _ _ _ _ => rfl, fun _ _ => rfl⟩
theorem WG.trans {A B C : Mm} (h : WG A B) (k : WG B C) : WG A C := ⟨k.1.trans h.1, fun c q => (k.2.1 c q).trans (h.2.1 c q), fun c q a b => (k.2.2.1 c q a b).trans (h.2.2.1 c q a b), fun q a => (k.2.2.2 q a).trans (h.2.2.2 q a)⟩
theorem OF.wg {A B : Mm} (h : OF A B) : WG A B := ⟨h.2.2.1, fun c a => h.2.1 c a, fun c k a _ => by rw [h.1 c a], fun k q => h.2.2.2 k (by omega)⟩
theorem RF.wg {A B : Mm} (h : RF A B) : WG A B := ⟨h.1, h.2.1, fun c k a b => h.2.2.1 c k a (fun q => b (by unfold okW; omega)), h.2.2.2⟩
theorem WG.s {A B : Mm} (h : WG A B) {c k : Nat} {v : Int32} (hc : okW c k) : WG A (setI B c k v) := ⟨h.1, h.2.1, fun d z a b => by rw [setI_1, if_neg (fun x => b (by rw [x.1, x.2]; exact hc))]; exact h.2.2.1 d z a b, fun z a => by rw [setI_n (by unfold okW at hc; omega)]; exact h.2.2.2 z a⟩
theorem RPy.wg {M M' : Mm} {Y : Yv} (h : RPy M Y) (hO : WG M M') : RPy M' Y := by
  obtain ⟨h1, h2, h3, h4, h5, h6, h7⟩ := h
  have e : ∀ c k, (c = 240 ∨ (243 ≤ c ∧ c ≤ 249)) → M'.1 c k = M.1 c k := fun c k q => hO.2.2.1 c k (by omega) (by unfold okW; omega)
  refine ⟨⟨by rw [e 240 4 (by omega)]; exact h1.1, h1.2⟩, ⟨by rw [e 240 5 (by omega)]; exact h2.1, h2.2⟩, ⟨by rw [e 240 6 (by omega)]; exact h3.1, h3.2⟩, ⟨by rw [e 240 7 (by omega)]; exact h4.1, by rw [hO.2.2.2 24 (by omega)]; exact h4.2⟩, fun j hj => ?_, fun j hj => ?_, fun j hj => ?_⟩
  · rw [e 243 _ (by omega), e 244 _ (by omega), e 245 _ (by omega), e 246 _ (by omega), hO.2.1 241 (by decide)]; exact h5 j hj
  · rw [e 247 _ (by omega), e 248 _ (by omega), hO.2.1 242 (by decide)]; exact h6 j hj
  · rw [e 249 _ (by omega)]; exact h7 j hj
/-- the law being read -/
def RPl (M : Mm) (e : Ex) : Prop := M.1 250 1 = nI 1000 ∧ M.1 251 1 = nI (1000 + e.nf.length) ∧ M.1 238 23 = nI (1000 + e.nf.length) ∧ sgm (M.1 252) 1000 e.nf ∧ e.nf.length ≤ 1000 ∧ ((e.po.length = 0 ∧ e.nf.length = 0) ∨ (0 < e.po.length ∧ 0 < e.nf.length ∧ WF 0 0 e))
theorem RPl.yg {M M' : Mm} {e : Ex} (h : RPl M e) (hO : YG M M') : RPl M' e := by
  have q : ∀ c k, 250 ≤ c → M'.1 c k = M.1 c k := fun c k a => hO.2.2.1 c k (by omega) (by unfold okY; omega)
  exact ⟨(q 250 1 (by decide)).trans h.1, (q 251 1 (by decide)).trans h.2.1, (hO.2.2.2 23 (by omega)).trans h.2.2.1, sgm_congr e.nf 1000 (fun k _ _ => q 252 k (by decide)) h.2.2.2.1, h.2.2.2.2⟩
abbrev rl1 (t : Tv) (x : Xv) (P : Pv) : Xv := advX t (if 0 < P.2.po.length then failX t 3 x else x)
set_option maxHeartbeats 500000 in
set_option maxRecDepth 20000 in
theorem r_readsGrows {G : Gt} {M : Mm} {t : Tv} {x : Xv} {P : Pv} {b : Nat} (hG : GX M t x) (hb : 35 ≤ b) (hR : RPl M P.2) : Call G 4 mX11_readsGrows [.ref 238] M (fun r M' => WG M M' ∧ RA1 M' t (tkS t (pN t b 0 0 (rl1 t x P)).1 59) r ∧ ((tkS t (pN t b 0 0 (rl1 t x P)).1 59).1 = 0 → RPl M' (pN t b 0 0 (rl1 t x P)).2)) := by
  obtain ⟨hx0, hx2, hI, hZ, g4, g5, g6, g7, g8⟩ := id hG
  have ht := hZ.2.1
  refine Call.intro rfl (Nat.le_of_ble_eq_true rfl) ?_
  show Ev G _ mX11_readsGrows 0 [.ref 238] [] M _
  refine e_aload_n dX11_readsGrows_0 rfl ?_
  refine e_getR dX11_readsGrows_1 fl_X11_47 sh_m rfl ?_
  refine e_iconst (v := 1) dX11_readsGrows_4 (by decide) ?_
  refine e_ialdN (j := 1) dX11_readsGrows_5 (sa_m_lineTo) (by decide) (by omega) ?_
  rw [hR.2.1]
  refine e_aload_n dX11_readsGrows_6 rfl ?_
  refine e_getR dX11_readsGrows_7 fl_X11_44 sh_m rfl ?_
  refine e_iconst (v := 1) dX11_readsGrows_10 (by decide) ?_
  refine e_ialdN (j := 1) dX11_readsGrows_11 (sa_m_lineFrom) (by decide) (by omega) ?_
  rw [hR.1]
  refine e_icmp_le (tgt := 21) dX11_readsGrows_12 (by decide) (fun c12 => ?_) (fun c12 => ?_)
  · -- 12 jumps
    have hn0 : P.2.nf.length = 0 := by
      rcases Nat.eq_zero_or_pos P.2.nf.length with q | q
      · exact q
      · exact absurd ((nI_ltI (a := 1000) (b := 1000 + P.2.nf.length) (by omega) (by have := hR.2.2.2.2.1; omega)).mpr (by omega)) c12
    have hp0 : ¬ 0 < P.2.po.length := by
      rcases hR.2.2.2.2.2 with q | q
      · omega
      · omega
    have e1 : rl1 t x P = advX t x := by show advX t (if 0 < P.2.po.length then failX t 3 x else x) = _; rw [if_neg hp0]
    refine e_aload_n dX11_readsGrows_21 rfl ?_
    refine cV0x dX11_readsGrows_22 mo_X11_nextToken ml_X11_224 sh_m rfl (Nat.le_of_ble_eq_true rfl) (by omega) (c_nt hG OF.rfl' rfl) ?_
    rintro r M2 ⟨rfl, hN, hG2⟩
    dsimp only [Option.toList, List.cons_append, List.nil_append]
    refine e_aload_n dX11_readsGrows_25 rfl ?_
    refine e_getR dX11_readsGrows_26 fl_X11_44 sh_m rfl ?_
    refine e_iconst (v := 1) dX11_readsGrows_29 (by decide) ?_
    refine e_aload_n dX11_readsGrows_30 rfl ?_
    refine e_getI dX11_readsGrows_31 fl_X11_192 sh_m rfl ?_
    rw [hN.of.2.2.2 23 (by omega), hR.2.2.1, hn0]
    refine e_iastN (j := 1) dX11_readsGrows_34 (sa_m_lineFrom) (by decide) (by omega) ?_
    refine e_aload_n dX11_readsGrows_35 rfl ?_
    refine cV0x dX11_readsGrows_36 mo_X11_reads ml_X11_315 sh_m rfl (Nat.le_of_ble_eq_true rfl) (by omega) (r_reads (b := b) (x := rl1 t x P) (by rw [e1]; exact hG2.s (by omega)) hb (by rw [setI_n (by decide), hN.of.2.2.2 23 (by omega), hR.2.2.1, hn0]; rfl)) ?_
    rintro r M3 ⟨hO3, hA3, hF3⟩
    rcases hA3 with ⟨z1, rfl, z2⟩ | ⟨z1, rfl, z2⟩
    · -- ok at 36
      dsimp only [Option.toList, List.cons_append, List.nil_append]
      refine e_if_ne (tgt := 44) dX11_readsGrows_39 (by decide) (fun c39 => ?_) (fun c39 => absurd c39 (by decide))
      refine e_aload_n dX11_readsGrows_44 rfl ?_
      refine e_getR dX11_readsGrows_45 fl_X11_47 sh_m rfl ?_
      refine e_iconst (v := 1) dX11_readsGrows_48 (by decide) ?_
      refine e_aload_n dX11_readsGrows_49 rfl ?_
      refine e_getI dX11_readsGrows_50 fl_X11_192 sh_m rfl ?_
      rw [(hF3 z1).1]
      refine e_iastN (j := 1) dX11_readsGrows_53 (sa_m_lineTo) (by decide) (by omega) ?_
      refine e_iconst (v := 1) dX11_readsGrows_54 (by decide) ?_
      refine e_zret dX11_readsGrows_55 rfl (by first | rfl | exact b2i_nar _) ?_
      obtain ⟨q1, q2⟩ := hF3 z1
      have h00 : ((pN t b 0 0 (rl1 t x P))).1.1 = 0 := Classical.byContradiction (fun q => by rw [tkS_1 q] at z1; exact q z1)
      have hle : (rl1 t x P).2 ≤ t.1 := by rw [e1]; exact (adv_le (t := t) hx2).2
      have hln := pN_ln hI b 0 0 (by decide) (by decide) (by unfold need; omega) (rl1 t x P) hle
      have hwf := pN_wf hI b 0 0 (rl1 t x P) (by decide) (by decide) (by unfold need; omega) hle h00
      have hl2 := hln.2.2 h00
      have hl1 := hln.2.1
      refine ⟨((hN.of.wg.s (by unfold okW; omega)).trans hO3.wg).s (by unfold okW; omega), Or.inl ⟨z1, rfl, z2.s (by omega)⟩, fun _ => ⟨?_, ?_, ?_, ?_, ?_, Or.inr ⟨hl2.2.2.2.1, hl2.2.2.2.2, hwf⟩⟩⟩
      · rw [setI_n (by decide), hO3.2.2.1 250 1 (by decide) (by omega), setI_p]
      · rw [setI_p]
      · rw [setI_n (by decide)]; exact q1
      · exact sgm_congr _ 1000 (fun k _ _ => by rw [setI_n (by decide)]) q2
      · have := hl2.2.2.1; omega
    · -- no at 36
      dsimp only [Option.toList, List.cons_append, List.nil_append]
      refine e_if_ne (tgt := 44) dX11_readsGrows_39 (by decide) (fun c39 => absurd c39 (by decide)) (fun c39 => ?_)
      refine e_iconst (v := 0) dX11_readsGrows_42 (by decide) ?_
      refine e_zret dX11_readsGrows_43 rfl (by first | rfl | exact b2i_nar _) ?_
      exact ⟨(hN.of.wg.s (by unfold okW; omega)).trans hO3.wg, Or.inr ⟨z1, rfl, z2⟩, fun q => absurd q z1⟩
  · -- 12 goes on
    refine e_aload_n dX11_readsGrows_15 rfl ?_
    refine e_iconst (v := 3) dX11_readsGrows_16 (by decide) ?_
    refine cV1r dX11_readsGrows_17 mo_X11_fails ml_X11_217 sh_m rfl (Nat.le_of_ble_eq_true rfl) (by omega) (r_fails (k := 3) g5) ?_
    refine e_zret dX11_readsGrows_20 rfl (by first | rfl | exact b2i_nar _) ?_
    have h0 : 0 < P.2.po.length := by
      rcases hR.2.2.2.2.2 with q | q
      · rw [q.2] at c12; exact absurd c12 (by decide)
      · exact q.1
    have hz := fail_nz (t := t) (x := x) (k := 3) (by decide) hx2 hI
    have e1 : rl1 t x P = failX t (nI 3) x := by show advX t (if 0 < P.2.po.length then failX t 3 x else x) = _; rw [if_pos h0]; exact fl_adv (by decide) hx2 hI
    have e2 : tkS t ((pN t b 0 0 (rl1 t x P))).1 59 = failX t (nI 3) x := by rw [e1, pN_f b 0 0 _ hz]; exact st_S hz
    exact ⟨of9.wg, RA1.f hG (k := 3) (by decide) e2, fun q => absurd q (by rw [e2]; exact hz)⟩
end RGL
