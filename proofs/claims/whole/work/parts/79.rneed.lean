section RND
theorem st_N {t : Tv} {x : Xv} {a b : Int32} (h : ¬ x.1 = 0) : tkN t x a b = x := by unfold tkN; rw [if_neg (fun q => h q.1), fail_f h, adv_f h]
theorem st_W {t : Tv} {x : Xv} {k : Nat} (h : ¬ x.1 = 0) : tkW t x k = x := by unfold tkW; rw [if_neg (fun q => h q.1), fail_f h, adv_f h]
theorem st_S {t : Tv} {x : Xv} {s : Int32} (h : ¬ x.1 = 0) : tkS t x s = x := by unfold tkS; rw [if_neg (fun q => h q.1), fail_f h, adv_f h]
theorem st_M {t : Tv} {x : Xv} {Y : Yv} (h : ¬ x.1 = 0) : tkM t x Y = x := by unfold tkM; rw [if_neg (fun q => h q.1), fail_f h, adv_f h]
theorem st_H {t : Tv} {x : Xv} {Y : Yv} (h : ¬ x.1 = 0) : shH t x Y = x := by unfold shH; rw [if_neg (fun q => h q.1), fail_f h]
theorem st_K {t : Tv} {x : Xv} (h : ¬ x.1 = 0) : tkK t x = x := by unfold tkK; rw [if_neg (fun q => by rcases q with q | q | q | q <;> exact h q.1), fail_f h, adv_f h]
/-- a fault at the token -/
theorem RA1.f {M : Mm} {t : Tv} {x x' : Xv} {k : Nat} (hG : GX M t x) (hk : 1 ≤ k ∧ k ≤ 5) (e : x' = failX t (nI k) x) : RA1 (setI M 238 9 (nI k + 16 * nI (pl t x.2))) t x' (some (.int 0)) := by
  obtain ⟨hx0, hx2, hI, -⟩ := hG
  have h := fail_nz hk hx2 hI
  rw [← e] at h
  exact Or.inr ⟨h, rfl, by rw [setI_p, e, fail0 hx0]⟩
theorem fl_adv {t : Tv} {x : Xv} {k : Nat} (hk : 1 ≤ k ∧ k ≤ 5) (h : x.2 ≤ t.1) (hI : TI t) : advX t (failX t (nI k) x) = failX t (nI k) x := adv_f (fail_nz hk h hI)
theorem of9 {M : Mm} {v : Int32} : OF M (setI M 238 9 v) := OF.rfl'.i (by omega)
set_option maxHeartbeats 4000000 in
set_option maxRecDepth 20000 in
theorem r_needsNumber {G : Gt} {M : Mm} {t : Tv} {x : Xv} (hG : GX M t x) {lo hi : Int32} : Call G 3 mX11_needsNumber [.ref 238, .int lo, .int hi] M (fun r M' => OF M M' ∧ RA1 M' t (tkN t x lo hi) r ∧ ((tkN t x lo hi).1 = 0 → M'.1 238 37 = nmX t x) ∧ M'.2.1 238 38 = M.2.1 238 38) := by
  obtain ⟨hx0, hx2, hI, hZ, g4, g5, g6, g7, g8⟩ := id hG
  have ht := hZ.2.1
  refine Call.intro rfl (Nat.le_of_ble_eq_true rfl) ?_
  show Ev G _ mX11_needsNumber 0 [.ref 238, .int lo, .int hi] [] M _
  refine e_aload_n dX11_needsNumber_0 rfl ?_
  refine e_getI dX11_needsNumber_1 fl_X11_178 sh_m rfl ?_
  rw [g6]
  refine e_iconst (v := 2) dX11_needsNumber_4 (by decide) ?_
  refine e_icmp_eq (tgt := 14) dX11_needsNumber_5 (by decide) (fun c5 => ?_) (fun c5 => ?_)
  · -- 5 jumps
    have hn := kR_2.mp c5
    refine e_aload_n dX11_needsNumber_14 rfl ?_
    refine e_getI dX11_needsNumber_15 fl_X11_175 sh_m rfl ?_
    rw [g8 hn]
    refine e_iload_n dX11_needsNumber_18 rfl ?_
    refine e_iload_n dX11_needsNumber_19 rfl ?_
    refine cS3r dX11_needsNumber_20 mo_X11_within ml_X11_274 (Nat.le_of_ble_eq_true rfl) (by omega) (r_within) ?_
    refine e_if_ne (tgt := 32) dX11_needsNumber_23 (by decide) (fun c23 => ?_) (fun c23 => ?_)
    · -- 23 jumps
      have c23 : vWi (nmX t x) lo hi := by
        by_cases h : (vWi (nmX t x) lo hi)
        · exact h
        · exact absurd (b2i_f h) c23
      refine e_aload_n dX11_needsNumber_32 rfl ?_
      refine e_aload_n dX11_needsNumber_33 rfl ?_
      refine e_getI dX11_needsNumber_34 fl_X11_175 sh_m rfl ?_
      rw [g8 hn]
      refine e_putI dX11_needsNumber_37 fl_X11_278 sh_m rfl rfl rfl ?_
      refine e_aload_n dX11_needsNumber_40 rfl ?_
      refine cV0x dX11_needsNumber_41 mo_X11_nextToken ml_X11_224 sh_m rfl (Nat.le_of_ble_eq_true rfl) (by omega) (c_nt hG (OF.rfl'.i (by omega)) (by rw [setI_1, if_neg (by omega)])) ?_
      rintro r M2 ⟨rfl, hN, hG2⟩
      dsimp only [Option.toList, List.cons_append, List.nil_append]
      refine e_iconst (v := 1) dX11_needsNumber_44 (by decide) ?_
      refine e_zret dX11_needsNumber_45 rfl (by first | rfl | exact b2i_nar _) ?_
      have e : tkN t x lo hi = advX t x := by unfold tkN; rw [if_pos ⟨hx0, hn⟩, if_pos c23]
      rw [e]
      exact ⟨(OF.rfl'.i (by omega)).trans hN.of, Or.inl ⟨hG2.1, rfl, hG2⟩, fun _ => by rw [hN.2.2.2.1 37 (by omega), setI_p], by rw [hN.2.2.2.2 38 (by decide)]; rfl⟩
    · -- 23 goes on
      refine e_aload_n dX11_needsNumber_26 rfl ?_
      refine e_iconst (v := 4) dX11_needsNumber_27 (by decide) ?_
      refine cV1r dX11_needsNumber_28 mo_X11_fails ml_X11_217 sh_m rfl (Nat.le_of_ble_eq_true rfl) (by omega) (r_fails (k := 4) g5) ?_
      refine e_zret dX11_needsNumber_31 rfl (by first | rfl | exact b2i_nar _) ?_
      have c23 := b2i_eq0.mp c23
      have e : tkN t x lo hi = failX t (nI 4) x := by unfold tkN; rw [if_pos ⟨hx0, hn⟩, if_neg c23]; exact fl_adv (by decide) hx2 hI
      have hf := RA1.f hG (k := 4) (by decide) e
      exact ⟨of9, hf, fun q => absurd q (by rw [e]; exact fail_nz (by decide) hx2 hI), rfl⟩
  · -- 5 goes on
    refine e_aload_n dX11_needsNumber_8 rfl ?_
    refine e_iconst (v := 1) dX11_needsNumber_9 (by decide) ?_
    refine cV1r dX11_needsNumber_10 mo_X11_fails ml_X11_217 sh_m rfl (Nat.le_of_ble_eq_true rfl) (by omega) (r_fails (k := 1) g5) ?_
    refine e_zret dX11_needsNumber_13 rfl (by first | rfl | exact b2i_nar _) ?_
    have e : tkN t x lo hi = failX t (nI 1) x := by unfold tkN; rw [if_neg (fun q => c5 (kR_2.mpr q.2))]; exact fl_adv (by decide) hx2 hI
    have hf := RA1.f hG (k := 1) (by decide) e
    exact ⟨of9, hf, fun q => absurd q (by rw [e]; exact fail_nz (by decide) hx2 hI), rfl⟩
set_option maxHeartbeats 4000000 in
set_option maxRecDepth 20000 in
theorem r_needsBoth {G : Gt} {M : Mm} {t : Tv} {x : Xv} (hG : GX M t x) {k : Nat} {lo hi : Int32} (hk : 1 ≤ k ∧ k < 25) : Call G 4 mX11_needsBoth [.ref 238, .long (wLet.getD k 0), .int lo, .int hi] M (fun r M' => OF M M' ∧ RA1 M' t (tkN t (tkW t x k) lo hi) r ∧ ((tkN t (tkW t x k) lo hi).1 = 0 → M'.1 238 37 = nmX t (tkW t x k)) ∧ M'.2.1 238 38 = M.2.1 238 38) := by
  refine Call.intro rfl (Nat.le_of_ble_eq_true rfl) ?_
  show Ev G _ mX11_needsBoth 0 [.ref 238, .long (wLet.getD k 0), RA, .int lo, .int hi] [] M _
  obtain ⟨hx0, hx2, hI, hZ, g4, g5, g6, g7, g8⟩ := id hG
  refine e_aload_n dX11_needsBoth_0 rfl ?_
  refine e_lload_n dX11_needsBoth_1 rfl ?_
  refine cV1r dX11_needsBoth_2 mo_X11_isWord ml_X11_209 sh_m rfl (Nat.le_of_ble_eq_true rfl) (by omega) (r_isWord hG hk) ?_
  refine e_if_ne (tgt := 14) dX11_needsBoth_5 (by decide) (fun c5 => ?_) (fun c5 => ?_)
  · -- 5 jumps
    refine e_aload_n dX11_needsBoth_14 rfl ?_
    refine cV0x dX11_needsBoth_15 mo_X11_nextToken ml_X11_224 sh_m rfl (Nat.le_of_ble_eq_true rfl) (by omega) (c_nt hG OF.rfl' rfl) ?_
    rintro r M2 ⟨rfl, hN, hG2⟩
    dsimp only [Option.toList, List.cons_append, List.nil_append]
    have hw : isW t x k := Classical.not_not.mp (fun q => c5 (b2i_f q))
    have ew : tkW t x k = advX t x := by unfold tkW; rw [if_pos hw]
    rw [← ew] at hG2
    refine e_aload_n dX11_needsBoth_18 rfl ?_
    refine e_iload_n dX11_needsBoth_19 rfl ?_
    refine e_iload dX11_needsBoth_20 rfl ?_
    refine cV2x dX11_needsBoth_22 mo_X11_needsNumber ml_X11_281 sh_m rfl (Nat.le_of_ble_eq_true rfl) (by omega) (r_needsNumber hG2) ?_
    rintro r M3 ⟨h1, h2, h3, h4⟩
    have hfin : OF M M3 ∧ ((tkN t (tkW t x k) lo hi).1 = 0 → M3.1 238 37 = nmX t (tkW t x k)) ∧ M3.2.1 238 38 = M.2.1 238 38 := ⟨hN.of.trans h1, h3, h4.trans (hN.2.2.2.2 38 (by decide))⟩
    have hr2 := h2
    rcases h2 with ⟨q1, rfl, q2⟩ | ⟨q1, rfl, q2⟩
    · dsimp only [Option.toList, List.cons_append, List.nil_append]
      refine e_zret dX11_needsBoth_25 rfl rfl ?_
      exact ⟨hfin.1, hr2, hfin.2⟩
    · dsimp only [Option.toList, List.cons_append, List.nil_append]
      refine e_zret dX11_needsBoth_25 rfl rfl ?_
      exact ⟨hfin.1, hr2, hfin.2⟩
  · -- 5 goes on
    refine e_aload_n dX11_needsBoth_8 rfl ?_
    refine e_iconst (v := 1) dX11_needsBoth_9 (by decide) ?_
    refine cV1r dX11_needsBoth_10 mo_X11_fails ml_X11_217 sh_m rfl (Nat.le_of_ble_eq_true rfl) (by omega) (r_fails (k := 1) g5) ?_
    refine e_zret dX11_needsBoth_13 rfl (by first | rfl | exact b2i_nar _) ?_
    have e1 : tkW t x k = failX t (nI 1) x := by unfold tkW; rw [if_neg (b2i_eq0.mp c5)]; exact fl_adv (by decide) hx2 hI
    have hz := fail_nz (t := t) (x := x) (k := 1) (by decide) hx2 hI
    have e : tkN t (tkW t x k) lo hi = failX t (nI 1) x := by rw [e1, st_N hz]
    have hf := RA1.f hG (k := 1) (by decide) e
    exact ⟨of9, hf, fun q => absurd q (by rw [e]; exact hz), rfl⟩
set_option maxHeartbeats 4000000 in
set_option maxRecDepth 20000 in
theorem r_closes {G : Gt} {M : Mm} {t : Tv} {x : Xv} (hG : GX M t x) : Call G 3 mX11_closes [.ref 238] M (fun r M' => OF M M' ∧ RA1 M' t (tkS t x 59) r) := by
  obtain ⟨hx0, hx2, hI, hZ, g4, g5, g6, g7, g8⟩ := id hG
  have ht := hZ.2.1
  refine Call.intro rfl (Nat.le_of_ble_eq_true rfl) ?_
  show Ev G _ mX11_closes 0 [.ref 238] [] M _
  refine e_aload_n dX11_closes_0 rfl ?_
  refine e_bipush (v := 59) dX11_closes_1 (by decide) ?_
  refine cV1r dX11_closes_3 mo_X11_isSign ml_X11_213 sh_m rfl (Nat.le_of_ble_eq_true rfl) (by omega) (r_isSign hG) ?_
  refine e_if_ne (tgt := 15) dX11_closes_6 (by decide) (fun c6 => ?_) (fun c6 => ?_)
  · -- 6 jumps
    refine e_aload_n dX11_closes_15 rfl ?_
    refine cV0x dX11_closes_16 mo_X11_nextToken ml_X11_224 sh_m rfl (Nat.le_of_ble_eq_true rfl) (by omega) (c_nt hG OF.rfl' rfl) ?_
    rintro r M2 ⟨rfl, hN, hG2⟩
    dsimp only [Option.toList, List.cons_append, List.nil_append]
    refine e_iconst (v := 1) dX11_closes_19 (by decide) ?_
    refine e_zret dX11_closes_20 rfl (by first | rfl | exact b2i_nar _) ?_
    have hw : isS t x 59 := Classical.not_not.mp (fun q => c6 (b2i_f q))
    have e : tkS t x 59 = advX t x := by unfold tkS; rw [if_pos hw]
    rw [e]
    exact ⟨hN.of, Or.inl ⟨hG2.1, rfl, hG2⟩⟩
  · -- 6 goes on
    refine e_aload_n dX11_closes_9 rfl ?_
    refine e_iconst (v := 1) dX11_closes_10 (by decide) ?_
    refine cV1r dX11_closes_11 mo_X11_fails ml_X11_217 sh_m rfl (Nat.le_of_ble_eq_true rfl) (by omega) (r_fails (k := 1) g5) ?_
    refine e_zret dX11_closes_14 rfl (by first | rfl | exact b2i_nar _) ?_
    have e : tkS t x 59 = failX t (nI 1) x := by unfold tkS; rw [if_neg (b2i_eq0.mp c6)]; exact fl_adv (by decide) hx2 hI
    exact ⟨of9, RA1.f hG (k := 1) (by decide) e⟩
theorem res_in : ∀ k, k < 25 → (wRes.getD k 0 = 0 ↔ k = 0 ∨ 21 ≤ k) := by decide
theorem res_k {w : Int64} {k : Nat} (hk : 1 ≤ k ∧ k ≤ 20) (h : w = wLet.getD k 0) : ¬ wRes.getD (wI w) 0 = 0 := by
  rw [(wI_iff ⟨hk.1, by omega⟩).mpr h]
  exact fun q => by have := (res_in k (by omega)).mp q; omega
theorem res_n {w : Int64} (h : ∀ k, 1 ≤ k → k ≤ 20 → ¬ w = wLet.getD k 0) : wRes.getD (wI w) 0 = 0 := by
  have hl := wI_lt w
  refine (res_in _ hl).mpr ?_
  by_cases a : wI w = 0
  · exact Or.inl a
  · by_cases b : 21 ≤ wI w
    · exact Or.inr b
    · exact absurd ((wI_iff (w := w) (k := wI w) ⟨by omega, hl⟩).mp rfl) (h _ (by omega) (by omega))
set_option maxHeartbeats 4000000 in
set_option maxRecDepth 20000 in
theorem r_isKept {G : Gt} {M : Mm} {t : Tv} {x : Xv} (hG : GX M t x) : Call G 1 mX11_isKept [.ref 238] M (eqQ (some (.int (b2i (¬ isM t x)))) M) := by
  obtain ⟨hx0, hx2, hI, hZ, g4, g5, g6, g7, g8⟩ := id hG
  have ht := hZ.2.1
  refine Call.intro rfl (Nat.le_of_ble_eq_true rfl) ?_
  show Ev G _ mX11_isKept 0 [.ref 238] [] M _
  refine e_aload_n dX11_isKept_0 rfl ?_
  refine e_getI dX11_isKept_1 fl_X11_178 sh_m rfl ?_
  rw [g6]
  refine e_iconst (v := 1) dX11_isKept_4 (by decide) ?_
  refine e_icmp_eq (tgt := 10) dX11_isKept_5 (by decide) (fun c5 => ?_) (fun c5 => ?_)
  · -- 5 jumps
    refine e_aload_n dX11_isKept_10 rfl ?_
    refine e_getL dX11_isKept_11 fl_X11_171 sh_m rfl ?_
    rw [g7 (kR_1.mp c5)]
    refine e_ldc2 dX11_isKept_14 kl_X11_240 ?_
    refine e_lcmp dX11_isKept_17 ?_
    refine e_if_eq (tgt := 230) dX11_isKept_18 (by decide) (fun c18 => ?_) (fun c18 => ?_)
    · -- 18 jumps
      refine e_iconst (v := 1) dX11_isKept_230 (by decide) ?_
      refine e_goto (tgt := 235) dX11_isKept_231 (by decide) ?_
      refine e_zret dX11_isKept_235 rfl (by first | rfl | exact b2i_nar _) ?_
      exact ⟨by rw [b2i_t (p := ¬ isM t x) (fun q => res_k (k := 1) (by decide) (cmp0.mp c18) q.2.2)], rfl⟩
    · -- 18 goes on
      refine e_aload_n dX11_isKept_21 rfl ?_
      refine e_getL dX11_isKept_22 fl_X11_171 sh_m rfl ?_
      rw [g7 (kR_1.mp c5)]
      refine e_ldc2 dX11_isKept_25 kl_X11_242 ?_
      refine e_lcmp dX11_isKept_28 ?_
      refine e_if_eq (tgt := 230) dX11_isKept_29 (by decide) (fun c29 => ?_) (fun c29 => ?_)
      · -- 29 jumps
        refine e_iconst (v := 1) dX11_isKept_230 (by decide) ?_
        refine e_goto (tgt := 235) dX11_isKept_231 (by decide) ?_
        refine e_zret dX11_isKept_235 rfl (by first | rfl | exact b2i_nar _) ?_
        exact ⟨by rw [b2i_t (p := ¬ isM t x) (fun q => res_k (k := 2) (by decide) (cmp0.mp c29) q.2.2)], rfl⟩
      · -- 29 goes on
        refine e_aload_n dX11_isKept_32 rfl ?_
        refine e_getL dX11_isKept_33 fl_X11_171 sh_m rfl ?_
        rw [g7 (kR_1.mp c5)]
        refine e_ldc2 dX11_isKept_36 kl_X11_244 ?_
        refine e_lcmp dX11_isKept_39 ?_
        refine e_if_eq (tgt := 230) dX11_isKept_40 (by decide) (fun c40 => ?_) (fun c40 => ?_)
        · -- 40 jumps
          refine e_iconst (v := 1) dX11_isKept_230 (by decide) ?_
          refine e_goto (tgt := 235) dX11_isKept_231 (by decide) ?_
          refine e_zret dX11_isKept_235 rfl (by first | rfl | exact b2i_nar _) ?_
          exact ⟨by rw [b2i_t (p := ¬ isM t x) (fun q => res_k (k := 3) (by decide) (cmp0.mp c40) q.2.2)], rfl⟩
        · -- 40 goes on
          refine e_aload_n dX11_isKept_43 rfl ?_
          refine e_getL dX11_isKept_44 fl_X11_171 sh_m rfl ?_
          rw [g7 (kR_1.mp c5)]
          refine e_ldc2 dX11_isKept_47 kl_X11_246 ?_
          refine e_lcmp dX11_isKept_50 ?_
          refine e_if_eq (tgt := 230) dX11_isKept_51 (by decide) (fun c51 => ?_) (fun c51 => ?_)
          · -- 51 jumps
            refine e_iconst (v := 1) dX11_isKept_230 (by decide) ?_
            refine e_goto (tgt := 235) dX11_isKept_231 (by decide) ?_
            refine e_zret dX11_isKept_235 rfl (by first | rfl | exact b2i_nar _) ?_
            exact ⟨by rw [b2i_t (p := ¬ isM t x) (fun q => res_k (k := 4) (by decide) (cmp0.mp c51) q.2.2)], rfl⟩
          · -- 51 goes on
            refine e_aload_n dX11_isKept_54 rfl ?_
            refine e_getL dX11_isKept_55 fl_X11_171 sh_m rfl ?_
            rw [g7 (kR_1.mp c5)]
            refine e_ldc2 dX11_isKept_58 kl_X11_248 ?_
            refine e_lcmp dX11_isKept_61 ?_
            refine e_if_eq (tgt := 230) dX11_isKept_62 (by decide) (fun c62 => ?_) (fun c62 => ?_)
            · -- 62 jumps
              refine e_iconst (v := 1) dX11_isKept_230 (by decide) ?_
              refine e_goto (tgt := 235) dX11_isKept_231 (by decide) ?_
              refine e_zret dX11_isKept_235 rfl (by first | rfl | exact b2i_nar _) ?_
              exact ⟨by rw [b2i_t (p := ¬ isM t x) (fun q => res_k (k := 5) (by decide) (cmp0.mp c62) q.2.2)], rfl⟩
            · -- 62 goes on
              refine e_aload_n dX11_isKept_65 rfl ?_
              refine e_getL dX11_isKept_66 fl_X11_171 sh_m rfl ?_
              rw [g7 (kR_1.mp c5)]
              refine e_ldc2 dX11_isKept_69 kl_X11_250 ?_
              refine e_lcmp dX11_isKept_72 ?_
              refine e_if_eq (tgt := 230) dX11_isKept_73 (by decide) (fun c73 => ?_) (fun c73 => ?_)
              · -- 73 jumps
                refine e_iconst (v := 1) dX11_isKept_230 (by decide) ?_
                refine e_goto (tgt := 235) dX11_isKept_231 (by decide) ?_
                refine e_zret dX11_isKept_235 rfl (by first | rfl | exact b2i_nar _) ?_
                exact ⟨by rw [b2i_t (p := ¬ isM t x) (fun q => res_k (k := 6) (by decide) (cmp0.mp c73) q.2.2)], rfl⟩
              · -- 73 goes on
                refine e_aload_n dX11_isKept_76 rfl ?_
                refine e_getL dX11_isKept_77 fl_X11_171 sh_m rfl ?_
                rw [g7 (kR_1.mp c5)]
                refine e_ldc2 dX11_isKept_80 kl_X11_252 ?_
                refine e_lcmp dX11_isKept_83 ?_
                refine e_if_eq (tgt := 230) dX11_isKept_84 (by decide) (fun c84 => ?_) (fun c84 => ?_)
                · -- 84 jumps
                  refine e_iconst (v := 1) dX11_isKept_230 (by decide) ?_
                  refine e_goto (tgt := 235) dX11_isKept_231 (by decide) ?_
                  refine e_zret dX11_isKept_235 rfl (by first | rfl | exact b2i_nar _) ?_
                  exact ⟨by rw [b2i_t (p := ¬ isM t x) (fun q => res_k (k := 7) (by decide) (cmp0.mp c84) q.2.2)], rfl⟩
                · -- 84 goes on
                  refine e_aload_n dX11_isKept_87 rfl ?_
                  refine e_getL dX11_isKept_88 fl_X11_171 sh_m rfl ?_
                  rw [g7 (kR_1.mp c5)]
                  refine e_ldc2 dX11_isKept_91 kl_X11_254 ?_
                  refine e_lcmp dX11_isKept_94 ?_
                  refine e_if_eq (tgt := 230) dX11_isKept_95 (by decide) (fun c95 => ?_) (fun c95 => ?_)
                  · -- 95 jumps
                    refine e_iconst (v := 1) dX11_isKept_230 (by decide) ?_
                    refine e_goto (tgt := 235) dX11_isKept_231 (by decide) ?_
                    refine e_zret dX11_isKept_235 rfl (by first | rfl | exact b2i_nar _) ?_
                    exact ⟨by rw [b2i_t (p := ¬ isM t x) (fun q => res_k (k := 8) (by decide) (cmp0.mp c95) q.2.2)], rfl⟩
                  · -- 95 goes on
                    refine e_aload_n dX11_isKept_98 rfl ?_
                    refine e_getL dX11_isKept_99 fl_X11_171 sh_m rfl ?_
                    rw [g7 (kR_1.mp c5)]
                    refine e_ldc2 dX11_isKept_102 kl_X11_256 ?_
                    refine e_lcmp dX11_isKept_105 ?_
                    refine e_if_eq (tgt := 230) dX11_isKept_106 (by decide) (fun c106 => ?_) (fun c106 => ?_)
                    · -- 106 jumps
                      refine e_iconst (v := 1) dX11_isKept_230 (by decide) ?_
                      refine e_goto (tgt := 235) dX11_isKept_231 (by decide) ?_
                      refine e_zret dX11_isKept_235 rfl (by first | rfl | exact b2i_nar _) ?_
                      exact ⟨by rw [b2i_t (p := ¬ isM t x) (fun q => res_k (k := 9) (by decide) (cmp0.mp c106) q.2.2)], rfl⟩
                    · -- 106 goes on
                      refine e_aload_n dX11_isKept_109 rfl ?_
                      refine e_getL dX11_isKept_110 fl_X11_171 sh_m rfl ?_
                      rw [g7 (kR_1.mp c5)]
                      refine e_ldc2 dX11_isKept_113 kl_X11_258 ?_
                      refine e_lcmp dX11_isKept_116 ?_
                      refine e_if_eq (tgt := 230) dX11_isKept_117 (by decide) (fun c117 => ?_) (fun c117 => ?_)
                      · -- 117 jumps
                        refine e_iconst (v := 1) dX11_isKept_230 (by decide) ?_
                        refine e_goto (tgt := 235) dX11_isKept_231 (by decide) ?_
                        refine e_zret dX11_isKept_235 rfl (by first | rfl | exact b2i_nar _) ?_
                        exact ⟨by rw [b2i_t (p := ¬ isM t x) (fun q => res_k (k := 10) (by decide) (cmp0.mp c117) q.2.2)], rfl⟩
                      · -- 117 goes on
                        refine e_aload_n dX11_isKept_120 rfl ?_
                        refine e_getL dX11_isKept_121 fl_X11_171 sh_m rfl ?_
                        rw [g7 (kR_1.mp c5)]
                        refine e_ldc2 dX11_isKept_124 kl_X11_260 ?_
                        refine e_lcmp dX11_isKept_127 ?_
                        refine e_if_eq (tgt := 230) dX11_isKept_128 (by decide) (fun c128 => ?_) (fun c128 => ?_)
                        · -- 128 jumps
                          refine e_iconst (v := 1) dX11_isKept_230 (by decide) ?_
                          refine e_goto (tgt := 235) dX11_isKept_231 (by decide) ?_
                          refine e_zret dX11_isKept_235 rfl (by first | rfl | exact b2i_nar _) ?_
                          exact ⟨by rw [b2i_t (p := ¬ isM t x) (fun q => res_k (k := 11) (by decide) (cmp0.mp c128) q.2.2)], rfl⟩
                        · -- 128 goes on
                          refine e_aload_n dX11_isKept_131 rfl ?_
                          refine e_getL dX11_isKept_132 fl_X11_171 sh_m rfl ?_
                          rw [g7 (kR_1.mp c5)]
                          refine e_ldc2 dX11_isKept_135 kl_X11_262 ?_
                          refine e_lcmp dX11_isKept_138 ?_
                          refine e_if_eq (tgt := 230) dX11_isKept_139 (by decide) (fun c139 => ?_) (fun c139 => ?_)
                          · -- 139 jumps
                            refine e_iconst (v := 1) dX11_isKept_230 (by decide) ?_
                            refine e_goto (tgt := 235) dX11_isKept_231 (by decide) ?_
                            refine e_zret dX11_isKept_235 rfl (by first | rfl | exact b2i_nar _) ?_
                            exact ⟨by rw [b2i_t (p := ¬ isM t x) (fun q => res_k (k := 12) (by decide) (cmp0.mp c139) q.2.2)], rfl⟩
                          · -- 139 goes on
                            refine e_aload_n dX11_isKept_142 rfl ?_
                            refine e_getL dX11_isKept_143 fl_X11_171 sh_m rfl ?_
                            rw [g7 (kR_1.mp c5)]
                            refine e_ldc2 dX11_isKept_146 kl_X11_264 ?_
                            refine e_lcmp dX11_isKept_149 ?_
                            refine e_if_eq (tgt := 230) dX11_isKept_150 (by decide) (fun c150 => ?_) (fun c150 => ?_)
                            · -- 150 jumps
                              refine e_iconst (v := 1) dX11_isKept_230 (by decide) ?_
                              refine e_goto (tgt := 235) dX11_isKept_231 (by decide) ?_
                              refine e_zret dX11_isKept_235 rfl (by first | rfl | exact b2i_nar _) ?_
                              exact ⟨by rw [b2i_t (p := ¬ isM t x) (fun q => res_k (k := 13) (by decide) (cmp0.mp c150) q.2.2)], rfl⟩
                            · -- 150 goes on
                              refine e_aload_n dX11_isKept_153 rfl ?_
                              refine e_getL dX11_isKept_154 fl_X11_171 sh_m rfl ?_
                              rw [g7 (kR_1.mp c5)]
                              refine e_ldc2 dX11_isKept_157 kl_X11_266 ?_
                              refine e_lcmp dX11_isKept_160 ?_
                              refine e_if_eq (tgt := 230) dX11_isKept_161 (by decide) (fun c161 => ?_) (fun c161 => ?_)
                              · -- 161 jumps
                                refine e_iconst (v := 1) dX11_isKept_230 (by decide) ?_
                                refine e_goto (tgt := 235) dX11_isKept_231 (by decide) ?_
                                refine e_zret dX11_isKept_235 rfl (by first | rfl | exact b2i_nar _) ?_
                                exact ⟨by rw [b2i_t (p := ¬ isM t x) (fun q => res_k (k := 14) (by decide) (cmp0.mp c161) q.2.2)], rfl⟩
                              · -- 161 goes on
                                refine e_aload_n dX11_isKept_164 rfl ?_
                                refine e_getL dX11_isKept_165 fl_X11_171 sh_m rfl ?_
                                rw [g7 (kR_1.mp c5)]
                                refine e_ldc2 dX11_isKept_168 kl_X11_268 ?_
                                refine e_lcmp dX11_isKept_171 ?_
                                refine e_if_eq (tgt := 230) dX11_isKept_172 (by decide) (fun c172 => ?_) (fun c172 => ?_)
                                · -- 172 jumps
                                  refine e_iconst (v := 1) dX11_isKept_230 (by decide) ?_
                                  refine e_goto (tgt := 235) dX11_isKept_231 (by decide) ?_
                                  refine e_zret dX11_isKept_235 rfl (by first | rfl | exact b2i_nar _) ?_
                                  exact ⟨by rw [b2i_t (p := ¬ isM t x) (fun q => res_k (k := 15) (by decide) (cmp0.mp c172) q.2.2)], rfl⟩
                                · -- 172 goes on
                                  refine e_aload_n dX11_isKept_175 rfl ?_
                                  refine e_getL dX11_isKept_176 fl_X11_171 sh_m rfl ?_
                                  rw [g7 (kR_1.mp c5)]
                                  refine e_ldc2 dX11_isKept_179 kl_X11_270 ?_
                                  refine e_lcmp dX11_isKept_182 ?_
                                  refine e_if_eq (tgt := 230) dX11_isKept_183 (by decide) (fun c183 => ?_) (fun c183 => ?_)
                                  · -- 183 jumps
                                    refine e_iconst (v := 1) dX11_isKept_230 (by decide) ?_
                                    refine e_goto (tgt := 235) dX11_isKept_231 (by decide) ?_
                                    refine e_zret dX11_isKept_235 rfl (by first | rfl | exact b2i_nar _) ?_
                                    exact ⟨by rw [b2i_t (p := ¬ isM t x) (fun q => res_k (k := 16) (by decide) (cmp0.mp c183) q.2.2)], rfl⟩
                                  · -- 183 goes on
                                    refine e_aload_n dX11_isKept_186 rfl ?_
                                    refine e_getL dX11_isKept_187 fl_X11_171 sh_m rfl ?_
                                    rw [g7 (kR_1.mp c5)]
                                    refine e_ldc2 dX11_isKept_190 kl_X11_272 ?_
                                    refine e_lcmp dX11_isKept_193 ?_
                                    refine e_if_eq (tgt := 230) dX11_isKept_194 (by decide) (fun c194 => ?_) (fun c194 => ?_)
                                    · -- 194 jumps
                                      refine e_iconst (v := 1) dX11_isKept_230 (by decide) ?_
                                      refine e_goto (tgt := 235) dX11_isKept_231 (by decide) ?_
                                      refine e_zret dX11_isKept_235 rfl (by first | rfl | exact b2i_nar _) ?_
                                      exact ⟨by rw [b2i_t (p := ¬ isM t x) (fun q => res_k (k := 17) (by decide) (cmp0.mp c194) q.2.2)], rfl⟩
                                    · -- 194 goes on
                                      refine e_aload_n dX11_isKept_197 rfl ?_
                                      refine e_getL dX11_isKept_198 fl_X11_171 sh_m rfl ?_
                                      rw [g7 (kR_1.mp c5)]
                                      refine e_ldc2 dX11_isKept_201 kl_X11_207 ?_
                                      refine e_lcmp dX11_isKept_204 ?_
                                      refine e_if_eq (tgt := 230) dX11_isKept_205 (by decide) (fun c205 => ?_) (fun c205 => ?_)
                                      · -- 205 jumps
                                        refine e_iconst (v := 1) dX11_isKept_230 (by decide) ?_
                                        refine e_goto (tgt := 235) dX11_isKept_231 (by decide) ?_
                                        refine e_zret dX11_isKept_235 rfl (by first | rfl | exact b2i_nar _) ?_
                                        exact ⟨by rw [b2i_t (p := ¬ isM t x) (fun q => res_k (k := 18) (by decide) (cmp0.mp c205) q.2.2)], rfl⟩
                                      · -- 205 goes on
                                        refine e_aload_n dX11_isKept_208 rfl ?_
                                        refine e_getL dX11_isKept_209 fl_X11_171 sh_m rfl ?_
                                        rw [g7 (kR_1.mp c5)]
                                        refine e_ldc2 dX11_isKept_212 kl_X11_227 ?_
                                        refine e_lcmp dX11_isKept_215 ?_
                                        refine e_if_eq (tgt := 230) dX11_isKept_216 (by decide) (fun c216 => ?_) (fun c216 => ?_)
                                        · -- 216 jumps
                                          refine e_iconst (v := 1) dX11_isKept_230 (by decide) ?_
                                          refine e_goto (tgt := 235) dX11_isKept_231 (by decide) ?_
                                          refine e_zret dX11_isKept_235 rfl (by first | rfl | exact b2i_nar _) ?_
                                          exact ⟨by rw [b2i_t (p := ¬ isM t x) (fun q => res_k (k := 19) (by decide) (cmp0.mp c216) q.2.2)], rfl⟩
                                        · -- 216 goes on
                                          refine e_aload_n dX11_isKept_219 rfl ?_
                                          refine e_getL dX11_isKept_220 fl_X11_171 sh_m rfl ?_
                                          rw [g7 (kR_1.mp c5)]
                                          refine e_ldc2 dX11_isKept_223 kl_X11_229 ?_
                                          refine e_lcmp dX11_isKept_226 ?_
                                          refine e_if_ne (tgt := 234) dX11_isKept_227 (by decide) (fun c227 => ?_) (fun c227 => ?_)
                                          · -- 227 jumps
                                            refine e_iconst (v := 0) dX11_isKept_234 (by decide) ?_
                                            refine e_zret dX11_isKept_235 rfl (by first | rfl | exact b2i_nar _) ?_
                                            have hr : wRes.getD (wI (wdX t x)) 0 = 0 := res_n (fun k k1 k2 => by
                                              rcases (show k = 1 ∨ k = 2 ∨ k = 3 ∨ k = 4 ∨ k = 5 ∨ k = 6 ∨ k = 7 ∨ k = 8 ∨ k = 9 ∨ k = 10 ∨ k = 11 ∨ k = 12 ∨ k = 13 ∨ k = 14 ∨ k = 15 ∨ k = 16 ∨ k = 17 ∨ k = 18 ∨ k = 19 ∨ k = 20 by omega) with rfl | rfl | rfl | rfl | rfl | rfl | rfl | rfl | rfl | rfl | rfl | rfl | rfl | rfl | rfl | rfl | rfl | rfl | rfl | rfl
                                              · exact fun q => c18 (cmp0.mpr q)
                                              · exact fun q => c29 (cmp0.mpr q)
                                              · exact fun q => c40 (cmp0.mpr q)
                                              · exact fun q => c51 (cmp0.mpr q)
                                              · exact fun q => c62 (cmp0.mpr q)
                                              · exact fun q => c73 (cmp0.mpr q)
                                              · exact fun q => c84 (cmp0.mpr q)
                                              · exact fun q => c95 (cmp0.mpr q)
                                              · exact fun q => c106 (cmp0.mpr q)
                                              · exact fun q => c117 (cmp0.mpr q)
                                              · exact fun q => c128 (cmp0.mpr q)
                                              · exact fun q => c139 (cmp0.mpr q)
                                              · exact fun q => c150 (cmp0.mpr q)
                                              · exact fun q => c161 (cmp0.mpr q)
                                              · exact fun q => c172 (cmp0.mpr q)
                                              · exact fun q => c183 (cmp0.mpr q)
                                              · exact fun q => c194 (cmp0.mpr q)
                                              · exact fun q => c205 (cmp0.mpr q)
                                              · exact fun q => c216 (cmp0.mpr q)
                                              · exact fun q => c227 (cmp0.mpr q))
                                            exact ⟨by rw [b2i_f (p := ¬ isM t x) (fun q => q ⟨hx0, kR_1.mp c5, hr⟩)], rfl⟩
                                          · -- 227 goes on
                                            refine e_iconst (v := 1) dX11_isKept_230 (by decide) ?_
                                            refine e_goto (tgt := 235) dX11_isKept_231 (by decide) ?_
                                            refine e_zret dX11_isKept_235 rfl (by first | rfl | exact b2i_nar _) ?_
                                            exact ⟨by rw [b2i_t (p := ¬ isM t x) (fun q => res_k (k := 20) (by decide) (cmp0.mp c227) q.2.2)], rfl⟩
  · -- 5 goes on
    refine e_iconst (v := 1) dX11_isKept_8 (by decide) ?_
    refine e_zret dX11_isKept_9 rfl (by first | rfl | exact b2i_nar _) ?_
    exact ⟨by rw [b2i_t (p := ¬ isM t x) (fun q => c5 (kR_1.mpr q.2.1))], rfl⟩
end RND
