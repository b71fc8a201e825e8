section RTA
/-- fields of the reference alone -/
def OF (M M' : Mm) : Prop := (∀ i, ¬ i = 238 → M'.1 i = M.1 i) ∧ (∀ i, ¬ i = 238 → M'.2.1 i = M.2.1 i) ∧ M'.2.2 = M.2.2 ∧ (∀ k, k = 1 ∨ k = 3 ∨ k = 23 ∨ k = 24 ∨ k = 54 → M'.1 238 k = M.1 238 k)
theorem OF.rfl' {M : Mm} : OF M M := ⟨fun _ _ => rfl, fun _ _ => rfl, rfl, fun _ _ => rfl⟩
theorem OF.trans {A B C : Mm} (h : OF A B) (k : OF B C) : OF A C := ⟨fun i q => (k.1 i q).trans (h.1 i q), fun i q => (k.2.1 i q).trans (h.2.1 i q), k.2.2.1.trans h.2.2.1, fun i q => (k.2.2.2 i q).trans (h.2.2.2 i q)⟩
theorem NF.of {M M' : Mm} (h : NF M M') : OF M M' := ⟨h.1, h.2.1, h.2.2.1, fun k q => h.2.2.2.1 k (by omega)⟩
theorem OF.i {M Mc : Mm} (h : OF M Mc) {k : Nat} {v : Int32} (hk : ¬ (k = 1 ∨ k = 3 ∨ k = 23 ∨ k = 24 ∨ k = 54)) : OF M (setI Mc 238 k v) := ⟨fun i q => by rw [← h.1 i q]; funext z; rw [setI_n q], h.2.1, h.2.2.1, fun z q => by rw [setI_1, if_neg (fun x => hk (by rw [← x.2]; exact q))]; exact h.2.2.2 z q⟩
theorem OF.l {M Mc : Mm} (h : OF M Mc) {k : Nat} {v : Int64} : OF M (setL Mc 238 k v) := ⟨h.1, fun i q => by rw [← h.2.1 i q]; funext z; rw [setL_21, if_neg (fun x => q x.1)], h.2.2.1, h.2.2.2⟩
theorem OF.tz {M M' : Mm} {t : Tv} (h : OF M M') (hT : TZ M t) : TZ M' t := ⟨(h.2.2.2 3 (by omega)).trans hT.1, hT.2.1, fun k hk => by rw [h.1 239 (by decide)]; exact hT.2.2 k hk⟩
/-- the reference reads, no fault so far -/
def GX (M : Mm) (t : Tv) (x : Xv) : Prop := x.1 = 0 ∧ x.2 ≤ t.1 ∧ TI t ∧ TZ M t ∧ TQ M t (pl t x.2)
/-- a reading's answer -/
def RA1 (M' : Mm) (t : Tv) (x' : Xv) (r : Option Value) : Prop := (x'.1 = 0 ∧ r = some (.int 1) ∧ GX M' t x') ∨ (¬ x'.1 = 0 ∧ r = some (.int 0) ∧ M'.1 238 9 = x'.1)
theorem adv0 {t : Tv} {x : Xv} (h : x.1 = 0) : advX t x = (0, enP t (pl t x.2)) := if_pos h
theorem fail0 {t : Tv} {x : Xv} {k : Int32} (h : x.1 = 0) : failX t k x = (k + 16 * nI (pl t x.2), x.2) := if_pos h
theorem wI_2 : ∀ k, k < 25 → wI (wLet.getD k 0) = k := by decide +kernel
theorem wIN_1 {w : Int64} : ∀ n k, wIN w n = k → ¬ k = 0 → wLet.getD k 0 = w := by
  intro n
  induction n with
  | zero => intro k h h0; exact absurd h.symm h0
  | succ n ih =>
    intro k h h0
    rw [wIN] at h
    by_cases e : wLet.getD n 0 = w
    · rw [if_pos e] at h; rw [← h]; exact e
    · rw [if_neg e] at h; exact ih k h h0
theorem wI_iff {w : Int64} {k : Nat} (hk : 1 ≤ k ∧ k < 25) : wI w = k ↔ w = wLet.getD k 0 := ⟨fun h => (wIN_1 25 k h (by omega)).symm, fun h => by rw [h]; exact wI_2 k hk.2⟩
theorem kR_1 {k : Int32} : kR k = 1 ↔ k = 2 := by
  unfold kR
  by_cases a : k = 0
  · subst a; decide
  · by_cases b : k = 2
    · subst b; decide
    · by_cases c : k = 3
      · subst c; decide
      · by_cases d : k = 4
        · subst d; decide
        · rw [if_neg a, if_neg b, if_neg c, if_neg d]; exact ⟨fun q => absurd q (by decide), fun q => absurd q b⟩
theorem kR_2 {k : Int32} : kR k = 2 ↔ k = 3 := by
  unfold kR
  by_cases a : k = 0
  · subst a; decide
  · by_cases b : k = 2
    · subst b; decide
    · by_cases c : k = 3
      · subst c; decide
      · by_cases d : k = 4
        · subst d; decide
        · rw [if_neg a, if_neg b, if_neg c, if_neg d]; exact ⟨fun q => absurd q (by decide), fun q => absurd q c⟩
theorem kR_3 {k : Int32} : kR k = 3 ↔ k = 4 := by
  unfold kR
  by_cases a : k = 0
  · subst a; decide
  · by_cases b : k = 2
    · subst b; decide
    · by_cases c : k = 3
      · subst c; decide
      · by_cases d : k = 4
        · subst d; decide
        · rw [if_neg a, if_neg b, if_neg c, if_neg d]; exact ⟨fun q => absurd q (by decide), fun q => absurd q d⟩
theorem kR_0 {k : Int32} : kR k = 0 ↔ k = 0 := by
  unfold kR
  by_cases a : k = 0
  · subst a; decide
  · by_cases b : k = 2
    · subst b; decide
    · by_cases c : k = 3
      · subst c; decide
      · by_cases d : k = 4
        · subst d; decide
        · rw [if_neg a, if_neg b, if_neg c, if_neg d]; exact ⟨fun q => absurd q (by decide), fun q => absurd q a⟩
theorem kd_lt {t : Tv} {p : Nat} (h : ¬ kdP t p = 0) : p < t.1 := by
  by_cases q : p < t.1
  · exact q
  · exact absurd (kd_e q).1 h
theorem GX.of {M M' : Mm} {t : Tv} {x : Xv} (h : GX M t x) (hO : OF M M') (h1 : ∀ k, 4 ≤ k → k ≤ 8 → M'.1 238 k = M.1 238 k) (h2 : M'.2.1 238 7 = M.2.1 238 7) : GX M' t x := by
  obtain ⟨a, b, c, d, e1, e2, e3, e4, e5⟩ := h
  exact ⟨a, b, c, hO.tz d, (h1 4 (by omega) (by omega)).trans e1, (h1 5 (by omega) (by omega)).trans e2, (h1 6 (by omega) (by omega)).trans e3, fun q => h2.trans (e4 q), fun q => (h1 8 (by omega) (by omega)).trans (e5 q)⟩
set_option maxHeartbeats 4000000 in
set_option maxRecDepth 20000 in
theorem r_fails {G : Gt} {M : Mm} {k : Int32} {p : Nat} (hb : M.1 238 5 = nI p) : Call G 1 mX11_fails [.ref 238, .int k] M (eqQ (some (.int 0)) (setI M 238 9 (k + 16 * nI p))) := by
  refine Call.intro rfl (Nat.le_of_ble_eq_true rfl) ?_
  show Ev G _ mX11_fails 0 [.ref 238, .int k] [] M _
  refine e_aload_n dX11_fails_0 rfl ?_
  refine e_iload_n dX11_fails_1 rfl ?_
  refine e_bipush (v := 16) dX11_fails_2 (by decide) ?_
  refine e_aload_n dX11_fails_4 rfl ?_
  refine e_getI dX11_fails_5 fl_X11_168 sh_m rfl ?_
  rw [hb]
  refine e_imul dX11_fails_8 ?_
  refine e_iadd dX11_fails_9 ?_
  refine e_putI dX11_fails_10 fl_X11_189 sh_m rfl rfl rfl ?_
  refine e_iconst (v := 0) dX11_fails_13 (by decide) ?_
  refine e_zret dX11_fails_14 rfl (by first | rfl | exact b2i_nar _) ?_
  exact ⟨rfl, rfl⟩
set_option maxHeartbeats 4000000 in
set_option maxRecDepth 20000 in
theorem r_isWord {G : Gt} {M : Mm} {t : Tv} {x : Xv} (hG : GX M t x) {k : Nat} (hk : 1 ≤ k ∧ k < 25) : Call G 1 mX11_isWord [.ref 238, .long (wLet.getD k 0)] M (eqQ (some (.int (b2i (isW t x k)))) M) := by
  obtain ⟨hx0, hx2, hI, hZ, g4, g5, g6, g7, g8⟩ := id hG
  have ht := hZ.2.1
  have hpl := pl_le hx2
  refine Call.intro rfl (Nat.le_of_ble_eq_true rfl) ?_
  show Ev G _ mX11_isWord 0 [.ref 238, .long (wLet.getD k 0), RA] [] M _
  refine e_aload_n dX11_isWord_0 rfl ?_
  refine e_getI dX11_isWord_1 fl_X11_178 sh_m rfl ?_
  rw [g6]
  refine e_iconst (v := 1) dX11_isWord_4 (by decide) ?_
  refine e_icmp_ne (tgt := 21) dX11_isWord_5 (by decide) (fun c5 => ?_) (fun c5 => ?_)
  · -- 5 jumps
    refine e_iconst (v := 0) dX11_isWord_21 (by decide) ?_
    refine e_zret dX11_isWord_22 rfl (by first | rfl | exact b2i_nar _) ?_
    exact ⟨by rw [b2i_f (p := isW t x k) (fun q => c5 (kR_1.mpr q.2.1))], rfl⟩
  · -- 5 goes on
    refine e_aload_n dX11_isWord_8 rfl ?_
    refine e_getL dX11_isWord_9 fl_X11_171 sh_m rfl ?_
    rw [g7 (kR_1.mp c5)]
    refine e_lload_n dX11_isWord_12 rfl ?_
    refine e_lcmp dX11_isWord_13 ?_
    refine e_if_ne (tgt := 21) dX11_isWord_14 (by decide) (fun c14 => ?_) (fun c14 => ?_)
    · -- 14 jumps
      refine e_iconst (v := 0) dX11_isWord_21 (by decide) ?_
      refine e_zret dX11_isWord_22 rfl (by first | rfl | exact b2i_nar _) ?_
      exact ⟨by rw [b2i_f (p := isW t x k) (fun q => c14 (cmp0.mpr ((wI_iff hk).mp q.2.2)))], rfl⟩
    · -- 14 goes on
      refine e_iconst (v := 1) dX11_isWord_17 (by decide) ?_
      refine e_goto (tgt := 22) dX11_isWord_18 (by decide) ?_
      refine e_zret dX11_isWord_22 rfl (by first | rfl | exact b2i_nar _) ?_
      exact ⟨by rw [b2i_t (p := isW t x k) ⟨hx0, kR_1.mp c5, (wI_iff hk).mpr (cmp0.mp c14)⟩], rfl⟩
set_option maxHeartbeats 4000000 in
set_option maxRecDepth 20000 in
theorem r_isSign {G : Gt} {M : Mm} {t : Tv} {x : Xv} (hG : GX M t x) {s : Int32} : Call G 1 mX11_isSign [.ref 238, .int s] M (eqQ (some (.int (b2i (isS t x s)))) M) := by
  obtain ⟨hx0, hx2, hI, hZ, g4, g5, g6, g7, g8⟩ := id hG
  have ht := hZ.2.1
  have hpl := pl_le hx2
  refine Call.intro rfl (Nat.le_of_ble_eq_true rfl) ?_
  show Ev G _ mX11_isSign 0 [.ref 238, .int s] [] M _
  refine e_aload_n dX11_isSign_0 rfl ?_
  refine e_getI dX11_isSign_1 fl_X11_178 sh_m rfl ?_
  rw [g6]
  refine e_iconst (v := 3) dX11_isSign_4 (by decide) ?_
  refine e_icmp_ne (tgt := 25) dX11_isSign_5 (by decide) (fun c5 => ?_) (fun c5 => ?_)
  · -- 5 jumps
    refine e_iconst (v := 0) dX11_isSign_25 (by decide) ?_
    refine e_zret dX11_isSign_26 rfl (by first | rfl | exact b2i_nar _) ?_
    exact ⟨by rw [b2i_f (p := isS t x s) (fun q => c5 (kR_3.mpr q.2.1))], rfl⟩
  · -- 5 goes on
    have hk4 := kR_3.mp c5
    have hk0 : ¬ kdP t (pl t x.2) = 0 := fun q => absurd (hk4.symm.trans q) (by decide)
    refine e_aload_n dX11_isSign_8 rfl ?_
    refine e_getR dX11_isSign_9 fl_X11_7 sh_m rfl ?_
    refine e_aload_n dX11_isSign_12 rfl ?_
    refine e_getI dX11_isSign_13 fl_X11_168 sh_m rfl ?_
    rw [g5]
    refine e_ialdN (j := (pl t x.2)) dX11_isSign_16 (sa_m_tape) (by decide) (by have := kd_lt hk0; omega) ?_
    rw [hZ.2.2 _ (kd_lt hk0)]
    refine e_iload_n dX11_isSign_17 rfl ?_
    refine e_icmp_ne (tgt := 25) dX11_isSign_18 (by decide) (fun c18 => ?_) (fun c18 => ?_)
    · -- 18 jumps
      refine e_iconst (v := 0) dX11_isSign_25 (by decide) ?_
      refine e_zret dX11_isSign_26 rfl (by first | rfl | exact b2i_nar _) ?_
      exact ⟨by rw [b2i_f (p := isS t x s) (fun q => c18 q.2.2)], rfl⟩
    · -- 18 goes on
      refine e_iconst (v := 1) dX11_isSign_21 (by decide) ?_
      refine e_goto (tgt := 26) dX11_isSign_22 (by decide) ?_
      refine e_zret dX11_isSign_26 rfl (by first | rfl | exact b2i_nar _) ?_
      exact ⟨by rw [b2i_t (p := isS t x s) ⟨hx0, hk4, c18⟩], rfl⟩
/-- on to the next token -/
theorem GX.next {M M1 M2 : Mm} {t : Tv} {x : Xv} (h : GX M t x) (hO : OF M M1) (hN : NF M1 M2) (hq : TQ M2 t (pl t (enP t (pl t x.2)))) : GX M2 t (advX t x) := by
  obtain ⟨hx0, hx2, hI, hZ, -⟩ := h
  have := enP_le (t := t) (p := pl t x.2) (pl_le hx2).2
  rw [adv0 hx0]
  exact ⟨rfl, by show enP t (pl t x.2) ≤ t.1; omega, hI, hN.tz (hO.tz hZ), hq⟩
theorem c_nt {G : Gt} {M M1 : Mm} {t : Tv} {x : Xv} (h : GX M t x) (hO : OF M M1) (h4 : M1.1 238 4 = M.1 238 4) : Call G 2 mX11_nextToken [.ref 238] M1 (fun r M' => r = none ∧ NF M1 M' ∧ GX M' t (advX t x)) := by
  obtain ⟨hx0, hx2, hI, hZ, g4, -⟩ := id h
  have := enP_le (t := t) (p := pl t x.2) (pl_le hx2).2
  exact (r_nextToken hI (hO.tz hZ) (i := enP t (pl t x.2)) (by omega) (h4.trans g4)).weaken (fun r M2 hh => ⟨hh.1, hh.2.1, h.next hO hh.2.1 hh.2.2⟩)
end RTA
