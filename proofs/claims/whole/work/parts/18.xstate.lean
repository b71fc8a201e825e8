section XSTT
theorem setI_22 (M : Mm) (i k : Nat) (v : Int32) : (setI M i k v).2.2 = M.2.2 := rfl
theorem setL_22 (M : Mm) (i k : Nat) (v : Int64) : (setL M i k v).2.2 = M.2.2 := rfl
theorem setL_1 (M : Mm) (i k : Nat) (v : Int64) : (setL M i k v).1 = M.1 := rfl
/-- the whole of it: tape, yard, week, how it stands, seen, marks, what can be undone (the oldest first) -/
abbrev Gs : Type := (Nat × (Nat → Int32)) × Yv × Rv × Sv × Rv × (Nat → Option (Sv × Rv × Rv)) × (Nat × (Nat → Sv))
abbrev Gs.tl (E : Gs) : Nat := E.1.1
abbrev Gs.tc (E : Gs) : Nat → Int32 := E.1.2
abbrev Gs.Y (E : Gs) : Yv := E.2.1
abbrev Gs.W (E : Gs) : Rv := E.2.2.1
abbrev Gs.S (E : Gs) : Sv := E.2.2.2.1
abbrev Gs.V (E : Gs) : Rv := E.2.2.2.2.1
abbrev Gs.K (E : Gs) : Nat → Option (Sv × Rv × Rv) := E.2.2.2.2.2.1
abbrev Gs.un (E : Gs) : Nat := E.2.2.2.2.2.2.1
abbrev Gs.us (E : Gs) : Nat → Sv := E.2.2.2.2.2.2.2
/-- the k-th of u that can be undone, in a ring of 16 whose next place is p -/
def rng (p u k : Nat) : Nat := 126 + 7 * ((p + 16 - u + k) % 16)
/-- a mark in the class -/
def MX (M : Mm) (k n : Nat) : Option (Sv × Rv × Rv) → Prop
  | none => M.1 (62 + 16 * k) 0 = 0
  | some q => M.1 (62 + 16 * k) 0 = 1 ∧ SX M (62 + 16 * k + 1) n q.1 ∧ RX M (62 + 16 * k + 8) 40 q.2.1 ∧ RX M (62 + 16 * k + 12) 8 q.2.2
/-- the class holds it; y, w are the yard and the week in use, y', w' the spare ones, p the ring's next place -/
def XJ (M : Mm) (E : Gs) (y y' w w' p : Nat) : Prop :=
  (M.2.2 0 1 = y ∧ M.2.2 0 2 = y' ∧ y ∈ ydA ∧ y' ∈ ydA ∧ y ≠ y') ∧ (M.2.2 0 3 = w ∧ M.2.2 0 4 = w' ∧ (w = 36 ∨ w = 40) ∧ (w' = 36 ∨ w' = 40) ∧ w ≠ w') ∧
  YX M y E.Y ∧ RX M w 40 E.W ∧ SX M 44 E.Y.n E.S ∧ RX M 58 8 E.V ∧ (∀ k, k < 4 → MX M k E.Y.n (E.K k)) ∧
  (M.1 0 10 = nI p ∧ p < 16 ∧ M.1 0 11 = nI E.un ∧ E.un ≤ 16 ∧ ∀ k, k < E.un → SX M (rng p E.un k) E.Y.n (E.us k)) ∧
  (M.1 6 1 = nI E.tl ∧ E.tl ≤ 1000 ∧ ∀ k, k < E.tl → M.1 7 k = E.tc k)
def XI (M : Mm) (E : Gs) : Prop := ∃ y y' w w' p, XJ M E y y' w w' p
/-- the class's scratch: what no later call asks for -/
def scr (i : Nat) : Prop := i = 0 ∨ i = 3 ∨ i = 4 ∨ i = 5 ∨ i = 20 ∨ i = 21 ∨ i = 34 ∨ i = 35 ∨ (51 ≤ i ∧ i ≤ 57)
def SC (M M' : Mm) : Prop := M'.2.2 = M.2.2 ∧ (∀ i, ¬ i = 0 → M'.2.1 i = M.2.1 i) ∧ (∀ i, ¬ scr i → M'.1 i = M.1 i) ∧ ∀ k, ¬ k = 15 → M'.1 0 k = M.1 0 k
theorem SC.rfl' {M : Mm} : SC M M := ⟨rfl, fun _ _ => rfl, fun _ _ => rfl, fun _ _ => rfl⟩
theorem SC.trans {M M1 M2 : Mm} (h : SC M M1) (h' : SC M1 M2) : SC M M2 := ⟨h'.1.trans h.1, fun i hi => (h'.2.1 i hi).trans (h.2.1 i hi), fun i hi => (h'.2.2.1 i hi).trans (h.2.2.1 i hi), fun k hk => (h'.2.2.2 k hk).trans (h.2.2.2 k hk)⟩
/-- only the ints of some scratch cells but the object itself have changed -/
theorem SC.of {M M' : Mm} (h2 : M'.2 = M.2) (h : ∀ i, ¬ (scr i ∧ ¬ i = 0) → M'.1 i = M.1 i) : SC M M' := ⟨by rw [h2], fun i _ => by rw [h2], fun i hi => h i (fun q => hi q.1), fun k _ => by rw [h 0 (fun q => q.2 rfl)]⟩
theorem yd_two {y : Nat} (h : y ∈ ydA) : y = 8 ∨ y = 22 := by
  revert y; decide
theorem rng_st (p u k : Nat) : rng p u k ∈ stA := by
  have h : (p + 16 - u + k) % 16 < 16 := Nat.mod_lt _ (by decide)
  unfold rng
  generalize (p + 16 - u + k) % 16 = x at h
  revert x; decide
theorem rng_ge (p u k : Nat) : 126 ≤ rng p u k ∧ rng p u k + 6 < 238 := ⟨by unfold rng; omega, (st_ge (rng_st p u k)).2⟩
theorem SC.yd {M M' : Mm} {y : Nat} {Y : Yv} (h : SC M M') (hy : y ∈ ydA) (hY : YX M y Y) : YX M' y Y := by
  have hi : ∀ i, y ≤ i → i ≤ y + 11 → M'.1 i = M.1 i := fun i h1 h2 => h.2.2.1 i (by unfold scr; rcases yd_two hy with e | e <;> omega)
  have hl : ∀ i, y ≤ i → i ≤ y + 11 → M'.2.1 i = M.2.1 i := fun i h1 h2 => h.2.1 i (by rcases yd_two hy with e | e <;> omega)
  obtain ⟨a, b, c, d, e, g, k, l⟩ := hY
  unfold YX
  rw [hi y (by omega) (by omega), hi (y + 2) (by omega) (by omega), hi (y + 3) (by omega) (by omega), hi (y + 4) (by omega) (by omega), hi (y + 5) (by omega) (by omega), hi (y + 7) (by omega) (by omega), hi (y + 8) (by omega) (by omega), hi (y + 9) (by omega) (by omega), hl (y + 1) (by omega) (by omega), hl (y + 6) (by omega) (by omega)]
  exact ⟨a, b, c, d, e, g, k, fun q => (l q).congr (hi _ (by omega) (by omega)) (hi _ (by omega) (by omega))⟩
theorem MX.congr {M M' : Mm} {k n : Nat} {q : Option (Sv × Rv × Rv)} (h : MX M k n q) (h1 : ∀ i, 62 + 16 * k ≤ i → i ≤ 62 + 16 * k + 15 → M'.1 i = M.1 i) : MX M' k n q := by
  cases q with
  | none => unfold MX at h ⊢; rw [h1 _ (by omega) (by omega)]; exact h
  | some q =>
    obtain ⟨a, b, c, d⟩ := h
    exact ⟨by rw [h1 _ (by omega) (by omega)]; exact a, b.congr (fun i h2 h3 => h1 i (by omega) (by omega)), c.congr (fun i h2 h3 => h1 i (by omega) (by omega)), d.congr (fun i h2 h3 => h1 i (by omega) (by omega))⟩
theorem SC.keep {M M' : Mm} {E : Gs} {y y' w w' p : Nat} (h : SC M M') (hX : XJ M E y y' w w' p) : XJ M' E y y' w w' p := by
  obtain ⟨⟨a1, a2, a3, a4, a5⟩, ⟨b1, b2, b3, b4, b5⟩, hY, hW, hS, hV, hK, ⟨p1, p2, p3, p4, p5⟩, ⟨t1, t2, t3⟩⟩ := hX
  refine ⟨⟨by rw [h.1]; exact a1, by rw [h.1]; exact a2, a3, a4, a5⟩, ⟨by rw [h.1]; exact b1, by rw [h.1]; exact b2, b3, b4, b5⟩, h.yd a3 hY, hW.congr (fun q h1 h2 => h.2.2.1 q (by unfold scr; omega)), hS.congr (fun q h1 h2 => h.2.2.1 q (by unfold scr; omega)), hV.congr (fun q h1 h2 => h.2.2.1 q (by unfold scr; omega)), fun k hk => (hK k hk).congr (fun q h1 h2 => h.2.2.1 q (by unfold scr; omega)), ⟨by rw [h.2.2.2 10 (by decide)]; exact p1, p2, by rw [h.2.2.2 11 (by decide)]; exact p3, p4, fun k hk => (p5 k hk).congr (fun q h1 h2 => h.2.2.1 q (by have := rng_ge p E.un k; unfold scr; omega))⟩, ⟨by rw [h.2.2.1 6 (by unfold scr; omega)]; exact t1, t2, fun k hk => by rw [h.2.2.1 7 (by unfold scr; omega)]; exact t3 k hk⟩⟩
theorem SC.keepI {M M' : Mm} {E : Gs} (h : SC M M') (hX : XI M E) : XI M' E := by
  obtain ⟨y, y', w, w', p, hJ⟩ := hX
  exact ⟨y, y', w, w', p, h.keep hJ⟩
/-- a night as told, nights -/
def nightV (Y : Yv) (S : Sv) : Sv := passV Y S (frV Y S.nights)
def popN (Y : Yv) (S : Sv) : Int32 := popV Y S (frV Y S.nights)
def itN (Y : Yv) (S : Sv) : Nat → Sv
  | 0 => S
  | t + 1 => nightV Y (itN Y S t)
theorem SI.mono {Y : Yv} {S : Sv} {T T' : Nat} (h : SI Y S T) (hT : T ≤ T') : SI Y S T' := by
  obtain ⟨r, a, b, c, t, d, e⟩ := h
  exact ⟨r, a, b, c, t, d, by omega⟩
theorem SI.it {Y : Yv} {S : Sv} {T : Nat} (h : SI Y S T) (h6 : Y.n ≤ 6) (t : Nat) : SI Y (itN Y S t) (T + t) := by
  induction t with
  | zero => exact h
  | succ t ih => exact SI.pass ih h6
theorem shed_of {i : Int32} {n : Nat} (hn : n < 2 ^ 31) (h : ¬ i < 0 ∧ i < nI n) : ∃ j, j < n ∧ i = nI j := by
  rcases pk_ix i hn with q | q | q
  · exact absurd q h.1
  · exact absurd h.2 (Int32.not_lt.mpr q)
  · exact q
set_option maxHeartbeats 4000000 in
set_option maxRecDepth 20000 in
theorem c_isShed {G : Gt} {M : Mm} {E : Gs} {y y' w w' p : Nat} (hX : XJ M E y y' w w' p) {i : Int32} : Call G 1 mX10_isShed [.ref 0, .int i] M (eqQ (some (.int (b2i (¬ i < 0 ∧ i < nI E.Y.n)))) M) := by
  obtain ⟨⟨hld, hsl, hy, hy', hyy⟩, ⟨hpl, hsp, hw, hw', hww⟩, hY, hW, hS, hV, hK, ⟨hpt, hp16, hun, hu16, hU⟩, ⟨htl, htl2, htc⟩⟩ := id hX
  refine Call.intro rfl (Nat.le_of_ble_eq_true rfl) ?_
  show Ev G _ mX10_isShed 0 [.ref 0, .int i] [] M _
  refine e_iload_n dX10_isShed_0 rfl ?_
  refine e_if_lt (tgt := 19) dX10_isShed_1 (by decide) (fun c1 => ?_) (fun c1 => ?_)
  · -- 1 jumps
    refine e_iconst (v := 0) dX10_isShed_19 (by decide) ?_
    refine e_zret dX10_isShed_20 rfl (by first | rfl | exact b2i_nar _) ?_
    exact ⟨by rw [b2i_f (fun q => by first | exact absurd (by assumption) q.1 | exact absurd q.2 (by assumption))], rfl⟩
  · -- 1 goes on
    refine e_iload_n dX10_isShed_4 rfl ?_
    refine e_aload_n dX10_isShed_5 rfl ?_
    refine e_getP dX10_isShed_6 fl_X10_19 sh_x rfl ?_
    first | rw [hld] | (simp only [setI_2, setI_22, setL_22]; rw [hld])
    refine e_getI dX10_isShed_9 fl_X10_74 (sh_yd (by first | assumption | decide)) rfl ?_
    rw [hY.1.1]
    refine e_icmp_ge (tgt := 19) dX10_isShed_12 (by decide) (fun c12 => ?_) (fun c12 => ?_)
    · -- 12 jumps
      refine e_iconst (v := 0) dX10_isShed_19 (by decide) ?_
      refine e_zret dX10_isShed_20 rfl (by first | rfl | exact b2i_nar _) ?_
      exact ⟨by rw [b2i_f (fun q => by first | exact absurd (by assumption) q.1 | exact absurd q.2 (by assumption))], rfl⟩
    · -- 12 goes on
      refine e_iconst (v := 1) dX10_isShed_15 (by decide) ?_
      refine e_goto (tgt := 20) dX10_isShed_16 (by decide) ?_
      refine e_zret dX10_isShed_20 rfl (by first | rfl | exact b2i_nar _) ?_
      exact ⟨by rw [b2i_t ⟨by assumption, by assumption⟩], rfl⟩
set_option maxHeartbeats 4000000 in
set_option maxRecDepth 20000 in
theorem c_isStage {G : Gt} {M : Mm} {E : Gs} {y y' w w' p : Nat} (hX : XJ M E y y' w w' p) {i : Int32} : Call G 1 mX10_isStage [.ref 0, .int i] M (eqQ (some (.int (b2i (¬ i < 0 ∧ i < nI E.Y.ns)))) M) := by
  obtain ⟨⟨hld, hsl, hy, hy', hyy⟩, ⟨hpl, hsp, hw, hw', hww⟩, hY, hW, hS, hV, hK, ⟨hpt, hp16, hun, hu16, hU⟩, ⟨htl, htl2, htc⟩⟩ := id hX
  refine Call.intro rfl (Nat.le_of_ble_eq_true rfl) ?_
  show Ev G _ mX10_isStage 0 [.ref 0, .int i] [] M _
  refine e_iload_n dX10_isStage_0 rfl ?_
  refine e_if_lt (tgt := 19) dX10_isStage_1 (by decide) (fun c1 => ?_) (fun c1 => ?_)
  · -- 1 jumps
    refine e_iconst (v := 0) dX10_isStage_19 (by decide) ?_
    refine e_zret dX10_isStage_20 rfl (by first | rfl | exact b2i_nar _) ?_
    exact ⟨by rw [b2i_f (fun q => by first | exact absurd (by assumption) q.1 | exact absurd q.2 (by assumption))], rfl⟩
  · -- 1 goes on
    refine e_iload_n dX10_isStage_4 rfl ?_
    refine e_aload_n dX10_isStage_5 rfl ?_
    refine e_getP dX10_isStage_6 fl_X10_19 sh_x rfl ?_
    first | rw [hld] | (simp only [setI_2, setI_22, setL_22]; rw [hld])
    refine e_getI dX10_isStage_9 fl_X10_78 (sh_yd (by first | assumption | decide)) rfl ?_
    rw [hY.2.1.1]
    refine e_icmp_ge (tgt := 19) dX10_isStage_12 (by decide) (fun c12 => ?_) (fun c12 => ?_)
    · -- 12 jumps
      refine e_iconst (v := 0) dX10_isStage_19 (by decide) ?_
      refine e_zret dX10_isStage_20 rfl (by first | rfl | exact b2i_nar _) ?_
      exact ⟨by rw [b2i_f (fun q => by first | exact absurd (by assumption) q.1 | exact absurd q.2 (by assumption))], rfl⟩
    · -- 12 goes on
      refine e_iconst (v := 1) dX10_isStage_15 (by decide) ?_
      refine e_goto (tgt := 20) dX10_isStage_16 (by decide) ?_
      refine e_zret dX10_isStage_20 rfl (by first | rfl | exact b2i_nar _) ?_
      exact ⟨by rw [b2i_t ⟨by assumption, by assumption⟩], rfl⟩
end XSTT
