section IV2
theorem TI.ap {t : Tv} {c : Int32} (h : TI t) : TI (apT t c) := by
  unfold apT
  by_cases hc : (c = 10 ∨ (¬ c < 32 ∧ ¬ 126 < c)) ∧ t.1 < 1000
  · rw [if_pos hc]
    refine ⟨by show t.1 + 1 ≤ 1000; omega, fun k hk => ?_⟩
    show ∃ m, m < 127 ∧ (if k = t.1 then c else t.2 k) = nI m
    by_cases hq : k = t.1
    · rw [if_pos hq]
      rcases hc.1 with e | ⟨e1, e2⟩
      · exact ⟨10, by omega, e⟩
      · obtain ⟨m, hm, e⟩ := nI_of2 (x := c) (M := 126) (n := 126) rfl (fun q => e1 (Int32.lt_trans q (by decide))) (Int32.not_lt.mp e2)
        exact ⟨m, by omega, e⟩
    · rw [if_neg hq]
      exact h.2 k (by have hk' : k < t.1 + 1 := hk; omega)
  · rw [if_neg hc]
    exact h
theorem TI.fw {t : Tv} {x : Int64} (h : TI t) : ∀ n, TI (fwN t x n)
  | 0 => h
  | n + 1 => (TI.fw h n).ap
theorem IV.feed {E : Gs} {T : Nat} {a b c : Int64} (h : IV E T) : IV (E.setT (feedT E.1 a b c)) T := h.setT (TI.fw (TI.fw (TI.fw h.1 8) 8) 8)
theorem IV.heat {E : Gs} {T : Nat} {i v : Int32} (h : IV E T) : IV (heatW E i v).2 T := by
  unfold heatW
  by_cases c9 : vSh E i ∧ vWi v 0 9
  · rw [if_pos c9]; exact h.deed ⟨h.2.2.2.2.1.1.heat, h.2.2.2.2.1.2.of rfl⟩
  · rw [if_neg c9]; exact h
theorem IV.light {E : Gs} {T : Nat} {i : Int32} (h : IV E T) : IV (lightW E i).2 T := by
  unfold lightW
  by_cases c9 : vSh E i ∧ ¬ bitI E.S.lit i
  · rw [if_pos c9]; exact h.deed ⟨h.2.2.2.2.1.1.lit, h.2.2.2.2.1.2.of rfl⟩
  · rw [if_neg c9]; exact h
theorem IV.pull {E : Gs} {T : Nat} {i v : Int32} (h : IV E T) : IV (pullW E i v).2 T := by
  unfold pullW
  by_cases c9 : vSh E i ∧ vWi v 1 20 ∧ canB E.S i.toNatClampNeg v = true
  · rw [if_pos c9]
    obtain ⟨a, ha, rfl⟩ := nI_of (x := v) (fun q => c9.2.1.1 (Int32.lt_trans q (by decide)))
    obtain ⟨j, hj2, rfl⟩ := nI_of (x := i) c9.1.1
    have hj : j < E.Y.n := lt_of hj2 (by have := h.2.1.2.2.1; omega) c9.1.2
    have hc : canB E.S (nI j).toNatClampNeg (nI a) = true := c9.2.2
    rw [nI_clamp hj2] at hc ⊢
    unfold canB at hc
    exact h.deed ⟨h.2.2.2.2.1.1.lose hj ha (of_decide_eq_true hc).1, h.2.2.2.2.1.2.of rfl⟩
  · rw [if_neg c9]; exact h
theorem IV.undoX {E : Gs} {T : Nat} (h : IV E T) : IV (undoW E).2 T := by
  unfold undoW
  by_cases c9 : 0 < E.un
  · rw [if_pos c9]; exact h.undo c9
  · rw [if_neg c9]; exact h
theorem IV.night {E : Gs} {T : Nat} (h : IV E T) : IV (nightE E) (T + 1) :=
  (h.mono (Nat.le_succ T)).deed ⟨h.2.2.2.2.1.1.pass h.2.1.2.2.1, h.2.2.2.2.1.2.pass h.2.1.2.1 h.2.1.1 h.2.1.2.2.1⟩
theorem VI.add {V : Rv} {t m b : Int32} (h : VI V) (ht : ∃ x, 1 ≤ x ∧ x ≤ 20 ∧ t = nI x) (hb : b = 0 ∨ b = 1) : VI (addR V t m b) := by
  intro k hk
  have hk' : k < V.1 + 1 := hk
  show (∃ x, 1 ≤ x ∧ x ≤ 20 ∧ (if k = V.1 then t else V.2.1 k) = nI x) ∧ ((if k = V.1 then b else V.2.2.2 k) = 0 ∨ (if k = V.1 then b else V.2.2.2 k) = 1)
  by_cases hq : k = V.1
  · rw [if_pos hq, if_pos hq]; exact ⟨ht, hb⟩
  · rw [if_neg hq, if_neg hq]; exact h k (by omega)
theorem IV.see {E : Gs} {T : Nat} {t m b : Int32} (hb : b = 0 ∨ b = 1) (h : IV E T) : IV (seeW E t m b).2 T := by
  unfold seeW
  by_cases c9 : seeB E t m = true
  · rw [if_pos c9]
    have hc := c9
    unfold seeB at hc
    have hw := (of_decide_eq_true hc).1.1
    obtain ⟨x, hx, e⟩ := nI_of2 (x := t) (M := 20) (n := 20) rfl (fun q => hw.1 (Int32.lt_trans q (by decide))) (Int32.not_lt.mp hw.2)
    refine ⟨h.1, h.2.1, h.2.2.1, h.2.2.2.1.add ⟨x, ?_, hx, e⟩ hb, h.2.2.2.2⟩
    refine Nat.pos_of_ne_zero (fun q => ?_)
    rw [e, q] at hw
    exact absurd hw.1 (by decide)
  · rw [if_neg c9]; exact h
theorem IV.mark {E : Gs} {T : Nat} {i b : Int32} (h : IV E T) : IV (markV E i b).2 T := by
  unfold markV
  by_cases c9 : ¬ i < 0 ∧ i < nI 4
  · rw [if_pos c9]
    by_cases hb : b = 0
    · rw [if_pos hb]
      refine ⟨h.1, h.2.1, h.2.2.1, h.2.2.2.1, h.2.2.2.2.1, h.2.2.2.2.2.1, fun k q hq => ?_⟩
      have hq' : (if k = i.toNatClampNeg then some (E.S, E.W, E.V) else E.K k) = some q := hq
      by_cases hk : k = i.toNatClampNeg
      · rw [if_pos hk] at hq'
        cases hq'
        exact ⟨h.2.2.2.2.1, h.2.2.1, h.2.2.2.1⟩
      · rw [if_neg hk] at hq'
        exact h.2.2.2.2.2.2 k q hq'
    · rw [if_neg hb]
      cases hK : E.K i.toNatClampNeg with
      | none => exact h
      | some q =>
        obtain ⟨q1, q2, q3⟩ := h.2.2.2.2.2.2 _ q hK
        exact ⟨h.1, h.2.1, q2, q3, q1, fun k hk => absurd hk (Nat.not_lt_zero k), h.2.2.2.2.2.2⟩
  · rw [if_neg c9]; exact h
/-- what a week read well is -/
theorem week_ok {E : Gs} {T : Nat} (h : IV E T) (h0 : (weekR E).1.1 = 0) : WI E.Y.n (weekR E).2 := sorry
/-- what a yard read well is -/
theorem yard_ok {E : Gs} {T b : Nat} (hb : 35 ≤ b ∧ b ≤ 40) (h : IV E T) (h0 : (yardR b E).1.1 = 0) : NS (yardY b E) ∧ NB (yardY b E) ∧ (yardY b E).n ≤ 6 ∧ SI (yardY b E) (begV (yardY b E)) 0 := sorry
theorem TI.zero {t : Nat → Int32} : TI (0, t) := ⟨Nat.zero_le _, fun k hk => absurd hk (Nat.not_lt_zero k)⟩
theorem IV.week {E : Gs} {T : Nat} (h : IV E T) : IV (weekE E) T := by
  unfold weekE
  by_cases c9 : (weekR E).1.1 = 0
  · rw [if_pos c9]
    exact ⟨TI.zero, h.2.1, week_ok h c9, h.2.2.2⟩
  · rw [if_neg c9]
    exact h.setT TI.zero
theorem IV.yard {E : Gs} {T b : Nat} (hb : 35 ≤ b ∧ b ≤ 40) (h : IV E T) : IV (yardE b E) T := by
  unfold yardE
  by_cases c9 : (yardR b E).1.1 = 0
  · rw [if_pos c9]
    have hy := yard_ok hb h c9
    refine ⟨TI.zero, hy, fun k hk => absurd hk (Nat.not_lt_zero k), fun k hk => absurd hk (Nat.not_lt_zero k), ⟨hy.2.2.2.mono (Nat.zero_le _), SH.beg hy.2.1 hy.2.2.1⟩, fun k hk => absurd hk (Nat.not_lt_zero k), fun k q hq => ?_⟩
    cases hq
  · rw [if_neg c9]
    exact h.setT TI.zero
end IV2
