section IV2
theorem TI.ap {t : Tv} {c : Int32} (h : TI t) : TI (apT t c) := by
  unfold apT
  by_cases hc : (c = 10 ∨ (¬ c < 32 ∧ ¬ 126 < c)) ∧ t.1 < 1000
  · rw [if_pos hc]
    refine ⟨by show t.1 + 1 ≤ 1000; omega, fun k hk => ?_⟩
    show ∃ m, m < 127 ∧ (if k = t.1 then c else t.2 k) = nI m
    by_cases hq : k = t.1
    · rw [if_pos hq]
      rcases hc.1 with e | ⟨e1, e2⟩
      · exact ⟨10, by omega, e⟩
      · obtain ⟨m, hm, e⟩ := nI_of2 (x := c) (M := 126) (n := 126) rfl (fun q => e1 (Int32.lt_trans q (by decide))) (Int32.not_lt.mp e2)
        exact ⟨m, by omega, e⟩
    · rw [if_neg hq]
      exact h.2 k (by have hk' : k < t.1 + 1 := hk; omega)
  · rw [if_neg hc]
    exact h
theorem TI.fw {t : Tv} {x : Int64} (h : TI t) : ∀ n, TI (fwN t x n)
  | 0 => h
  | n + 1 => (TI.fw h n).ap
theorem IV.feed {E : Gs} {T : Nat} {a b c : Int64} (h : IV E T) : IV (E.setT (feedT E.1 a b c)) T := h.setT (TI.fw (TI.fw (TI.fw h.1 8) 8) 8)
theorem IV.heat {E : Gs} {T : Nat} {i v : Int32} (h : IV E T) : IV (heatW E i v).2 T := by
  unfold heatW
  by_cases c9 : vSh E i ∧ vWi v 0 9
  · rw [if_pos c9]; exact h.deed ⟨h.2.2.2.2.1.1.heat, h.2.2.2.2.1.2.of rfl⟩
  · rw [if_neg c9]; exact h
theorem IV.light {E : Gs} {T : Nat} {i : Int32} (h : IV E T) : IV (lightW E i).2 T := by
  unfold lightW
  by_cases c9 : vSh E i ∧ ¬ bitI E.S.lit i
  · rw [if_pos c9]; exact h.deed ⟨h.2.2.2.2.1.1.lit, h.2.2.2.2.1.2.of rfl⟩
  · rw [if_neg c9]; exact h
theorem IV.pull {E : Gs} {T : Nat} {i v : Int32} (h : IV E T) : IV (pullW E i v).2 T := by
  unfold pullW
  by_cases c9 : vSh E i ∧ vWi v 1 20 ∧ canB E.S i.toNatClampNeg v = true
  · rw [if_pos c9]
    obtain ⟨a, ha, rfl⟩ := nI_of (x := v) (fun q => c9.2.1.1 (Int32.lt_trans q (by decide)))
    obtain ⟨j, hj2, rfl⟩ := nI_of (x := i) c9.1.1
    have hj : j < E.Y.n := lt_of hj2 (by have := h.2.1.2.2.1; omega) c9.1.2
    have hc : canB E.S (nI j).toNatClampNeg (nI a) = true := c9.2.2
    rw [nI_clamp hj2] at hc ⊢
    unfold canB at hc
    exact h.deed ⟨h.2.2.2.2.1.1.lose hj ha (of_decide_eq_true hc).1, h.2.2.2.2.1.2.of rfl⟩
  · rw [if_neg c9]; exact h
theorem IV.undoX {E : Gs} {T : Nat} (h : IV E T) : IV (undoW E).2 T := by
  unfold undoW
  by_cases c9 : 0 < E.un
  · rw [if_pos c9]; exact h.undo c9
  · rw [if_neg c9]; exact h
theorem IV.night {E : Gs} {T : Nat} (h : IV E T) : IV (nightE E) (T + 1) :=
  (h.mono (Nat.le_succ T)).deed ⟨h.2.2.2.2.1.1.pass h.2.1.2.2.1, h.2.2.2.2.1.2.pass h.2.1.2.1 h.2.1.1 h.2.1.2.2.1⟩
theorem VI.add {V : Rv} {t m b : Int32} (h : VI V) (ht : ∃ x, 1 ≤ x ∧ x ≤ 20 ∧ t = nI x) (hb : b = 0 ∨ b = 1) : VI (addR V t m b) := by
  intro k hk
  have hk' : k < V.1 + 1 := hk
  show (∃ x, 1 ≤ x ∧ x ≤ 20 ∧ (if k = V.1 then t else V.2.1 k) = nI x) ∧ ((if k = V.1 then b else V.2.2.2 k) = 0 ∨ (if k = V.1 then b else V.2.2.2 k) = 1)
  by_cases hq : k = V.1
  · rw [if_pos hq, if_pos hq]; exact ⟨ht, hb⟩
  · rw [if_neg hq, if_neg hq]; exact h k (by omega)
theorem IV.see {E : Gs} {T : Nat} {t m b : Int32} (hb : b = 0 ∨ b = 1) (h : IV E T) : IV (seeW E t m b).2 T := by
  unfold seeW
  by_cases c9 : seeB E t m = true
  · rw [if_pos c9]
    have hc := c9
    unfold seeB at hc
    have hw := (of_decide_eq_true hc).1.1
    obtain ⟨x, hx, e⟩ := nI_of2 (x := t) (M := 20) (n := 20) rfl (fun q => hw.1 (Int32.lt_trans q (by decide))) (Int32.not_lt.mp hw.2)
    refine ⟨h.1, h.2.1, h.2.2.1, h.2.2.2.1.add ⟨x, ?_, hx, e⟩ hb, h.2.2.2.2⟩
    refine Nat.pos_of_ne_zero (fun q => ?_)
    rw [e, q] at hw
    exact absurd hw.1 (by decide)
  · rw [if_neg c9]; exact h
theorem IV.mark {E : Gs} {T : Nat} {i b : Int32} (h : IV E T) : IV (markV E i b).2 T := by
  unfold markV
  by_cases c9 : ¬ i < 0 ∧ i < nI 4
  · rw [if_pos c9]
    by_cases hb : b = 0
    · rw [if_pos hb]
      refine ⟨h.1, h.2.1, h.2.2.1, h.2.2.2.1, h.2.2.2.2.1, h.2.2.2.2.2.1, fun k q hq => ?_⟩
      have hq' : (if k = i.toNatClampNeg then some (E.S, E.W, E.V) else E.K k) = some q := hq
      by_cases hk : k = i.toNatClampNeg
      · rw [if_pos hk] at hq'
        cases hq'
        exact ⟨h.2.2.2.2.1, h.2.2.1, h.2.2.2.1⟩
      · rw [if_neg hk] at hq'
        exact h.2.2.2.2.2.2 k q hq'
    · rw [if_neg hb]
      cases hK : E.K i.toNatClampNeg with
      | none => exact h
      | some q =>
        obtain ⟨q1, q2, q3⟩ := h.2.2.2.2.2.2 _ q hK
        exact ⟨h.1, h.2.1, q2, q3, q1, fun k hk => absurd hk (Nat.not_lt_zero k), h.2.2.2.2.2.2⟩
  · rw [if_neg c9]; exact h
/-- a line of a week that is read well -/
theorem wl_ok {t : Tv} {x : Xv} {W : Rv} {Y : Yv} (hx : x.2 ≤ t.1) (hI : TI t) (h3 : (wl3 t x W Y).1 = 0) : x.1 = 0 ∧ (dhX t x = 0 ∨ ((dhX t x = 1 ∨ dhX t x = 2 ∨ dhX t x = 3) ∧ ∃ j, j < Y.n ∧ wlA t x W Y = nI j)) ∧ (dhX t x = 3 → ∃ v, 1 ≤ v ∧ v ≤ 20 ∧ wlB t x W Y = nI v) := by
  have b0 : (wl0 t x W).2 ≤ t.1 := by
    unfold wl0
    split
    · rw [fail_2]; exact hx
    · split
      · exact hx
      · rw [fail_2]; exact hx
  have b1 : (wl1 t x W).2 ≤ t.1 := (adv_le (t := t) b0).2
  have b2 : (wl2 t x W Y).2 ≤ t.1 := by
    unfold wl2
    split
    · exact b1
    · exact (adv_le (t := t) (shH_b (s := 0) (Y := Y) ⟨Nat.zero_le _, b1⟩).2).2
  have h2 : (wl2 t x W Y).1 = 0 := by
    apply Classical.byContradiction
    intro hn
    unfold wl3 at h3
    rw [st_N hn, st_N hn] at h3
    split at h3
    · exact hn h3
    · split at h3 <;> exact hn h3
  have h1 : (wl1 t x W).1 = 0 := by
    apply Classical.byContradiction
    intro hn
    unfold wl2 at h2
    rw [st_H hn] at h2
    split at h2
    · exact hn h2
    · rw [adv_1] at h2
      exact hn h2
  have h0 : (wl0 t x W).1 = 0 := by
    unfold wl1 at h1
    rw [adv_1] at h1
    exact h1
  have hd : ¬ dhX t x = -1 := by
    intro e
    unfold wl0 at h0
    rw [if_pos e] at h0
    exact fail_nz (k := 1) (by decide) hx hI h0
  have hx0 : x.1 = 0 := by
    unfold wl0 at h0
    rw [if_neg hd] at h0
    split at h0
    · exact h0
    · exact absurd h0 (fail_nz (k := 5) (by decide) hx hI)
  have hv : dhX t x = 0 ∨ dhX t x = 1 ∨ dhX t x = 2 ∨ dhX t x = 3 := by
    revert hd
    unfold dhX
    split
    · intro _; exact Or.inl rfl
    · split
      · intro _; exact Or.inr (Or.inl rfl)
      · split
        · intro _; exact Or.inr (Or.inr (Or.inl rfl))
        · split
          · intro _; exact Or.inr (Or.inr (Or.inr rfl))
          · intro hh; exact absurd rfl hh
  refine ⟨hx0, ?_, fun e3 => ?_⟩
  · by_cases e0 : dhX t x = 0
    · exact Or.inl e0
    · have hs : (shH t (wl1 t x W) Y).1 = 0 := by
        unfold wl2 at h2
        rw [if_neg e0, adv_1] at h2
        exact h2
      obtain ⟨-, ⟨j, hj⟩, -⟩ := shH_0 hs b1 hI
      refine Or.inr ⟨hv.resolve_left e0, j, (fnd_lt hj).1, ?_⟩
      unfold wlA
      rw [if_neg e0, hj]
      rfl
  · have e1 : ¬ dhX t x = 1 := by rw [e3]; decide
    have hs : (tkN t (wl2 t x W Y) 1 20).1 = 0 := by
      unfold wl3 at h3
      rw [if_neg e1, if_pos e3] at h3
      exact h3
    obtain ⟨-, hw⟩ := tkN_0 hs b2 hI
    obtain ⟨v, hv20, e⟩ := nI_of2 (x := nmX t (wl2 t x W Y)) (M := 20) (n := 20) rfl (fun q => hw.1 (Int32.lt_trans q (by decide))) (Int32.not_lt.mp hw.2)
    refine ⟨v, Nat.pos_of_ne_zero (fun q => ?_), hv20, ?_⟩
    · rw [e, q] at hw
      exact absurd hw.1 (by decide)
    · unfold wlB
      rw [if_pos (Or.inr e3)]
      exact e
theorem wl_pb {t : Tv} {x : Xv} {W : Rv} {Y : Yv} (hx : x.2 ≤ t.1) : (tkS t (wl3 t x W Y) 59).2 ≤ t.1 := by
  have p0 : PB 0 t x := ⟨Nat.zero_le _, hx⟩
  have p1 : PB 0 t (wl0 t x W) := by
    unfold wl0
    split
    · exact fail_b p0
    · split
      · exact p0
      · exact fail_b p0
  have p2 : PB 0 t (wl2 t x W Y) := by
    unfold wl2
    split
    · exact adv_b p1
    · exact adv_b (shH_b (adv_b p1))
  have p3 : PB 0 t (wl3 t x W Y) := by
    unfold wl3
    split
    · exact tkN_b p2
    · split
      · exact tkN_b p2
      · exact p2
  exact (tkS_le (t := t) p3.2).2
theorem WI.addR {n : Nat} {W : Rv} {a b c : Int32} (h : WI n W) (h1 : a = 0 ∨ ((a = 1 ∨ a = 2 ∨ a = 3) ∧ ∃ j, j < n ∧ b = nI j)) (h3 : a = 3 → ∃ v, 1 ≤ v ∧ v ≤ 20 ∧ c = nI v) : WI n (addR W a b c) := by
  intro k hk
  have hk' : k < W.1 + 1 := hk
  show ((if k = W.1 then a else W.2.1 k) = 0 ∨ (((if k = W.1 then a else W.2.1 k) = 1 ∨ (if k = W.1 then a else W.2.1 k) = 2 ∨ (if k = W.1 then a else W.2.1 k) = 3) ∧ ∃ j, j < n ∧ (if k = W.1 then b else W.2.2.1 k) = nI j)) ∧ ((if k = W.1 then a else W.2.1 k) = 3 → ∃ v, 1 ≤ v ∧ v ≤ 20 ∧ (if k = W.1 then c else W.2.2.2 k) = nI v)
  by_cases hq : k = W.1
  · simp only [if_pos hq]
    exact ⟨h1, h3⟩
  · simp only [if_neg hq]
    exact h k (by omega)
theorem wdB_ok {t : Tv} {Y : Yv} (hI : TI t) : ∀ (n : Nat) (r : Xv × Rv), r.1.2 ≤ t.1 → (r.1.1 = 0 → WI Y.n r.2) → (wdB t Y n r).1.1 = 0 → WI Y.n (wdB t Y n r).2 := by
  intro n
  induction n with
  | zero => intro r _ h h0; exact h h0
  | succ n ih =>
    intro r hr h
    by_cases hg : goX t r.1
    · rw [wdB_go hg]
      refine ih _ (wl_pb hr) (fun q => ?_)
      have h3 : (wl3 t r.1 r.2 Y).1 = 0 := by
        apply Classical.byContradiction
        intro hn
        rw [st_S hn] at q
        exact hn q
      obtain ⟨a, b, c⟩ := wl_ok hr hI h3
      exact (h a).addR b c
    · rw [wdB, if_neg hg]
      exact h
/-- what a week read well is -/
theorem week_ok {E : Gs} {T : Nat} (h : IV E T) (h0 : (weekR E).1.1 = 0) : WI E.Y.n (weekR E).2 := by
  unfold weekR wdW at h0 ⊢
  exact wdB_ok h.1 41 _ (Nat.zero_le _) (fun _ k hk => absurd hk (Nat.not_lt_zero k)) h0
/-- a yard as far as it is read -/
def YI (Y : Yv) : Prop := Y.n ≤ 6 ∧ (∃ r, Y.roof = nI r ∧ r ≤ 60) ∧ (∀ j, j < Y.n → ∃ c, c ≤ 20 ∧ Y.crow j = nI c) ∧ ∃ g : Nat → Nat, (∀ i, i < Y.n → Y.near i = nI (g i) ∧ g i < 2 ^ Y.n) ∧ ∀ i j, i < Y.n → j < Y.n → (g i).testBit j = (g j).testBit i
theorem YI.em : YI emY := ⟨by decide, ⟨0, rfl, by decide⟩, fun j hj => absurd hj (Nat.not_lt_zero j), fun _ => 0, fun j hj => absurd hj (Nat.not_lt_zero j), fun i j hi => absurd hi (Nat.not_lt_zero i)⟩
theorem YI.shed {Y : Yv} {w : Int64} {k h c : Int32} (hY : YI Y) (h6 : Y.n < 6) (hc : ∃ c', c' ≤ 20 ∧ c = nI c') : YI (addSP Y w k h c) := by
  obtain ⟨h1, h2, h3, g, hg, hs⟩ := hY
  have hpow : 2 ^ Y.n < 2 ^ (Y.n + 1) := Nat.pow_lt_pow_right (by decide) (by omega)
  have hn0 : ∀ j, j < Y.n → (g j).testBit Y.n = false := fun j hj => Nat.testBit_lt_two_pow (hg j hj).2
  refine ⟨h6, h2, fun j hj => ?_, fun i => if i = Y.n then 0 else g i, fun i hi => ?_, fun i j hi hj => ?_⟩
  · have hj' : j < Y.n + 1 := hj
    show ∃ c', c' ≤ 20 ∧ (if (2 : Nat) = 0 ∧ j = Y.n then k else if (2 : Nat) = 1 ∧ j = Y.n then h else if (2 : Nat) = 2 ∧ j = Y.n then c else if (2 : Nat) = 3 ∧ j = Y.n then 0 else Y.crow j) = nI c'
    rw [if_neg (by omega), if_neg (by omega)]
    by_cases hq : j = Y.n
    · rw [if_pos ⟨rfl, hq⟩]; exact hc
    · rw [if_neg (fun z => hq z.2), if_neg (by omega)]; exact h3 j (by omega)
  · have hi' : i < Y.n + 1 := hi
    show (if (3 : Nat) = 0 ∧ i = Y.n then k else if (3 : Nat) = 1 ∧ i = Y.n then h else if (3 : Nat) = 2 ∧ i = Y.n then c else if (3 : Nat) = 3 ∧ i = Y.n then 0 else Y.near i) = nI (if i = Y.n then 0 else g i) ∧ (if i = Y.n then 0 else g i) < 2 ^ (Y.n + 1)
    rw [if_neg (by omega), if_neg (by omega), if_neg (by omega)]
    by_cases hq : i = Y.n
    · rw [if_pos ⟨rfl, hq⟩, if_pos hq]
      exact ⟨rfl, Nat.two_pow_pos _⟩
    · rw [if_neg (fun z => hq z.2), if_neg hq]
      exact ⟨(hg i (by omega)).1, Nat.lt_trans (hg i (by omega)).2 hpow⟩
  · have hi' : i < Y.n + 1 := hi
    have hj' : j < Y.n + 1 := hj
    show (if i = Y.n then 0 else g i).testBit j = (if j = Y.n then 0 else g j).testBit i
    by_cases hq : i = Y.n
    · rw [if_pos hq, Nat.zero_testBit]
      by_cases hz : j = Y.n
      · rw [if_pos hz, Nat.zero_testBit]
      · rw [if_neg hz, hq, hn0 j (by omega)]
    · rw [if_neg hq]
      by_cases hz : j = Y.n
      · rw [if_pos hz, Nat.zero_testBit, hz, hn0 i (by omega)]
      · rw [if_neg hz]; exact hs i j (by omega) (by omega)
theorem YI.nr {Y : Yv} {a b : Nat} (hY : YI Y) (ha : a < Y.n) (hb : b < Y.n) (hab : ¬ a = b) : YI (addNP Y a b) := by
  obtain ⟨h1, h2, h3, g, hg, hs⟩ := hY
  have hpa : 2 ^ a < 2 ^ Y.n := Nat.pow_lt_pow_right (by decide) ha
  have hpb : 2 ^ b < 2 ^ Y.n := Nat.pow_lt_pow_right (by decide) hb
  have h64 : 2 ^ Y.n ≤ 64 := Nat.pow_le_pow_right (n := 2) (by decide) h1
  have ho : ∀ i x, i < Y.n → x < Y.n → Y.near i ||| b1 (nI x) = nI (g i ||| 2 ^ x) := fun i x hi hx => by
    rw [(hg i hi).1, (b1_nat x (by omega)).1]
    exact (or64 _ (by have := (hg i hi).2; omega) _ (b1_nat x (by omega)).2.1).1
  refine ⟨h1, h2, h3, fun i => if i = b then g b ||| 2 ^ a else if i = a then g a ||| 2 ^ b else g i, fun i hi => ?_, fun i j hi hj => ?_⟩
  · have hi' : i < Y.n := hi
    show (if (3 : Nat) = 3 ∧ i = b then (if b = a then Y.near a ||| b1 (nI b) else Y.near b) ||| b1 (nI a) else if (3 : Nat) = 3 ∧ i = a then Y.near a ||| b1 (nI b) else Y.near i) = nI (if i = b then g b ||| 2 ^ a else if i = a then g a ||| 2 ^ b else g i) ∧ (if i = b then g b ||| 2 ^ a else if i = a then g a ||| 2 ^ b else g i) < 2 ^ Y.n
    by_cases hq : i = b
    · rw [if_pos ⟨rfl, hq⟩, if_pos hq, if_neg (fun z => hab z.symm)]
      exact ⟨ho b a hb ha, Nat.or_lt_two_pow (hg b hb).2 hpa⟩
    · rw [if_neg (fun z => hq z.2), if_neg hq]
      by_cases hz : i = a
      · rw [if_pos ⟨rfl, hz⟩, if_pos hz]
        exact ⟨ho a b ha hb, Nat.or_lt_two_pow (hg a ha).2 hpb⟩
      · rw [if_neg (fun z => hz z.2), if_neg hz]
        exact hg i hi'
  · have hi' : i < Y.n := hi
    have hj' : j < Y.n := hj
    have key : ∀ i j, i < Y.n → j < Y.n → (if i = b then g b ||| 2 ^ a else if i = a then g a ||| 2 ^ b else g i).testBit j = ((g i).testBit j || (decide (i = b) && decide (a = j)) || (decide (i = a) && decide (b = j))) := by
      intro i j _ _
      by_cases hq : i = b
      · have hna : ¬ i = a := fun z => hab (z.symm.trans hq)
        rw [if_pos hq, Nat.testBit_or, Nat.testBit_two_pow, decide_eq_true hq, decide_eq_false hna, hq]
        simp
      · rw [if_neg hq]
        by_cases hz : i = a
        · rw [if_pos hz, Nat.testBit_or, Nat.testBit_two_pow, decide_eq_false hq, decide_eq_true hz, hz]
          simp
        · rw [if_neg hz, decide_eq_false hq, decide_eq_false hz]
          simp
    show (if i = b then g b ||| 2 ^ a else if i = a then g a ||| 2 ^ b else g i).testBit j = (if j = b then g b ||| 2 ^ a else if j = a then g a ||| 2 ^ b else g j).testBit i
    rw [key i j hi' hj', key j i hj' hi', hs i j hi' hj']
    cases (g j).testBit i with
    | true => simp
    | false =>
      simp only [Bool.false_or]
      rw [Bool.eq_iff_iff]
      simp only [Bool.or_eq_true, Bool.and_eq_true, decide_eq_true_eq]
      omega
theorem YI.same {Y Y' : Yv} (hY : YI Y) (h1 : Y'.n = Y.n) (h2 : Y'.roof = Y.roof) (h3 : ∀ j, Y'.crow j = Y.crow j) (h4 : ∀ j, Y'.near j = Y.near j) : YI Y' := by
  unfold YI
  rw [h1, h2]
  simp only [h3, h4]
  exact hY
theorem YI.stg {Y : Yv} {w : Int64} {a b : Int32} (hY : YI Y) : YI (addGP Y w a b) := hY.same rfl rfl (fun _ => rfl) (fun _ => rfl)
theorem YI.frs {Y : Yv} {v : Int32} (hY : YI Y) : YI (addFP Y v) := by
  unfold addFP
  split
  · exact hY.same rfl rfl (fun _ => rfl) (fun _ => rfl)
  · exact hY
theorem YI.frl {t : Tv} : ∀ (k : Nat) (r : Xv × Yv), YI r.2 → YI (frL t k r).2 := by
  intro k
  induction k with
  | zero => intro r h; exact h
  | succ k ih =>
    intro r h
    rw [frL]
    split
    · exact ih _ h.frs
    · exact h
theorem vW_nat {v a : Int32} {n : Nat} {b : Int32} (hb : b.toInt = n) (ha : ¬ a < 0) (h : vWi v a b) : ∃ m, m ≤ n ∧ v = nI m := by
  obtain ⟨m, hm, e⟩ := nI_of2 hb (fun q => h.1 (Int32.lt_of_lt_of_le q (Int32.not_lt.mp ha))) (Int32.not_lt.mp h.2)
  exact ⟨m, hm, e⟩
/-- a line of a yard -/
theorem rl_ok {b : Nat} {t : Tv} {x : Xv} {P : Pv} (hI : TI t) (hx : x.2 ≤ t.1) (h0 : (rdLine b t (x, P)).1.1 = 0) : x.1 = 0 ∧ (YI P.1 → YI (rdLine b t (x, P)).2.1) := by
  have p0 : PB 0 t x := ⟨Nat.zero_le _, hx⟩
  unfold rdLine at h0 ⊢
  dsimp only at h0 ⊢
  by_cases c1 : isW t x 1
  · rw [if_pos c1] at h0 ⊢
    refine ⟨c1.1, fun hY => ?_⟩
    have h7 : (rs7 t x P).1 = 0 := h0
    have q1 : PB 0 t (rs1 t x P) := adv_b (by split <;> first | exact p0 | exact fail_b p0)
    have q6 : PB 0 t (rs6 t x P) := tkW_b (tkN_b (tkW_b (tkK_b (tkM_b q1))))
    have z6 : (rs6 t x P).1 = 0 := Classical.byContradiction (fun hn => hn (by rw [show rs7 t x P = rs6 t x P from st_N hn] at h7; exact h7))
    have z5 : (rs5 t x P).1 = 0 := Classical.byContradiction (fun hn => hn (by rw [show rs6 t x P = rs5 t x P from st_W hn] at z6; exact z6))
    have z4 : (rs4 t x P).1 = 0 := Classical.byContradiction (fun hn => hn (by rw [show rs5 t x P = rs4 t x P from st_N hn] at z5; exact z5))
    have z3 : (rs3 t x P).1 = 0 := Classical.byContradiction (fun hn => hn (by rw [show rs4 t x P = rs3 t x P from st_W hn] at z4; exact z4))
    have z2 : (rs2 t x P).1 = 0 := Classical.byContradiction (fun hn => hn (by rw [show rs3 t x P = rs2 t x P from st_K hn] at z3; exact z3))
    have z1 : (rs1 t x P).1 = 0 := Classical.byContradiction (fun hn => hn (by rw [show rs2 t x P = rs1 t x P from st_M hn] at z2; exact z2))
    have hn6 : P.1.n < 6 := by
      apply Classical.byContradiction
      intro hn
      have z0 : (if P.1.n < 6 then x else failX t 5 x).1 = 0 := by rw [← adv_1 (t := t)]; exact z1
      rw [if_neg hn] at z0
      exact fail_nz (k := 5) (by decide) hx hI z0
    exact hY.shed hn6 (vW_nat (n := 20) rfl (by decide) (tkN_0 h7 q6.2 hI).2)
  · rw [if_neg c1] at h0 ⊢
    by_cases c4 : isW t x 4
    · rw [if_pos c4] at h0 ⊢
      refine ⟨c4.1, fun hY => ?_⟩
      have h6 : (if rnD t x P then failX t 3 (rn4 t x P) else rn4 t x P).1 = 0 := by rw [← adv_1 (t := t)]; exact h0
      have q1 : PB 0 t (rn1 t x) := adv_b p0
      have q3 : PB 0 t (rn3 t x P) := adv_b (shH_b q1)
      have q4 : PB 0 t (rn4 t x P) := shH_b q3
      have hD : ¬ rnD t x P := by
        intro hd
        rw [if_pos hd] at h6
        exact fail_nz (k := 3) (by decide) q4.2 hI h6
      rw [if_neg hD] at h6
      obtain ⟨-, ⟨jb, hjb⟩, e4⟩ := shH_0 h6 q3.2 hI
      have z3 : (rn3 t x P).1 = 0 := by rw [← e4]; exact h6
      have z2 : (rn2 t x P).1 = 0 := by rw [← adv_1 (t := t)]; exact z3
      obtain ⟨-, ⟨ja, hja⟩, -⟩ := shH_0 z2 q1.2 hI
      have ea : rnA t x P = ja := by unfold rnA; rw [hja]; rfl
      have eb : rnB t x P = jb := by unfold rnB; rw [hjb]; rfl
      show YI (addNP P.1 (rnA t x P) (rnB t x P))
      have hab : ¬ rnA t x P = rnB t x P := fun e => hD (Or.inl e)
      rw [ea, eb] at hab ⊢
      exact hY.nr (fnd_lt hja).1 (fnd_lt hjb).1 hab
    · rw [if_neg c4] at h0 ⊢
      by_cases c5 : isW t x 5
      · rw [if_pos c5] at h0 ⊢
        exact ⟨c5.1, fun hY => hY.stg⟩
      · rw [if_neg c5] at h0 ⊢
        by_cases c8 : isW t x 8
        · rw [if_pos c8] at h0 ⊢
          exact ⟨c8.1, fun hY => YI.frl 12 _ hY.frs⟩
        · rw [if_neg c8] at h0 ⊢
          by_cases c9 : isW t x 9
          · rw [if_pos c9] at h0 ⊢
            refine ⟨c9.1, fun hY => ?_⟩
            have q1 : PB 0 t (rr1 t x P) := adv_b (by split <;> first | exact p0 | exact fail_b p0)
            have h1 : (tkN t (rr1 t x P) 5 60).1 = 0 := h0
            exact ⟨hY.1, (fun ⟨m, hm, e⟩ => ⟨m, e, hm⟩) (vW_nat (n := 60) rfl (by decide) (tkN_0 h1 q1.2 hI).2), hY.2.2⟩
          · rw [if_neg c9] at h0 ⊢
            by_cases c10 : isW t x 10
            · rw [if_pos c10] at h0 ⊢
              exact ⟨c10.1, fun hY => hY⟩
            · rw [if_neg c10] at h0 ⊢
              exact absurd h0 (fail_nz (k := 1) (by decide) hx hI)
theorem rdB_ok {b : Nat} {t : Tv} (hb : 35 ≤ b) (hI : TI t) : ∀ (n : Nat) (r : Xv × Pv), r.1.2 ≤ t.1 → (r.1.1 = 0 → YI r.2.1) → (rdB b t n r).1.1 = 0 → YI (rdB b t n r).2.1 := by
  intro n
  induction n with
  | zero => intro r _ h h0; exact h h0
  | succ n ih =>
    intro r hr h
    rw [rdB]
    by_cases hg : goX t r.1
    · rw [if_pos hg]
      have hp := rdLine_p (b := b) hb hI hr
      refine ih _ (tkS_le (t := t) hp).2 (fun q => ?_)
      have h3 : (rdLine b t r).1.1 = 0 := by
        apply Classical.byContradiction
        intro hn
        rw [st_S hn] at q
        exact hn q
      obtain ⟨a, c⟩ := rl_ok (x := r.1) (P := r.2) hI hr h3
      exact c (h a)
    · rw [if_neg hg]
      exact h
theorem YI.out {Y : Yv} (h : YI Y) : NS Y ∧ NB Y ∧ Y.n ≤ 6 ∧ SI Y (begV Y) 0 := by
  obtain ⟨h1, ⟨r, hr, h60⟩, h3, g, hg, hs⟩ := h
  have h64 : 2 ^ Y.n ≤ 64 := Nat.pow_le_pow_right (n := 2) (by decide) h1
  refine ⟨fun i j hi hj => ?_, fun i hi => ⟨g i, (hg i hi).2, (hg i hi).1⟩, h1, ⟨r, hr, h60, fun j hj => ?_, 0, rfl, Nat.le_refl _⟩⟩
  · have e1 := bt64 (g i) (by have := (hg i hi).2; omega) j (by omega)
    have e2 := bt64 (g j) (by have := (hg j hj).2; omega) i (by omega)
    rw [(hg i hi).1, (hg j hj).1]
    rw [← decide_eq_decide, e1, e2, hs i j hi hj]
  · obtain ⟨c, hc, e⟩ := h3 j hj
    exact ⟨c, 0, e, hc, rfl, Nat.zero_le _⟩
/-- what a yard read well is -/
theorem yard_ok {E : Gs} {T b : Nat} (hb : 35 ≤ b ∧ b ≤ 40) (h : IV E T) (h0 : (yardR b E).1.1 = 0) : NS (yardY b E) ∧ NB (yardY b E) ∧ (yardY b E).n ≤ 6 ∧ SI (yardY b E) (begV (yardY b E)) 0 := by
  have h1 : YI (yardR b E).2.1 := by
    unfold yardR rdY at h0 ⊢
    exact rdB_ok hb.1 h.1 1000 _ (Nat.zero_le _) (fun _ => YI.em) h0
  refine YI.out ?_
  show YI (laidY (fillP (yardR b E).2))
  have h2 : YI (fillP (yardR b E).2).1 := by
    show YI (if (yardR b E).2.1.roof = 0 then setRP (yardR b E).2.1 30 else (yardR b E).2.1)
    split
    · exact ⟨h1.1, ⟨30, rfl, by decide⟩, h1.2.2⟩
    · exact h1
  exact h2.same rfl rfl (fun _ => rfl) (fun _ => rfl)
theorem TI.zero {t : Nat → Int32} : TI (0, t) := ⟨Nat.zero_le _, fun k hk => absurd hk (Nat.not_lt_zero k)⟩
theorem IV.week {E : Gs} {T : Nat} (h : IV E T) : IV (weekE E) T := by
  unfold weekE
  by_cases c9 : (weekR E).1.1 = 0
  · rw [if_pos c9]
    exact ⟨TI.zero, h.2.1, week_ok h c9, h.2.2.2⟩
  · rw [if_neg c9]
    exact h.setT TI.zero
theorem IV.yard {E : Gs} {T b : Nat} (hb : 35 ≤ b ∧ b ≤ 40) (h : IV E T) : IV (yardE b E) T := by
  unfold yardE
  by_cases c9 : (yardR b E).1.1 = 0
  · rw [if_pos c9]
    have hy := yard_ok hb h c9
    refine ⟨TI.zero, hy, fun k hk => absurd hk (Nat.not_lt_zero k), fun k hk => absurd hk (Nat.not_lt_zero k), ⟨hy.2.2.2.mono (Nat.zero_le _), SH.beg hy.2.1 hy.2.2.1⟩, fun k hk => absurd hk (Nat.not_lt_zero k), fun k q hq => ?_⟩
    cases hq
  · rw [if_neg c9]
    exact h.setT TI.zero
end IV2
