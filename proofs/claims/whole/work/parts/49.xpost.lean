section XPO
def runP (fc : Nat → Int32) : List Int32 → List Int32 → Option (List Int32)
  | [], st => some st
  | op :: l, st => match pstep fc op st with
    | some st' => runP fc l st'
    | none => none
theorem runP_app {fc : Nat → Int32} : ∀ (a b st : List Int32), runP fc (a ++ b) st = match runP fc a st with
    | some st' => runP fc b st'
    | none => none := by
  intro a
  induction a with
  | nil => intro b st; rfl
  | cons op l ih =>
    intro b st
    show (match pstep fc op st with | some st' => runP fc (l ++ b) st' | none => none) = _
    rw [show runP fc (op :: l) st = (match pstep fc op st with | some st' => runP fc l st' | none => none) from rfl]
    cases pstep fc op st with
    | none => rfl
    | some st' => exact ih b st'
theorem pst_run {f fc : Nat → Int32} {c : List Int32} (h : ∀ k, k < c.length → f k = c.getD k 0) : ∀ i, i ≤ c.length → pst f fc i = runP fc (c.take i) [] := by
  intro i
  induction i with
  | zero => intro _; rfl
  | succ i ih =>
    intro hi
    rw [List.take_succ_eq_append_getElem (by omega), runP_app, ← ih (by omega), pst]
    cases pst f fc i with
    | none => rfl
    | some st =>
      show pstep fc (f i) st = runP fc [c[i]] st
      rw [h i (by omega), List.getD_eq_getElem?_getD, List.getElem?_eq_getElem (by omega)]
      show pstep fc c[i] st = match pstep fc c[i] st with | some st' => runP fc [] st' | none => none
      cases pstep fc c[i] st <;> rfl
/-- it runs to its value, with h places -/
def PO (h : Nat) (e : Ex) : Prop := 1 ≤ h ∧ ∀ (fc : Nat → Int32) (st : List Int32), st.length + h ≤ 25 → runP fc e.po st = some (e.va fc :: st)
theorem PO.mono {h h' : Nat} {e : Ex} (k : PO h e) (hh : h ≤ h') : PO h' e := ⟨by have := k.1; omega, fun fc st hs => k.2 fc st (by omega)⟩
theorem PO.leaf {c : Int32} (h1 : -6 < c) (h2 : ¬ c = -5) : PO 1 (exLeaf c) := by
  refine ⟨Nat.le_refl 1, fun fc st hs => ?_⟩
  show (match pstep fc c st with | some st' => runP fc [] st' | none => none) = _
  unfold pstep
  rw [if_neg (fun q => q h1), if_neg h2, if_pos (by omega)]
  rfl
theorem PO.not {h : Nat} {e : Ex} (k : PO h e) : PO h (exNot e) := by
  refine ⟨k.1, fun fc st hs => ?_⟩
  show runP fc (e.po ++ [-5]) st = _
  rw [runP_app, k.2 fc st hs]
  rfl
theorem PO.par {h : Nat} {e : Ex} (k : PO h e) : PO h (exPar e) := k
theorem PO.bin {h g : Nat} {op : Int32} {a b : Ex} (ka : PO h a) (kb : PO g b) (hg : g + 1 ≤ h) (ho : ¬ -6 < op) : PO h (exBin op a b) := by
  refine ⟨ka.1, fun fc st hs => ?_⟩
  show runP fc (a.po ++ (b.po ++ [op])) st = _
  rw [runP_app, ka.2 fc st hs]
  show runP fc (b.po ++ [op]) (a.va fc :: st) = _
  rw [runP_app, kb.2 fc (a.va fc :: st) (by show st.length + 1 + g ≤ 25; omega)]
  show (match pstep fc op (b.va fc :: a.va fc :: st) with | some st' => runP fc [] st' | none => none) = _
  unfold pstep
  rw [if_pos ho]
  rfl
def hN (l d : Nat) : Nat := (4 - l) + 4 * (4 - d) + 1
theorem jn_le (t : Tv) (x : Xv) (l : Nat) : ¬ -6 < jnX t x l := by
  unfold jnX
  repeat' split
  all_goals decide
theorem lf_op {t : Tv} {x : Xv} (hn : isN t x → ¬ nmX t x < 0) (h : ¬ lfX t x = -13) : -6 < lfX t x ∧ ¬ lfX t x = -5 := by
  unfold lfX at h ⊢
  split
  · rename_i q
    have := hn q
    refine ⟨Int32.not_le.mp (fun z => this (Int32.lt_of_le_of_lt z (by decide))), fun z => ?_⟩
    rw [z] at this
    exact this (by decide)
  · rename_i q1
    rw [if_neg q1] at h
    split
    · decide
    · rename_i q2
      rw [if_neg q2] at h
      split
      · decide
      · rename_i q3
        rw [if_neg q3] at h
        split
        · decide
        · rename_i q4
          rw [if_neg q4] at h
          split
          · decide
          · rename_i q5
            rw [if_neg q5] at h
            exact absurd rfl h
theorem pW_po {t : Tv} {sub : Xv → Rx} {l h : Nat} (hs : ∀ x', x'.2 ≤ t.1 → (sub x').1.2 ≤ t.1 ∧ ((sub x').1.1 = 0 → PO h (sub x').2)) : ∀ (n : Nat) (r : Rx), r.1.2 ≤ t.1 → (r.1.1 = 0 → PO (h + 1) r.2) → (pW t sub l n r).1.1 = 0 → PO (h + 1) (pW t sub l n r).2 := by
  intro n
  induction n with
  | zero => intro r _ hr h0; exact hr h0
  | succ n ih =>
    intro r hx hr h0
    have ha := (adv_le (t := t) hx).2
    rw [pW] at h0 ⊢
    split
    · rename_i hj
      rw [if_pos hj] at h0
      exact hr h0
    · rename_i hj
      rw [if_neg hj] at h0
      have h1 := (jn_ok hj).1
      have key : (sub (advX t r.1)).1.1 = 0 → PO (h + 1) (exBin (jnX t r.1 l) r.2 (sub (advX t r.1)).2) := fun q => (hr h1).bin ((hs _ ha).2 q) (Nat.le_refl _) (jn_le t r.1 l)
      split
      · rename_i hl
        rw [if_pos hl] at h0
        exact key h0
      · rename_i hl
        rw [if_neg hl] at h0
        exact ih _ (hs _ ha).1 key h0
theorem pN_po {t : Tv} (hI : TI t) (hn : ∀ x, isN t x → ¬ nmX t x < 0) : ∀ (b l d : Nat), l ≤ 4 → d ≤ 5 → need l d ≤ b → ∀ x, x.2 ≤ t.1 → (pN t b l d x).1.1 = 0 → d ≤ 4 ∧ PO (hN l d) (pN t b l d x).2 := by
  intro b
  induction b with
  | zero => intro l d hl hd hb; unfold need at hb; omega
  | succ b ih =>
    intro l d hl hd hb x hx h0
    unfold need at hb
    rw [pN] at h0 ⊢
    split
    · rename_i h4
      rw [if_pos h4] at h0
      obtain rfl : l = 4 := by omega
      unfold pP at h0 ⊢
      have ha := (adv_le (t := t) hx).2
      split
      · rename_i c1
        rw [if_pos c1] at h0
        exact absurd h0 (fail_nz (k := 1) (by decide) hx hI)
      · rename_i c1
        rw [if_neg c1] at h0
        split
        · rename_i c2
          rw [if_pos c2] at h0
          exact absurd h0 (fail_nz (k := 5) (by decide) hx hI)
        · rename_i c2
          rw [if_neg c2] at h0
          have e4 : hN 4 d = 4 * (4 - d) + 1 := by unfold hN; omega
          refine ⟨by omega, ?_⟩
          split
          · rename_i c3
            rw [if_pos c3] at h0
            obtain ⟨d1, k1⟩ := ih 4 (d + 1) (by omega) (by omega) (by unfold need; omega) _ ha h0
            exact (k1.not).mono (by unfold hN; omega)
          · rename_i c3
            rw [if_neg c3] at h0
            split
            · rename_i c5
              rw [if_pos c5] at h0
              have hl := (pN_ln hI b 0 (d + 1) (by omega) (by omega) (by unfold need; omega) _ ha)
              obtain ⟨d1, k1⟩ := ih 0 (d + 1) (by omega) (by omega) (by unfold need; omega) _ ha (tkS_0 h0 hl.2.1 hI).1
              exact (k1.par).mono (by unfold hN; omega)
            · rename_i c5
              obtain ⟨g1, g2⟩ := lf_op (hn x) (fun q => c1 ⟨q, c3, c5⟩)
              exact (PO.leaf g1 g2).mono (by unfold hN; omega)
    · rename_i h4
      rw [if_neg h4] at h0
      have hl := pN_ln hI b (l + 1) d (by omega) hd (by unfold need; omega) x hx
      have hz : (pN t b (l + 1) d x).1.1 = 0 := Classical.byContradiction (fun q => by rw [pW_f _ _ q] at h0; exact q h0)
      obtain ⟨d1, k1⟩ := ih (l + 1) d (by omega) hd (by unfold need; omega) x hx hz
      refine ⟨d1, ?_⟩
      rw [show hN l d = hN (l + 1) d + 1 from by unfold hN; omega]
      exact pW_po (fun x' hx' => ⟨(pN_ln hI b (l + 1) d (by omega) hd (by unfold need; omega) x' hx').2.1, fun q => (ih (l + 1) d (by omega) hd (by unfold need; omega) x' hx' q).2⟩) 1000 _ hl.2.1 (fun _ => k1.mono (by omega)) h0
end XPO
