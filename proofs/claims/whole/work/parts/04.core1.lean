/-! PM: a judgement over bare values: 'Ev' (from a place in a method the machine comes to the method's return, and Q holds) and 'Call' (a method's contract), over ONE picture of all cells of class and reference -/
section PM
/-- memory: ints (booleans too), longs, references, each by cell and slot -/
abbrev Mm : Type := (Nat → Nat → Int32) × (Nat → Nat → Int64) × (Nat → Nat → Nat)
abbrev Mi : Type := MethodName × ByteArray × Nat × Option FieldType
/-- what is fixed: launch, class ids and slots, array classes, addresses, the script's length and ints -/
abbrev Gt : Type := Launch × va_G × (Nat → ClassId) × (Nat → Nat) × Nat × (Nat → Int32)
abbrev Gt.ad (G : Gt) : Nat → Nat := G.2.2.2.1
abbrev Gt.cA (G : Gt) : Nat → ClassId := G.2.2.1
abbrev Gt.D (G : Gt) : va_G := G.2.1
abbrev Gt.L (G : Gt) : Nat := G.2.2.2.2.1
abbrev Gt.xs (G : Gt) : Nat → Int32 := G.2.2.2.2.2
def setI (M : Mm) (i k : Nat) (v : Int32) : Mm := (fun j q => if j = i ∧ q = k then v else M.1 j q, M.2)
def setL (M : Mm) (i k : Nat) (v : Int64) : Mm := (M.1, fun j q => if j = i ∧ q = k then v else M.2.1 j q, M.2.2)
def setP (M : Mm) (i k : Nat) (v : Nat) : Mm := (M.1, M.2.1, fun j q => if j = i ∧ q = k then v else M.2.2 j q)
def isNest (w : Cond) : Bool := match w with
  | .fieldLinkNest .. => true
  | .methodLinkNest .. => true
  | _ => false
def lw_g : List Cond := lw_tbl.filter goodWord
def nwl : List Cond := tables_1.filter isNest
def wsm (mi : Mi) : List Cond := .code mi.1 mi.2.1 mi.2.2.1 mi.2.2.2 :: lw_g
theorem mem_g {w : Cond} (i : Nat) (h : tables_1[i]? = some w) (hg : goodWord w = true) : w ∈ lw_g := List.mem_filter.mpr ⟨List.mem_append_right _ (List.mem_of_getElem? h), hg⟩
theorem mem_n {w : Cond} (i : Nat) (h : tables_1[i]? = some w) (hg : isNest w = true) : w ∈ nwl := List.mem_filter.mpr ⟨List.mem_of_getElem? h, hg⟩
theorem goodIn_wsm (mi mi' : Mi) (h : Cond.code mi'.1 mi'.2.1 mi'.2.2.1 mi'.2.2.2 ∈ lw_g) : GoodIn (wsm mi) (wsm mi') := by
  intro w hw
  have hw' : w ∈ lw_g := by
    rcases List.mem_cons.mp hw with e | e
    · rw [e]; exact h
    · exact e
  exact ⟨List.mem_cons_of_mem _ hw', good_of_word (List.mem_filter.mp hw').2⟩
/-- values in the machine -/
def tv (ad : Nat → Nat) : Value → Value
  | .ref i => .ref (ad i)
  | v => v
theorem tv_cat (ad : Nat → Nat) (v : Value) : (tv ad v).category = v.category := by cases v <;> rfl
def isRA : Value → Bool
  | .retAddr _ => true
  | _ => false
abbrev RA : Value := .retAddr 0
/-- the locals -/
def lqF (ad : Nat → Nat) : Nat → List Value → List (Nat × Value)
  | _, [] => []
  | i, v :: vs => if isRA v = true then lqF ad (i + 1) vs else (i, tv ad v) :: lqF ad (i + 1) vs
def lr (ad : Nat → Nat) (lsA : Array Slot) (nL : Nat) (ls : List Value) : Prop := ls.length = nL ∧ lv_has lsA nL (lqF ad 0 ls)
theorem lqF_mem {ad : Nat → Nat} {j : Nat} {w : Value} : ∀ (ls : List Value) (i : Nat), (j, w) ∈ lqF ad i ls ↔ ∃ v, i ≤ j ∧ ls[j - i]? = some v ∧ isRA v = false ∧ w = tv ad v := by
  intro ls
  induction ls with
  | nil => intro i; simp [lqF]
  | cons u us ih =>
    intro i
    by_cases hji : j = i
    · subst hji
      have hn : ¬ ∃ v, j + 1 ≤ j ∧ us[j - (j + 1)]? = some v ∧ isRA v = false ∧ w = tv ad v := by rintro ⟨v, h, -⟩; omega
      by_cases hu : isRA u = true
      · simp only [lqF, hu, if_true, ih, Nat.sub_self, List.getElem?_cons_zero, Option.some.injEq]
        refine ⟨fun h => absurd h hn, ?_⟩
        rintro ⟨v, -, rfl, h2, -⟩
        rw [hu] at h2; cases h2
      · have hu' : isRA u = false := by simpa using hu
        rw [lqF, if_neg hu, List.mem_cons, ih]
        constructor
        · rintro (h | h)
          · cases h; exact ⟨u, Nat.le_refl _, by simp, hu', rfl⟩
          · exact absurd h hn
        · rintro ⟨v, -, h1, -, rfl⟩
          rw [Nat.sub_self, List.getElem?_cons_zero] at h1
          cases h1
          exact Or.inl rfl
    · have hkey : (∃ v, i + 1 ≤ j ∧ us[j - (i + 1)]? = some v ∧ isRA v = false ∧ w = tv ad v) ↔ ∃ v, i ≤ j ∧ (u :: us)[j - i]? = some v ∧ isRA v = false ∧ w = tv ad v := by
        constructor
        · rintro ⟨v, h1, h2, h3⟩
          refine ⟨v, by omega, ?_, h3⟩
          rw [show j - i = (j - (i + 1)) + 1 by omega, List.getElem?_cons_succ]
          exact h2
        · rintro ⟨v, h1, h2, h3⟩
          refine ⟨v, by omega, ?_, h3⟩
          rw [show j - i = (j - (i + 1)) + 1 by omega, List.getElem?_cons_succ] at h2
          exact h2
      rw [← hkey]
      by_cases hu : isRA u = true
      · rw [lqF, if_pos hu, ih]
      · rw [lqF, if_neg hu, List.mem_cons, ih]
        constructor
        · rintro (h | h)
          · cases h; exact absurd rfl hji
          · exact h
        · exact Or.inr
theorem lr_at {ad : Nat → Nat} {lsA : Array Slot} {nL : Nat} {ls : List Value} (h : lr ad lsA nL ls) {i : Nat} {v : Value} (hv : ls[i]? = some v) (hr : isRA v = false) : lsA[i]? = some (.val (tv ad v)) :=
  h.2.2.2 (i, tv ad v) ((lqF_mem ls 0).mpr ⟨v, Nat.zero_le _, by simpa using hv, hr, rfl⟩)
/-- a store of one word, of two words -/
def stI (ls : List Value) (i : Nat) (v : Value) : List Value := (match i with
  | 0 => ls
  | j + 1 => if (ls.getD j .null).category = 2 then ls.set j RA else ls).set i v
def stL (ls : List Value) (i : Nat) (v : Value) : List Value := (stI ls i v).set (i + 1) RA
theorem stI_len (ls : List Value) (i : Nat) (v : Value) : (stI ls i v).length = ls.length := by
  unfold stI
  rw [List.length_set]
  split
  · rfl
  · split <;> simp
theorem stI_get {ls : List Value} {i j : Nat} {v u : Value} (h : (stI ls i v)[j]? = some u) (hu : isRA u = false) : (j = i ∧ u = v) ∨ (j ≠ i ∧ ls[j]? = some u ∧ ¬ (j + 1 = i ∧ u.category = 2)) := by
  by_cases hji : j = i
  · subst hji
    unfold stI at h
    rw [List.getElem?_set_self'] at h
    left
    refine ⟨rfl, ?_⟩
    cases hx : (match j with | 0 => ls | q + 1 => if (ls.getD q .null).category = 2 then ls.set q RA else ls)[j]? with
    | none => rw [hx] at h; simp at h
    | some y => rw [hx] at h; simp at h; exact h.symm
  · right
    refine ⟨hji, ?_⟩
    unfold stI at h
    rw [List.getElem?_set_ne (fun e => hji e.symm)] at h
    cases i with
    | zero => exact ⟨h, by rintro ⟨h1, -⟩; omega⟩
    | succ q =>
      dsimp only at h
      by_cases hc : (ls.getD q .null).category = 2
      · rw [if_pos hc] at h
        by_cases hjq : j = q
        · subst hjq
          rw [List.getElem?_set_self'] at h
          cases hx : ls[j]? with
          | none => rw [hx] at h; simp at h
          | some y => rw [hx] at h; simp at h; rw [← h] at hu; cases hu
        · rw [List.getElem?_set_ne (fun e => hjq e.symm)] at h
          exact ⟨h, by rintro ⟨h1, -⟩; omega⟩
      · rw [if_neg hc] at h
        refine ⟨h, ?_⟩
        rintro ⟨h1, h2⟩
        have : j = q := by omega
        subst this
        rw [List.getD_eq_getElem?_getD, h] at hc
        exact hc h2
theorem lr_stI {ad : Nat → Nat} {lsA : Array Slot} {nL i : Nat} {ls : List Value} {v : Value} (hl : ls.length = nL)
    (h : lv_has lsA nL ((i, tv ad v) :: (lqF ad 0 ls).filter (fun q => !(q.1 == i) && !(q.1 + 1 == i && q.2.category == 2)))) : lr ad lsA nL (stI ls i v) := by
  refine ⟨by rw [stI_len, hl], h.1, h.2.1, ?_⟩
  rintro ⟨j, w⟩ hq
  obtain ⟨u, -, h1, h2, rfl⟩ := (lqF_mem _ 0).mp hq
  refine h.2.2 (j, tv ad u) ?_
  rcases stI_get (by simpa using h1) h2 with ⟨rfl, rfl⟩ | ⟨h3, h4, h5⟩
  · exact List.mem_cons_self
  · refine List.mem_cons_of_mem _ (List.mem_filter.mpr ⟨(lqF_mem ls 0).mpr ⟨u, Nat.zero_le _, by simpa using h4, h2, rfl⟩, ?_⟩)
    simp only [tv_cat]
    simp [h3]
    omega
theorem lr_stL {ad : Nat → Nat} {lsA : Array Slot} {nL i : Nat} {ls : List Value} {v : Value} (hl : ls.length = nL)
    (h : lv_has lsA nL ((i, tv ad v) :: (lqF ad 0 ls).filter (fun q => !(q.1 == i) && (!(q.1 == i + 1) && !(q.1 + 1 == i && q.2.category == 2))))) : lr ad lsA nL (stL ls i v) := by
  refine ⟨by rw [stL, List.length_set, stI_len, hl], h.1, h.2.1, ?_⟩
  rintro ⟨j, w⟩ hq
  obtain ⟨u, -, h1, h2, rfl⟩ := (lqF_mem _ 0).mp hq
  refine h.2.2 (j, tv ad u) ?_
  rw [Nat.sub_zero] at h1
  unfold stL at h1
  by_cases hj1 : j = i + 1
  · subst hj1
    rw [List.getElem?_set_self'] at h1
    cases hx : (stI ls i v)[i + 1]? with
    | none => rw [hx] at h1; simp at h1
    | some y => rw [hx] at h1; simp at h1; rw [← h1] at h2; cases h2
  · rw [List.getElem?_set_ne (fun e => hj1 e.symm)] at h1
    rcases stI_get h1 h2 with ⟨rfl, rfl⟩ | ⟨h3, h4, h5⟩
    · exact List.mem_cons_self
    · refine List.mem_cons_of_mem _ (List.mem_filter.mpr ⟨(lqF_mem ls 0).mpr ⟨u, Nat.zero_le _, by simpa using h4, h2, rfl⟩, ?_⟩)
      simp only [tv_cat]
      simp [h3, hj1]
      omega
/-- the locals at a method's entry -/
def entA : List Value → List Value
  | [] => []
  | v :: vs => if v.category = 2 then v :: RA :: entA vs else v :: entA vs
def entL (as : List Value) (nL : Nat) : List Value := entA as ++ List.replicate (nL - (entA as).length) RA
theorem lqF_rep (ad : Nat → Nat) (n i : Nat) : lqF ad i (List.replicate n RA) = [] := by
  induction n generalizing i with
  | zero => rfl
  | succ n ih => rw [List.replicate_succ, lqF, if_pos (by rfl), ih]
theorem lqF_ent (ad : Nat → Nat) (n : Nat) : ∀ (as : List Value) (i : Nat) (q : Nat × Value), q ∈ lqF ad i (entA as ++ List.replicate n RA) → q ∈ lv_args i (as.map (tv ad)) := by
  intro as
  induction as with
  | nil => intro i q h; rw [entA, List.nil_append, lqF_rep] at h; cases h
  | cons v vs ih =>
    intro i q h
    rw [entA] at h
    rw [List.map_cons, lv_args, tv_cat]
    by_cases hc : v.category = 2
    · rw [if_pos hc] at h
      rw [if_pos hc]
      rw [List.cons_append, List.cons_append, lqF] at h
      by_cases hr : isRA v = true
      · rw [if_pos hr, lqF, if_pos (by rfl)] at h
        exact List.mem_cons_of_mem _ (ih _ q h)
      · rw [if_neg hr, lqF, if_pos (by rfl)] at h
        rcases List.mem_cons.mp h with e | e
        · rw [e]; exact List.mem_cons_self
        · exact List.mem_cons_of_mem _ (ih _ q e)
    · rw [if_neg hc] at h
      rw [if_neg hc]
      rw [List.cons_append, lqF] at h
      by_cases hr : isRA v = true
      · rw [if_pos hr] at h
        exact List.mem_cons_of_mem _ (ih _ q h)
      · rw [if_neg hr] at h
        rcases List.mem_cons.mp h with e | e
        · rw [e]; exact List.mem_cons_self
        · exact List.mem_cons_of_mem _ (ih _ q e)
theorem entA_len (ad : Nat → Nat) (as : List Value) : (lg_sl (as.map (tv ad))).length = (entA as).length := by
  induction as with
  | nil => rfl
  | cons v vs ih =>
    have h1 : lg_sl ((v :: vs).map (tv ad)) = (if (tv ad v).category = 2 then [Slot.val (tv ad v), .second] else [.val (tv ad v)]) ++ lg_sl (vs.map (tv ad)) := by
      simp [lg_sl]
    rw [h1, List.length_append, ih, entA, tv_cat]
    by_cases hc : v.category = 2
    · rw [if_pos hc, if_pos hc]; simp; omega
    · rw [if_neg hc, if_neg hc]; simp; omega
theorem lr_ent (ad : Nat → Nat) (as : List Value) {nL : Nat} (h : (entA as).length ≤ nL) : lr ad ((lg_sl (as.map (tv ad)) ++ List.replicate (nL - (lg_sl (as.map (tv ad))).length) Slot.unset).toArray) nL (entL as nL) := by
  have h1 := lv_entry (as.map (tv ad)) (n := nL) (by rw [entA_len]; exact h)
  refine ⟨by simp [entL]; omega, h1.1, h1.2.1, fun q hq => h1.2.2 q (lqF_ent ad _ as 0 q hq)⟩
end PM
