section XGR
def lfX (t : Tv) (x : Xv) : Int32 := if isN t x then nmX t x else if isW t x 21 then -1 else if isW t x 22 then -2 else if isW t x 23 then -3 else if isW t x 24 then -4 else -13
def jnX (t : Tv) (x : Xv) (l : Nat) : Int32 := if l = 0 then (if isW t x 19 then -6 else if isW t x 20 then -7 else -13) else if l = 1 then (if isS t x 60 then -8 else if isS t x 61 then -9 else -13) else if l = 2 then (if isS t x 43 then -10 else if isS t x 45 then -11 else -13) else if isS t x 42 then -12 else -13
def exLeaf (c : Int32) : Ex := ([c], [if c = -1 then 1 else if c = -2 then 2 else if c = -3 then 3 else if c = -4 then 4 else 100 + c], fun fc => if c < 0 then fc (-1 - c).toNatClampNeg else c)
def exNot (e : Ex) : Ex := (e.po ++ [-5], 30 :: e.nf, fun fc => if e.va fc = 0 then 1 else 0)
def exPar (e : Ex) : Ex := (e.po, 28 :: (e.nf ++ [29]), e.va)
def exBin (op : Int32) (a b : Ex) : Ex := (a.po ++ (b.po ++ [op]), a.nf ++ ((if op = -6 then 26 else if op = -7 then 27 else if op = -8 then 24 else if op = -9 then 25 else if op = -10 then 20 else if op = -11 then 21 else 22) :: b.nf), fun fc => jnV op (a.va fc) (b.va fc))
abbrev Rx : Type := Xv × Ex
def pW (t : Tv) (sub : Xv → Rx) (l : Nat) : Nat → Rx → Rx
  | 0, r => r
  | n + 1, r => if jnX t r.1 l = -13 then r else if l = 1 then ((sub (advX t r.1)).1, exBin (jnX t r.1 l) r.2 (sub (advX t r.1)).2) else pW t sub l n ((sub (advX t r.1)).1, exBin (jnX t r.1 l) r.2 (sub (advX t r.1)).2)
def pP (t : Tv) (rec : Nat → Nat → Xv → Rx) (d : Nat) (x : Xv) : Rx :=
  if lfX t x = -13 ∧ ¬ isW t x 18 ∧ ¬ isS t x 40 then (failX t 1 x, exO)
  else if 5 ≤ d then (failX t 5 x, exO)
  else if isW t x 18 then ((rec 4 (d + 1) (advX t x)).1, exNot (rec 4 (d + 1) (advX t x)).2)
  else if isS t x 40 then (tkS t (rec 0 (d + 1) (advX t x)).1 41, exPar (rec 0 (d + 1) (advX t x)).2)
  else (advX t x, exLeaf (lfX t x))
def pN (t : Tv) : Nat → Nat → Nat → Xv → Rx
  | 0, _, _, x => (x, exO)
  | b + 1, l, d, x => if 4 ≤ l then pP t (pN t b) d x else pW t (pN t b (l + 1) d) l 1000 (pN t b (l + 1) d x)
theorem lv_eq : ∀ l, l < 5 → ∀ k, k < 5 → (nI l = nI k ↔ l = k) := by decide
theorem lf_f {t : Tv} {x : Xv} (h : ¬ x.1 = 0) : lfX t x = -13 := by
  unfold lfX
  rw [if_neg (fun q => h q.1), if_neg (fun q => h q.1), if_neg (fun q => h q.1), if_neg (fun q => h q.1), if_neg (fun q => h q.1)]
theorem jn_ok {t : Tv} {x : Xv} {l : Nat} (h : ¬ jnX t x l = -13) : x.1 = 0 ∧ ¬ kdX t x = 0 := by
  have key : ∀ {c : Prop} [Decidable c] {a b : Int32}, ¬ (if c then a else b) = -13 → c ∨ ¬ b = -13 := by
    intro c _ a b h
    by_cases hc : c
    · exact Or.inl hc
    · rw [if_neg hc] at h; exact Or.inr h
  have hw : ∀ {k}, isW t x k → x.1 = 0 ∧ ¬ kdX t x = 0 := fun q => ⟨q.1, by rw [q.2.1]; decide⟩
  have hs : ∀ {k}, isS t x k → x.1 = 0 ∧ ¬ kdX t x = 0 := fun q => ⟨q.1, by rw [q.2.1]; decide⟩
  unfold jnX at h
  split at h
  · rcases key h with q | q
    · exact hw q
    · rcases key q with q | q
      · exact hw q
      · exact absurd rfl q
  · split at h
    · rcases key h with q | q
      · exact hs q
      · rcases key q with q | q
        · exact hs q
        · exact absurd rfl q
    · split at h
      · rcases key h with q | q
        · exact hs q
        · rcases key q with q | q
          · exact hs q
          · exact absurd rfl q
      · rcases key h with q | q
        · exact hs q
        · exact absurd rfl q
theorem jn_f {t : Tv} {x : Xv} {l : Nat} (h : ¬ x.1 = 0) : jnX t x l = -13 := Classical.byContradiction (fun q => h (jn_ok q).1)
theorem adv_lt {t : Tv} {x : Xv} (h : x.2 ≤ t.1) (h0 : x.1 = 0) (hk : ¬ kdX t x = 0) : x.2 < (advX t x).2 := by
  unfold advX
  rw [if_pos h0]
  have h1 := pl_le h
  have h2 := enP_lt (kdP_lt hk)
  show x.2 < enP t (pl t x.2)
  omega
theorem tkS_1 {t : Tv} {x : Xv} {s : Int32} (h : ¬ x.1 = 0) : tkS t x s = x := by
  unfold tkS
  rw [if_neg (fun q => h q.1), fail_f h, adv_f h]
theorem pW_f {t : Tv} {sub : Xv → Rx} {l : Nat} : ∀ (n : Nat) (r : Rx), ¬ r.1.1 = 0 → pW t sub l n r = r := by
  intro n r h
  cases n with
  | zero => rfl
  | succ n => rw [pW, if_pos (jn_f h)]
/-- behind a fault nothing is read -/
theorem pN_f {t : Tv} : ∀ (b l d : Nat) (x : Xv), ¬ x.1 = 0 → pN t b l d x = (x, exO) := by
  intro b
  induction b with
  | zero => intro l d x _; rfl
  | succ b ih =>
    intro l d x h
    rw [pN]
    split
    · rw [pP, if_pos ⟨lf_f h, fun q => h q.1, fun q => h q.1⟩, fail_f h]
    · rw [ih _ _ _ h, pW_f _ _ h]
/-- how far a reader comes, how much it holds -/
def LN (t : Tv) (x : Xv) (r : Rx) : Prop := x.2 ≤ r.1.2 ∧ r.1.2 ≤ t.1 ∧ (r.1.1 = 0 → x.1 = 0 ∧ r.2.po.length + x.2 ≤ r.1.2 ∧ r.2.nf.length + x.2 ≤ r.1.2 ∧ 1 ≤ r.2.po.length ∧ 1 ≤ r.2.nf.length)
def need (l d : Nat) : Nat := (5 - d) * 6 + (5 - l)
theorem tkS_le {t : Tv} {x : Xv} {s : Int32} (h : x.2 ≤ t.1) : x.2 ≤ (tkS t x s).2 ∧ (tkS t x s).2 ≤ t.1 := by
  unfold tkS
  split
  · exact adv_le h
  · have := adv_le (t := t) (x := failX t 1 x) (by rw [fail_2]; exact h)
    rw [fail_2] at this
    exact this
theorem pW_ln {t : Tv} {sub : Xv → Rx} {l : Nat} {x : Xv} (hs : ∀ x', x'.2 ≤ t.1 → LN t x' (sub x')) : ∀ (n : Nat) (r : Rx), LN t x r → LN t x (pW t sub l n r) := by
  intro n
  induction n with
  | zero => intro r h; exact h
  | succ n ih =>
    intro r h
    rw [pW]
    split
    · exact h
    · rename_i hj
      obtain ⟨h0, hk⟩ := jn_ok hj
      have ha := adv_le (t := t) (x := r.1) h.2.1
      have hl := adv_lt h.2.1 h0 hk
      have h2 := hs (advX t r.1) ha.2
      have hb : LN t x ((sub (advX t r.1)).1, exBin (jnX t r.1 l) r.2 (sub (advX t r.1)).2) := by
        refine ⟨Nat.le_trans h.1 (Nat.le_trans ha.1 h2.1), h2.2.1, fun q => ?_⟩
        obtain ⟨g1, g2, g3, g4, g5⟩ := h2.2.2 q
        obtain ⟨k1, k2, k3, k4, k5⟩ := h.2.2 h0
        refine ⟨k1, ?_, ?_, ?_, ?_⟩
        · show (r.2.po ++ ((sub (advX t r.1)).2.po ++ [jnX t r.1 l])).length + x.2 ≤ _
          simp only [List.length_append, List.length_cons, List.length_nil]
          show _ ≤ (sub (advX t r.1)).1.2
          omega
        · show (r.2.nf ++ (_ :: (sub (advX t r.1)).2.nf)).length + x.2 ≤ _
          simp only [List.length_append, List.length_cons]
          show _ ≤ (sub (advX t r.1)).1.2
          omega
        · show 1 ≤ (r.2.po ++ ((sub (advX t r.1)).2.po ++ [jnX t r.1 l])).length
          simp only [List.length_append]
          omega
        · show 1 ≤ (r.2.nf ++ (_ :: (sub (advX t r.1)).2.nf)).length
          simp only [List.length_append]
          omega
      split
      · exact hb
      · exact ih _ hb
theorem lf_ok {t : Tv} {x : Xv} (h : ¬ lfX t x = -13) : x.1 = 0 ∧ ¬ kdX t x = 0 := by
  unfold lfX at h
  split at h
  · rename_i q; exact ⟨q.1, by rw [q.2]; decide⟩
  · split at h
    · rename_i q; exact ⟨q.1, by rw [q.2.1]; decide⟩
    · split at h
      · rename_i q; exact ⟨q.1, by rw [q.2.1]; decide⟩
      · split at h
        · rename_i q; exact ⟨q.1, by rw [q.2.1]; decide⟩
        · split at h
          · rename_i q; exact ⟨q.1, by rw [q.2.1]; decide⟩
          · exact absurd rfl h
theorem pP_ln {t : Tv} {rec : Nat → Nat → Xv → Rx} {d : Nat} {x : Xv} (hx : x.2 ≤ t.1) (hI : TI t) (h4 : d < 5 → ∀ x', x'.2 ≤ t.1 → LN t x' (rec 4 (d + 1) x')) (h0 : d < 5 → ∀ x', x'.2 ≤ t.1 → LN t x' (rec 0 (d + 1) x')) : LN t x (pP t rec d x) := by
  have ha := adv_le (t := t) hx
  unfold pP
  split
  · refine ⟨by rw [fail_2]; exact Nat.le_refl _, by rw [fail_2]; exact hx, fun q => absurd q (fail_nz (k := 1) (by decide) hx hI)⟩
  · rename_i hn
    split
    · refine ⟨by rw [fail_2]; exact Nat.le_refl _, by rw [fail_2]; exact hx, fun q => absurd q (fail_nz (k := 5) (by decide) hx hI)⟩
    · rename_i hd
      split
      · rename_i hw
        have hl := adv_lt hx hw.1 (by rw [hw.2.1]; decide)
        have h2 := h4 (by omega) (advX t x) ha.2
        refine ⟨Nat.le_trans ha.1 h2.1, h2.2.1, fun q => ?_⟩
        obtain ⟨g1, g2, g3, g4, g5⟩ := h2.2.2 q
        refine ⟨hw.1, ?_, ?_, ?_, ?_⟩
        · show ((rec 4 (d + 1) (advX t x)).2.po ++ [-5]).length + x.2 ≤ (rec 4 (d + 1) (advX t x)).1.2
          rw [List.length_append]
          show _ + 1 + x.2 ≤ _
          omega
        · show ((rec 4 (d + 1) (advX t x)).2.nf.length + 1) + x.2 ≤ (rec 4 (d + 1) (advX t x)).1.2
          omega
        · show 1 ≤ ((rec 4 (d + 1) (advX t x)).2.po ++ [-5]).length
          rw [List.length_append]
          omega
        · show 1 ≤ (rec 4 (d + 1) (advX t x)).2.nf.length + 1
          omega
      · split
        · rename_i hs
          have hl := adv_lt hx hs.1 (by rw [hs.2.1]; decide)
          have h2 := h0 (by omega) (advX t x) ha.2
          have h3 := tkS_le (s := 41) h2.2.1
          refine ⟨Nat.le_trans ha.1 (Nat.le_trans h2.1 h3.1), h3.2, fun q => ?_⟩
          have hq := tkS_0 q h2.2.1 hI
          have h5 := adv_lt h2.2.1 hq.1 (by rw [hq.2.1]; decide)
          have e : tkS t (rec 0 (d + 1) (advX t x)).1 41 = advX t (rec 0 (d + 1) (advX t x)).1 := by
            unfold tkS
            rw [if_pos hq]
          obtain ⟨g1, g2, g3, g4, g5⟩ := h2.2.2 hq.1
          refine ⟨hs.1, ?_, ?_, g4, ?_⟩
          · show (rec 0 (d + 1) (advX t x)).2.po.length + x.2 ≤ (tkS t (rec 0 (d + 1) (advX t x)).1 41).2
            rw [e]
            omega
          · show ((rec 0 (d + 1) (advX t x)).2.nf ++ [29]).length + 1 + x.2 ≤ (tkS t (rec 0 (d + 1) (advX t x)).1 41).2
            rw [e, List.length_append]
            show _ + 1 + 1 + x.2 ≤ _
            omega
          · show 1 ≤ ((rec 0 (d + 1) (advX t x)).2.nf ++ [29]).length + 1
            omega
        · rename_i hnw hns
          obtain ⟨g0, gk⟩ := lf_ok (fun q => hn ⟨q, hnw, hns⟩)
          have hl := adv_lt hx g0 gk
          exact ⟨ha.1, ha.2, fun _ => ⟨g0, by show 1 + x.2 ≤ (advX t x).2; omega, by show 1 + x.2 ≤ (advX t x).2; omega, Nat.le_refl 1, Nat.le_refl 1⟩⟩
theorem pN_ln {t : Tv} (hI : TI t) : ∀ (b l d : Nat), l ≤ 4 → d ≤ 5 → need l d ≤ b → ∀ x, x.2 ≤ t.1 → LN t x (pN t b l d x) := by
  intro b
  induction b with
  | zero => intro l d hl hd hb; unfold need at hb; omega
  | succ b ih =>
    intro l d hl hd hb x hx
    unfold need at hb
    rw [pN]
    split
    · exact pP_ln hx hI (fun q x' hx' => ih 4 (d + 1) (by omega) (by omega) (by unfold need; omega) x' hx') (fun q x' hx' => ih 0 (d + 1) (by omega) (by omega) (by unfold need; omega) x' hx')
    · exact pW_ln (fun x' hx' => ih (l + 1) d (by omega) hd (by unfold need; omega) x' hx') 1000 _ (ih (l + 1) d (by omega) hd (by unfold need; omega) x hx)
set_option maxHeartbeats 4000000 in
set_option maxRecDepth 20000 in
theorem c_leafHere {G : Gt} {M : Mm} {t : Tv} {x : Xv} (hG : TG M t x) : Call G 2 mX9_leafHere [.ref 6] M (eqQ (some (.int (lfX t x))) M) := by
  refine Call.intro rfl (Nat.le_of_ble_eq_true rfl) ?_
  show Ev G _ mX9_leafHere 0 [.ref 6] [] M _
  refine e_aload_n dX9_leafHere_0 rfl ?_
  refine cV0r dX9_leafHere_1 mo_X4_isNumber ml_X9_168 sh_tk rfl (Nat.le_of_ble_eq_true rfl) (by omega) (c_isNumber hG) ?_
  refine e_if_eq (tgt := 12) dX9_leafHere_4 (by decide) (fun c4 => ?_) (fun c4 => ?_)
  · -- 4 jumps
    refine e_aload_n dX9_leafHere_12 rfl ?_
    refine e_getW (i := 21) dX9_leafHere_13 (by decide) (mem_g 611 (by decide +kernel) rfl) ?_
    refine cV1r dX9_leafHere_16 mo_X4_isWord ml_X9_29 sh_tk rfl (Nat.le_of_ble_eq_true rfl) (by omega) (c_isWord (k := 21) hG (by decide)) ?_
    refine e_if_eq (tgt := 24) dX9_leafHere_19 (by decide) (fun c19 => ?_) (fun c19 => ?_)
    · -- 19 jumps
      refine e_aload_n dX9_leafHere_24 rfl ?_
      refine e_getW (i := 22) dX9_leafHere_25 (by decide) (mem_g 613 (by decide +kernel) rfl) ?_
      refine cV1r dX9_leafHere_28 mo_X4_isWord ml_X9_29 sh_tk rfl (Nat.le_of_ble_eq_true rfl) (by omega) (c_isWord (k := 22) hG (by decide)) ?_
      refine e_if_eq (tgt := 37) dX9_leafHere_31 (by decide) (fun c31 => ?_) (fun c31 => ?_)
      · -- 31 jumps
        refine e_aload_n dX9_leafHere_37 rfl ?_
        refine e_getW (i := 23) dX9_leafHere_38 (by decide) (mem_g 615 (by decide +kernel) rfl) ?_
        refine cV1r dX9_leafHere_41 mo_X4_isWord ml_X9_29 sh_tk rfl (Nat.le_of_ble_eq_true rfl) (by omega) (c_isWord (k := 23) hG (by decide)) ?_
        refine e_if_eq (tgt := 50) dX9_leafHere_44 (by decide) (fun c44 => ?_) (fun c44 => ?_)
        · -- 44 jumps
          refine e_aload_n dX9_leafHere_50 rfl ?_
          refine e_getW (i := 24) dX9_leafHere_51 (by decide) (mem_g 617 (by decide +kernel) rfl) ?_
          refine cV1r dX9_leafHere_54 mo_X4_isWord ml_X9_29 sh_tk rfl (Nat.le_of_ble_eq_true rfl) (by omega) (c_isWord (k := 24) hG (by decide)) ?_
          refine e_if_eq (tgt := 65) dX9_leafHere_57 (by decide) (fun c57 => ?_) (fun c57 => ?_)
          · -- 57 jumps
            refine e_bipush (v := (-13)) dX9_leafHere_65 (by decide) ?_
            refine e_iret dX9_leafHere_67 rfl ?_
            exact ⟨by unfold lfX; rw [if_neg (b2i_eq0.mp c4), if_neg (b2i_eq0.mp c19), if_neg (b2i_eq0.mp c31), if_neg (b2i_eq0.mp c44), if_neg (b2i_eq0.mp c57)], rfl⟩
          · -- 57 goes on
            refine e_bipush (v := (-4)) dX9_leafHere_60 (by decide) ?_
            refine e_goto (tgt := 67) dX9_leafHere_62 (by decide) ?_
            refine e_iret dX9_leafHere_67 rfl ?_
            exact ⟨by unfold lfX; rw [if_neg (b2i_eq0.mp c4), if_neg (b2i_eq0.mp c19), if_neg (b2i_eq0.mp c31), if_neg (b2i_eq0.mp c44), if_pos (Classical.not_not.mp (fun q => c57 (b2i_f q)))], rfl⟩
        · -- 44 goes on
          refine e_bipush (v := (-3)) dX9_leafHere_47 (by decide) ?_
          refine e_iret dX9_leafHere_49 rfl ?_
          exact ⟨by unfold lfX; rw [if_neg (b2i_eq0.mp c4), if_neg (b2i_eq0.mp c19), if_neg (b2i_eq0.mp c31), if_pos (Classical.not_not.mp (fun q => c44 (b2i_f q)))], rfl⟩
      · -- 31 goes on
        refine e_bipush (v := (-2)) dX9_leafHere_34 (by decide) ?_
        refine e_iret dX9_leafHere_36 rfl ?_
        exact ⟨by unfold lfX; rw [if_neg (b2i_eq0.mp c4), if_neg (b2i_eq0.mp c19), if_pos (Classical.not_not.mp (fun q => c31 (b2i_f q)))], rfl⟩
    · -- 19 goes on
      refine e_iconst (v := (-1)) dX9_leafHere_22 (by decide) ?_
      refine e_iret dX9_leafHere_23 rfl ?_
      exact ⟨by unfold lfX; rw [if_neg (b2i_eq0.mp c4), if_pos (Classical.not_not.mp (fun q => c19 (b2i_f q)))], rfl⟩
  · -- 4 goes on
    have hN : isN t x := (Classical.not_not.mp (fun q => c4 (b2i_f q)))
    refine e_aload_n dX9_leafHere_7 rfl ?_
    refine e_getI dX9_leafHere_8 fl_X9_171 sh_tk rfl ?_
    rw [(hG.ok hN.1).2.2.2.2.2.2.1 hN.2]
    refine e_iret dX9_leafHere_11 rfl ?_
    exact ⟨by unfold lfX; rw [if_pos (Classical.not_not.mp (fun q => c4 (b2i_f q)))], rfl⟩
set_option maxHeartbeats 4000000 in
set_option maxRecDepth 20000 in
theorem c_joinerHere {G : Gt} {M : Mm} {t : Tv} {x : Xv} (hG : TG M t x) {l : Nat} (hl : l < 5) : Call G 2 mX9_joinerHere [.ref 6, .int (nI l)] M (eqQ (some (.int (jnX t x l))) M) := by
  refine Call.intro rfl (Nat.le_of_ble_eq_true rfl) ?_
  show Ev G _ mX9_joinerHere 0 [.ref 6, .int (nI l)] [] M _
  refine e_iload_n dX9_joinerHere_0 rfl ?_
  refine e_if_ne (tgt := 37) dX9_joinerHere_1 (by decide) (fun c1 => ?_) (fun c1 => ?_)
  · -- 1 jumps
    refine e_iload_n dX9_joinerHere_37 rfl ?_
    refine e_iconst (v := 1) dX9_joinerHere_38 (by decide) ?_
    refine e_icmp_ne (tgt := 73) dX9_joinerHere_39 (by decide) (fun c39 => ?_) (fun c39 => ?_)
    · -- 39 jumps
      refine e_iload_n dX9_joinerHere_73 rfl ?_
      refine e_iconst (v := 2) dX9_joinerHere_74 (by decide) ?_
      refine e_icmp_ne (tgt := 109) dX9_joinerHere_75 (by decide) (fun c75 => ?_) (fun c75 => ?_)
      · -- 75 jumps
        refine e_aload_n dX9_joinerHere_109 rfl ?_
        refine e_bipush (v := 42) dX9_joinerHere_110 (by decide) ?_
        refine cV1r dX9_joinerHere_112 mo_X4_isSign ml_X9_198 sh_tk rfl (Nat.le_of_ble_eq_true rfl) (by omega) (c_isSign (s := 42) hG) ?_
        refine e_if_eq (tgt := 123) dX9_joinerHere_115 (by decide) (fun c115 => ?_) (fun c115 => ?_)
        · -- 115 jumps
          refine e_bipush (v := (-13)) dX9_joinerHere_123 (by decide) ?_
          refine e_iret dX9_joinerHere_125 rfl ?_
          exact ⟨by unfold jnX; rw [if_neg (fun q => c1 ((lv_eq l (by omega) 0 (by decide)).mpr q)), if_neg (fun q => c39 ((lv_eq l (by omega) 1 (by decide)).mpr q)), if_neg (fun q => c75 ((lv_eq l (by omega) 2 (by decide)).mpr q)), if_neg (b2i_eq0.mp c115)], rfl⟩
        · -- 115 goes on
          refine e_bipush (v := (-12)) dX9_joinerHere_118 (by decide) ?_
          refine e_goto (tgt := 125) dX9_joinerHere_120 (by decide) ?_
          refine e_iret dX9_joinerHere_125 rfl ?_
          exact ⟨by unfold jnX; rw [if_neg (fun q => c1 ((lv_eq l (by omega) 0 (by decide)).mpr q)), if_neg (fun q => c39 ((lv_eq l (by omega) 1 (by decide)).mpr q)), if_neg (fun q => c75 ((lv_eq l (by omega) 2 (by decide)).mpr q)), if_pos (Classical.not_not.mp (fun q => c115 (b2i_f q)))], rfl⟩
      · -- 75 goes on
        refine e_aload_n dX9_joinerHere_78 rfl ?_
        refine e_bipush (v := 43) dX9_joinerHere_79 (by decide) ?_
        refine cV1r dX9_joinerHere_81 mo_X4_isSign ml_X9_198 sh_tk rfl (Nat.le_of_ble_eq_true rfl) (by omega) (c_isSign (s := 43) hG) ?_
        refine e_if_eq (tgt := 92) dX9_joinerHere_84 (by decide) (fun c84 => ?_) (fun c84 => ?_)
        · -- 84 jumps
          refine e_aload_n dX9_joinerHere_92 rfl ?_
          refine e_bipush (v := 45) dX9_joinerHere_93 (by decide) ?_
          refine cV1r dX9_joinerHere_95 mo_X4_isSign ml_X9_198 sh_tk rfl (Nat.le_of_ble_eq_true rfl) (by omega) (c_isSign (s := 45) hG) ?_
          refine e_if_eq (tgt := 106) dX9_joinerHere_98 (by decide) (fun c98 => ?_) (fun c98 => ?_)
          · -- 98 jumps
            refine e_bipush (v := (-13)) dX9_joinerHere_106 (by decide) ?_
            refine e_iret dX9_joinerHere_108 rfl ?_
            exact ⟨by unfold jnX; rw [if_neg (fun q => c1 ((lv_eq l (by omega) 0 (by decide)).mpr q)), if_neg (fun q => c39 ((lv_eq l (by omega) 1 (by decide)).mpr q)), if_pos ((lv_eq l (by omega) 2 (by decide)).mp c75), if_neg (b2i_eq0.mp c84), if_neg (b2i_eq0.mp c98)], rfl⟩
          · -- 98 goes on
            refine e_bipush (v := (-11)) dX9_joinerHere_101 (by decide) ?_
            refine e_goto (tgt := 108) dX9_joinerHere_103 (by decide) ?_
            refine e_iret dX9_joinerHere_108 rfl ?_
            exact ⟨by unfold jnX; rw [if_neg (fun q => c1 ((lv_eq l (by omega) 0 (by decide)).mpr q)), if_neg (fun q => c39 ((lv_eq l (by omega) 1 (by decide)).mpr q)), if_pos ((lv_eq l (by omega) 2 (by decide)).mp c75), if_neg (b2i_eq0.mp c84), if_pos (Classical.not_not.mp (fun q => c98 (b2i_f q)))], rfl⟩
        · -- 84 goes on
          refine e_bipush (v := (-10)) dX9_joinerHere_87 (by decide) ?_
          refine e_goto (tgt := 108) dX9_joinerHere_89 (by decide) ?_
          refine e_iret dX9_joinerHere_108 rfl ?_
          exact ⟨by unfold jnX; rw [if_neg (fun q => c1 ((lv_eq l (by omega) 0 (by decide)).mpr q)), if_neg (fun q => c39 ((lv_eq l (by omega) 1 (by decide)).mpr q)), if_pos ((lv_eq l (by omega) 2 (by decide)).mp c75), if_pos (Classical.not_not.mp (fun q => c84 (b2i_f q)))], rfl⟩
    · -- 39 goes on
      refine e_aload_n dX9_joinerHere_42 rfl ?_
      refine e_bipush (v := 60) dX9_joinerHere_43 (by decide) ?_
      refine cV1r dX9_joinerHere_45 mo_X4_isSign ml_X9_198 sh_tk rfl (Nat.le_of_ble_eq_true rfl) (by omega) (c_isSign (s := 60) hG) ?_
      refine e_if_eq (tgt := 56) dX9_joinerHere_48 (by decide) (fun c48 => ?_) (fun c48 => ?_)
      · -- 48 jumps
        refine e_aload_n dX9_joinerHere_56 rfl ?_
        refine e_bipush (v := 61) dX9_joinerHere_57 (by decide) ?_
        refine cV1r dX9_joinerHere_59 mo_X4_isSign ml_X9_198 sh_tk rfl (Nat.le_of_ble_eq_true rfl) (by omega) (c_isSign (s := 61) hG) ?_
        refine e_if_eq (tgt := 70) dX9_joinerHere_62 (by decide) (fun c62 => ?_) (fun c62 => ?_)
        · -- 62 jumps
          refine e_bipush (v := (-13)) dX9_joinerHere_70 (by decide) ?_
          refine e_iret dX9_joinerHere_72 rfl ?_
          exact ⟨by unfold jnX; rw [if_neg (fun q => c1 ((lv_eq l (by omega) 0 (by decide)).mpr q)), if_pos ((lv_eq l (by omega) 1 (by decide)).mp c39), if_neg (b2i_eq0.mp c48), if_neg (b2i_eq0.mp c62)], rfl⟩
        · -- 62 goes on
          refine e_bipush (v := (-9)) dX9_joinerHere_65 (by decide) ?_
          refine e_goto (tgt := 72) dX9_joinerHere_67 (by decide) ?_
          refine e_iret dX9_joinerHere_72 rfl ?_
          exact ⟨by unfold jnX; rw [if_neg (fun q => c1 ((lv_eq l (by omega) 0 (by decide)).mpr q)), if_pos ((lv_eq l (by omega) 1 (by decide)).mp c39), if_neg (b2i_eq0.mp c48), if_pos (Classical.not_not.mp (fun q => c62 (b2i_f q)))], rfl⟩
      · -- 48 goes on
        refine e_bipush (v := (-8)) dX9_joinerHere_51 (by decide) ?_
        refine e_goto (tgt := 72) dX9_joinerHere_53 (by decide) ?_
        refine e_iret dX9_joinerHere_72 rfl ?_
        exact ⟨by unfold jnX; rw [if_neg (fun q => c1 ((lv_eq l (by omega) 0 (by decide)).mpr q)), if_pos ((lv_eq l (by omega) 1 (by decide)).mp c39), if_pos (Classical.not_not.mp (fun q => c48 (b2i_f q)))], rfl⟩
  · -- 1 goes on
    refine e_aload_n dX9_joinerHere_4 rfl ?_
    refine e_getW (i := 19) dX9_joinerHere_5 (by decide) (mem_g 638 (by decide +kernel) rfl) ?_
    refine cV1r dX9_joinerHere_8 mo_X4_isWord ml_X9_29 sh_tk rfl (Nat.le_of_ble_eq_true rfl) (by omega) (c_isWord (k := 19) hG (by decide)) ?_
    refine e_if_eq (tgt := 19) dX9_joinerHere_11 (by decide) (fun c11 => ?_) (fun c11 => ?_)
    · -- 11 jumps
      refine e_aload_n dX9_joinerHere_19 rfl ?_
      refine e_getW (i := 20) dX9_joinerHere_20 (by decide) (mem_g 640 (by decide +kernel) rfl) ?_
      refine cV1r dX9_joinerHere_23 mo_X4_isWord ml_X9_29 sh_tk rfl (Nat.le_of_ble_eq_true rfl) (by omega) (c_isWord (k := 20) hG (by decide)) ?_
      refine e_if_eq (tgt := 34) dX9_joinerHere_26 (by decide) (fun c26 => ?_) (fun c26 => ?_)
      · -- 26 jumps
        refine e_bipush (v := (-13)) dX9_joinerHere_34 (by decide) ?_
        refine e_iret dX9_joinerHere_36 rfl ?_
        exact ⟨by unfold jnX; rw [if_pos ((lv_eq l (by omega) 0 (by decide)).mp c1), if_neg (b2i_eq0.mp c11), if_neg (b2i_eq0.mp c26)], rfl⟩
      · -- 26 goes on
        refine e_bipush (v := (-7)) dX9_joinerHere_29 (by decide) ?_
        refine e_goto (tgt := 36) dX9_joinerHere_31 (by decide) ?_
        refine e_iret dX9_joinerHere_36 rfl ?_
        exact ⟨by unfold jnX; rw [if_pos ((lv_eq l (by omega) 0 (by decide)).mp c1), if_neg (b2i_eq0.mp c11), if_pos (Classical.not_not.mp (fun q => c26 (b2i_f q)))], rfl⟩
    · -- 11 goes on
      refine e_bipush (v := (-6)) dX9_joinerHere_14 (by decide) ?_
      refine e_goto (tgt := 36) dX9_joinerHere_16 (by decide) ?_
      refine e_iret dX9_joinerHere_36 rfl ?_
      exact ⟨by unfold jnX; rw [if_pos ((lv_eq l (by omega) 0 (by decide)).mp c1), if_pos (Classical.not_not.mp (fun q => c11 (b2i_f q)))], rfl⟩
end XGR
