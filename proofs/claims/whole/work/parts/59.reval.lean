section REV
/-- how a joiner stands in the reference's law -/
def opC (op : Int32) : Int32 := if op = -6 then 26 else if op = -7 then 27 else if op = -8 then 24 else if op = -9 then 25 else if op = -10 then 20 else if op = -11 then 21 else 22
def opL (l : Nat) (op : Int32) : Prop := (l = 0 ∧ (op = -6 ∨ op = -7)) ∨ (l = 1 ∧ (op = -8 ∨ op = -9)) ∨ (l = 2 ∧ (op = -10 ∨ op = -11)) ∨ (l = 3 ∧ op = -12)
/-- a law as it stands, well built, at a level and a depth, and what it says -/
def wfX : Nat → Nat → Nat → List Int32 → ((Nat → Int32) → Int32) → Prop
  | 0, _, _, _, _ => False
  | b + 1, l, d, nf, va =>
    (l = 4 ∧ d ≤ 4 ∧ ((∃ q, q < 4 ∧ nf = [nI (q + 1)] ∧ ∀ fc, va fc = fc q) ∨ (∃ m, m ≤ 9999 ∧ nf = [nI (100 + m)] ∧ ∀ fc, va fc = nI m) ∨
      (∃ nf1 va1, wfX b 4 (d + 1) nf1 va1 ∧ nf = 30 :: nf1 ∧ ∀ fc, va fc = if va1 fc = 0 then 1 else 0) ∨ (∃ nf1 va1, wfX b 0 (d + 1) nf1 va1 ∧ nf = 28 :: (nf1 ++ [29]) ∧ ∀ fc, va fc = va1 fc))) ∨
    (l ≤ 3 ∧ (wfX b (l + 1) d nf va ∨ ∃ op nf1 va1 nf2 va2, opL l op ∧ (if l = 1 then wfX b 2 d nf1 va1 else wfX b l d nf1 va1) ∧ wfX b (l + 1) d nf2 va2 ∧ nf = nf1 ++ opC op :: nf2 ∧ ∀ fc, va fc = jnV op (va1 fc) (va2 fc)))
def sgm (cd : Nat → Int32) : Nat → List Int32 → Prop
  | _, [] => True
  | p, c :: cs => cd p = c ∧ sgm cd (p + 1) cs
theorem sgm_app {cd : Nat → Int32} : ∀ (a b : List Int32) (p : Nat), sgm cd p (a ++ b) → sgm cd p a ∧ sgm cd (p + a.length) b := by
  intro a
  induction a with
  | nil => intro b p h; exact ⟨trivial, h⟩
  | cons c cs ih =>
    intro b p h
    obtain ⟨h1, h2⟩ := ih b (p + 1) h.2
    exact ⟨⟨h.1, h1⟩, by rw [List.length_cons, show p + (cs.length + 1) = p + 1 + cs.length by omega]; exact h2⟩
abbrev Hd (G : Gt) (Q : Option Value → Mm → Prop) (pc d p : Nat) (u4 u5 : Value) (M : Mm) : Prop := Ev G 3 mX11_worked pc [.ref 238, .int 0, .int (nI d), .int (nI p), u4, u5] [] M Q
def KN (lo d : Nat) (M M' : Mm) : Prop := ∀ q k, 255 ≤ q → q ≤ 263 → k ≤ d → ¬ (k = d ∧ lo ≤ q ∧ q ≤ 262) → M'.1 q k = M.1 q k
theorem KN.rfl' {lo d : Nat} {M : Mm} : KN lo d M M := fun _ _ _ _ _ _ => rfl
theorem KN.trans {lo d : Nat} {A B C : Mm} (h : KN lo d A B) (k : KN lo d B C) : KN lo d A C := fun q z a b c e => (k q z a b c e).trans (h q z a b c e)
theorem KN.mono {lo lo' d : Nat} {A B : Mm} (h : KN lo d A B) (hl : lo' ≤ lo) : KN lo' d A B := fun q z a b c e => h q z a b c (by omega)
theorem KN.up {lo lo' d : Nat} {A B : Mm} (h : KN lo (d + 1) A B) : KN lo' d A B := fun q z a b c e => h q z a b (by omega) (by omega)
theorem KN.i {lo d c k : Nat} {v : Int32} {M Mc : Mm} (h : KN lo d M Mc) (hc : (lo ≤ c ∧ c ≤ 262 ∧ k = d) ∨ d < k) : KN lo d M (setI Mc c k v) := fun q z a b e n => by
  rw [setI_1, if_neg (fun x => by omega)]; exact h q z a b e n
theorem KN.op {lo d k : Nat} {M Mc : Mm} (h : KN lo d M Mc) (hk : d < k) : KN lo d M (opM Mc k) := ((((h.i (Or.inr hk)).i (Or.inr hk)).i (Or.inr hk)).i (Or.inr hk)).i (Or.inr hk)
theorem KN.sm {lo d k : Nat} {M Mc : Mm} (h : KN lo d M Mc) (hk : (lo ≤ 259 ∧ k = d) ∨ d < k) : KN lo d M (smM Mc k) := (h.i (by omega)).i (by omega)
theorem KN.te {lo d k : Nat} {M Mc : Mm} (h : KN lo d M Mc) (hk : (lo ≤ 255 ∧ k = d) ∨ d < k) : KN lo d M (teM Mc k) := ((((h.sm (by omega)).i (by omega)).i (by omega)).i (by omega)).i (by omega)
def pr3 (d : Nat) (M : Mm) : Prop := M.1 262 d = 0 ∧ (d = 0 ∨ ¬ M.1 263 d = 1)
def pr2 (d : Nat) (M : Mm) : Prop := pr3 d M ∧ M.1 260 d = 20 ∧ M.1 259 d = 0
def pr1 (d : Nat) (M : Mm) : Prop := pr2 d M ∧ M.1 258 d = 0
def pr0 (d : Nat) (M : Mm) : Prop := pr1 d M ∧ M.1 256 d = 0
def prL (l d : Nat) (M : Mm) : Prop := if l = 0 then pr0 d M else if l = 1 then pr1 d M else if l = 2 then pr2 d M else pr3 d M
def poL (l d : Nat) (M : Mm) (v : Int32) : Prop := if l = 0 then avl M d = v else if l = 1 then tvl M d = v else if l = 2 then pnd M d = v else M.1 261 d = v
def loL (l : Nat) : Nat := if l = 0 then 255 else if l = 1 then 257 else if l = 2 then 259 else 261
def EP4 (G : Gt) (Q : Option Value → Mm → Prop) (M0 : Mm) (fc : Nat → Int32) (t d : Nat) (nf : List Int32) (va : (Nat → Int32) → Int32) : Prop :=
  ∀ (p : Nat) (M : Mm) (u4 u5 : Value), WE M0 M → sgm (M0.1 252) p nf → p + nf.length ≤ t → (∀ (M' : Mm) (a : Int32) (p' : Nat), p' + 1 = p + nf.length → WE M0 M' → KN 263 d M M' → Hd G Q 268 d p' (.int a) (.int (va fc)) M') → Hd G Q 14 d p u4 u5 M
def EPL (G : Gt) (Q : Option Value → Mm → Prop) (M0 : Mm) (fc : Nat → Int32) (t l d : Nat) (nf : List Int32) (va : (Nat → Int32) → Int32) : Prop :=
  ∀ (p : Nat) (M : Mm) (u4 u5 : Value), WE M0 M → sgm (M0.1 252) p nf → p + nf.length ≤ t → prL l d M → (∀ (M' : Mm) (a b : Value), WE M0 M' → KN (loL l) d M M' → poL l d M' (va fc) → Hd G Q 14 d (p + nf.length) a b M') → Hd G Q 14 d p u4 u5 M
/-- what a law's evaluation stands on -/
def EB (M0 : Mm) (fc : Nat → Int32) (t : Nat) : Prop := t ≤ 1000 ∧ M0.1 251 0 = nI t ∧ ∀ q, q < 4 → M0.1 264 (q + 1) = fc q
theorem WE.to {M0 M : Mm} {fc : Nat → Int32} {t : Nat} (h : WE M0 M) (hB : EB M0 fc t) : M.1 251 0 = nI t := by rw [h.2 251 (by decide)]; exact hB.2.1
theorem WE.cd {M0 M : Mm} (h : WE M0 M) : M.1 252 = M0.1 252 := h.2 252 (by decide)
/-- the value comes to its term -/
theorem s_term {G : Gt} {M : Mm} {Q : Option Value → Mm → Prop} {d p : Nat} {u4 v : Int32} (hd : d ≤ 5) (hb : d = 0 ∨ ¬ M.1 263 d = 1) (k : ∀ a b, Hd G Q 14 d (p + 1) a b (setI M 261 d (if M.1 262 d = 0 then v else M.1 261 d * v))) : Hd G Q 268 d p (.int u4) (.int v) M := by
  rcases Nat.eq_zero_or_pos d with e | e
  · exact s_term0 hd e k
  · exact s_term1 hd e (hb.resolve_left (by omega)) k
theorem jn6 (a b : Int32) : jnV (-6) a b = b2i (¬ a = 0 ∧ ¬ b = 0) := rfl
theorem jn7 (a b : Int32) : jnV (-7) a b = b2i (¬ a = 0 ∨ ¬ b = 0) := rfl
theorem jn8 (a b : Int32) : jnV (-8) a b = b2i (a < b) := rfl
theorem jn9 (a b : Int32) : jnV (-9) a b = b2i (a = b) := rfl
theorem jn10 (a b : Int32) : jnV (-10) a b = a + b := rfl
theorem jn11 (a b : Int32) : jnV (-11) a b = a - b := rfl
theorem jn12 (a b : Int32) : jnV (-12) a b = a * b := rfl
section
variable {G : Gt} {Q : Option Value → Mm → Prop} {M0 : Mm} {fc : Nat → Int32} {t : Nat}
theorem ep_fact {d q : Nat} {va : (Nat → Int32) → Int32} (hB : EB M0 fc t) (hd : d ≤ 5) (hq : q < 4) (hv : ∀ fc, va fc = fc q) : EP4 G Q M0 fc t d [nI (q + 1)] va := by
  intro p M u4 u5 hW hs hl k
  have hl' : p + 1 ≤ t := hl
  refine s_fact (z := q + 1) hB.1 (by omega) (hW.to hB) hd (by omega) (by rw [hW.cd]; exact hs.1) (fun a => ?_)
  have h := k M a p rfl hW KN.rfl'
  rw [hv fc, ← hB.2.2 q hq, ← hW.2 264 (by decide)] at h
  exact h
theorem ep_num {d m : Nat} {va : (Nat → Int32) → Int32} (hB : EB M0 fc t) (hd : d ≤ 5) (hm : m ≤ 9999) (hv : ∀ fc, va fc = nI m) : EP4 G Q M0 fc t d [nI (100 + m)] va := by
  intro p M u4 u5 hW hs hl k
  have hl' : p + 1 ≤ t := hl
  refine s_num (z := 100 + m) (m := m) hB.1 (by omega) (hW.to hB) hd ⟨rfl, hm⟩ (by rw [hW.cd]; exact hs.1) (fun a => ?_)
  have h := k M a p rfl hW KN.rfl'
  rw [hv fc] at h
  exact h
theorem ep_not {d : Nat} {nf1 : List Int32} {va va1 : (Nat → Int32) → Int32} (hB : EB M0 fc t) (hd : d ≤ 4) (ih : EP4 G Q M0 fc t (d + 1) nf1 va1) (hv : ∀ fc, va fc = if va1 fc = 0 then 1 else 0) : EP4 G Q M0 fc t d (30 :: nf1) va := by
  intro p M u4 u5 hW hs hl k
  have hl' : p + (nf1.length + 1) ≤ t := hl
  refine s_30 hB.1 (by omega) (hW.to hB) (by omega) (by rw [hW.cd]; exact hs.1) hd (fun a b => ?_)
  refine ih (p + 1) _ a b ((hW.i 263 (d + 1) 1 (by decide)).op (d + 1)) hs.2 (by omega) (fun M' a p' hp hW' hK => ?_)
  have hb : M'.1 263 (d + 1) = 1 := by rw [hK 263 (d + 1) (by decide) (by decide) (by omega) (by omega)]; simp [opM, setI_1]
  refine s_pop (by omega) hb (fun a => ?_)
  have h := k M' a p' (by rw [List.length_cons]; omega) hW' (((KN.rfl'.i (Or.inr (by omega))).op (by omega)).trans hK.up)
  rw [hv fc] at h
  exact h
theorem ep_par {d : Nat} {nf1 : List Int32} {va va1 : (Nat → Int32) → Int32} (hB : EB M0 fc t) (hd : d ≤ 4) (ih : EPL G Q M0 fc t 0 (d + 1) nf1 va1) (hv : ∀ fc, va fc = va1 fc) : EP4 G Q M0 fc t d (28 :: (nf1 ++ [29])) va := by
  intro p M u4 u5 hW hs hl k
  have hl' : p + (nf1.length + 1 + 1) ≤ t := by simpa using hl
  obtain ⟨hs1, hs2⟩ := sgm_app nf1 [29] (p + 1) hs.2
  refine s_28 hB.1 (by omega) (hW.to hB) (by omega) (by rw [hW.cd]; exact hs.1) hd (fun a b => ?_)
  refine ih (p + 1) _ a b ((hW.i 263 (d + 1) 0 (by decide)).op (d + 1)) hs1 (by omega) ?_ (fun M' a b hW' hK hp => ?_)
  · refine ⟨⟨⟨⟨?_, Or.inr ?_⟩, ?_, ?_⟩, ?_⟩, ?_⟩ <;> simp [opM, setI_1]
  · have hp' : avl M' (d + 1) = va1 fc := hp
    refine s_29 hB.1 (by omega) (hW'.to hB) (by omega) (by rw [hW'.cd]; exact hs2.1) (fun a => ?_)
    have h := k (teM M' (d + 1)) a (p + 1 + nf1.length) (by simp; omega) (hW'.te (d + 1)) ((((KN.rfl'.i (Or.inr (by omega))).op (by omega)).trans hK.up).trans (KN.rfl'.te (Or.inr (by omega))))
    rw [hv fc, ← hp'] at h
    exact h
theorem ep_3 {d : Nat} {nf : List Int32} {va : (Nat → Int32) → Int32} (hd : d ≤ 5) (ih : EP4 G Q M0 fc t d nf va) : EPL G Q M0 fc t 3 d nf va := by
  intro p M u4 u5 hW hs hl hp k
  have hp3 : pr3 d M := hp
  refine ih p M u4 u5 hW hs hl (fun M' a p' hp' hW' hK => ?_)
  refine s_term hd (hp3.2.imp id (fun q => by rw [hK 263 d (by decide) (by decide) (Nat.le_refl _) (by omega)]; exact q)) (fun a b => ?_)
  rw [hK 262 d (by decide) (by decide) (Nat.le_refl _) (by omega), if_pos hp3.1, hp']
  exact k _ a b (hW'.i 261 d _ (by decide)) ((hK.mono (by decide)).i (Or.inl ⟨by decide, by decide, rfl⟩)) (show (setI M' 261 d (va fc)).1 261 d = va fc from by simp [setI_1])
theorem ep_mul {d : Nat} {nf1 nf2 : List Int32} {va va1 va2 : (Nat → Int32) → Int32} (hB : EB M0 fc t) (hd : d ≤ 5) (ih1 : EPL G Q M0 fc t 3 d nf1 va1) (ih2 : EP4 G Q M0 fc t d nf2 va2) (hv : ∀ fc, va fc = jnV (-12) (va1 fc) (va2 fc)) : EPL G Q M0 fc t 3 d (nf1 ++ opC (-12) :: nf2) va := by
  intro p M u4 u5 hW hs hl hp k
  have hp3 : pr3 d M := hp
  have hl' : p + (nf1.length + (nf2.length + 1)) ≤ t := by simpa using hl
  obtain ⟨hs1, hs2, hs3⟩ := sgm_app nf1 _ p hs
  refine ih1 p M u4 u5 hW hs1 (by omega) hp (fun M1 a b hW1 hK1 hp1 => ?_)
  have hp1' : M1.1 261 d = va1 fc := hp1
  have e263 : M1.1 263 d = M.1 263 d := hK1 263 d (by decide) (by decide) (Nat.le_refl _) (by omega)
  refine s_22 hB.1 (by omega) (hW1.to hB) hd (by rw [hW1.cd]; exact hs2) (fun a b => ?_)
  refine ih2 (p + nf1.length + 1) _ a b (hW1.i 262 d 22 (by decide)) hs3 (by omega) (fun M2 a p' hp' hW2 hK2 => ?_)
  have f263 : M2.1 263 d = M.1 263 d := (hK2 263 d (by decide) (by decide) (Nat.le_refl _) (by omega)).trans ((by simp [setI_1] : (setI M1 262 d 22).1 263 d = M1.1 263 d).trans e263)
  have f262 : M2.1 262 d = 22 := (hK2 262 d (by decide) (by decide) (Nat.le_refl _) (by omega)).trans (by simp [setI_1])
  have f261 : M2.1 261 d = va1 fc := (hK2 261 d (by decide) (by decide) (Nat.le_refl _) (by omega)).trans ((by simp [setI_1] : (setI M1 262 d 22).1 261 d = M1.1 261 d).trans hp1')
  refine s_term hd (hp3.2.imp id (fun q => by rw [f263]; exact q)) (fun a b => ?_)
  rw [f262, if_neg (by decide), f261, ← jn12, ← hv fc, show p' + 1 = p + (nf1 ++ opC (-12) :: nf2).length by simp; omega]
  exact k _ a b (hW2.i 261 d _ (by decide)) (((hK1.i (Or.inl ⟨by decide, by decide, rfl⟩)).trans (hK2.mono (by decide))).i (Or.inl ⟨by decide, by decide, rfl⟩)) (show (setI M2 261 d (va fc)).1 261 d = va fc from by simp [setI_1])
theorem ep_2 {d : Nat} {nf : List Int32} {va : (Nat → Int32) → Int32} (ih : EPL G Q M0 fc t 3 d nf va) : EPL G Q M0 fc t 2 d nf va := by
  intro p M u4 u5 hW hs hl hp k
  have hp2 : pr2 d M := hp
  refine ih p M u4 u5 hW hs hl (show prL 3 d M from hp2.1) (fun M' a b hW' hK hp' => ?_)
  have hK' : KN 261 d M M' := hK
  have h1 : M'.1 261 d = va fc := hp'
  refine k M' a b hW' (hK'.mono (by decide)) ?_
  show pnd M' d = va fc
  unfold pnd
  rw [hK' 260 d (by decide) (by decide) (Nat.le_refl _) (by omega), hp2.2.1, if_neg (by decide), hK' 259 d (by decide) (by decide) (Nat.le_refl _) (by omega), hp2.2.2, h1, Int32.zero_add]
theorem ep_sum {d : Nat} {op : Int32} {nf1 nf2 : List Int32} {va va1 va2 : (Nat → Int32) → Int32} (hB : EB M0 fc t) (hd : d ≤ 5) (hop : op = -10 ∨ op = -11) (ih1 : EPL G Q M0 fc t 2 d nf1 va1) (ih2 : EPL G Q M0 fc t 3 d nf2 va2) (hv : ∀ fc, va fc = jnV op (va1 fc) (va2 fc)) : EPL G Q M0 fc t 2 d (nf1 ++ opC op :: nf2) va := by
  intro p M u4 u5 hW hs hl hp k
  have hp2 : pr2 d M := hp
  have hl' : p + (nf1.length + (nf2.length + 1)) ≤ t := by simpa using hl
  obtain ⟨hs1, hs2, hs3⟩ := sgm_app nf1 _ p hs
  refine ih1 p M u4 u5 hW hs1 (by omega) hp (fun M1 a b hW1 hK1 hp1 => ?_)
  have hp1' : pnd M1 d = va1 fc := hp1
  have hK1' : KN 259 d M M1 := hK1
  have e263 : M1.1 263 d = M.1 263 d := hK1' 263 d (by decide) (by decide) (Nat.le_refl _) (by omega)
  have rest : ∀ (c : Int32), c = 20 ∨ c = 21 → (va fc = if c = 21 then va1 fc - va2 fc else va1 fc + va2 fc) → ∀ a b, Hd G Q 14 d (p + nf1.length + 1) a b (setI (smM M1 d) 260 d c) := by
    intro c hc hvc a b
    refine ih2 (p + nf1.length + 1) _ a b ((hW1.sm d).i 260 d c (by decide)) hs3 (by omega) ?_ (fun M2 a b hW2 hK2 hp2' => ?_)
    · refine ⟨?_, hp2.1.2.imp id (fun q => ?_)⟩
      · simp [smM, setI_1]
      · rw [show (setI (smM M1 d) 260 d c).1 263 d = M1.1 263 d from by simp [smM, setI_1], e263]; exact q
    · have hK2' : KN 261 d (setI (smM M1 d) 260 d c) M2 := hK2
      have f261 : M2.1 261 d = va2 fc := hp2'
      have f260 : M2.1 260 d = c := (hK2' 260 d (by decide) (by decide) (Nat.le_refl _) (by omega)).trans (by simp [setI_1])
      have f259 : M2.1 259 d = va1 fc := (hK2' 259 d (by decide) (by decide) (Nat.le_refl _) (by omega)).trans ((by simp [smM, setI_1] : (setI (smM M1 d) 260 d c).1 259 d = pnd M1 d).trans hp1')
      rw [show p + nf1.length + 1 + nf2.length = p + (nf1 ++ opC op :: nf2).length by simp; omega]
      refine k M2 a b hW2 (((hK1'.sm (Or.inl ⟨by decide, rfl⟩)).i (Or.inl ⟨by decide, by decide, rfl⟩)).trans (hK2'.mono (by decide))) ?_
      show pnd M2 d = va fc
      unfold pnd
      rw [f260, f259, f261, hvc]
  rcases hop with e | e <;> subst e
  · exact s_20 hB.1 (by omega) (hW1.to hB) hd (by rw [hW1.cd]; exact hs2) (rest 20 (Or.inl rfl) (by rw [hv fc, jn10, if_neg (by decide)]))
  · exact s_21 hB.1 (by omega) (hW1.to hB) hd (by rw [hW1.cd]; exact hs2) (rest 21 (Or.inr rfl) (by rw [hv fc, jn11, if_pos rfl]))
theorem ep_1 {d : Nat} {nf : List Int32} {va : (Nat → Int32) → Int32} (ih : EPL G Q M0 fc t 2 d nf va) : EPL G Q M0 fc t 1 d nf va := by
  intro p M u4 u5 hW hs hl hp k
  have hp2 : pr1 d M := hp
  refine ih p M u4 u5 hW hs hl (show prL 2 d M from hp2.1) (fun M' a b hW' hK hp' => ?_)
  have hK' : KN 259 d M M' := hK
  have h1 : pnd M' d = va fc := hp'
  refine k M' a b hW' (hK'.mono (by decide)) ?_
  show tvl M' d = va fc
  unfold tvl
  rw [hK' 258 d (by decide) (by decide) (Nat.le_refl _) (by omega), hp2.2, if_neg (by decide), if_neg (by decide), h1]
theorem ep_cmp {d : Nat} {op : Int32} {nf1 nf2 : List Int32} {va va1 va2 : (Nat → Int32) → Int32} (hB : EB M0 fc t) (hd : d ≤ 5) (hop : op = -8 ∨ op = -9) (ih1 : EPL G Q M0 fc t 2 d nf1 va1) (ih2 : EPL G Q M0 fc t 2 d nf2 va2) (hv : ∀ fc, va fc = jnV op (va1 fc) (va2 fc)) : EPL G Q M0 fc t 1 d (nf1 ++ opC op :: nf2) va := by
  intro p M u4 u5 hW hs hl hp k
  have hp2 : pr1 d M := hp
  have hl' : p + (nf1.length + (nf2.length + 1)) ≤ t := by simpa using hl
  obtain ⟨hs1, hs2, hs3⟩ := sgm_app nf1 _ p hs
  refine ih1 p M u4 u5 hW hs1 (by omega) (show prL 2 d M from hp2.1) (fun M1 a b hW1 hK1 hp1 => ?_)
  have hp1' : pnd M1 d = va1 fc := hp1
  have hK1' : KN 259 d M M1 := hK1
  have e263 : M1.1 263 d = M.1 263 d := hK1' 263 d (by decide) (by decide) (Nat.le_refl _) (by omega)
  have rest : ∀ (c : Int32), (va fc = if c = 25 then b2i (va1 fc = va2 fc) else if c = 24 then b2i (va1 fc < va2 fc) else va2 fc) → ∀ a b, Hd G Q 14 d (p + nf1.length + 1) a b (setI (setI (setI (setI (smM M1 d) 257 d (pnd M1 d)) 258 d c) 259 d 0) 260 d 20) := by
    intro c hvc a b
    refine ih2 (p + nf1.length + 1) _ a b (((((hW1.sm d).i 257 d _ (by decide)).i 258 d c (by decide)).i 259 d 0 (by decide)).i 260 d 20 (by decide)) hs3 (by omega) ?_ (fun M2 a b hW2 hK2 hp2' => ?_)
    · refine ⟨⟨?_, hp2.1.1.2.imp id (fun q => ?_)⟩, ?_, ?_⟩
      · simp [smM, setI_1]
      · rw [show (setI (setI (setI (setI (smM M1 d) 257 d (pnd M1 d)) 258 d c) 259 d 0) 260 d 20).1 263 d = M1.1 263 d from by simp [smM, setI_1], e263]; exact q
      · simp [setI_1]
      · simp [setI_1]
    · have hK2' : KN 259 d (setI (setI (setI (setI (smM M1 d) 257 d (pnd M1 d)) 258 d c) 259 d 0) 260 d 20) M2 := hK2
      have fp : pnd M2 d = va2 fc := hp2'
      have f258 : M2.1 258 d = c := (hK2' 258 d (by decide) (by decide) (Nat.le_refl _) (by omega)).trans (by simp [setI_1])
      have f257 : M2.1 257 d = va1 fc := (hK2' 257 d (by decide) (by decide) (Nat.le_refl _) (by omega)).trans ((by simp [setI_1] : (setI (setI (setI (setI (smM M1 d) 257 d (pnd M1 d)) 258 d c) 259 d 0) 260 d 20).1 257 d = pnd M1 d).trans hp1')
      rw [show p + nf1.length + 1 + nf2.length = p + (nf1 ++ opC op :: nf2).length by simp; omega]
      refine k M2 a b hW2 (((((((hK1'.mono (by decide)).sm (Or.inl ⟨by decide, rfl⟩)).i (Or.inl ⟨by decide, by decide, rfl⟩)).i (Or.inl ⟨by decide, by decide, rfl⟩)).i (Or.inl ⟨by decide, by decide, rfl⟩)).i (Or.inl ⟨by decide, by decide, rfl⟩)).trans (hK2'.mono (by decide))) ?_
      show tvl M2 d = va fc
      unfold tvl
      rw [f258, f257, fp, hvc]
  rcases hop with e | e <;> subst e
  · exact s_24 hB.1 (by omega) (hW1.to hB) hd (by rw [hW1.cd]; exact hs2) (rest 24 (by rw [hv fc, jn8, if_neg (by decide), if_pos rfl]))
  · exact s_25 hB.1 (by omega) (hW1.to hB) hd (by rw [hW1.cd]; exact hs2) (rest 25 (by rw [hv fc, jn9, if_pos rfl]))
theorem ep_0 {d : Nat} {nf : List Int32} {va : (Nat → Int32) → Int32} (ih : EPL G Q M0 fc t 1 d nf va) : EPL G Q M0 fc t 0 d nf va := by
  intro p M u4 u5 hW hs hl hp k
  have hp2 : pr0 d M := hp
  refine ih p M u4 u5 hW hs hl (show prL 1 d M from hp2.1) (fun M' a b hW' hK hp' => ?_)
  have hK' : KN 257 d M M' := hK
  have h1 : tvl M' d = va fc := hp'
  refine k M' a b hW' (hK'.mono (by decide)) ?_
  show avl M' d = va fc
  unfold avl
  rw [hK' 256 d (by decide) (by decide) (Nat.le_refl _) (by omega), hp2.2, if_neg (by decide), if_neg (by decide), h1]
theorem ep_join {d : Nat} {op : Int32} {nf1 nf2 : List Int32} {va va1 va2 : (Nat → Int32) → Int32} (hB : EB M0 fc t) (hd : d ≤ 5) (hop : op = -6 ∨ op = -7) (ih1 : EPL G Q M0 fc t 0 d nf1 va1) (ih2 : EPL G Q M0 fc t 1 d nf2 va2) (hv : ∀ fc, va fc = jnV op (va1 fc) (va2 fc)) : EPL G Q M0 fc t 0 d (nf1 ++ opC op :: nf2) va := by
  intro p M u4 u5 hW hs hl hp k
  have hp2 : pr0 d M := hp
  have hl' : p + (nf1.length + (nf2.length + 1)) ≤ t := by simpa using hl
  obtain ⟨hs1, hs2, hs3⟩ := sgm_app nf1 _ p hs
  refine ih1 p M u4 u5 hW hs1 (by omega) hp (fun M1 a b hW1 hK1 hp1 => ?_)
  have hp1' : avl M1 d = va1 fc := hp1
  have hK1' : KN 255 d M M1 := hK1
  have e263 : M1.1 263 d = M.1 263 d := hK1' 263 d (by decide) (by decide) (Nat.le_refl _) (by omega)
  have rest : ∀ (c : Int32), (va fc = if c = 27 then b2i (¬ va1 fc = 0 ∨ ¬ va2 fc = 0) else if c = 26 then b2i (¬ va1 fc = 0 ∧ ¬ va2 fc = 0) else va2 fc) → ∀ a b, Hd G Q 14 d (p + nf1.length + 1) a b (setI (teM M1 d) 256 d c) := by
    intro c hvc a b
    refine ih2 (p + nf1.length + 1) _ a b ((hW1.te d).i 256 d c (by decide)) hs3 (by omega) ?_ (fun M2 a b hW2 hK2 hp2' => ?_)
    · refine ⟨⟨⟨?_, hp2.1.1.1.2.imp id (fun q => ?_)⟩, ?_, ?_⟩, ?_⟩
      · simp [teM, smM, setI_1]
      · rw [show (setI (teM M1 d) 256 d c).1 263 d = M1.1 263 d from by simp [teM, smM, setI_1], e263]; exact q
      · simp [teM, setI_1]
      · simp [teM, setI_1]
      · simp [teM, setI_1]
    · have hK2' : KN 257 d (setI (teM M1 d) 256 d c) M2 := hK2
      have ft : tvl M2 d = va2 fc := hp2'
      have f256 : M2.1 256 d = c := (hK2' 256 d (by decide) (by decide) (Nat.le_refl _) (by omega)).trans (by simp [setI_1])
      have f255 : M2.1 255 d = va1 fc := (hK2' 255 d (by decide) (by decide) (Nat.le_refl _) (by omega)).trans ((by simp [teM, setI_1] : (setI (teM M1 d) 256 d c).1 255 d = avl M1 d).trans hp1')
      rw [show p + nf1.length + 1 + nf2.length = p + (nf1 ++ opC op :: nf2).length by simp; omega]
      refine k M2 a b hW2 (((hK1'.te (Or.inl ⟨by decide, rfl⟩)).i (Or.inl ⟨by decide, by decide, rfl⟩)).trans (hK2'.mono (by decide))) ?_
      show avl M2 d = va fc
      unfold avl
      rw [f256, f255, ft, hvc]
  rcases hop with e | e <;> subst e
  · exact s_26 hB.1 (by omega) (hW1.to hB) hd (by rw [hW1.cd]; exact hs2) (rest 26 (by rw [hv fc, jn6, if_neg (by decide), if_pos rfl]))
  · exact s_27 hB.1 (by omega) (hW1.to hB) hd (by rw [hW1.cd]; exact hs2) (rest 27 (by rw [hv fc, jn7, if_pos rfl]))
theorem ep_all (hB : EB M0 fc t) : ∀ b, (∀ d nf va, wfX b 4 d nf va → EP4 G Q M0 fc t d nf va) ∧ ∀ l d nf va, l ≤ 3 → d ≤ 5 → wfX b l d nf va → EPL G Q M0 fc t l d nf va := by
  intro b
  induction b with
  | zero => exact ⟨fun d nf va h => h.elim, fun l d nf va _ _ h => h.elim⟩
  | succ b ih =>
    refine ⟨fun d nf va h => ?_, fun l d nf va hl hd h => ?_⟩
    · rcases h with ⟨-, hd, h⟩ | ⟨h, -⟩
      · rcases h with ⟨q, hq, rfl, hv⟩ | ⟨m, hm, rfl, hv⟩ | ⟨nf1, va1, h1, rfl, hv⟩ | ⟨nf1, va1, h1, rfl, hv⟩
        · exact ep_fact hB (by omega) hq hv
        · exact ep_num hB (by omega) hm hv
        · exact ep_not hB hd (ih.1 (d + 1) nf1 va1 h1) hv
        · exact ep_par hB hd (ih.2 0 (d + 1) nf1 va1 (by omega) (by omega) h1) hv
      · omega
    · rcases h with ⟨h, -⟩ | ⟨-, h | ⟨op, nf1, va1, nf2, va2, ho, h1, h2, rfl, hv⟩⟩
      · omega
      · rcases (show l = 0 ∨ l = 1 ∨ l = 2 ∨ l = 3 by omega) with rfl | rfl | rfl | rfl
        · exact ep_0 (ih.2 1 d nf va (by omega) hd h)
        · exact ep_1 (ih.2 2 d nf va (by omega) hd h)
        · exact ep_2 (ih.2 3 d nf va (by omega) hd h)
        · exact ep_3 hd (ih.1 d nf va h)
      · rcases ho with ⟨rfl, ho⟩ | ⟨rfl, ho⟩ | ⟨rfl, ho⟩ | ⟨rfl, rfl⟩
        · rw [if_neg (by decide)] at h1
          exact ep_join hB hd ho (ih.2 0 d nf1 va1 (by omega) hd h1) (ih.2 1 d nf2 va2 (by omega) hd h2) hv
        · rw [if_pos rfl] at h1
          exact ep_cmp hB hd ho (ih.2 2 d nf1 va1 (by omega) hd h1) (ih.2 2 d nf2 va2 (by omega) hd h2) hv
        · rw [if_neg (by decide)] at h1
          exact ep_sum hB hd ho (ih.2 2 d nf1 va1 (by omega) hd h1) (ih.2 3 d nf2 va2 (by omega) hd h2) hv
        · rw [if_neg (by decide)] at h1
          exact ep_mul hB hd (ih.2 3 d nf1 va1 (by omega) hd h1) (ih.1 d nf2 va2 h2) hv
end
set_option maxHeartbeats 4000000 in
set_option maxRecDepth 20000 in
theorem r_worked {G : Gt} {M : Mm} {b w t : Nat} {nf : List Int32} {va : (Nat → Int32) → Int32} {fc : Nat → Int32} (hwf : wfX b 0 0 nf va) (h250 : M.1 250 0 = nI w) (hB : EB M fc t) (hlen : w + nf.length = t) (hs : sgm (M.1 252) w nf) : Call G 3 mX11_worked [.ref 238, .int 0] M (fun r M' => r = some (.int (va fc)) ∧ WE M M') := by
  refine Call.intro rfl (Nat.le_of_ble_eq_true rfl) ?_
  show Ev G _ mX11_worked 0 [.ref 238, .int 0, RA, RA, RA, RA] [] M _
  refine e_iconst (v := 0) dX11_worked_0 (by decide) ?_
  refine e_istore_n (ls' := [_, _, _, _, _, _]) dX11_worked_1 (by decide) rfl ?_
  refine e_aload_n dX11_worked_2 rfl ?_
  refine e_iconst (v := 0) dX11_worked_3 (by decide) ?_
  refine cV1v dX11_worked_4 mo_X11_opens ml_X11_234 sh_m rfl (Nat.le_of_ble_eq_true rfl) (by omega) (r_opens (d := 0) (by decide)) ?_
  refine e_aload_n dX11_worked_7 rfl ?_
  refine e_getR dX11_worked_8 fl_X11_44 sh_m rfl ?_
  refine e_iload_n dX11_worked_11 rfl ?_
  refine e_ialdN (j := 0) dX11_worked_12 (sa_m_lineFrom) (by decide) (by omega) ?_
  rw [show (opM M 0).1 250 0 = nI w from by rw [(WE.rfl'.op (M := M) 0).2 250 (by decide)]; exact h250]
  refine e_istore_n (ls' := [_, _, _, _, _, _]) dX11_worked_13 (by decide) rfl ?_
  refine (ep_all hB b).2 0 0 nf va (by omega) (by omega) hwf w (opM M 0) _ _ (WE.rfl'.op 0) hs (by omega) ?_ (fun M2 a2 b2 hW2 hK2 hp2 => ?_)
  · refine ⟨⟨⟨⟨?_, Or.inl rfl⟩, ?_, ?_⟩, ?_⟩, ?_⟩ <;> simp [opM, setI_1]
  · have hp3 : avl M2 0 = va fc := hp2
    exact s_end hB.1 hlen (hW2.to hB) ⟨by rw [hp3], hW2.te 0⟩
end REV
