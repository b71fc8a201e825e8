section RRG
set_option maxHeartbeats 500000
section
variable {G : Gt} {M0 M : Mm} {t : Tv} {x : Xv} {L : List Int32} {Q : Option Value → Mm → Prop} {d pc : Nat} {u3 u4 u5 : Value}
theorem jn_0 (hj : ¬ jnX t x 0 = -13) : (isW t x 19 ∧ jnX t x 0 = -6) ∨ (isW t x 20 ∧ jnX t x 0 = -7) := by
  unfold jnX at hj ⊢
  rw [if_pos rfl] at hj ⊢
  by_cases a : isW t x 19
  · rw [if_pos a]; exact Or.inl ⟨a, rfl⟩
  · rw [if_neg a] at hj ⊢
    by_cases b : isW t x 20
    · rw [if_pos b]; exact Or.inr ⟨b, rfl⟩
    · rw [if_neg b] at hj; exact absurd rfl hj
theorem jn_1 (hj : ¬ jnX t x 1 = -13) : (isS t x 60 ∧ jnX t x 1 = -8) ∨ (isS t x 61 ∧ jnX t x 1 = -9) := by
  unfold jnX at hj ⊢
  rw [if_neg (by decide), if_pos rfl] at hj ⊢
  by_cases a : isS t x 60
  · rw [if_pos a]; exact Or.inl ⟨a, rfl⟩
  · rw [if_neg a] at hj ⊢
    by_cases b : isS t x 61
    · rw [if_pos b]; exact Or.inr ⟨b, rfl⟩
    · rw [if_neg b] at hj; exact absurd rfl hj
theorem jn_2 (hj : ¬ jnX t x 2 = -13) : (isS t x 43 ∧ jnX t x 2 = -10) ∨ (isS t x 45 ∧ jnX t x 2 = -11) := by
  unfold jnX at hj ⊢
  rw [if_neg (by decide), if_neg (by decide), if_pos rfl] at hj ⊢
  by_cases a : isS t x 43
  · rw [if_pos a]; exact Or.inl ⟨a, rfl⟩
  · rw [if_neg a] at hj ⊢
    by_cases b : isS t x 45
    · rw [if_pos b]; exact Or.inr ⟨b, rfl⟩
    · rw [if_neg b] at hj; exact absurd rfl hj
theorem jn_3 (hj : ¬ jnX t x 3 = -13) : isS t x 42 ∧ jnX t x 3 = -12 := by
  unfold jnX at hj ⊢
  rw [if_neg (by decide), if_neg (by decide), if_neg (by decide)] at hj ⊢
  by_cases a : isS t x 42
  · rw [if_pos a]; exact ⟨a, rfl⟩
  · rw [if_neg a] at hj; exact absurd rfl hj
theorem nj_0 (hj : jnX t x 0 = -13) : ¬ isW t x 19 ∧ ¬ isW t x 20 := by
  unfold jnX at hj
  rw [if_pos rfl] at hj
  by_cases a : isW t x 19
  · rw [if_pos a] at hj; exact absurd hj (by decide)
  · rw [if_neg a] at hj
    exact ⟨a, fun b => by rw [if_pos b] at hj; exact absurd hj (by decide)⟩
theorem nj_1 (hj : jnX t x 1 = -13) : ¬ isS t x 60 ∧ ¬ isS t x 61 := by
  unfold jnX at hj
  rw [if_neg (by decide), if_pos rfl] at hj
  by_cases a : isS t x 60
  · rw [if_pos a] at hj; exact absurd hj (by decide)
  · rw [if_neg a] at hj
    exact ⟨a, fun b => by rw [if_pos b] at hj; exact absurd hj (by decide)⟩
theorem nj_2 (hj : jnX t x 2 = -13) : ¬ isS t x 43 ∧ ¬ isS t x 45 := by
  unfold jnX at hj
  rw [if_neg (by decide), if_neg (by decide), if_pos rfl] at hj
  by_cases a : isS t x 43
  · rw [if_pos a] at hj; exact absurd hj (by decide)
  · rw [if_neg a] at hj
    exact ⟨a, fun b => by rw [if_pos b] at hj; exact absurd hj (by decide)⟩
theorem nj_3 (hj : jnX t x 3 = -13) : ¬ isS t x 42 := by
  unfold jnX at hj
  rw [if_neg (by decide), if_neg (by decide), if_neg (by decide)] at hj
  intro a
  rw [if_pos a] at hj; exact absurd hj (by decide)
/-- the seven joiners in one -/
theorem j_all {l : Nat} (hS : ST M0 M t x L) (hd : d ≤ 5) (hl : l ≤ 3) (hj : ¬ jnX t x l = -13) (hc : l = 1 → M.1 254 d = 0) (k : ∀ M', ST M0 M' t (advX t x) (L ++ [opC (jnX t x l)]) → M'.1 253 = M.1 253 → (∀ k, ¬ k = d → M'.1 254 k = M.1 254 k) → M'.1 254 d = (if l = 0 then 0 else if l = 1 then 1 else M.1 254 d) → Ev G 3 mX11_reads 11 [.ref 238, .int (nI d), .int 1, u3, u4, u5] [] M' Q) : Ev G 3 mX11_reads 11 [.ref 238, .int (nI d), .int 0, u3, u4, u5] [] M Q := by
  rcases (by omega : l = 0 ∨ l = 1 ∨ l = 2 ∨ l = 3) with rfl | rfl | rfl | rfl
  · rcases jn_0 hj with ⟨q, e⟩ | ⟨q, e⟩ <;> rw [e] at k
    · exact j_and hS hd q k
    · exact j_or hS hd q k
  · rcases jn_1 hj with ⟨q, e⟩ | ⟨q, e⟩ <;> rw [e] at k
    · exact j_lt hS hd q (hc rfl) k
    · exact j_eq hS hd q (hc rfl) k
  · rcases jn_2 hj with ⟨q, e⟩ | ⟨q, e⟩ <;> rw [e] at k
    · exact j_add hS hd q k
    · exact j_sub hS hd q k
  · obtain ⟨q, e⟩ := jn_3 hj
    rw [e] at k
    exact j_mul hS hd q k
theorem p_end (hP : SP M0 M t x L) (hd : d ≤ 5) (hpc : pc = 152 ∨ pc = 379) (ho : d = 0 ∨ ¬ M.1 253 d = 1) (k : ∀ M', ST M0 M' t (advX t x) L → M'.1 253 = M.1 253 → M'.1 254 = M.1 254 → Ev G 3 mX11_reads 11 [.ref 238, .int (nI d), .int 0, u3, u4, u5] [] M' Q) : Ev G 3 mX11_reads pc [.ref 238, .int (nI d), .int 0, u3, u4, u5] [] M Q := by
  rcases Nat.eq_zero_or_pos d with h0 | h0
  · rcases hpc with rfl | rfl
    · exact p_end152a hP hd h0 k
    · exact p_end379a hP hd h0 k
  · have ho' := ho.resolve_left (by omega)
    rcases hpc with rfl | rfl
    · exact p_end152b hP hd h0 ho' k
    · exact p_end379b hP hd h0 ho' k
theorem p_pop (hd : d ≤ 4) (hpc : pc = 152 ∨ pc = 379) (ho : M.1 253 (d + 1) = 1) (k : Ev G 3 mX11_reads pc [.ref 238, .int (nI d), .int 0, u3, u4, u5] [] M Q) : Ev G 3 mX11_reads pc [.ref 238, .int (nI (d + 1)), .int 0, u3, u4, u5] [] M Q := by
  rcases hpc with rfl | rfl
  · exact p_pop152 hd ho k
  · exact p_pop379 hd ho k
end
/-- opened and compared up to a depth -/
def KOC (l d : Nat) (M M' : Mm) : Prop := ∀ k, k ≤ d → M'.1 253 k = M.1 253 k ∧ (k < d ∨ 2 ≤ l → M'.1 254 k = M.1 254 k)
theorem KOC.rfl' {l d : Nat} {M : Mm} : KOC l d M M := fun _ _ => ⟨rfl, fun _ => rfl⟩
theorem KOC.trans {l d : Nat} {A B C : Mm} (h : KOC l d A B) (k : KOC l d B C) : KOC l d A C := fun z q => ⟨((k z q).1).trans (h z q).1, fun a => ((k z q).2 a).trans ((h z q).2 a)⟩
theorem KOC.mono {l l' d : Nat} {A B : Mm} (h : KOC l d A B) (hl : 2 ≤ l' → 2 ≤ l) : KOC l' d A B := fun z q => ⟨(h z q).1, fun a => (h z q).2 (a.imp id hl)⟩
theorem KOC.eq {l d : Nat} {A B : Mm} (h1 : B.1 253 = A.1 253) (h2 : B.1 254 = A.1 254) : KOC l d A B := fun z q => ⟨by rw [h1], fun _ => by rw [h2]⟩
theorem KOC.up {l l' d : Nat} {A B : Mm} (h : KOC l (d + 1) A B) : KOC l' d A B := fun z q => ⟨(h z (by omega)).1, fun _ => (h z (by omega)).2 (Or.inl (by omega))⟩
/-- nothing joins any more at these levels -/
def NJ (l : Nat) (t : Tv) (x : Xv) : Prop := ∀ k, l ≤ k → k ≤ 3 → ¬ k = 1 → jnX t x k = -13
def CP (M : Mm) (t : Tv) (x : Xv) (d : Nat) : Prop := (M.1 254 d = 0 ∧ ¬ isS t x 60 ∧ ¬ isS t x 61) ∨ M.1 254 d = 1
def PR4 (G : Gt) (Q : Option Value → Mm → Prop) (M0 : Mm) (t : Tv) (sub : Xv → Rx) (d : Nat) : Prop :=
  ∀ (x : Xv) (L : List Int32) (M : Mm) (u3 u4 u5 : Value), ST M0 M t x L → (¬ (sub x).1.1 = 0 → ∀ M', RF M0 M' → M'.1 238 9 = (sub x).1.1 → Q (some (.int 0)) M') →
    ((sub x).1.1 = 0 → ∀ (pc : Nat) (M' : Mm) (y : Xv) (v3 v4 v5 : Value), (pc = 152 ∨ pc = 379) → SP M0 M' t y (L ++ (sub x).2.nf) → advX t y = (sub x).1 → KOC 4 d M M' → Ev G 3 mX11_reads pc [.ref 238, .int (nI d), .int 0, v3, v4, v5] [] M' Q) →
    Ev G 3 mX11_reads 11 [.ref 238, .int (nI d), .int 1, u3, u4, u5] [] M Q
def PRL (G : Gt) (Q : Option Value → Mm → Prop) (M0 : Mm) (t : Tv) (l : Nat) (sub : Xv → Rx) (d : Nat) : Prop :=
  ∀ (x : Xv) (L : List Int32) (M : Mm) (u3 u4 u5 : Value), ST M0 M t x L → (d = 0 ∨ ¬ M.1 253 d = 1) → (l ≤ 1 → M.1 254 d = 0) → (¬ (sub x).1.1 = 0 → ∀ M', RF M0 M' → M'.1 238 9 = (sub x).1.1 → Q (some (.int 0)) M') →
    ((sub x).1.1 = 0 → ∀ (M' : Mm) (v3 v4 v5 : Value), ST M0 M' t (sub x).1 (L ++ (sub x).2.nf) → KOC l d M M' → NJ l t (sub x).1 → (l ≤ 1 → CP M' t (sub x).1 d) → Ev G 3 mX11_reads 11 [.ref 238, .int (nI d), .int 0, v3, v4, v5] [] M' Q) →
    Ev G 3 mX11_reads 11 [.ref 238, .int (nI d), .int 1, u3, u4, u5] [] M Q
section
variable {G : Gt} {M0 : Mm} {t : Tv} {Q : Option Value → Mm → Prop} {d : Nat}
/-- a part as the start of a product -/
theorem pr_4 {sub : Xv → Rx} (hd : d ≤ 5) (h : PR4 G Q M0 t sub d) : ∀ (x : Xv) (L : List Int32) (M : Mm) (u3 u4 u5 : Value), ST M0 M t x L → (d = 0 ∨ ¬ M.1 253 d = 1) → (¬ (sub x).1.1 = 0 → ∀ M', RF M0 M' → M'.1 238 9 = (sub x).1.1 → Q (some (.int 0)) M') →
    ((sub x).1.1 = 0 → ∀ (M' : Mm) (v3 v4 v5 : Value), ST M0 M' t (sub x).1 (L ++ (sub x).2.nf) → KOC 4 d M M' → Ev G 3 mX11_reads 11 [.ref 238, .int (nI d), .int 0, v3, v4, v5] [] M' Q) →
    Ev G 3 mX11_reads 11 [.ref 238, .int (nI d), .int 1, u3, u4, u5] [] M Q := by
  intro x L M u3 u4 u5 hS ho kf ks
  refine h x L M u3 u4 u5 hS kf (fun hz pc M' y v3 v4 v5 hpc hP hy hK => ?_)
  refine p_end hP hd hpc (ho.imp id (fun q => by rw [(hK d (Nat.le_refl _)).1]; exact q)) (fun M2 hS2 e1 e2 => ?_)
  rw [hy] at hS2
  exact ks hz M2 v3 v4 v5 hS2 (hK.trans (KOC.eq e1 e2))
theorem kc_j {l : Nat} {M M' : Mm} (h1 : M'.1 253 = M.1 253) (h2 : ∀ k, ¬ k = d → M'.1 254 k = M.1 254 k) (h3 : M'.1 254 d = (if l = 0 then 0 else if l = 1 then 1 else M.1 254 d)) : KOC l d M M' := fun z q => ⟨by rw [h1], fun a => by
  by_cases e : z = d
  · rw [e, h3, if_neg (by omega), if_neg (by omega)]
  · exact h2 z e⟩
theorem NJ.low {l : Nat} {x : Xv} (h : NJ (l + 1) t x) (hj : l = 1 ∨ jnX t x l = -13) : NJ l t x := fun k a b c => by
  by_cases e : k = l
  · subst e; exact hj.resolve_left c
  · exact h k (by omega) b c
/-- the joiners of one level, read one after another -/
theorem pr_loop {l : Nat} {sub : Xv → Rx} (hd : d ≤ 5) (hl : l ≤ 3) (hl1 : ¬ l = 1) (hln : ∀ x', x'.2 ≤ t.1 → LN t x' (sub x'))
    (hsub : ∀ (x : Xv) (L : List Int32) (M : Mm) (u3 u4 u5 : Value), ST M0 M t x L → (d = 0 ∨ ¬ M.1 253 d = 1) → (l = 0 → M.1 254 d = 0) → (¬ (sub x).1.1 = 0 → ∀ M', RF M0 M' → M'.1 238 9 = (sub x).1.1 → Q (some (.int 0)) M') →
      ((sub x).1.1 = 0 → ∀ (M' : Mm) (v3 v4 v5 : Value), ST M0 M' t (sub x).1 (L ++ (sub x).2.nf) → KOC (l + 1) d M M' → NJ (l + 1) t (sub x).1 → (l = 0 → CP M' t (sub x).1 d) → Ev G 3 mX11_reads 11 [.ref 238, .int (nI d), .int 0, v3, v4, v5] [] M' Q) →
      Ev G 3 mX11_reads 11 [.ref 238, .int (nI d), .int 1, u3, u4, u5] [] M Q) :
    ∀ (n : Nat) (r : Rx) (L : List Int32) (M : Mm) (v3 v4 v5 : Value), ST M0 M t r.1 (L ++ r.2.nf) → t.1 < n + r.1.2 → (d = 0 ∨ ¬ M.1 253 d = 1) → NJ (l + 1) t r.1 → (l = 0 → CP M t r.1 d) →
      (¬ (pW t sub l n r).1.1 = 0 → ∀ M', RF M0 M' → M'.1 238 9 = (pW t sub l n r).1.1 → Q (some (.int 0)) M') →
      ((pW t sub l n r).1.1 = 0 → ∀ (M' : Mm) (v3 v4 v5 : Value), ST M0 M' t (pW t sub l n r).1 (L ++ (pW t sub l n r).2.nf) → KOC l d M M' → NJ l t (pW t sub l n r).1 → (l = 0 → CP M' t (pW t sub l n r).1 d) → Ev G 3 mX11_reads 11 [.ref 238, .int (nI d), .int 0, v3, v4, v5] [] M' Q) →
      Ev G 3 mX11_reads 11 [.ref 238, .int (nI d), .int 0, v3, v4, v5] [] M Q := by
  intro n
  induction n with
  | zero => intro r L M v3 v4 v5 hS hn; exact absurd hS.1.2.1.2.1 (by omega)
  | succ n ih =>
    intro r L M v3 v4 v5 hS hn ho hJ hC kf ks
    by_cases hj : jnX t r.1 l = -13
    · rw [pW, if_pos hj] at ks
      exact ks hS.1.2.1.1 M v3 v4 v5 hS KOC.rfl' (hJ.low (Or.inr hj)) hC
    · rw [pW, if_neg hj, if_neg hl1] at kf ks
      refine j_all hS hd hl hj (fun q => absurd q hl1) (fun M1 hS1 e1 e2 e3 => ?_)
      have hK1 : KOC l d M M1 := kc_j e1 e2 e3
      have ho1 : d = 0 ∨ ¬ M1.1 253 d = 1 := ho.imp id (fun q => by rw [e1]; exact q)
      have hk := (jn_ok hj).2
      have h1 := adv_lt hS.1.2.1.2.1 hS.1.2.1.1 hk
      have h2 := hln (advX t r.1) hS1.1.2.1.2.1
      refine hsub (advX t r.1) _ M1 v3 v4 v5 hS1 ho1 (fun q => by rw [e3, if_pos q]) (fun q => ?_) (fun q M2 w3 w4 w5 hS2 hK2 hJ2 hC2 => ?_)
      · have h3 : ¬ ((sub (advX t r.1)).1, exBin (jnX t r.1 l) r.2 (sub (advX t r.1)).2).1.1 = 0 := q
        rw [pW_f n _ h3] at kf
        exact kf h3
      · have hK2' : KOC l d M1 M2 := hK2.mono (by omega)
        refine ih ((sub (advX t r.1)).1, exBin (jnX t r.1 l) r.2 (sub (advX t r.1)).2) L M2 w3 w4 w5 ?_ ?_ (ho1.imp id (fun q => by rw [(hK2 d (Nat.le_refl _)).1]; exact q)) hJ2 hC2 kf (fun q M3 z3 z4 z5 hS3 hK3 hJ3 hC3 => ks q M3 z3 z4 z5 hS3 ((hK1.trans hK2').trans hK3) hJ3 hC3)
        · have e : L ++ (exBin (jnX t r.1 l) r.2 (sub (advX t r.1)).2).nf = L ++ r.2.nf ++ [opC (jnX t r.1 l)] ++ (sub (advX t r.1)).2.nf := by
            show L ++ (r.2.nf ++ (opC (jnX t r.1 l) :: (sub (advX t r.1)).2.nf)) = _
            simp
          show ST M0 M2 t (sub (advX t r.1)).1 (L ++ (exBin (jnX t r.1 l) r.2 (sub (advX t r.1)).2).nf)
          rw [e]; exact hS2
        · show t.1 < n + (sub (advX t r.1)).1.2
          have := h2.1
          omega
end
end RRG
