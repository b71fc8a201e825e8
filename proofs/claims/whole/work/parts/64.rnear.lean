section RNE
/-- who is near, as numbers: below 2^n -/
def NB (Y : Yv) : Prop := ∀ i, i < Y.n → ∃ s, s < 2 ^ Y.n ∧ Y.near i = nI s
/-- sets of sheds as numbers -/
def orN (p : Nat → Bool) (g : Nat → Nat) (r : Nat) : Nat → Nat
  | 0 => r
  | k + 1 => if p k then orN p g r k ||| g k else orN p g r k
theorem or64 : ∀ a, a < 64 → ∀ b, b < 64 → nI a ||| nI b = nI (a ||| b) ∧ a ||| b < 64 := by decide +kernel
theorem bt64 : ∀ a, a < 64 → ∀ k, k < 6 → decide (bitI (nI a) (nI k)) = a.testBit k := by decide +kernel
theorem pc64 : ∀ a, a < 64 → ∀ b, b < 64 → a ||| b = b → a = b ∨ pcN a < pcN b := by decide +kernel
theorem pc1 : ∀ a, a < 64 → a = 0 ∨ 1 ≤ pcN a := by decide +kernel
theorem an64 : ∀ a, a < 64 → ∀ b, b < 64 → (nI a &&& (nI b ^^^ -1) = 0 ↔ a ||| b = b) := by decide +kernel
theorem nI64 {a b : Nat} (ha : a < 64) (hb : b < 64) : nI a = nI b ↔ a = b := ⟨fun h => nI_injN (by omega) (by omega) h, fun h => by rw [h]⟩
theorem orN_lt {p : Nat → Bool} {g : Nat → Nat} {r : Nat} (hr : r < 64) : ∀ n, (∀ i, i < n → g i < 64) → orN p g r n < 64 := by
  intro n
  induction n with
  | zero => intro _; exact hr
  | succ n ih =>
    intro h
    rw [orN]
    split
    · exact (or64 _ (ih (fun i hi => h i (by omega))) _ (h n (by omega))).2
    · exact ih (fun i hi => h i (by omega))
theorem orF_nat {p p' : Nat → Bool} {g : Nat → Int32} {g' : Nat → Nat} {r : Nat} (hr : r < 64) : ∀ n, (∀ i, i < n → p i = p' i ∧ g i = nI (g' i) ∧ g' i < 64) → orF p g (nI r) n = nI (orN p' g' r n) := by
  intro n
  induction n with
  | zero => intro _; rfl
  | succ n ih =>
    intro h
    have h1 := ih (fun i hi => h i (by omega))
    have h2 := orN_lt (p := p') hr n (fun i hi => (h i (by omega)).2.2)
    obtain ⟨a, b, c⟩ := h n (by omega)
    rw [orF, orN, h1, a, b]
    split
    · exact (or64 _ h2 _ c).1
    · rfl
def subN (a b : Nat) : Prop := a ||| b = b
theorem subN.rfl' (a : Nat) : subN a a := Nat.or_self a
theorem subN.trans {a b c : Nat} (h : subN a b) (k : subN b c) : subN a c := by
  unfold subN at *
  rw [← k, ← Nat.or_assoc, h]
theorem subN.anti {a b : Nat} (h : subN a b) (k : subN b a) : a = b := by
  unfold subN at *
  rw [← k, Nat.or_comm, h]
theorem subN.l (a b : Nat) : subN a (a ||| b) := by
  unfold subN
  rw [← Nat.or_assoc, Nat.or_self]
theorem subN.r (a b : Nat) : subN b (a ||| b) := by
  rw [Nat.or_comm]; exact subN.l b a
theorem subN.or {a b c : Nat} (h : subN a c) (k : subN b c) : subN (a ||| b) c := by
  unfold subN at *
  rw [Nat.or_assoc, k, h]
theorem subN.bit {a b k : Nat} (h : subN a b) (hk : a.testBit k = true) : b.testBit k = true := by
  unfold subN at h
  rw [← h, Nat.testBit_or, hk, Bool.true_or]
theorem orN_r {p : Nat → Bool} {g : Nat → Nat} {r : Nat} : ∀ n, subN r (orN p g r n) := by
  intro n
  induction n with
  | zero => exact subN.rfl' r
  | succ n ih =>
    rw [orN]
    split
    · exact ih.trans (subN.l _ _)
    · exact ih
theorem orN_g {p : Nat → Bool} {g : Nat → Nat} {r i : Nat} : ∀ n, i < n → p i = true → subN (g i) (orN p g r n) := by
  intro n
  induction n with
  | zero => intro h _; omega
  | succ n ih =>
    intro h hp
    rw [orN]
    by_cases e : i = n
    · subst e; rw [if_pos hp]; exact subN.r _ _
    · split
      · exact (ih (by omega) hp).trans (subN.l _ _)
      · exact ih (by omega) hp
theorem orN_le {p : Nat → Bool} {g : Nat → Nat} {r c : Nat} (hr : subN r c) : ∀ n, (∀ i, i < n → p i = true → subN (g i) c) → subN (orN p g r n) c := by
  intro n
  induction n with
  | zero => intro _; exact hr
  | succ n ih =>
    intro h
    rw [orN]
    split
    · rename_i q; exact (ih (fun i hi hp => h i (by omega) hp)).or (h n (by omega) q)
    · exact ih (fun i hi hp => h i (by omega) hp)
/-- one step to those near -/
def stN (g : Nat → Nat) (n x : Nat) : Nat := orN (fun i => x.testBit i) g x n
def itS (g : Nat → Nat) (n x : Nat) : Nat → Nat
  | 0 => x
  | k + 1 => stN g n (itS g n x k)
theorem stN_mono {g : Nat → Nat} {n x y : Nat} (h : subN x y) : subN (stN g n x) (stN g n y) :=
  orN_le (h.trans (orN_r n)) n (fun i hi hp => orN_g n hi (h.bit hp))
theorem stN_sub {g : Nat → Nat} {n x : Nat} : subN x (stN g n x) := orN_r n
theorem itS_mono {g : Nat → Nat} {n x y : Nat} (h : subN x y) : ∀ k, subN (itS g n x k) (itS g n y k) := by
  intro k
  induction k with
  | zero => exact h
  | succ k ih => exact stN_mono ih
theorem itS_le {g : Nat → Nat} {n x : Nat} {j k : Nat} (h : j ≤ k) : subN (itS g n x j) (itS g n x k) := by
  induction k with
  | zero => rw [show j = 0 by omega]; exact subN.rfl' _
  | succ k ih =>
    by_cases e : j = k + 1
    · rw [e]; exact subN.rfl' _
    · exact (ih (by omega)).trans stN_sub
theorem itS_add {g : Nat → Nat} {n x : Nat} (j : Nat) : ∀ k, itS g n x (j + k) = itS g n (itS g n x j) k := by
  intro k
  induction k with
  | zero => rfl
  | succ k ih => show stN g n (itS g n x (j + k)) = stN g n _; rw [ih]
theorem itS_lt {g : Nat → Nat} {n x : Nat} (hx : x < 64) (hg : ∀ i, i < n → g i < 64) : ∀ k, itS g n x k < 64 := by
  intro k
  induction k with
  | zero => exact hx
  | succ k ih => exact orN_lt ih n hg
/-- six steps are enough -/
theorem itS_fix {g : Nat → Nat} {n x : Nat} (hx : x < 64) (hx0 : ¬ x = 0) (hg : ∀ i, i < n → g i < 64) : stN g n (itS g n x 6) = itS g n x 6 := by
  have key : ∀ k, (∃ j, j < k ∧ itS g n x (j + 1) = itS g n x j) ∨ k + 1 ≤ pcN (itS g n x k) := by
    intro k
    induction k with
    | zero => exact Or.inr ((pc1 x hx).resolve_left hx0)
    | succ k ih =>
      rcases ih with ⟨j, hj, e⟩ | h
      · exact Or.inl ⟨j, by omega, e⟩
      · rcases pc64 _ (itS_lt hx hg k) _ (itS_lt hx hg (k + 1)) (stN_sub (g := g) (n := n) (x := itS g n x k)) with e | e
        · exact Or.inl ⟨k, by omega, e.symm⟩
        · exact Or.inr (by omega)
  rcases key 6 with ⟨j, hj, e⟩ | h
  · have hs : ∀ m, itS g n x (j + m) = itS g n x j := by
      intro m
      induction m with
      | zero => rfl
      | succ m ih => show stN g n (itS g n x (j + m)) = _; rw [ih]; exact e
    have h6 := hs (6 - j)
    rw [show j + (6 - j) = 6 by omega] at h6
    rw [h6]
    exact e
  · have := pc_le (itS g n x 6)
    omega
theorem itS_fixk {g : Nat → Nat} {n x : Nat} (hx : x < 64) (hx0 : ¬ x = 0) (hg : ∀ i, i < n → g i < 64) : ∀ k, itS g n x (6 + k) = itS g n x 6 := by
  intro k
  induction k with
  | zero => rfl
  | succ k ih => show stN g n (itS g n x (6 + k)) = _; rw [ih]; exact itS_fix hx hx0 hg
theorem itS_any {g : Nat → Nat} {n x : Nat} (hx : x < 64) (hx0 : ¬ x = 0) (hg : ∀ i, i < n → g i < 64) (k : Nat) : subN (itS g n x k) (itS g n x 6) := by
  by_cases h : k ≤ 6
  · exact itS_le h
  · have := itS_fixk hx hx0 hg (k - 6)
    rw [show 6 + (k - 6) = k by omega] at this
    rw [this]; exact subN.rfl' _
/-- one after another: a round, rounds -/
def sqN (g : Nat → Nat) (x : Nat) : Nat → Nat
  | 0 => x
  | k + 1 => if (sqN g x k).testBit k then sqN g x k ||| g k else sqN g x k
def sqR (g : Nat → Nat) (n x : Nat) : Nat → Nat
  | 0 => x
  | k + 1 => sqN g (sqR g n x k) n
theorem sqN_r {g : Nat → Nat} {x : Nat} : ∀ k, subN x (sqN g x k) := by
  intro k
  induction k with
  | zero => exact subN.rfl' _
  | succ k ih =>
    rw [sqN]
    split
    · exact ih.trans (subN.l _ _)
    · exact ih
theorem sqN_g {g : Nat → Nat} {x i : Nat} (hp : x.testBit i = true) : ∀ k, i < k → subN (g i) (sqN g x k) := by
  intro k
  induction k with
  | zero => intro h; omega
  | succ k ih =>
    intro h
    rw [sqN]
    by_cases e : i = k
    · subst e; rw [if_pos ((sqN_r i).bit hp)]; exact subN.r _ _
    · split
      · exact (ih (by omega)).trans (subN.l _ _)
      · exact ih (by omega)
theorem sqN_le {g : Nat → Nat} {n x : Nat} : ∀ k, k ≤ n → subN (sqN g x k) (itS g n x k) := by
  intro k
  induction k with
  | zero => intro _; exact subN.rfl' _
  | succ k ih =>
    intro h
    have h1 := ih (by omega)
    rw [sqN]
    split
    · rename_i q
      exact (h1.trans stN_sub).or (orN_g n (by omega) (h1.bit q))
    · exact h1.trans stN_sub
theorem sqN_lt {g : Nat → Nat} {n x : Nat} (hx : x < 64) (hg : ∀ i, i < n → g i < 64) : ∀ k, k ≤ n → sqN g x k < 64 := by
  intro k
  induction k with
  | zero => intro _; exact hx
  | succ k ih =>
    intro h
    rw [sqN]
    split
    · exact (or64 _ (ih (by omega)) _ (hg k (by omega))).2
    · exact ih (by omega)
theorem sqR_lt {g : Nat → Nat} {n x : Nat} (hx : x < 64) (hg : ∀ i, i < n → g i < 64) : ∀ k, sqR g n x k < 64 := by
  intro k
  induction k with
  | zero => exact hx
  | succ k ih => exact sqN_lt ih hg n (Nat.le_refl _)
theorem sqR_ge {g : Nat → Nat} {n x : Nat} : ∀ k, subN (itS g n x k) (sqR g n x k) := by
  intro k
  induction k with
  | zero => exact subN.rfl' _
  | succ k ih => exact (stN_mono ih).trans (orN_le (sqN_r n) n (fun i hi hp => sqN_g hp n hi))
theorem sqR_le {g : Nat → Nat} {n x : Nat} : ∀ k, subN (sqR g n x k) (itS g n x (k * n)) := by
  intro k
  induction k with
  | zero => rw [Nat.zero_mul]; exact subN.rfl' _
  | succ k ih =>
    rw [Nat.succ_mul, itS_add]
    exact (sqN_le n (Nat.le_refl _)).trans (itS_mono ih n)
theorem sq_eq {g : Nat → Nat} {n x : Nat} (hx : x < 64) (hx0 : ¬ x = 0) (hg : ∀ i, i < n → g i < 64) : sqR g n x 6 = itS g n x 6 :=
  ((sqR_le 6).trans (itS_any hx hx0 hg _)).anti (sqR_ge 6)
/-- the numbers of a yard -/
theorem NB.g {Y : Yv} (h : NB Y) (h6 : Y.n ≤ 6) : ∃ g : Nat → Nat, ∀ i, i < Y.n → Y.near i = nI (g i) ∧ g i < 64 := by
  refine ⟨fun i => if hi : i < Y.n then Classical.choose (h i hi) else 0, fun i hi => ?_⟩
  have e := Classical.choose_spec (h i hi)
  dsimp only
  rw [dif_pos hi]
  exact ⟨e.2, by have := (pow6 h6).2.2; omega⟩
theorem nearV_nat {Y : Yv} {g : Nat → Nat} {x : Nat} (h6 : Y.n ≤ 6) (hg : ∀ i, i < Y.n → Y.near i = nI (g i) ∧ g i < 64) (hx : x < 64) : nearV Y (nI x) = nI (stN g Y.n x) :=
  orF_nat hx Y.n (fun i hi => ⟨bt64 x hx i (by omega), hg i hi⟩)
theorem nearN_nat {Y : Yv} {g : Nat → Nat} {x : Nat} (h6 : Y.n ≤ 6) (hg : ∀ i, i < Y.n → Y.near i = nI (g i) ∧ g i < 64) (hx : x < 64) : ∀ k, nearN Y (nI x) k = nI (itS g Y.n x k) := by
  intro k
  induction k with
  | zero => rfl
  | succ k ih => show nearV Y (nearN Y (nI x) k) = _; rw [ih, nearV_nat h6 hg (itS_lt hx (fun i hi => (hg i hi).2) k)]; rfl
theorem b1_nat : ∀ j, j < 6 → b1 (nI j) = nI (2 ^ j) ∧ 2 ^ j < 64 ∧ (2 ^ j).testBit j = true := by decide +kernel
theorem reachV_nat {Y : Yv} {g : Nat → Nat} {j : Nat} (h6 : Y.n ≤ 6) (hg : ∀ i, i < Y.n → Y.near i = nI (g i) ∧ g i < 64) (hj : j < Y.n) : reachV Y j = nI (itS g Y.n (2 ^ j) 6) := by
  unfold reachV
  rw [(b1_nat j (by omega)).1, nearN_nat h6 hg (b1_nat j (by omega)).2.1]
/-- the in-place round over the reference's rows -/
def sqI (Y : Yv) (x : Int32) : Nat → Int32
  | 0 => x
  | k + 1 => if decide (bitI (sqI Y x k) (nI k)) then sqI Y x k ||| Y.near k else sqI Y x k
def sqIR (Y : Yv) (x : Int32) : Nat → Int32
  | 0 => x
  | k + 1 => sqI Y (sqIR Y x k) Y.n
theorem sqI_nat {Y : Yv} {g : Nat → Nat} {x : Nat} (h6 : Y.n ≤ 6) (hg : ∀ i, i < Y.n → Y.near i = nI (g i) ∧ g i < 64) (hx : x < 64) : ∀ k, k ≤ Y.n → sqI Y (nI x) k = nI (sqN g x k) := by
  intro k
  induction k with
  | zero => intro _; rfl
  | succ k ih =>
    intro h
    have hl := sqN_lt hx (fun i hi => (hg i hi).2) k (by omega)
    rw [sqI, sqN, ih (by omega), bt64 _ hl k (by omega), (hg k (by omega)).1]
    split
    · exact (or64 _ hl _ (hg k (by omega)).2).1
    · rfl
theorem sqIR_nat {Y : Yv} {g : Nat → Nat} {x : Nat} (h6 : Y.n ≤ 6) (hg : ∀ i, i < Y.n → Y.near i = nI (g i) ∧ g i < 64) (hx : x < 64) : ∀ k, sqIR Y (nI x) k = nI (sqR g Y.n x k) := by
  intro k
  induction k with
  | zero => rfl
  | succ k ih => rw [sqIR, ih, sqI_nat h6 hg (sqR_lt hx (fun i hi => (hg i hi).2) k) Y.n (Nat.le_refl _)]; rfl
theorem sqIR_reach {Y : Yv} {j : Nat} (hB : NB Y) (h6 : Y.n ≤ 6) (hj : j < Y.n) : sqIR Y (b1 (nI j)) 6 = reachV Y j := by
  obtain ⟨g, hg⟩ := hB.g h6
  obtain ⟨e, l, -⟩ := b1_nat j (by omega)
  rw [reachV_nat h6 hg hj, e, sqIR_nat h6 hg l, sq_eq l (by have := Nat.two_pow_pos j; omega) (fun i hi => (hg i hi).2)]
end RNE
