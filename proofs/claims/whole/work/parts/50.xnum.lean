section XNU
theorem rnN_in {lo hi : Int32} {t : Tv} : ∀ (k i q : Nat), i ≤ q → q < rnN lo hi t k i → vWi (t.2 q) lo hi := by
  intro k
  induction k with
  | zero => intro i q h1 h2; exact absurd h2 (by show ¬ q < i; omega)
  | succ k ih =>
    intro i q h1 h2
    rw [rnN] at h2
    split at h2
    · rename_i hb
      rcases Nat.eq_or_lt_of_le h1 with e | e
      · subst e; exact hb
      · exact ih (i + 1) q e h2
    · omega
theorem dig {c : Int32} (h : vWi c 48 57) : ∃ m, m < 10 ∧ c = nI (48 + m) := by
  have h1 := h.1
  have h2 := h.2
  rw [Int32.not_lt, Int32.le_iff_toInt_le] at h1 h2
  have e48 : (48 : Int32).toInt = 48 := by decide
  have e57 : (57 : Int32).toInt = 57 := by decide
  rw [e48] at h1
  rw [e57] at h2
  refine ⟨(c.toInt - 48).toNat, by omega, ?_⟩
  apply Int32.toInt_inj.mp
  have hk : 48 + (c.toInt - 48).toNat < 2 ^ 31 := by omega
  show c.toInt = (Int32.ofNat (48 + (c.toInt - 48).toNat)).toInt
  rw [Int32.toInt_ofNat_of_lt hk]
  omega
theorem acN_lt {t : Tv} {p : Nat} : ∀ k, k ≤ 4 → (∀ q, p ≤ q → q < p + k → vWi (t.2 q) 48 57) → ∃ m, m < 10 ^ k ∧ acN t p k = nI m := by
  intro k
  induction k with
  | zero => intro _ _; exact ⟨0, by decide, rfl⟩
  | succ k ih =>
    intro hk hv
    obtain ⟨m, hm, em⟩ := ih (by omega) (fun q h1 h2 => hv q h1 (by omega))
    obtain ⟨j, hj, ej⟩ := dig (hv (p + k) (by omega) (by omega))
    refine ⟨m * 10 + j, by rw [Nat.pow_succ]; omega, ?_⟩
    rw [acN, em, ej]
    show Int32.ofNat m * Int32.ofNat 10 + Int32.ofNat (48 + j) - Int32.ofNat 48 = Int32.ofNat (m * 10 + j)
    rw [← Int32.ofNat_mul, ← Int32.ofNat_add, show m * 10 + (48 + j) = m * 10 + j + 48 by omega]
    have := nI_subN (a := m * 10 + j + 48) (b := 48) (by omega)
    rw [show m * 10 + j + 48 - 48 = m * 10 + j by omega] at this
    exact this
/-- a number told is below 10000 -/
theorem nm_lt {t : Tv} {x : Xv} (h : isN t x) : ∃ m, m < 10000 ∧ nmX t x = nI m := by
  have h3 := h.2
  unfold kdX kdP at h3
  split at h3
  · split at h3
    · split at h3 <;> exact absurd h3 (by decide)
    · split at h3
      · split at h3
        · exact absurd h3 (by decide)
        · rename_i h4
          obtain ⟨m, hm, em⟩ := acN_lt (t := t) (p := pl t x.2) (rn 48 57 t (pl t x.2) - pl t x.2) (by omega) (fun q h1 h2 => rnN_in (lo := 48) (hi := 57) (t := t) (t.1 - pl t x.2) (pl t x.2) q h1 (by show q < rn 48 57 t (pl t x.2); omega))
          refine ⟨m, Nat.lt_of_lt_of_le hm ?_, em⟩
          exact Nat.le_trans (Nat.pow_le_pow_right (by decide) (show rn 48 57 t (pl t x.2) - pl t x.2 ≤ 4 by omega)) (by decide)
      · split at h3 <;> exact absurd h3 (by decide)
  · exact absurd h3 (by decide)
theorem nm_nn {t : Tv} {x : Xv} (h : isN t x) : ¬ nmX t x < 0 := by
  obtain ⟨m, hm, em⟩ := nm_lt h
  rw [em]
  intro q
  exact absurd ((nI_ltI (a := m) (b := 0) (by omega) (by decide)).mp q) (Nat.not_lt_zero m)
end XNU
