section IVS
/-- the reference's part alone counts -/
theorem RJ.fr {M M1 : Mm} {E : Gs} (h : RJ M E) (hf : ∀ i, 238 ≤ i → i ≤ 284 → M1.1 i = M.1 i) (hf2 : ∀ i, 238 ≤ i → i ≤ 284 → M1.2.1 i = M.2.1 i) : RJ M1 E :=
  ⟨h.1.congr (fun i a b => hf i (by omega) (by omega)) (fun i q => hf2 i (by omega) (by omega)), h.2.1.congr (fun i a b => hf i (by omega) (by omega)), h.2.2.1.congr h.1.1.2 (fun k _ => by rw [hf 273 (by omega) (by omega)]),
    h.2.2.2.1.congr (fun i a b => hf i (by omega) (by omega)), h.2.2.2.2.1.congr (fun i a b => hf i (by omega) (by omega)), fun k hk => (h.2.2.2.2.2.1 k hk).congr h.1.1.2 (fun i q => hf i (by omega) (by omega)),
    ⟨by rw [hf 238 (by omega) (by omega)]; exact h.2.2.2.2.2.2.1.1, h.2.2.2.2.2.2.1.2.1, fun k hk => (h.2.2.2.2.2.2.1.2.2 k hk).congr h.1.1.2 (fun z _ => by rw [hf 278 (by omega) (by omega)])⟩,
    ⟨by rw [hf 238 (by omega) (by omega)]; exact h.2.2.2.2.2.2.2.1, h.2.2.2.2.2.2.2.2.1, fun k hk => by rw [hf 239 (by omega) (by omega)]; exact h.2.2.2.2.2.2.2.2.2 k hk⟩⟩
/-- the class's part alone counts -/
theorem XI.fr {M M1 : Mm} {E : Gs} (h : XI M E) (h1 : ∀ i, i < 238 → M1.1 i = M.1 i) (h2 : ∀ i, i < 238 → M1.2.1 i = M.2.1 i) (h3 : M1.2.2 0 = M.2.2 0) : XI M1 E := by
  obtain ⟨y, y', w, w', p, ⟨a1, a2, a3, a4, a5⟩, ⟨b1, b2, b3, b4, b5⟩, hY, hW, hS, hV, hK, hU, hT⟩ := h
  have hy := yd_two a3
  refine ⟨y, y', w, w', p, ⟨by rw [h3]; exact a1, by rw [h3]; exact a2, a3, a4, a5⟩, ⟨by rw [h3]; exact b1, by rw [h3]; exact b2, b3, b4, b5⟩, hY.cg (fun i q1 q2 => h1 i (by omega)) (h2 _ (by omega)) (h2 _ (by omega)), hW.congr (fun i q1 q2 => h1 i (by omega)), hS.congr (fun i q1 q2 => h1 i (by omega)), hV.congr (fun i q1 q2 => h1 i (by omega)),
    fun k hk => (hK k hk).congr (fun i q1 q2 => h1 i (by omega)), ⟨by rw [h1 0 (by omega)]; exact hU.1, hU.2.1, by rw [h1 0 (by omega)]; exact hU.2.2.1, hU.2.2.2.1, fun k hk => (hU.2.2.2.2 k hk).congr (fun i q1 q2 => h1 i ?_)⟩, by rw [h1 6 (by omega)]; exact hT.1, hT.2.1, fun k hk => by rw [h1 7 (by omega)]; exact hT.2.2 k hk⟩
  have hm : (p + 16 - E.un + k) % 16 < 16 := Nat.mod_lt _ (by decide)
  unfold rng at q2
  omega
/-- what holds of what stands, of lines and of what was seen -/
def IVs (Y : Yv) (S : Sv) (T : Nat) : Prop := SI Y S T ∧ SH Y S
def IV (E : Gs) (T : Nat) : Prop := TI E.1 ∧ (NS E.Y ∧ NB E.Y ∧ E.Y.n ≤ 6 ∧ SI E.Y (begV E.Y) 0) ∧ WI E.Y.n E.W ∧ VI E.V ∧ IVs E.Y E.S T ∧ (∀ k, k < E.un → IVs E.Y (E.us k) T) ∧ ∀ k q, E.K k = some q → IVs E.Y q.1 T ∧ WI E.Y.n q.2.1 ∧ VI q.2.2
theorem IVs.mono {Y : Yv} {S : Sv} {T T' : Nat} (h : IVs Y S T) (hT : T ≤ T') : IVs Y S T' := ⟨h.1.mono hT, h.2⟩
theorem IV.mono {E : Gs} {T T' : Nat} (h : IV E T) (hT : T ≤ T') : IV E T' := ⟨h.1, h.2.1, h.2.2.1, h.2.2.2.1, h.2.2.2.2.1.mono hT, fun k hk => (h.2.2.2.2.2.1 k hk).mono hT, fun k q hq => ⟨(h.2.2.2.2.2.2 k q hq).1.mono hT, (h.2.2.2.2.2.2 k q hq).2⟩⟩
theorem IV.setT {E : Gs} {T : Nat} {t : Nat × (Nat → Int32)} (h : IV E T) (ht : TI t) : IV (E.setT t) T := ⟨ht, h.2⟩
/-- a deed by hand: the one before is kept -/
theorem IV.deed {E : Gs} {T : Nat} {S : Sv} (h : IV E T) (hS : IVs E.Y S T) : IV ((remE E).setS S) T := by
  refine ⟨h.1, h.2.1, h.2.2.1, h.2.2.2.1, hS, ?_, h.2.2.2.2.2.2⟩
  intro k hk
  show IVs E.Y ((pushU E).2 k) T
  have hk' : k < (pushU E).1 := hk
  unfold pushU at hk' ⊢
  by_cases hu : E.un < 16
  · rw [if_pos hu] at hk' ⊢
    dsimp only at hk' ⊢
    by_cases hq : k = E.un
    · rw [if_pos hq]; exact h.2.2.2.2.1
    · rw [if_neg hq]; exact h.2.2.2.2.2.1 k (by omega)
  · rw [if_neg hu] at hk' ⊢
    dsimp only at hk' ⊢
    by_cases hq : k = 15
    · rw [if_pos hq]; exact h.2.2.2.2.1
    · rw [if_neg hq]; exact h.2.2.2.2.2.1 (k + 1) (by omega)
theorem IV.undo {E : Gs} {T : Nat} (h : IV E T) (h0 : 0 < E.un) : IV (undoE E) T :=
  ⟨h.1, h.2.1, h.2.2.1, h.2.2.2.1, h.2.2.2.2.2.1 (E.un - 1) (by omega), fun k hk => h.2.2.2.2.2.1 k (Nat.lt_of_lt_of_le hk (Nat.sub_le _ _)), h.2.2.2.2.2.2⟩
end IVS
