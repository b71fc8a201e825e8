section RLY
/-- the second half of a row comes to the first -/
def sfI (M : Mm) (a n i : Nat) : Mm := (fun c k => if c = a ∧ k < i then M.1 a (n + k) else M.1 c k, M.2)
def sfL (M : Mm) (a n i : Nat) : Mm := (M.1, (fun c k => if c = a ∧ k < i then M.2.1 a (n + k) else M.2.1 c k, M.2.2))
theorem sfI_0 (M : Mm) (a n : Nat) : sfI M a n 0 = M := by
  unfold sfI
  refine Prod.ext ?_ rfl
  funext c k
  exact if_neg (fun q => absurd q.2 (Nat.not_lt_zero k))
theorem sfL_0 (M : Mm) (a n : Nat) : sfL M a n 0 = M := by
  unfold sfL
  refine Prod.ext rfl (Prod.ext ?_ rfl)
  funext c k
  exact if_neg (fun q => absurd q.2 (Nat.not_lt_zero k))
theorem sfI_s {M : Mm} {a n i : Nat} (h : i < n) : setI (sfI M a n i) a i ((sfI M a n i).1 a (n + i)) = sfI M a n (i + 1) := by
  have hv : (sfI M a n i).1 a (n + i) = M.1 a (n + i) := if_neg (fun q => by have := q.2; omega)
  refine Prod.ext ?_ rfl
  funext c k
  rw [setI_1, hv]
  show (if c = a ∧ k = i then M.1 a (n + i) else if c = a ∧ k < i then M.1 a (n + k) else M.1 c k) = if c = a ∧ k < i + 1 then M.1 a (n + k) else M.1 c k
  by_cases q : c = a ∧ k = i
  · rw [if_pos q, if_pos ⟨q.1, by omega⟩, q.2]
  · rw [if_neg q]
    by_cases z : c = a ∧ k < i
    · rw [if_pos z, if_pos ⟨z.1, by omega⟩]
    · rw [if_neg z, if_neg (fun y => by have := y.2; have := y.1; omega)]
theorem sfL_s {M : Mm} {a n i : Nat} (h : i < n) : setL (sfL M a n i) a i ((sfL M a n i).2.1 a (n + i)) = sfL M a n (i + 1) := by
  have hv : (sfL M a n i).2.1 a (n + i) = M.2.1 a (n + i) := if_neg (fun q => by have := q.2; omega)
  refine Prod.ext rfl (Prod.ext ?_ rfl)
  funext c k
  rw [setL_21, hv]
  show (if c = a ∧ k = i then M.2.1 a (n + i) else if c = a ∧ k < i then M.2.1 a (n + k) else M.2.1 c k) = if c = a ∧ k < i + 1 then M.2.1 a (n + k) else M.2.1 c k
  by_cases q : c = a ∧ k = i
  · rw [if_pos q, if_pos ⟨q.1, by omega⟩, q.2]
  · rw [if_neg q]
    by_cases z : c = a ∧ k < i
    · rw [if_pos z, if_pos ⟨z.1, by omega⟩]
    · rw [if_neg z, if_neg (fun y => by have := y.2; have := y.1; omega)]
theorem sfI_ne {M : Mm} {a n i c : Nat} (h : ¬ c = a) : (sfI M a n i).1 c = M.1 c := by funext k; exact if_neg (fun q => h q.1)
theorem sfI_eq {M : Mm} {a n i k : Nat} (h : k < i) : (sfI M a n i).1 a k = M.1 a (n + k) := if_pos ⟨rfl, h⟩
theorem sfL_ne {M : Mm} {a n i c : Nat} (h : ¬ c = a) : (sfL M a n i).2.1 c = M.2.1 c := by funext k; exact if_neg (fun q => h q.1)
theorem sfL_eq {M : Mm} {a n i k : Nat} (h : k < i) : (sfL M a n i).2.1 a k = M.2.1 a (n + k) := if_pos ⟨rfl, h⟩
set_option maxHeartbeats 500000 in
set_option maxRecDepth 20000 in
theorem l_shifts {G : Gt} {M : Mm} {a n N : Nat} (ha : shp a = (1, N, [])) (hN : n + n ≤ N) (hN2 : N < 2 ^ 31) : ∀ (k : Nat) (i : Nat) , (i ≤ n) → (n < i + k) → Ev G 1 mX11_shifts 2 [.ref a, .int (nI n), .int (nI i)] [] (sfI M a n i) (eqQ none (sfI M a n n)) := by
  intro k
  induction k with
  | zero => intro i hi hk; exact absurd hk (by omega)
  | succ k ih =>
    intro i hi hk
    refine e_iload_n dX11_shifts_2 rfl ?_
    refine e_iload_n dX11_shifts_3 rfl ?_
    refine e_icmp_ge (tgt := 21) dX11_shifts_4 (by decide) (fun c4 => ?_) (fun c4 => ?_)
    · -- 4 jumps
      have hin : i = n := by have := ge_of (n := n) (by omega) (by omega) c4; omega
      subst hin
      refine e_vret dX11_shifts_21 rfl ?_
      exact ⟨rfl, rfl⟩
    · -- 4 goes on
      have hlt : i < n := lt_of (n := n) (by omega) (by omega) c4
      refine e_aload_n dX11_shifts_7 rfl ?_
      refine e_iload_n dX11_shifts_8 rfl ?_
      refine e_aload_n dX11_shifts_9 rfl ?_
      refine e_iload_n dX11_shifts_10 rfl ?_
      refine e_iload_n dX11_shifts_11 rfl ?_
      refine e_iaddN (a := n) (b := i) dX11_shifts_12 ?_
      refine e_ialdN (j := (n + i)) dX11_shifts_13 ha hN2 (by omega) ?_
      refine e_iastN (j := i) dX11_shifts_14 ha hN2 (by omega) ?_
      refine e_iinc (ls' := [_, _, _]) dX11_shifts_15 rfl (nI_i1 _) (by decide) rfl ?_
      refine e_goto (tgt := 2) dX11_shifts_18 (by decide) ?_
      rw [sfI_s hlt]
      exact ih (i + 1) (by omega) (by omega)
set_option maxHeartbeats 500000 in
set_option maxRecDepth 20000 in
theorem r_shifts {G : Gt} {M : Mm} {a n N : Nat} (ha : shp a = (1, N, [])) (hN : n + n ≤ N) (hN2 : N < 2 ^ 31) : Call G 1 mX11_shifts [.ref a, .int (nI n)] M (eqQ none (sfI M a n n)) := by
  refine Call.intro rfl (Nat.le_of_ble_eq_true rfl) ?_
  show Ev G _ mX11_shifts 0 [.ref a, .int (nI n), RA] [] M _
  refine e_iconst (v := 0) dX11_shifts_0 (by decide) ?_
  refine e_istore_n (ls' := [_, _, _]) dX11_shifts_1 (by decide) rfl ?_
  have h := l_shifts (G := G) (M := M) ha hN hN2 (n + 1) 0 (by omega) (by omega)
  rw [sfI_0] at h
  exact h
set_option maxHeartbeats 500000 in
set_option maxRecDepth 20000 in
theorem l_shiftsNames {G : Gt} {M : Mm} {a n N : Nat} (ha : shp a = (2, N, [])) (hN : n + n ≤ N) (hN2 : N < 2 ^ 31) : ∀ (k : Nat) (i : Nat) , (i ≤ n) → (n < i + k) → Ev G 1 mX11_shiftsNames 2 [.ref a, .int (nI n), .int (nI i)] [] (sfL M a n i) (eqQ none (sfL M a n n)) := by
  intro k
  induction k with
  | zero => intro i hi hk; exact absurd hk (by omega)
  | succ k ih =>
    intro i hi hk
    refine e_iload_n dX11_shiftsNames_2 rfl ?_
    refine e_iload_n dX11_shiftsNames_3 rfl ?_
    refine e_icmp_ge (tgt := 21) dX11_shiftsNames_4 (by decide) (fun c4 => ?_) (fun c4 => ?_)
    · -- 4 jumps
      have hin : i = n := by have := ge_of (n := n) (by omega) (by omega) c4; omega
      subst hin
      refine e_vret dX11_shiftsNames_21 rfl ?_
      exact ⟨rfl, rfl⟩
    · -- 4 goes on
      have hlt : i < n := lt_of (n := n) (by omega) (by omega) c4
      refine e_aload_n dX11_shiftsNames_7 rfl ?_
      refine e_iload_n dX11_shiftsNames_8 rfl ?_
      refine e_aload_n dX11_shiftsNames_9 rfl ?_
      refine e_iload_n dX11_shiftsNames_10 rfl ?_
      refine e_iload_n dX11_shiftsNames_11 rfl ?_
      refine e_iaddN (a := n) (b := i) dX11_shiftsNames_12 ?_
      refine e_laldN (j := (n + i)) dX11_shiftsNames_13 ha hN2 (by omega) ?_
      refine e_lastN (j := i) dX11_shiftsNames_14 ha hN2 (by omega) ?_
      refine e_iinc (ls' := [_, _, _]) dX11_shiftsNames_15 rfl (nI_i1 _) (by decide) rfl ?_
      refine e_goto (tgt := 2) dX11_shiftsNames_18 (by decide) ?_
      rw [sfL_s hlt]
      exact ih (i + 1) (by omega) (by omega)
set_option maxHeartbeats 500000 in
set_option maxRecDepth 20000 in
theorem r_shiftsNames {G : Gt} {M : Mm} {a n N : Nat} (ha : shp a = (2, N, [])) (hN : n + n ≤ N) (hN2 : N < 2 ^ 31) : Call G 1 mX11_shiftsNames [.ref a, .int (nI n)] M (eqQ none (sfL M a n n)) := by
  refine Call.intro rfl (Nat.le_of_ble_eq_true rfl) ?_
  show Ev G _ mX11_shiftsNames 0 [.ref a, .int (nI n), RA] [] M _
  refine e_iconst (v := 0) dX11_shiftsNames_0 (by decide) ?_
  refine e_istore_n (ls' := [_, _, _]) dX11_shiftsNames_1 (by decide) rfl ?_
  have h := l_shiftsNames (G := G) (M := M) ha hN hN2 (n + 1) 0 (by omega) (by omega)
  rw [sfL_0] at h
  exact h
/-- all halves shifted -/
def lyM (M : Mm) : Mm := sfI (sfI (sfI (sfI (sfI (sfI (sfI (sfI (sfL (sfL (sfI M 240 4 4) 241 6 6) 242 5 5) 243 6 6) 244 6 6) 245 6 6) 246 6 6) 247 5 5) 248 5 5) 249 12 12) 252 1000 1000
theorem ly_240 {M : Mm} {k : Nat} (h : k < 4) : (lyM M).1 240 k = M.1 240 (4 + k) := by
  unfold lyM
  rw [sfI_ne (by decide)]
  rw [sfI_ne (by decide)]
  rw [sfI_ne (by decide)]
  rw [sfI_ne (by decide)]
  rw [sfI_ne (by decide)]
  rw [sfI_ne (by decide)]
  rw [sfI_ne (by decide)]
  rw [sfI_ne (by decide)]
  show (sfI M 240 4 4).1 240 k = _
  rw [sfI_eq h]
theorem ly_243 {M : Mm} {k : Nat} (h : k < 6) : (lyM M).1 243 k = M.1 243 (6 + k) := by
  unfold lyM
  rw [sfI_ne (by decide)]
  rw [sfI_ne (by decide)]
  rw [sfI_ne (by decide)]
  rw [sfI_ne (by decide)]
  rw [sfI_ne (by decide)]
  rw [sfI_ne (by decide)]
  rw [sfI_ne (by decide)]
  rw [sfI_eq h]
  first | rfl | (simp only [sfI, sfL]; rw [if_neg (fun q => absurd q.1 (by decide))])
theorem ly_244 {M : Mm} {k : Nat} (h : k < 6) : (lyM M).1 244 k = M.1 244 (6 + k) := by
  unfold lyM
  rw [sfI_ne (by decide)]
  rw [sfI_ne (by decide)]
  rw [sfI_ne (by decide)]
  rw [sfI_ne (by decide)]
  rw [sfI_ne (by decide)]
  rw [sfI_ne (by decide)]
  rw [sfI_eq h]
  first | rfl | (simp only [sfI, sfL]; rw [if_neg (fun q => absurd q.1 (by decide)), if_neg (fun q => absurd q.1 (by decide))])
theorem ly_245 {M : Mm} {k : Nat} (h : k < 6) : (lyM M).1 245 k = M.1 245 (6 + k) := by
  unfold lyM
  rw [sfI_ne (by decide)]
  rw [sfI_ne (by decide)]
  rw [sfI_ne (by decide)]
  rw [sfI_ne (by decide)]
  rw [sfI_ne (by decide)]
  rw [sfI_eq h]
  first | rfl | (simp only [sfI, sfL]; rw [if_neg (fun q => absurd q.1 (by decide)), if_neg (fun q => absurd q.1 (by decide)), if_neg (fun q => absurd q.1 (by decide))])
theorem ly_246 {M : Mm} {k : Nat} (h : k < 6) : (lyM M).1 246 k = M.1 246 (6 + k) := by
  unfold lyM
  rw [sfI_ne (by decide)]
  rw [sfI_ne (by decide)]
  rw [sfI_ne (by decide)]
  rw [sfI_ne (by decide)]
  rw [sfI_eq h]
  first | rfl | (simp only [sfI, sfL]; rw [if_neg (fun q => absurd q.1 (by decide)), if_neg (fun q => absurd q.1 (by decide)), if_neg (fun q => absurd q.1 (by decide)), if_neg (fun q => absurd q.1 (by decide))])
theorem ly_247 {M : Mm} {k : Nat} (h : k < 5) : (lyM M).1 247 k = M.1 247 (5 + k) := by
  unfold lyM
  rw [sfI_ne (by decide)]
  rw [sfI_ne (by decide)]
  rw [sfI_ne (by decide)]
  rw [sfI_eq h]
  first | rfl | (simp only [sfI, sfL]; rw [if_neg (fun q => absurd q.1 (by decide)), if_neg (fun q => absurd q.1 (by decide)), if_neg (fun q => absurd q.1 (by decide)), if_neg (fun q => absurd q.1 (by decide)), if_neg (fun q => absurd q.1 (by decide))])
theorem ly_248 {M : Mm} {k : Nat} (h : k < 5) : (lyM M).1 248 k = M.1 248 (5 + k) := by
  unfold lyM
  rw [sfI_ne (by decide)]
  rw [sfI_ne (by decide)]
  rw [sfI_eq h]
  first | rfl | (simp only [sfI, sfL]; rw [if_neg (fun q => absurd q.1 (by decide)), if_neg (fun q => absurd q.1 (by decide)), if_neg (fun q => absurd q.1 (by decide)), if_neg (fun q => absurd q.1 (by decide)), if_neg (fun q => absurd q.1 (by decide)), if_neg (fun q => absurd q.1 (by decide))])
theorem ly_249 {M : Mm} {k : Nat} (h : k < 12) : (lyM M).1 249 k = M.1 249 (12 + k) := by
  unfold lyM
  rw [sfI_ne (by decide)]
  rw [sfI_eq h]
  first | rfl | (simp only [sfI, sfL]; rw [if_neg (fun q => absurd q.1 (by decide)), if_neg (fun q => absurd q.1 (by decide)), if_neg (fun q => absurd q.1 (by decide)), if_neg (fun q => absurd q.1 (by decide)), if_neg (fun q => absurd q.1 (by decide)), if_neg (fun q => absurd q.1 (by decide)), if_neg (fun q => absurd q.1 (by decide))])
theorem ly_252 {M : Mm} {k : Nat} (h : k < 1000) : (lyM M).1 252 k = M.1 252 (1000 + k) := by
  unfold lyM
  rw [sfI_eq h]
  first | rfl | (simp only [sfI, sfL]; rw [if_neg (fun q => absurd q.1 (by decide)), if_neg (fun q => absurd q.1 (by decide)), if_neg (fun q => absurd q.1 (by decide)), if_neg (fun q => absurd q.1 (by decide)), if_neg (fun q => absurd q.1 (by decide)), if_neg (fun q => absurd q.1 (by decide)), if_neg (fun q => absurd q.1 (by decide)), if_neg (fun q => absurd q.1 (by decide))])
theorem ly_ne {M : Mm} {c : Nat} (h : ¬ (c = 240 ∨ (243 ≤ c ∧ c ≤ 249) ∨ c = 252)) : (lyM M).1 c = M.1 c := by
  unfold lyM
  rw [sfI_ne (by omega), sfI_ne (by omega), sfI_ne (by omega), sfI_ne (by omega), sfI_ne (by omega), sfI_ne (by omega), sfI_ne (by omega), sfI_ne (by omega)]
  show (sfI M 240 4 4).1 c = _
  rw [sfI_ne (by omega)]
theorem ly_241 {M : Mm} {k : Nat} (h : k < 6) : (lyM M).2.1 241 k = M.2.1 241 (6 + k) := by
  show (sfL (sfL (sfI M 240 4 4) 241 6 6) 242 5 5).2.1 241 k = _
  rw [sfL_ne (by decide), sfL_eq h]; rfl
theorem ly_242 {M : Mm} {k : Nat} (h : k < 5) : (lyM M).2.1 242 k = M.2.1 242 (5 + k) := by
  show (sfL (sfL (sfI M 240 4 4) 241 6 6) 242 5 5).2.1 242 k = _
  rw [sfL_eq h, sfL_ne (by decide)]; rfl
theorem ly_Lne {M : Mm} {c : Nat} (h : ¬ (c = 241 ∨ c = 242)) : (lyM M).2.1 c = M.2.1 c := by
  show (sfL (sfL (sfI M 240 4 4) 241 6 6) 242 5 5).2.1 c = _
  rw [sfL_ne (by omega), sfL_ne (by omega)]; rfl
end RLY
