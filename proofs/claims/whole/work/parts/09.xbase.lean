section XB
theorem i_inc1 (x : Int32) : x + Int32.ofInt 1 = x + 1 := rfl
theorem nI_i1 (i : Nat) : nI i + Int32.ofInt 1 = nI (i + 1) := nI_1 i
theorem lt_of {i n : Nat} (hi : i < 2 ^ 31) (hn : n < 2 ^ 31) (h : nI i < nI n) : i < n := (nI_ltI hi hn).mp h
theorem ge_of {i n : Nat} (hi : i < 2 ^ 31) (hn : n < 2 ^ 31) (h : ¬ nI i < nI n) : n ≤ i := Nat.not_lt.mp (fun q => h ((nI_ltI hi hn).mpr q))
theorem in_of {i n : Nat} (hn : n < 2 ^ 31) (h : i < n) : vp_in (nI i) n := vp_in_nI h hn
/-- a row's place, looked at before it is read -/
def atI (M : Mm) (a n : Nat) (i : Int32) : Int32 := if ¬ i < 0 ∧ i < nI n then M.1 a i.toNatClampNeg else 0
def atL (M : Mm) (a n : Nat) (i : Int32) : Int64 := if ¬ i < 0 ∧ i < nI n then M.2.1 a i.toNatClampNeg else 0
def putI (M : Mm) (a n : Nat) (i v : Int32) : Mm := if ¬ i < 0 ∧ i < nI n then setI M a i.toNatClampNeg v else M
def putL (M : Mm) (a n : Nat) (i : Int32) (v : Int64) : Mm := if ¬ i < 0 ∧ i < nI n then setL M a i.toNatClampNeg v else M
theorem vp_in_dec {i : Int32} {n : Nat} (hn : n < 2 ^ 31) : vp_in i n ↔ ¬ i < 0 ∧ i < nI n := by
  rw [vp_in_iff, Int32.lt_iff_toInt_lt, Int32.lt_iff_toInt_lt, nI_toInt hn]
  simp
theorem atI_nI {M : Mm} {a n j : Nat} (hn : n < 2 ^ 31) (hj : j < n) : atI M a n (nI j) = M.1 a j := by
  unfold atI; rw [if_pos ((vp_in_dec hn).mp (in_of hn hj)), nI_clamp (by omega)]
theorem atL_nI {M : Mm} {a n j : Nat} (hn : n < 2 ^ 31) (hj : j < n) : atL M a n (nI j) = M.2.1 a j := by
  unfold atL; rw [if_pos ((vp_in_dec hn).mp (in_of hn hj)), nI_clamp (by omega)]
theorem putI_nI {M : Mm} {a n j : Nat} {v : Int32} (hn : n < 2 ^ 31) (hj : j < n) : putI M a n (nI j) v = setI M a j v := by
  unfold putI; rw [if_pos ((vp_in_dec hn).mp (in_of hn hj)), nI_clamp (by omega)]
theorem putL_nI {M : Mm} {a n j : Nat} {v : Int64} (hn : n < 2 ^ 31) (hj : j < n) : putL M a n (nI j) v = setL M a j v := by
  unfold putL; rw [if_pos ((vp_in_dec hn).mp (in_of hn hj)), nI_clamp (by omega)]
/-- a row copied to another -/
def cpI (M : Mm) (a b n : Nat) : Mm := (fun i k => if i = b ∧ k < n then M.1 a k else M.1 i k, M.2)
theorem cpI_0 (M : Mm) (a b : Nat) : cpI M a b 0 = M := by simp [cpI]
theorem cpI_s (M : Mm) (a b i : Nat) : setI (cpI M a b i) b i ((cpI M a b i).1 a i) = cpI M a b (i + 1) := by
  unfold setI cpI
  refine Prod.ext ?_ rfl
  funext j q
  dsimp only
  by_cases hj : j = b
  · subst hj
    by_cases hq : q = i
    · subst hq; simp
    · have : (q < i + 1) ↔ (q < i) := by omega
      simp [hq, this]
  · simp [hj]

set_option maxHeartbeats 4000000 in
set_option maxRecDepth 20000 in
theorem c_at {G : Gt} {M : Mm} {a n : Nat} {i : Int32} (hs : shp a = (1, n, [])) (hn : n < 2 ^ 31) : Call G 1 mX10_at [.ref a, .int i] M (eqQ (some (.int (atI M a n i))) M) := by
  refine Call.intro rfl (Nat.le_of_ble_eq_true rfl) ?_
  show Ev G _ mX10_at 0 [.ref a, .int i] [] M _
  refine e_iload_n dX10_at_0 rfl ?_
  refine e_if_lt (tgt := 16) dX10_at_1 (by decide) (fun c1 => ?_) (fun c1 => ?_)
  · -- 1 jumps
    refine e_iconst (v := 0) dX10_at_16 (by decide) ?_
    refine e_iret dX10_at_17 rfl ?_
    exact ⟨by simp only [atI]; rw [if_neg (fun q => by first | exact absurd c1 q.1 | exact absurd q.2 c7)], rfl⟩
  · -- 1 goes on
    refine e_iload_n dX10_at_4 rfl ?_
    refine e_aload_n dX10_at_5 rfl ?_
    refine e_alenI dX10_at_6 hs rfl ?_
    refine e_icmp_ge (tgt := 16) dX10_at_7 (by decide) (fun c7 => ?_) (fun c7 => ?_)
    · -- 7 jumps
      refine e_iconst (v := 0) dX10_at_16 (by decide) ?_
      refine e_iret dX10_at_17 rfl ?_
      exact ⟨by simp only [atI]; rw [if_neg (fun q => by first | exact absurd c1 q.1 | exact absurd q.2 c7)], rfl⟩
    · -- 7 goes on
      refine e_aload_n dX10_at_10 rfl ?_
      refine e_iload_n dX10_at_11 rfl ?_
      refine e_iald dX10_at_12 hs ((vp_in_dec hn).mpr ⟨c1, c7⟩) ?_
      refine e_goto (tgt := 17) dX10_at_13 (by decide) ?_
      refine e_iret dX10_at_17 rfl ?_
      exact ⟨by simp only [atI]; rw [if_pos ⟨c1, c7⟩], rfl⟩
set_option maxHeartbeats 4000000 in
set_option maxRecDepth 20000 in
theorem c_atL {G : Gt} {M : Mm} {a n : Nat} {i : Int32} (hs : shp a = (2, n, [])) (hn : n < 2 ^ 31) : Call G 1 mX10_at_ [.ref a, .int i] M (eqQ (some (.long (atL M a n i))) M) := by
  refine Call.intro rfl (Nat.le_of_ble_eq_true rfl) ?_
  show Ev G _ mX10_at_ 0 [.ref a, .int i] [] M _
  refine e_iload_n dX10_at__0 rfl ?_
  refine e_if_lt (tgt := 16) dX10_at__1 (by decide) (fun c1 => ?_) (fun c1 => ?_)
  · -- 1 jumps
    refine e_lconst (v := 0) dX10_at__16 rfl ?_
    refine e_lret dX10_at__17 rfl ?_
    exact ⟨by simp only [atL]; rw [if_neg (fun q => by first | exact absurd c1 q.1 | exact absurd q.2 c7)], rfl⟩
  · -- 1 goes on
    refine e_iload_n dX10_at__4 rfl ?_
    refine e_aload_n dX10_at__5 rfl ?_
    refine e_alenL dX10_at__6 hs rfl ?_
    refine e_icmp_ge (tgt := 16) dX10_at__7 (by decide) (fun c7 => ?_) (fun c7 => ?_)
    · -- 7 jumps
      refine e_lconst (v := 0) dX10_at__16 rfl ?_
      refine e_lret dX10_at__17 rfl ?_
      exact ⟨by simp only [atL]; rw [if_neg (fun q => by first | exact absurd c1 q.1 | exact absurd q.2 c7)], rfl⟩
    · -- 7 goes on
      refine e_aload_n dX10_at__10 rfl ?_
      refine e_iload_n dX10_at__11 rfl ?_
      refine e_lald dX10_at__12 hs ((vp_in_dec hn).mpr ⟨c1, c7⟩) ?_
      refine e_goto (tgt := 17) dX10_at__13 (by decide) ?_
      refine e_lret dX10_at__17 rfl ?_
      exact ⟨by simp only [atL]; rw [if_pos ⟨c1, c7⟩], rfl⟩
set_option maxHeartbeats 4000000 in
set_option maxRecDepth 20000 in
theorem c_put {G : Gt} {M : Mm} {a n : Nat} {i : Int32} {v : Int32} (hs : shp a = (1, n, [])) (hn : n < 2 ^ 31) : Call G 1 mX10_put [.ref a, .int i, .int v] M (eqQ none (putI M a n i v)) := by
  refine Call.intro rfl (Nat.le_of_ble_eq_true rfl) ?_
  show Ev G _ mX10_put 0 [.ref a, .int i, .int v] [] M _
  refine e_iload_n dX10_put_0 rfl ?_
  refine e_if_lt (tgt := 14) dX10_put_1 (by decide) (fun c1 => ?_) (fun c1 => ?_)
  · -- 1 jumps
    refine e_vret dX10_put_14 rfl ?_
    exact ⟨rfl, by simp only [putI]; rw [if_neg (fun q => by first | exact absurd c1 q.1 | exact absurd q.2 c7)]⟩
  · -- 1 goes on
    refine e_iload_n dX10_put_4 rfl ?_
    refine e_aload_n dX10_put_5 rfl ?_
    refine e_alenI dX10_put_6 hs rfl ?_
    refine e_icmp_ge (tgt := 14) dX10_put_7 (by decide) (fun c7 => ?_) (fun c7 => ?_)
    · -- 7 jumps
      refine e_vret dX10_put_14 rfl ?_
      exact ⟨rfl, by simp only [putI]; rw [if_neg (fun q => by first | exact absurd c1 q.1 | exact absurd q.2 c7)]⟩
    · -- 7 goes on
      refine e_aload_n dX10_put_10 rfl ?_
      refine e_iload_n dX10_put_11 rfl ?_
      refine e_iload_n dX10_put_12 rfl ?_
      refine e_iast dX10_put_13 hs ((vp_in_dec hn).mpr ⟨c1, by assumption⟩) ?_
      refine e_vret dX10_put_14 rfl ?_
      exact ⟨rfl, by simp only [putI]; rw [if_pos ⟨c1, c7⟩]⟩
set_option maxHeartbeats 4000000 in
set_option maxRecDepth 20000 in
theorem c_putL {G : Gt} {M : Mm} {a n : Nat} {i : Int32} {v : Int64} (hs : shp a = (2, n, [])) (hn : n < 2 ^ 31) : Call G 1 mX10_put_ [.ref a, .int i, .long v] M (eqQ none (putL M a n i v)) := by
  refine Call.intro rfl (Nat.le_of_ble_eq_true rfl) ?_
  show Ev G _ mX10_put_ 0 [.ref a, .int i, .long v, RA] [] M _
  refine e_iload_n dX10_put__0 rfl ?_
  refine e_if_lt (tgt := 14) dX10_put__1 (by decide) (fun c1 => ?_) (fun c1 => ?_)
  · -- 1 jumps
    refine e_vret dX10_put__14 rfl ?_
    exact ⟨rfl, by simp only [putL]; rw [if_neg (fun q => by first | exact absurd c1 q.1 | exact absurd q.2 c7)]⟩
  · -- 1 goes on
    refine e_iload_n dX10_put__4 rfl ?_
    refine e_aload_n dX10_put__5 rfl ?_
    refine e_alenL dX10_put__6 hs rfl ?_
    refine e_icmp_ge (tgt := 14) dX10_put__7 (by decide) (fun c7 => ?_) (fun c7 => ?_)
    · -- 7 jumps
      refine e_vret dX10_put__14 rfl ?_
      exact ⟨rfl, by simp only [putL]; rw [if_neg (fun q => by first | exact absurd c1 q.1 | exact absurd q.2 c7)]⟩
    · -- 7 goes on
      refine e_aload_n dX10_put__10 rfl ?_
      refine e_iload_n dX10_put__11 rfl ?_
      refine e_lload_n dX10_put__12 rfl ?_
      refine e_last dX10_put__13 hs ((vp_in_dec hn).mpr ⟨c1, by assumption⟩) ?_
      refine e_vret dX10_put__14 rfl ?_
      exact ⟨rfl, by simp only [putL]; rw [if_pos ⟨c1, c7⟩]⟩
set_option maxHeartbeats 4000000 in
set_option maxRecDepth 20000 in
theorem l_copyRow {G : Gt} {M : Mm} {a b n : Nat} (hsa : shp a = (1, n, [])) (hsb : shp b = (1, n, [])) (hn : n < 2 ^ 31) : ∀ (k : Nat) (i : Nat), (i ≤ n) → (n < i + k) → Ev G 1 mX10_copyRow 2 [.ref a, .ref b, .int (nI i)] [] (cpI M a b i) (eqQ none (cpI M a b n)) := by
  intro k
  induction k with
  | zero => intro i hi hk; exact absurd hk (by omega)
  | succ k ih =>
    intro i hi hk
    refine e_iload_n dX10_copyRow_2 rfl ?_
    refine e_aload_n dX10_copyRow_3 rfl ?_
    refine e_alenI dX10_copyRow_4 hsa rfl ?_
    refine e_icmp_ge (tgt := 26) dX10_copyRow_5 (by decide) (fun c5 => ?_) (fun c5 => ?_)
    · -- 5 jumps
      refine e_vret dX10_copyRow_26 rfl ?_
      have hge : n ≤ i := by first | exact ge_of (by omega) hn c5 | exact ge_of (by omega) hn c11
      have hin : i = n := by omega
      subst hin
      exact ⟨rfl, rfl⟩
    · -- 5 goes on
      refine e_iload_n dX10_copyRow_8 rfl ?_
      refine e_aload_n dX10_copyRow_9 rfl ?_
      refine e_alenI dX10_copyRow_10 hsb rfl ?_
      refine e_icmp_ge (tgt := 26) dX10_copyRow_11 (by decide) (fun c11 => ?_) (fun c11 => ?_)
      · -- 11 jumps
        refine e_vret dX10_copyRow_26 rfl ?_
        have hge : n ≤ i := by first | exact ge_of (by omega) hn c5 | exact ge_of (by omega) hn c11
        have hin : i = n := by omega
        subst hin
        exact ⟨rfl, rfl⟩
      · -- 11 goes on
        refine e_aload_n dX10_copyRow_14 rfl ?_
        refine e_iload_n dX10_copyRow_15 rfl ?_
        refine e_aload_n dX10_copyRow_16 rfl ?_
        refine e_iload_n dX10_copyRow_17 rfl ?_
        refine e_iald dX10_copyRow_18 hsa (in_of hn (lt_of (by omega) hn c5)) ?_
        refine e_iast dX10_copyRow_19 hsb (in_of hn (lt_of (by omega) hn c5)) ?_
        refine e_iinc (ls' := [_, _, _]) dX10_copyRow_20 rfl (nI_i1 _) (by decide) rfl ?_
        refine e_goto (tgt := 2) dX10_copyRow_23 (by decide) ?_
        have hlt := lt_of (by omega) hn c5
        rw [nI_clamp (by omega), cpI_s]
        exact ih (i + 1) (by omega) (by omega)
set_option maxHeartbeats 4000000 in
set_option maxRecDepth 20000 in
theorem c_copyRow {G : Gt} {M : Mm} {a b n : Nat} (hsa : shp a = (1, n, [])) (hsb : shp b = (1, n, [])) (hn : n < 2 ^ 31) : Call G 1 mX10_copyRow [.ref a, .ref b] M (eqQ none (cpI M a b n)) := by
  refine Call.intro rfl (Nat.le_of_ble_eq_true rfl) ?_
  show Ev G _ mX10_copyRow 0 [.ref a, .ref b, RA] [] M _
  refine e_iconst (v := 0) dX10_copyRow_0 (by decide) ?_
  refine e_istore_n (ls' := [_, _, _]) dX10_copyRow_1 (by decide) rfl ?_
  have h := l_copyRow (G := G) (M := M) hsa hsb hn (n + 1) 0 (by omega) (by omega)
  rw [cpI_0] at h
  exact h
def wi (v a b : Int32) : Prop := ¬ v < a ∧ ¬ b < v

set_option maxHeartbeats 4000000 in
set_option maxRecDepth 20000 in
theorem c_within {G : Gt} {M : Mm} {v a b : Int32} : Call G 1 mX10_within [.int v, .int a, .int b] M (eqQ (some (.int (b2i (¬ v < a ∧ ¬ b < v)))) M) := by
  refine Call.intro rfl (Nat.le_of_ble_eq_true rfl) ?_
  show Ev G _ mX10_within 0 [.int v, .int a, .int b] [] M _
  refine e_iload_n dX10_within_0 rfl ?_
  refine e_iload_n dX10_within_1 rfl ?_
  refine e_icmp_lt (tgt := 14) dX10_within_2 (by decide) (fun c2 => ?_) (fun c2 => ?_)
  · -- 2 jumps
    refine e_iconst (v := 0) dX10_within_14 (by decide) ?_
    refine e_zret dX10_within_15 rfl (by first | rfl | exact b2i_nar _) ?_
    exact ⟨by rw [b2i_f (fun q => by first | exact absurd (by assumption) q.1 | exact absurd (by assumption) q.2)], rfl⟩
  · -- 2 goes on
    refine e_iload_n dX10_within_5 rfl ?_
    refine e_iload_n dX10_within_6 rfl ?_
    refine e_icmp_gt (tgt := 14) dX10_within_7 (by decide) (fun c7 => ?_) (fun c7 => ?_)
    · -- 7 jumps
      refine e_iconst (v := 0) dX10_within_14 (by decide) ?_
      refine e_zret dX10_within_15 rfl (by first | rfl | exact b2i_nar _) ?_
      exact ⟨by rw [b2i_f (fun q => by first | exact absurd (by assumption) q.1 | exact absurd (by assumption) q.2)], rfl⟩
    · -- 7 goes on
      refine e_iconst (v := 1) dX10_within_10 (by decide) ?_
      refine e_goto (tgt := 15) dX10_within_11 (by decide) ?_
      refine e_zret dX10_within_15 rfl (by first | rfl | exact b2i_nar _) ?_
      exact ⟨by rw [b2i_t ⟨by assumption, by assumption⟩], rfl⟩
end XB
