section RBA
variable {G : Gt} {d : Nat} {mi : Mi} {pc : Nat} {ls st : List Value} {M : Mm} {Q : Option Value → Mm → Prop}
theorem e_iaddN {a b : Nat} (hd : decode mi.2.1 pc = .ok (.iadd, 1)) (k : Ev G d mi (pc + 1) ls (.int (nI (a + b)) :: st) M Q) : Ev G d mi pc ls (.int (nI b) :: .int (nI a) :: st) M Q := e_iadd hd (by rw [nI_add]; exact k)
theorem e_imulN {a b : Nat} (hd : decode mi.2.1 pc = .ok (.imul, 1)) (k : Ev G d mi (pc + 1) ls (.int (nI (a * b)) :: st) M Q) : Ev G d mi pc ls (.int (nI b) :: .int (nI a) :: st) M Q := e_imul hd (by rw [pk_mul]; exact k)
theorem e_ialdN {i n : Nat} {bs : List (Nat × Nat)} {j : Nat} (hd : decode mi.2.1 pc = .ok (.iaload, 1)) (hs : shp i = (1, n, bs)) (hn : n < 2 ^ 31) (hj : j < n) (k1 : Ev G d mi (pc + 1) ls (.int (M.1 i j) :: st) M Q) : Ev G d mi pc ls (.int (nI j) :: .ref i :: st) M Q := e_iald hd hs (in_of hn hj) (by rw [nI_clamp (by omega)]; exact k1)
theorem e_zaldN {i n : Nat} {bs : List (Nat × Nat)} {j : Nat} (hd : decode mi.2.1 pc = .ok (.baload, 1)) (hs : shp i = (3, n, bs)) (hn : n < 2 ^ 31) (hj : j < n) (k1 : Ev G d mi (pc + 1) ls (.int (M.1 i j) :: st) M Q) : Ev G d mi pc ls (.int (nI j) :: .ref i :: st) M Q := e_zald hd hs (in_of hn hj) (by rw [nI_clamp (by omega)]; exact k1)
theorem e_laldN {i n : Nat} {bs : List (Nat × Nat)} {j : Nat} (hd : decode mi.2.1 pc = .ok (.laload, 1)) (hs : shp i = (2, n, bs)) (hn : n < 2 ^ 31) (hj : j < n) (k1 : Ev G d mi (pc + 1) ls (.long (M.2.1 i j) :: st) M Q) : Ev G d mi pc ls (.int (nI j) :: .ref i :: st) M Q := e_lald hd hs (in_of hn hj) (by rw [nI_clamp (by omega)]; exact k1)
theorem e_iastN {i n : Nat} {bs : List (Nat × Nat)} {j : Nat} {x : Int32} (hd : decode mi.2.1 pc = .ok (.iastore, 1)) (hs : shp i = (1, n, bs)) (hn : n < 2 ^ 31) (hj : j < n) (k1 : Ev G d mi (pc + 1) ls st (setI M i j x) Q) : Ev G d mi pc ls (.int x :: .int (nI j) :: .ref i :: st) M Q := e_iast hd hs (in_of hn hj) (by rw [nI_clamp (by omega)]; exact k1)
theorem e_zastN {i n : Nat} {bs : List (Nat × Nat)} {j : Nat} {x : Int32} (hd : decode mi.2.1 pc = .ok (.bastore, 1)) (hs : shp i = (3, n, bs)) (hn : n < 2 ^ 31) (hj : j < n) (k1 : Ev G d mi (pc + 1) ls st (setI M i j (vp_nar .boolean x)) Q) : Ev G d mi pc ls (.int x :: .int (nI j) :: .ref i :: st) M Q := e_zast hd hs (in_of hn hj) (by rw [nI_clamp (by omega)]; exact k1)
theorem e_lastN {i n : Nat} {bs : List (Nat × Nat)} {j : Nat} {x : Int64} (hd : decode mi.2.1 pc = .ok (.lastore, 1)) (hs : shp i = (2, n, bs)) (hn : n < 2 ^ 31) (hj : j < n) (k1 : Ev G d mi (pc + 1) ls st (setL M i j x) Q) : Ev G d mi pc ls (.long x :: .int (nI j) :: .ref i :: st) M Q := e_last hd hs (in_of hn hj) (by rw [nI_clamp (by omega)]; exact k1)
/-- a row of numbers in the reference, from b on -/
def RW (M : Mm) (a b n : Nat) (S : Sv) : Prop := M.1 a b = S.nights ∧ M.1 a (b + 1) = S.lit ∧ (∀ j, j < n → M.1 a (b + (2 + j)) = S.heat j ∧ M.1 a (b + (8 + j)) = S.crow j ∧ M.1 a (b + (14 + j)) = S.high j ∧ M.1 a (b + (20 + j)) = S.hear j) ∧ ∀ j, n ≤ j → j < 6 → M.1 a (b + (8 + j)) = 0
section
variable {a n : Nat} {S : Sv}
theorem RW.ni (h : RW M a 0 n S) : M.1 a 0 = S.nights := h.1
theorem RW.li (h : RW M a 0 n S) : M.1 a 1 = S.lit := h.2.1
theorem RW.ht (h : RW M a 0 n S) {j : Nat} (hj : j < n) : M.1 a (2 + j) = S.heat j := by have := (h.2.2.1 j hj).1; rwa [Nat.zero_add] at this
theorem RW.cr (h : RW M a 0 n S) {j : Nat} (hj : j < n) : M.1 a (8 + j) = S.crow j := by have := (h.2.2.1 j hj).2.1; rwa [Nat.zero_add] at this
theorem RW.hi (h : RW M a 0 n S) {j : Nat} (hj : j < n) : M.1 a (14 + j) = S.high j := by have := (h.2.2.1 j hj).2.2.1; rwa [Nat.zero_add] at this
theorem RW.he (h : RW M a 0 n S) {j : Nat} (hj : j < n) : M.1 a (20 + j) = S.hear j := by have := (h.2.2.1 j hj).2.2.2; rwa [Nat.zero_add] at this
theorem RW.cz (h : RW M a 0 n S) {j : Nat} (hj : n ≤ j) (h6 : j < 6) : M.1 a (8 + j) = 0 := by have := h.2.2.2 j hj h6; rwa [Nat.zero_add] at this
theorem RW.mk (h1 : M.1 a 0 = S.nights) (h2 : M.1 a 1 = S.lit) (h3 : ∀ j, j < n → M.1 a (2 + j) = S.heat j ∧ M.1 a (8 + j) = S.crow j ∧ M.1 a (14 + j) = S.high j ∧ M.1 a (20 + j) = S.hear j) (h4 : ∀ j, n ≤ j → j < 6 → M.1 a (8 + j) = 0) : RW M a 0 n S :=
  ⟨h1, by rw [Nat.zero_add]; exact h2, fun j hj => by simp only [Nat.zero_add]; exact h3 j hj, fun j hj h6 => by simp only [Nat.zero_add]; exact h4 j hj h6⟩
/-- a row is as it was where its numbers are -/
theorem RW.congr {M' : Mm} {a' b b' : Nat} (h : RW M a b n S) (h6 : n ≤ 6) (h1 : ∀ k, k < 26 → M'.1 a' (b' + k) = M.1 a (b + k)) : RW M' a' b' n S :=
  ⟨(h1 0 (by omega)).trans h.1, (h1 1 (by omega)).trans h.2.1, fun j hj => by rw [h1 _ (by omega), h1 _ (by omega), h1 _ (by omega), h1 _ (by omega)]; exact h.2.2.1 j hj, fun j hj hj6 => by rw [h1 _ (by omega)]; exact h.2.2.2 j hj hj6⟩
end
/-- the reference's yard, but its law -/
def RY (M : Mm) (Y : Yv) : Prop :=
  (M.1 240 0 = nI Y.n ∧ Y.n ≤ 6) ∧ (M.1 240 1 = nI Y.ns ∧ Y.ns ≤ 5) ∧ (M.1 240 2 = nI Y.nf ∧ Y.nf ≤ 12) ∧ M.1 240 3 = Y.roof ∧
  (∀ j, j < Y.n → M.1 243 j = Y.kind j ∧ M.1 244 j = Y.heat j ∧ M.1 245 j = Y.crow j ∧ M.1 246 j = Y.near j ∧ M.2.1 241 j = Y.name j) ∧
  (∀ j, j < Y.ns → M.1 247 j = Y.low j ∧ M.1 248 j = Y.high j ∧ M.2.1 242 j = Y.sname j) ∧
  (∀ j, j < Y.nf → M.1 249 j = Y.frost j)
theorem RY.congr {M' : Mm} {Y : Yv} (h : RY M Y) (h1 : ∀ i, 240 ≤ i → i ≤ 249 → M'.1 i = M.1 i) (h2 : ∀ i, i = 241 ∨ i = 242 → M'.2.1 i = M.2.1 i) : RY M' Y := by
  unfold RY
  rw [h1 240 (by omega) (by omega), h1 243 (by omega) (by omega), h1 244 (by omega) (by omega), h1 245 (by omega) (by omega), h1 246 (by omega) (by omega), h1 247 (by omega) (by omega), h1 248 (by omega) (by omega), h1 249 (by omega) (by omega), h2 241 (by omega), h2 242 (by omega)]
  exact h
theorem setI_n {M : Mm} {i k j : Nat} {v : Int32} (h : ¬ j = i) (q : Nat) : (setI M i k v).1 j q = M.1 j q := by rw [setI_1, if_neg (fun x => h x.1)]
theorem setI_p (M : Mm) (i k : Nat) (v : Int32) : (setI M i k v).1 i k = v := by rw [setI_1, if_pos ⟨rfl, rfl⟩]
theorem ix_k {k n : Nat} (h : k < n) (hn : n < 2 ^ 31) : vp_in (nI k) n := in_of hn h
set_option maxHeartbeats 4000000 in
set_option maxRecDepth 20000 in
theorem r_within {G : Gt} {M : Mm} {v a b : Int32} : Call G 1 mX11_within [.int v, .int a, .int b] M (eqQ (some (.int (b2i (vWi v a b)))) M) := by
  refine Call.intro rfl (Nat.le_of_ble_eq_true rfl) ?_
  show Ev G _ mX11_within 0 [.int v, .int a, .int b] [] M _
  refine e_iload_n dX11_within_0 rfl ?_
  refine e_iload_n dX11_within_1 rfl ?_
  refine e_icmp_lt (tgt := 14) dX11_within_2 (by decide) (fun c2 => ?_) (fun c2 => ?_)
  · -- 2 jumps
    refine e_iconst (v := 0) dX11_within_14 (by decide) ?_
    refine e_zret dX11_within_15 rfl (by first | rfl | exact b2i_nar _) ?_
    exact ⟨by rw [b2i_f (fun q => q.1 c2)], rfl⟩
  · -- 2 goes on
    refine e_iload_n dX11_within_5 rfl ?_
    refine e_iload_n dX11_within_6 rfl ?_
    refine e_icmp_gt (tgt := 14) dX11_within_7 (by decide) (fun c7 => ?_) (fun c7 => ?_)
    · -- 7 jumps
      refine e_iconst (v := 0) dX11_within_14 (by decide) ?_
      refine e_zret dX11_within_15 rfl (by first | rfl | exact b2i_nar _) ?_
      exact ⟨by rw [b2i_f (fun q => q.2 c7)], rfl⟩
    · -- 7 goes on
      refine e_iconst (v := 1) dX11_within_10 (by decide) ?_
      refine e_goto (tgt := 15) dX11_within_11 (by decide) ?_
      refine e_zret dX11_within_15 rfl (by first | rfl | exact b2i_nar _) ?_
      exact ⟨by rw [b2i_t ⟨c2, c7⟩], rfl⟩
set_option maxHeartbeats 4000000 in
set_option maxRecDepth 20000 in
theorem r_between {G : Gt} {M : Mm} {v a b : Int32} : Call G 1 mX11_between [.int v, .int a, .int b] M (eqQ (some (.int (if v < a then a else if b < v then b else v))) M) := by
  refine Call.intro rfl (Nat.le_of_ble_eq_true rfl) ?_
  show Ev G _ mX11_between 0 [.int v, .int a, .int b] [] M _
  refine e_iload_n dX11_between_0 rfl ?_
  refine e_iload_n dX11_between_1 rfl ?_
  refine e_icmp_ge (tgt := 9) dX11_between_2 (by decide) (fun c2 => ?_) (fun c2 => ?_)
  · -- 2 jumps
    refine e_iload_n dX11_between_9 rfl ?_
    refine e_iload_n dX11_between_10 rfl ?_
    refine e_icmp_le (tgt := 18) dX11_between_11 (by decide) (fun c11 => ?_) (fun c11 => ?_)
    · -- 11 jumps
      refine e_iload_n dX11_between_18 rfl ?_
      refine e_iret dX11_between_19 rfl ?_
      exact ⟨by rw [if_neg c2, if_neg c11], rfl⟩
    · -- 11 goes on
      refine e_iload_n dX11_between_14 rfl ?_
      refine e_goto (tgt := 19) dX11_between_15 (by decide) ?_
      refine e_iret dX11_between_19 rfl ?_
      exact ⟨by rw [if_neg c2, if_pos c11], rfl⟩
  · -- 2 goes on
    refine e_iload_n dX11_between_5 rfl ?_
    refine e_goto (tgt := 19) dX11_between_6 (by decide) ?_
    refine e_iret dX11_between_19 rfl ?_
    exact ⟨by rw [if_pos c2], rfl⟩
set_option maxHeartbeats 4000000 in
set_option maxRecDepth 20000 in
theorem r_isShed {G : Gt} {M : Mm} {Y : Yv} {i : Int32} (hY : RY M Y) : Call G 1 mX11_isShed [.ref 238, .int i] M (eqQ (some (.int (b2i (¬ i < 0 ∧ i < nI Y.n)))) M) := by
  refine Call.intro rfl (Nat.le_of_ble_eq_true rfl) ?_
  show Ev G _ mX11_isShed 0 [.ref 238, .int i] [] M _
  refine e_iload_n dX11_isShed_0 rfl ?_
  refine e_if_lt (tgt := 18) dX11_isShed_1 (by decide) (fun c1 => ?_) (fun c1 => ?_)
  · -- 1 jumps
    refine e_iconst (v := 0) dX11_isShed_18 (by decide) ?_
    refine e_zret dX11_isShed_19 rfl (by first | rfl | exact b2i_nar _) ?_
    exact ⟨by rw [b2i_f (fun q => q.1 c1)], rfl⟩
  · -- 1 goes on
    refine e_iload_n dX11_isShed_4 rfl ?_
    refine e_aload_n dX11_isShed_5 rfl ?_
    refine e_getR dX11_isShed_6 fl_X11_13 sh_m rfl ?_
    refine e_iconst (v := 0) dX11_isShed_9 (by decide) ?_
    refine e_ialdN (j := 0) dX11_isShed_10 (sa_m_yard) (by decide) (by omega) ?_
    rw [hY.1.1]
    refine e_icmp_ge (tgt := 18) dX11_isShed_11 (by decide) (fun c11 => ?_) (fun c11 => ?_)
    · -- 11 jumps
      refine e_iconst (v := 0) dX11_isShed_18 (by decide) ?_
      refine e_zret dX11_isShed_19 rfl (by first | rfl | exact b2i_nar _) ?_
      exact ⟨by rw [b2i_f (fun q => c11 q.2)], rfl⟩
    · -- 11 goes on
      refine e_iconst (v := 1) dX11_isShed_14 (by decide) ?_
      refine e_goto (tgt := 19) dX11_isShed_15 (by decide) ?_
      refine e_zret dX11_isShed_19 rfl (by first | rfl | exact b2i_nar _) ?_
      exact ⟨by rw [b2i_t ⟨c1, c11⟩], rfl⟩
set_option maxHeartbeats 4000000 in
set_option maxRecDepth 20000 in
theorem r_isStage {G : Gt} {M : Mm} {Y : Yv} {i : Int32} (hY : RY M Y) : Call G 1 mX11_isStage [.ref 238, .int i] M (eqQ (some (.int (b2i (¬ i < 0 ∧ i < nI Y.ns)))) M) := by
  refine Call.intro rfl (Nat.le_of_ble_eq_true rfl) ?_
  show Ev G _ mX11_isStage 0 [.ref 238, .int i] [] M _
  refine e_iload_n dX11_isStage_0 rfl ?_
  refine e_if_lt (tgt := 18) dX11_isStage_1 (by decide) (fun c1 => ?_) (fun c1 => ?_)
  · -- 1 jumps
    refine e_iconst (v := 0) dX11_isStage_18 (by decide) ?_
    refine e_zret dX11_isStage_19 rfl (by first | rfl | exact b2i_nar _) ?_
    exact ⟨by rw [b2i_f (fun q => q.1 c1)], rfl⟩
  · -- 1 goes on
    refine e_iload_n dX11_isStage_4 rfl ?_
    refine e_aload_n dX11_isStage_5 rfl ?_
    refine e_getR dX11_isStage_6 fl_X11_13 sh_m rfl ?_
    refine e_iconst (v := 1) dX11_isStage_9 (by decide) ?_
    refine e_ialdN (j := 1) dX11_isStage_10 (sa_m_yard) (by decide) (by omega) ?_
    rw [hY.2.1.1]
    refine e_icmp_ge (tgt := 18) dX11_isStage_11 (by decide) (fun c11 => ?_) (fun c11 => ?_)
    · -- 11 jumps
      refine e_iconst (v := 0) dX11_isStage_18 (by decide) ?_
      refine e_zret dX11_isStage_19 rfl (by first | rfl | exact b2i_nar _) ?_
      exact ⟨by rw [b2i_f (fun q => c11 q.2)], rfl⟩
    · -- 11 goes on
      refine e_iconst (v := 1) dX11_isStage_14 (by decide) ?_
      refine e_goto (tgt := 19) dX11_isStage_15 (by decide) ?_
      refine e_zret dX11_isStage_19 rfl (by first | rfl | exact b2i_nar _) ?_
      exact ⟨by rw [b2i_t ⟨c1, c11⟩], rfl⟩
end RBA
