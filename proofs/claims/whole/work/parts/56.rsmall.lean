section RSM
theorem and1 (z : Int32) : z &&& 1 = 0 ∨ z &&& 1 = 1 := by
  have h : (z &&& 1).toBitVec = z.toBitVec &&& 1#32 := rfl
  have key : ∀ w : BitVec 32, w &&& 1#32 = 0#32 ∨ w &&& 1#32 = 1#32 := by
    intro w
    have e : (w &&& 1#32).toNat = w.toNat % 2 := by
      rw [BitVec.toNat_and]
      exact Nat.and_one_is_mod _
    rcases Nat.mod_two_eq_zero_or_one w.toNat with q | q
    · left; apply BitVec.eq_of_toNat_eq; rw [e, q]; rfl
    · right; apply BitVec.eq_of_toNat_eq; rw [e, q]; rfl
  rcases key z.toBitVec with q | q
  · left; exact Int32.toBitVec_inj.mp (h.trans q)
  · right; exact Int32.toBitVec_inj.mp (h.trans q)
set_option maxHeartbeats 4000000 in
set_option maxRecDepth 20000 in
theorem r_isLit {G : Gt} {M : Mm} {n : Nat} {S : Sv} {h : Int32} (hS : RW M 273 0 n S) : Call G 1 mX11_isLit [.ref 238, .int h] M (eqQ (some (.int (b2i (bitI S.lit h)))) M) := by
  refine Call.intro rfl (Nat.le_of_ble_eq_true rfl) ?_
  show Ev G _ mX11_isLit 0 [.ref 238, .int h] [] M _
  refine e_aload_n dX11_isLit_0 rfl ?_
  refine e_getR dX11_isLit_1 fl_X11_114 sh_m rfl ?_
  refine e_iconst (v := 1) dX11_isLit_4 (by decide) ?_
  refine e_ialdN (j := 1) dX11_isLit_5 (sa_m_s) (by decide) (by omega) ?_
  rw [hS.li]
  refine e_iload_n dX11_isLit_6 rfl ?_
  refine e_ishr dX11_isLit_7 ?_
  refine e_iconst (v := 1) dX11_isLit_8 (by decide) ?_
  refine e_iand dX11_isLit_9 ?_
  refine e_iconst (v := 1) dX11_isLit_10 (by decide) ?_
  refine e_icmp_ne (tgt := 18) dX11_isLit_11 (by decide) (fun c11 => ?_) (fun c11 => ?_)
  · -- 11 jumps
    refine e_iconst (v := 0) dX11_isLit_18 (by decide) ?_
    refine e_zret dX11_isLit_19 rfl (by first | rfl | exact b2i_nar _) ?_
    exact ⟨by rw [b2i_f c11], rfl⟩
  · -- 11 goes on
    refine e_iconst (v := 1) dX11_isLit_14 (by decide) ?_
    refine e_goto (tgt := 19) dX11_isLit_15 (by decide) ?_
    refine e_zret dX11_isLit_19 rfl (by first | rfl | exact b2i_nar _) ?_
    exact ⟨by rw [b2i_t c11], rfl⟩
set_option maxHeartbeats 4000000 in
set_option maxRecDepth 20000 in
theorem l_rbits {G : Gt} {M : Mm} {x : Int32} : ∀ (k : Nat) (i : Nat) , (i ≤ 6) → (6 < i + k) → Ev G 1 mX11_bits 4 [.int x, .int (cntI (fun i => decide (bitI x (nI i))) i), .int (nI i)] [] M (eqQ (some (.int (cntI (fun i => decide (bitI x (nI i))) 6))) M) := by
  intro k
  induction k with
  | zero => intro i hi hk; exact absurd hk (by omega)
  | succ k ih =>
    intro i hi hk
    refine e_iload_n dX11_bits_4 rfl ?_
    refine e_bipush (v := 6) dX11_bits_5 (by decide) ?_
    refine e_icmp_ge (tgt := 24) dX11_bits_7 (by decide) (fun c7 => ?_) (fun c7 => ?_)
    · -- 7 jumps
      have hin : i = 6 := by have := ge_of (n := 6) (by omega) (by omega) c7; omega
      subst hin
      refine e_iload_n dX11_bits_24 rfl ?_
      refine e_iret dX11_bits_25 rfl ?_
      exact ⟨rfl, rfl⟩
    · -- 7 goes on
      have hlt : i < 6 := lt_of (n := 6) (by omega) (by omega) c7
      refine e_iload_n dX11_bits_10 rfl ?_
      refine e_iload_n dX11_bits_11 rfl ?_
      refine e_iload_n dX11_bits_12 rfl ?_
      refine e_ishr dX11_bits_13 ?_
      refine e_iconst (v := 1) dX11_bits_14 (by decide) ?_
      refine e_iand dX11_bits_15 ?_
      refine e_iadd dX11_bits_16 ?_
      refine e_istore_n (ls' := [_, _, _]) dX11_bits_17 (by decide) rfl ?_
      refine e_iinc (ls' := [_, _, _]) dX11_bits_18 rfl (nI_i1 _) (by decide) rfl ?_
      refine e_goto (tgt := 4) dX11_bits_21 (by decide) ?_
      have e : cntI (fun i => decide (bitI x (nI i))) i + ((x >>> (nI i &&& 31)) &&& 1) = cntI (fun i => decide (bitI x (nI i))) (i + 1) := by
        rw [cntI]
        by_cases q : bitI x (nI i)
        · rw [if_pos (decide_eq_true q), q]
        · rw [if_neg (by rw [decide_eq_false q]; decide), ((and1 (x >>> (nI i &&& 31))).resolve_right q), Int32.add_zero]
      rw [e]
      exact ih (i + 1) (by omega) (by omega)
theorem pc6 : ∀ s, s < 64 → cntI (fun i => decide (bitI (nI s) (nI i))) 6 = nI (pcN s) := by decide +kernel
set_option maxHeartbeats 4000000 in
set_option maxRecDepth 20000 in
theorem r_bits {G : Gt} {M : Mm} {s : Nat} (hs : s < 64) : Call G 1 mX11_bits [.int (nI s)] M (eqQ (some (.int (nI (pcN s)))) M) := by
  refine Call.intro rfl (Nat.le_of_ble_eq_true rfl) ?_
  show Ev G _ mX11_bits 0 [.int (nI s), RA, RA] [] M _
  refine e_iconst (v := 0) dX11_bits_0 (by decide) ?_
  refine e_istore_n (ls' := [_, _, _]) dX11_bits_1 (by decide) rfl ?_
  refine e_iconst (v := 0) dX11_bits_2 (by decide) ?_
  refine e_istore_n (ls' := [_, _, _]) dX11_bits_3 (by decide) rfl ?_
  have h := l_rbits (G := G) (M := M) (x := nI s) 7 0 (by omega) (by omega)
  rw [pc6 s hs] at h
  exact h
set_option maxHeartbeats 4000000 in
set_option maxRecDepth 20000 in
theorem l_rlowest {G : Gt} {M : Mm} {x : Int32} : ∀ (k : Nat) (i : Nat), (i ≤ 6) → (6 < i + k) → (fstN (fun k => decide (bitI x (nI k))) 0 6 = fstN (fun k => decide (bitI x (nI k))) i (6 - i)) → Ev G 1 mX11_lowest 2 [.int x, .int (nI i)] [] M (eqQ (some (.int (lowV x))) M) := by
  intro k
  induction k with
  | zero => intro i hi hk hr; exact absurd hk (by omega)
  | succ k ih =>
    intro i hi hk hr
    refine e_iload_n dX11_lowest_2 rfl ?_
    refine e_bipush (v := 6) dX11_lowest_3 (by decide) ?_
    refine e_icmp_ge (tgt := 25) dX11_lowest_5 (by decide) (fun c5 => ?_) (fun c5 => ?_)
    · -- 5 jumps
      have hin : i = 6 := by have := ge_of (n := 6) (by omega) (by omega) c5; omega
      subst hin
      refine e_iconst (v := (-1)) dX11_lowest_25 (by decide) ?_
      refine e_iret dX11_lowest_26 rfl ?_
      exact ⟨by unfold lowV; rw [hr, fst_e]; rfl, rfl⟩
    · -- 5 goes on
      have hlt : i < 6 := lt_of (n := 6) (by omega) (by omega) c5
      refine e_iload_n dX11_lowest_8 rfl ?_
      refine e_iload_n dX11_lowest_9 rfl ?_
      refine e_ishr dX11_lowest_10 ?_
      refine e_iconst (v := 1) dX11_lowest_11 (by decide) ?_
      refine e_iand dX11_lowest_12 ?_
      refine e_iconst (v := 1) dX11_lowest_13 (by decide) ?_
      refine e_icmp_ne (tgt := 19) dX11_lowest_14 (by decide) (fun c14 => ?_) (fun c14 => ?_)
      · -- 14 jumps
        refine e_iinc (ls' := [_, _]) dX11_lowest_19 rfl (nI_i1 _) (by decide) rfl ?_
        refine e_goto (tgt := 2) dX11_lowest_22 (by decide) ?_
        exact ih (i + 1) (by omega) (by omega) (hr.trans (fst_f hlt (decide_eq_false c14)))
      · -- 14 goes on
        refine e_iload_n dX11_lowest_17 rfl ?_
        refine e_iret dX11_lowest_18 rfl ?_
        exact ⟨by unfold lowV; rw [hr, fst_t hlt (decide_eq_true c14)]; rfl, rfl⟩
set_option maxHeartbeats 4000000 in
set_option maxRecDepth 20000 in
theorem r_lowest {G : Gt} {M : Mm} {x : Int32} : Call G 1 mX11_lowest [.int x] M (eqQ (some (.int (lowV x))) M) := by
  refine Call.intro rfl (Nat.le_of_ble_eq_true rfl) ?_
  show Ev G _ mX11_lowest 0 [.int x, RA] [] M _
  refine e_iconst (v := 0) dX11_lowest_0 (by decide) ?_
  refine e_istore_n (ls' := [_, _]) dX11_lowest_1 (by decide) rfl ?_
  exact l_rlowest 7 0 (by omega) (by omega) rfl
end RSM
