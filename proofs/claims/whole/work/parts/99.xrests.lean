section XRS
set_option maxHeartbeats 500000 in
set_option maxRecDepth 20000 in
theorem l_xrests {G : Gt} {M : Mm} {l s q w : Int32} : ∀ (k : Nat) (i : Nat) (n : Nat), (i ≤ 4) → (4 < i + k) → (n ≤ i) → (restQ l s q w = rsF l s q w (4 - i) i n) → EvT (fun pc M' => (pc = 30 ∨ pc = 89) ∧ M' = M ∧ restQ l s q w = none) G 3 mX10_rests 47 [.ref 0, .int l, .int s, .int q, .int w, .int (nI n), .int (nI i)] [] M (fun r M' => M' = M ∧ ∃ v, restQ l s q w = some v ∧ r = some (.int v)) := by
  intro k
  induction k with
  | zero => intro i n hi hk hn hr; exact absurd hk (by omega)
  | succ k ih =>
    intro i n hi hk hn hr
    refine t_iload dX10_rests_47 rfl ?_
    refine t_iconst (v := 4) dX10_rests_49 (by decide) ?_
    refine t_icmp_ge (tgt := 83) dX10_rests_50 (by decide) (fun c50 => ?_) (fun c50 => ?_)
    · -- 50 jumps
      refine t_iload dX10_rests_83 rfl ?_
      refine t_iconst (v := (-1)) dX10_rests_85 (by decide) ?_
      refine t_icmp_eq (tgt := 100) dX10_rests_86 (by decide) (fun c86 => ?_) (fun c86 => ?_)
      · -- 86 jumps
        refine t_iload dX10_rests_100 rfl ?_
        refine t_iret dX10_rests_102 rfl ?_
        have hi4 : i = 4 := by have := ge_of (i := i) (n := 4) (by omega) (by omega) c50; omega
        subst hi4
        exact ⟨rfl, nI n, by rw [hr, show 4 - 4 = 0 from rfl, rsF, if_pos c86], rfl⟩
      · -- 86 goes on
        have hi4 : i = 4 := by have := ge_of (i := i) (n := 4) (by omega) (by omega) c50; omega
        subst hi4
        exact t_throw ⟨Or.inr rfl, rfl, by rw [hr, show 4 - 4 = 0 from rfl, rsF, if_neg c86]⟩
    · -- 50 goes on
      have hlt : i < 4 := lt_of (i := i) (n := 4) (by omega) (by omega) c50
      refine t_iload_n dX10_rests_53 rfl ?_
      refine t_iload_n dX10_rests_54 rfl ?_
      refine t_iload_n dX10_rests_55 rfl ?_
      refine t_iload dX10_rests_56 rfl ?_
      refine tcS4r dX10_rests_58 mo_X10_isAtRest ml_X10_365 (Nat.le_of_ble_eq_true rfl) (by omega) (c_isAtRest (k := i) hlt) ?_
      refine t_if_eq (tgt := 77) dX10_rests_61 (by decide) (fun c61 => ?_) (fun c61 => ?_)
      · -- 61 jumps
        refine t_iinc (ls' := [_, _, _, _, _, _, _]) dX10_rests_77 rfl (nI_i1 _) (by decide) rfl ?_
        refine t_goto (tgt := 47) dX10_rests_80 (by decide) ?_
        exact ih (i + 1) n (by omega) (by omega) (by omega) (by rw [hr, show 4 - i = (3 - i) + 1 by omega, rsF, if_pos c61, show 4 - (i + 1) = 3 - i by omega])
      · -- 61 goes on
        refine t_iload dX10_rests_64 rfl ?_
        refine t_iload dX10_rests_66 rfl ?_
        refine t_icmp_ne (tgt := 74) dX10_rests_68 (by decide) (fun c68 => ?_) (fun c68 => ?_)
        · -- 68 jumps
          refine t_iinc (ls' := [_, _, _, _, _, _, _]) dX10_rests_74 rfl (nI_i1 _) (by decide) rfl ?_
          refine t_iinc (ls' := [_, _, _, _, _, _, _]) dX10_rests_77 rfl (nI_i1 _) (by decide) rfl ?_
          refine t_goto (tgt := 47) dX10_rests_80 (by decide) ?_
          exact ih (i + 1) (n + 1) (by omega) (by omega) (by omega) (by rw [hr, show 4 - i = (3 - i) + 1 by omega, rsF, if_neg c61, if_neg c68, show 4 - (i + 1) = 3 - i by omega])
        · -- 68 goes on
          refine t_iload dX10_rests_71 rfl ?_
          refine t_iret dX10_rests_73 rfl ?_
          exact ⟨rfl, nI i, by rw [hr, show 4 - i = (3 - i) + 1 by omega, rsF, if_neg c61, if_pos c68], rfl⟩
set_option maxHeartbeats 500000 in
set_option maxRecDepth 20000 in
theorem x_rests {G : Gt} {M : Mm} {l s q w : Int32} {u5 u6 : Value} : EvT (fun pc M' => (pc = 30 ∨ pc = 89) ∧ M' = M ∧ restQ l s q w = none) G 3 mX10_rests 0 [.ref 0, .int l, .int s, .int q, .int w, u5, u6] [] M (fun r M' => M' = M ∧ ∃ v, restQ l s q w = some v ∧ r = some (.int v)) := by
  refine t_iload_n dX10_rests_0 rfl ?_
  refine t_iconst (v := 0) dX10_rests_1 (by decide) ?_
  refine t_bipush (v := 9) dX10_rests_2 (by decide) ?_
  refine tcS3r dX10_rests_4 mo_X10_within ml_X10_199 (Nat.le_of_ble_eq_true rfl) (by omega) (c_within) ?_
  refine t_if_eq (tgt := 30) dX10_rests_7 (by decide) (fun c7 => ?_) (fun c7 => ?_)
  · -- 7 jumps
    exact t_throw ⟨Or.inl rfl, rfl, if_neg (fun z => absurd z.1 (b2i_eq0.mp c7))⟩
  · -- 7 goes on
    refine t_iload_n dX10_rests_10 rfl ?_
    refine t_iconst (v := 0) dX10_rests_11 (by decide) ?_
    refine t_bipush (v := 9) dX10_rests_12 (by decide) ?_
    refine tcS3r dX10_rests_14 mo_X10_within ml_X10_199 (Nat.le_of_ble_eq_true rfl) (by omega) (c_within) ?_
    refine t_if_eq (tgt := 30) dX10_rests_17 (by decide) (fun c17 => ?_) (fun c17 => ?_)
    · -- 17 jumps
      exact t_throw ⟨Or.inl rfl, rfl, if_neg (fun z => absurd z.2.1 (b2i_eq0.mp c17))⟩
    · -- 17 goes on
      refine t_iload_n dX10_rests_20 rfl ?_
      refine t_iconst (v := 0) dX10_rests_21 (by decide) ?_
      refine t_bipush (v := 9) dX10_rests_22 (by decide) ?_
      refine tcS3r dX10_rests_24 mo_X10_within ml_X10_199 (Nat.le_of_ble_eq_true rfl) (by omega) (c_within) ?_
      refine t_if_ne (tgt := 41) dX10_rests_27 (by decide) (fun c27 => ?_) (fun c27 => ?_)
      · -- 27 jumps
        refine t_iconst (v := 0) dX10_rests_41 (by decide) ?_
        refine t_istore (ls' := [_, _, _, _, _, _, _]) dX10_rests_42 (by decide) rfl ?_
        refine t_iconst (v := 0) dX10_rests_44 (by decide) ?_
        refine t_istore (ls' := [_, _, _, _, _, _, _]) dX10_rests_45 (by decide) rfl ?_
        have hv : vWi l 0 9 ∧ vWi s 0 9 ∧ vWi q 0 9 := ⟨Classical.not_not.mp (fun z => c7 (b2i_f z)), Classical.not_not.mp (fun z => c17 (b2i_f z)), Classical.not_not.mp (fun z => c27 (b2i_f z))⟩
        exact l_xrests 5 0 0 (by decide) (by decide) (by decide) (if_pos hv)
      · -- 27 goes on
        exact t_throw ⟨Or.inl rfl, rfl, if_neg (fun z => absurd z.2.2 (b2i_eq0.mp c27))⟩
end XRS
