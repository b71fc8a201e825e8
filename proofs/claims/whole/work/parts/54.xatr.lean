section XAT
def arB (l s q : Int32) (k : Nat) : Int32 := if kpB l s q (nI (k / 2)) (nI (k % 2)) = 0 then 0 else if kpB l s q (nI (k % 2)) (nI (k / 2)) = 0 then 0 else 1
theorem ar_f : ∀ k, k < 4 → (nI k >>> ((1 : Int32) &&& 31) = 1 → nI (k / 2) = 1) ∧ (¬ nI k >>> ((1 : Int32) &&& 31) = 1 → nI (k / 2) = 0) ∧ (nI k &&& 1 = 1 → nI (k % 2) = 1) ∧ (¬ nI k &&& 1 = 1 → nI (k % 2) = 0) := by decide
set_option maxHeartbeats 4000000 in
set_option maxRecDepth 20000 in
theorem c_isAtRest {G : Gt} {M : Mm} {l s q : Int32} {k : Nat} (hk : k < 4) : Call G 2 mX10_isAtRest [.int l, .int s, .int q, .int (nI k)] M (eqQ (some (.int (arB l s q k))) M) := by
  refine Call.intro rfl (Nat.le_of_ble_eq_true rfl) ?_
  show Ev G _ mX10_isAtRest 0 [.int l, .int s, .int q, .int (nI k), RA, RA] [] M _
  refine e_iload_n dX10_isAtRest_0 rfl ?_
  refine e_iconst (v := 1) dX10_isAtRest_1 (by decide) ?_
  refine e_ishr dX10_isAtRest_2 ?_
  refine e_iconst (v := 1) dX10_isAtRest_3 (by decide) ?_
  refine e_icmp_ne (tgt := 11) dX10_isAtRest_4 (by decide) (fun c4 => ?_) (fun c4 => ?_)
  · -- 4 jumps
    refine e_iconst (v := 0) dX10_isAtRest_11 (by decide) ?_
    refine e_istore (ls' := [_, _, _, _, _, _]) dX10_isAtRest_12 (by decide) rfl ?_
    refine e_iload_n dX10_isAtRest_14 rfl ?_
    refine e_iconst (v := 1) dX10_isAtRest_15 (by decide) ?_
    refine e_iand dX10_isAtRest_16 ?_
    refine e_iconst (v := 1) dX10_isAtRest_17 (by decide) ?_
    refine e_icmp_ne (tgt := 25) dX10_isAtRest_18 (by decide) (fun c18 => ?_) (fun c18 => ?_)
    · -- 18 jumps
      refine e_iconst (v := 0) dX10_isAtRest_25 (by decide) ?_
      refine e_istore (ls' := [_, _, _, _, _, _]) dX10_isAtRest_26 (by decide) rfl ?_
      refine e_iload_n dX10_isAtRest_28 rfl ?_
      refine e_iload_n dX10_isAtRest_29 rfl ?_
      refine e_iload_n dX10_isAtRest_30 rfl ?_
      refine e_iload dX10_isAtRest_31 rfl ?_
      refine e_iload dX10_isAtRest_33 rfl ?_
      refine cS5r dX10_isAtRest_35 mo_X10_keeps ml_X10_370 (Nat.le_of_ble_eq_true rfl) (by omega) (c_keeps) ?_
      refine e_if_eq (tgt := 58) dX10_isAtRest_38 (by decide) (fun c38 => ?_) (fun c38 => ?_)
      · -- 38 jumps
        refine e_iconst (v := 0) dX10_isAtRest_58 (by decide) ?_
        refine e_zret dX10_isAtRest_59 rfl (by first | rfl | exact b2i_nar _) ?_
        exact ⟨by unfold arB; rw [(ar_f k hk).2.1 c4, (ar_f k hk).2.2.2 c18, if_pos c38], rfl⟩
      · -- 38 goes on
        refine e_iload_n dX10_isAtRest_41 rfl ?_
        refine e_iload_n dX10_isAtRest_42 rfl ?_
        refine e_iload_n dX10_isAtRest_43 rfl ?_
        refine e_iload dX10_isAtRest_44 rfl ?_
        refine e_iload dX10_isAtRest_46 rfl ?_
        refine cS5r dX10_isAtRest_48 mo_X10_keeps ml_X10_370 (Nat.le_of_ble_eq_true rfl) (by omega) (c_keeps) ?_
        refine e_if_eq (tgt := 58) dX10_isAtRest_51 (by decide) (fun c51 => ?_) (fun c51 => ?_)
        · -- 51 jumps
          refine e_iconst (v := 0) dX10_isAtRest_58 (by decide) ?_
          refine e_zret dX10_isAtRest_59 rfl (by first | rfl | exact b2i_nar _) ?_
          exact ⟨by unfold arB; rw [(ar_f k hk).2.1 c4, (ar_f k hk).2.2.2 c18, if_neg c38, if_pos c51], rfl⟩
        · -- 51 goes on
          refine e_iconst (v := 1) dX10_isAtRest_54 (by decide) ?_
          refine e_goto (tgt := 59) dX10_isAtRest_55 (by decide) ?_
          refine e_zret dX10_isAtRest_59 rfl (by first | rfl | exact b2i_nar _) ?_
          exact ⟨by unfold arB; rw [(ar_f k hk).2.1 c4, (ar_f k hk).2.2.2 c18, if_neg c38, if_neg c51], rfl⟩
    · -- 18 goes on
      refine e_iconst (v := 1) dX10_isAtRest_21 (by decide) ?_
      refine e_goto (tgt := 26) dX10_isAtRest_22 (by decide) ?_
      refine e_istore (ls' := [_, _, _, _, _, _]) dX10_isAtRest_26 (by decide) rfl ?_
      refine e_iload_n dX10_isAtRest_28 rfl ?_
      refine e_iload_n dX10_isAtRest_29 rfl ?_
      refine e_iload_n dX10_isAtRest_30 rfl ?_
      refine e_iload dX10_isAtRest_31 rfl ?_
      refine e_iload dX10_isAtRest_33 rfl ?_
      refine cS5r dX10_isAtRest_35 mo_X10_keeps ml_X10_370 (Nat.le_of_ble_eq_true rfl) (by omega) (c_keeps) ?_
      refine e_if_eq (tgt := 58) dX10_isAtRest_38 (by decide) (fun c38 => ?_) (fun c38 => ?_)
      · -- 38 jumps
        refine e_iconst (v := 0) dX10_isAtRest_58 (by decide) ?_
        refine e_zret dX10_isAtRest_59 rfl (by first | rfl | exact b2i_nar _) ?_
        exact ⟨by unfold arB; rw [(ar_f k hk).2.1 c4, (ar_f k hk).2.2.1 c18, if_pos c38], rfl⟩
      · -- 38 goes on
        refine e_iload_n dX10_isAtRest_41 rfl ?_
        refine e_iload_n dX10_isAtRest_42 rfl ?_
        refine e_iload_n dX10_isAtRest_43 rfl ?_
        refine e_iload dX10_isAtRest_44 rfl ?_
        refine e_iload dX10_isAtRest_46 rfl ?_
        refine cS5r dX10_isAtRest_48 mo_X10_keeps ml_X10_370 (Nat.le_of_ble_eq_true rfl) (by omega) (c_keeps) ?_
        refine e_if_eq (tgt := 58) dX10_isAtRest_51 (by decide) (fun c51 => ?_) (fun c51 => ?_)
        · -- 51 jumps
          refine e_iconst (v := 0) dX10_isAtRest_58 (by decide) ?_
          refine e_zret dX10_isAtRest_59 rfl (by first | rfl | exact b2i_nar _) ?_
          exact ⟨by unfold arB; rw [(ar_f k hk).2.1 c4, (ar_f k hk).2.2.1 c18, if_neg c38, if_pos c51], rfl⟩
        · -- 51 goes on
          refine e_iconst (v := 1) dX10_isAtRest_54 (by decide) ?_
          refine e_goto (tgt := 59) dX10_isAtRest_55 (by decide) ?_
          refine e_zret dX10_isAtRest_59 rfl (by first | rfl | exact b2i_nar _) ?_
          exact ⟨by unfold arB; rw [(ar_f k hk).2.1 c4, (ar_f k hk).2.2.1 c18, if_neg c38, if_neg c51], rfl⟩
  · -- 4 goes on
    refine e_iconst (v := 1) dX10_isAtRest_7 (by decide) ?_
    refine e_goto (tgt := 12) dX10_isAtRest_8 (by decide) ?_
    refine e_istore (ls' := [_, _, _, _, _, _]) dX10_isAtRest_12 (by decide) rfl ?_
    refine e_iload_n dX10_isAtRest_14 rfl ?_
    refine e_iconst (v := 1) dX10_isAtRest_15 (by decide) ?_
    refine e_iand dX10_isAtRest_16 ?_
    refine e_iconst (v := 1) dX10_isAtRest_17 (by decide) ?_
    refine e_icmp_ne (tgt := 25) dX10_isAtRest_18 (by decide) (fun c18 => ?_) (fun c18 => ?_)
    · -- 18 jumps
      refine e_iconst (v := 0) dX10_isAtRest_25 (by decide) ?_
      refine e_istore (ls' := [_, _, _, _, _, _]) dX10_isAtRest_26 (by decide) rfl ?_
      refine e_iload_n dX10_isAtRest_28 rfl ?_
      refine e_iload_n dX10_isAtRest_29 rfl ?_
      refine e_iload_n dX10_isAtRest_30 rfl ?_
      refine e_iload dX10_isAtRest_31 rfl ?_
      refine e_iload dX10_isAtRest_33 rfl ?_
      refine cS5r dX10_isAtRest_35 mo_X10_keeps ml_X10_370 (Nat.le_of_ble_eq_true rfl) (by omega) (c_keeps) ?_
      refine e_if_eq (tgt := 58) dX10_isAtRest_38 (by decide) (fun c38 => ?_) (fun c38 => ?_)
      · -- 38 jumps
        refine e_iconst (v := 0) dX10_isAtRest_58 (by decide) ?_
        refine e_zret dX10_isAtRest_59 rfl (by first | rfl | exact b2i_nar _) ?_
        exact ⟨by unfold arB; rw [(ar_f k hk).1 c4, (ar_f k hk).2.2.2 c18, if_pos c38], rfl⟩
      · -- 38 goes on
        refine e_iload_n dX10_isAtRest_41 rfl ?_
        refine e_iload_n dX10_isAtRest_42 rfl ?_
        refine e_iload_n dX10_isAtRest_43 rfl ?_
        refine e_iload dX10_isAtRest_44 rfl ?_
        refine e_iload dX10_isAtRest_46 rfl ?_
        refine cS5r dX10_isAtRest_48 mo_X10_keeps ml_X10_370 (Nat.le_of_ble_eq_true rfl) (by omega) (c_keeps) ?_
        refine e_if_eq (tgt := 58) dX10_isAtRest_51 (by decide) (fun c51 => ?_) (fun c51 => ?_)
        · -- 51 jumps
          refine e_iconst (v := 0) dX10_isAtRest_58 (by decide) ?_
          refine e_zret dX10_isAtRest_59 rfl (by first | rfl | exact b2i_nar _) ?_
          exact ⟨by unfold arB; rw [(ar_f k hk).1 c4, (ar_f k hk).2.2.2 c18, if_neg c38, if_pos c51], rfl⟩
        · -- 51 goes on
          refine e_iconst (v := 1) dX10_isAtRest_54 (by decide) ?_
          refine e_goto (tgt := 59) dX10_isAtRest_55 (by decide) ?_
          refine e_zret dX10_isAtRest_59 rfl (by first | rfl | exact b2i_nar _) ?_
          exact ⟨by unfold arB; rw [(ar_f k hk).1 c4, (ar_f k hk).2.2.2 c18, if_neg c38, if_neg c51], rfl⟩
    · -- 18 goes on
      refine e_iconst (v := 1) dX10_isAtRest_21 (by decide) ?_
      refine e_goto (tgt := 26) dX10_isAtRest_22 (by decide) ?_
      refine e_istore (ls' := [_, _, _, _, _, _]) dX10_isAtRest_26 (by decide) rfl ?_
      refine e_iload_n dX10_isAtRest_28 rfl ?_
      refine e_iload_n dX10_isAtRest_29 rfl ?_
      refine e_iload_n dX10_isAtRest_30 rfl ?_
      refine e_iload dX10_isAtRest_31 rfl ?_
      refine e_iload dX10_isAtRest_33 rfl ?_
      refine cS5r dX10_isAtRest_35 mo_X10_keeps ml_X10_370 (Nat.le_of_ble_eq_true rfl) (by omega) (c_keeps) ?_
      refine e_if_eq (tgt := 58) dX10_isAtRest_38 (by decide) (fun c38 => ?_) (fun c38 => ?_)
      · -- 38 jumps
        refine e_iconst (v := 0) dX10_isAtRest_58 (by decide) ?_
        refine e_zret dX10_isAtRest_59 rfl (by first | rfl | exact b2i_nar _) ?_
        exact ⟨by unfold arB; rw [(ar_f k hk).1 c4, (ar_f k hk).2.2.1 c18, if_pos c38], rfl⟩
      · -- 38 goes on
        refine e_iload_n dX10_isAtRest_41 rfl ?_
        refine e_iload_n dX10_isAtRest_42 rfl ?_
        refine e_iload_n dX10_isAtRest_43 rfl ?_
        refine e_iload dX10_isAtRest_44 rfl ?_
        refine e_iload dX10_isAtRest_46 rfl ?_
        refine cS5r dX10_isAtRest_48 mo_X10_keeps ml_X10_370 (Nat.le_of_ble_eq_true rfl) (by omega) (c_keeps) ?_
        refine e_if_eq (tgt := 58) dX10_isAtRest_51 (by decide) (fun c51 => ?_) (fun c51 => ?_)
        · -- 51 jumps
          refine e_iconst (v := 0) dX10_isAtRest_58 (by decide) ?_
          refine e_zret dX10_isAtRest_59 rfl (by first | rfl | exact b2i_nar _) ?_
          exact ⟨by unfold arB; rw [(ar_f k hk).1 c4, (ar_f k hk).2.2.1 c18, if_neg c38, if_pos c51], rfl⟩
        · -- 51 goes on
          refine e_iconst (v := 1) dX10_isAtRest_54 (by decide) ?_
          refine e_goto (tgt := 59) dX10_isAtRest_55 (by decide) ?_
          refine e_zret dX10_isAtRest_59 rfl (by first | rfl | exact b2i_nar _) ?_
          exact ⟨by unfold arB; rw [(ar_f k hk).1 c4, (ar_f k hk).2.2.1 c18, if_neg c38, if_neg c51], rfl⟩
end XAT
