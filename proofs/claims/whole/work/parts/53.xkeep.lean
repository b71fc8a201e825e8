section XKP
/-- whether one keeps to what he does: what he loses, gets when both speak, gets when he alone is silent; he speaks, the other speaks -/
def kpB (l s q m h : Int32) : Int32 := if m = 0 then b2i (¬ (if h = 0 then 0 else q) < (if h = 0 then s else -l)) else b2i (¬ (if h = 0 then s else -l) < (if h = 0 then 0 else q))
def kpQ (l s q : Int32) (m h : Prop) [Decidable m] [Decidable h] : Prop := if m then ¬ (if h then -l else s) < (if h then q else 0) else ¬ (if h then q else 0) < (if h then -l else s)
theorem kp_dec (l s q : Int32) (m h : Prop) [Decidable m] [Decidable h] : kpQ l s q m h ∨ ¬ kpQ l s q m h := Classical.em _
set_option maxHeartbeats 4000000 in
set_option maxRecDepth 20000 in
theorem c_keeps {G : Gt} {M : Mm} {l s q m h : Int32} : Call G 1 mX10_keeps [.int l, .int s, .int q, .int m, .int h] M (eqQ (some (.int (kpB l s q m h))) M) := by
  refine Call.intro rfl (Nat.le_of_ble_eq_true rfl) ?_
  show Ev G _ mX10_keeps 0 [.int l, .int s, .int q, .int m, .int h, RA, RA] [] M _
  refine e_iload dX10_keeps_0 rfl ?_
  refine e_if_eq (tgt := 10) dX10_keeps_2 (by decide) (fun c2 => ?_) (fun c2 => ?_)
  · -- 2 jumps
    refine e_iload_n dX10_keeps_10 rfl ?_
    refine e_istore (ls' := [_, _, _, _, _, _, _]) dX10_keeps_11 (by decide) rfl ?_
    refine e_iload dX10_keeps_13 rfl ?_
    refine e_if_eq (tgt := 22) dX10_keeps_15 (by decide) (fun c15 => ?_) (fun c15 => absurd c15 (fun z => z c2))
    refine e_iconst (v := 0) dX10_keeps_22 (by decide) ?_
    refine e_istore (ls' := [_, _, _, _, _, _, _]) dX10_keeps_23 (by decide) rfl ?_
    refine e_iload_n dX10_keeps_25 rfl ?_
    refine e_if_eq (tgt := 44) dX10_keeps_26 (by decide) (fun c26 => ?_) (fun c26 => ?_)
    · -- 26 jumps
      refine e_iload dX10_keeps_44 rfl ?_
      refine e_iload dX10_keeps_46 rfl ?_
      refine e_icmp_lt (tgt := 55) dX10_keeps_48 (by decide) (fun c48 => ?_) (fun c48 => ?_)
      · -- 48 jumps
        refine e_iconst (v := 0) dX10_keeps_55 (by decide) ?_
        refine e_zret dX10_keeps_56 rfl (by first | rfl | exact b2i_nar _) ?_
        exact ⟨by unfold kpB; rw [if_pos c26, if_pos c2, if_pos c2, b2i_f (fun q => q c48)], rfl⟩
      · -- 48 goes on
        refine e_iconst (v := 1) dX10_keeps_51 (by decide) ?_
        refine e_goto (tgt := 56) dX10_keeps_52 (by decide) ?_
        refine e_zret dX10_keeps_56 rfl (by first | rfl | exact b2i_nar _) ?_
        exact ⟨by unfold kpB; rw [if_pos c26, if_pos c2, if_pos c2, b2i_t c48], rfl⟩
    · -- 26 goes on
      refine e_iload dX10_keeps_29 rfl ?_
      refine e_iload dX10_keeps_31 rfl ?_
      refine e_icmp_lt (tgt := 40) dX10_keeps_33 (by decide) (fun c33 => ?_) (fun c33 => ?_)
      · -- 33 jumps
        refine e_iconst (v := 0) dX10_keeps_40 (by decide) ?_
        refine e_goto (tgt := 56) dX10_keeps_41 (by decide) ?_
        refine e_zret dX10_keeps_56 rfl (by first | rfl | exact b2i_nar _) ?_
        exact ⟨by unfold kpB; rw [if_neg c26, if_pos c2, if_pos c2, b2i_f (fun q => q c33)], rfl⟩
      · -- 33 goes on
        refine e_iconst (v := 1) dX10_keeps_36 (by decide) ?_
        refine e_goto (tgt := 56) dX10_keeps_37 (by decide) ?_
        refine e_zret dX10_keeps_56 rfl (by first | rfl | exact b2i_nar _) ?_
        exact ⟨by unfold kpB; rw [if_neg c26, if_pos c2, if_pos c2, b2i_t c33], rfl⟩
  · -- 2 goes on
    refine e_iload_n dX10_keeps_5 rfl ?_
    refine e_ineg dX10_keeps_6 ?_
    refine e_goto (tgt := 11) dX10_keeps_7 (by decide) ?_
    refine e_istore (ls' := [_, _, _, _, _, _, _]) dX10_keeps_11 (by decide) rfl ?_
    refine e_iload dX10_keeps_13 rfl ?_
    refine e_if_eq (tgt := 22) dX10_keeps_15 (by decide) (fun c15 => absurd c15 c2) (fun c15 => ?_)
    refine e_iload_n dX10_keeps_18 rfl ?_
    refine e_goto (tgt := 23) dX10_keeps_19 (by decide) ?_
    refine e_istore (ls' := [_, _, _, _, _, _, _]) dX10_keeps_23 (by decide) rfl ?_
    refine e_iload_n dX10_keeps_25 rfl ?_
    refine e_if_eq (tgt := 44) dX10_keeps_26 (by decide) (fun c26 => ?_) (fun c26 => ?_)
    · -- 26 jumps
      refine e_iload dX10_keeps_44 rfl ?_
      refine e_iload dX10_keeps_46 rfl ?_
      refine e_icmp_lt (tgt := 55) dX10_keeps_48 (by decide) (fun c48 => ?_) (fun c48 => ?_)
      · -- 48 jumps
        refine e_iconst (v := 0) dX10_keeps_55 (by decide) ?_
        refine e_zret dX10_keeps_56 rfl (by first | rfl | exact b2i_nar _) ?_
        exact ⟨by unfold kpB; rw [if_pos c26, if_neg c2, if_neg c2, b2i_f (fun q => q c48)], rfl⟩
      · -- 48 goes on
        refine e_iconst (v := 1) dX10_keeps_51 (by decide) ?_
        refine e_goto (tgt := 56) dX10_keeps_52 (by decide) ?_
        refine e_zret dX10_keeps_56 rfl (by first | rfl | exact b2i_nar _) ?_
        exact ⟨by unfold kpB; rw [if_pos c26, if_neg c2, if_neg c2, b2i_t c48], rfl⟩
    · -- 26 goes on
      refine e_iload dX10_keeps_29 rfl ?_
      refine e_iload dX10_keeps_31 rfl ?_
      refine e_icmp_lt (tgt := 40) dX10_keeps_33 (by decide) (fun c33 => ?_) (fun c33 => ?_)
      · -- 33 jumps
        refine e_iconst (v := 0) dX10_keeps_40 (by decide) ?_
        refine e_goto (tgt := 56) dX10_keeps_41 (by decide) ?_
        refine e_zret dX10_keeps_56 rfl (by first | rfl | exact b2i_nar _) ?_
        exact ⟨by unfold kpB; rw [if_neg c26, if_neg c2, if_neg c2, b2i_f (fun q => q c33)], rfl⟩
      · -- 33 goes on
        refine e_iconst (v := 1) dX10_keeps_36 (by decide) ?_
        refine e_goto (tgt := 56) dX10_keeps_37 (by decide) ?_
        refine e_zret dX10_keeps_56 rfl (by first | rfl | exact b2i_nar _) ?_
        exact ⟨by unfold kpB; rw [if_neg c26, if_neg c2, if_neg c2, b2i_t c33], rfl⟩
end XKP
