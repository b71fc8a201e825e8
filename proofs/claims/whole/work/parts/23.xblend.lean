section XBL
def pcN (s : Nat) : Nat := s % 2 + s / 2 % 2 + s / 4 % 2 + s / 8 % 2 + s / 16 % 2 + s / 32 % 2
theorem pc_le (s : Nat) : pcN s ≤ 6 := by unfold pcN; omega
set_option maxHeartbeats 4000000 in
set_option maxRecDepth 20000 in
theorem c_bitCount {G : Gt} {M : Mm} {s : Nat} (hs : s < 64) : Call G 1 mJ6_bitCount_0f7a4 [.int (nI s)] M (eqQ (some (.int (nI (pcN s)))) M) := by
  refine Call.intro rfl (Nat.le_of_ble_eq_true rfl) ?_
  show Ev G _ mJ6_bitCount_0f7a4 0 [.int (nI s)] [] M _
  refine e_iload_n dJ6_bitCount_0f7a4_0 rfl ?_
  refine e_iload_n dJ6_bitCount_0f7a4_1 rfl ?_
  refine e_iconst (v := 1) dJ6_bitCount_0f7a4_2 (by decide) ?_
  refine e_iushr dJ6_bitCount_0f7a4_3 ?_
  refine e_ldcw dJ6_bitCount_0f7a4_4 ki_J6_265 ?_
  refine e_iand dJ6_bitCount_0f7a4_7 ?_
  refine e_isub dJ6_bitCount_0f7a4_8 ?_
  refine e_istore_n (ls' := [_]) dJ6_bitCount_0f7a4_9 (by decide) rfl ?_
  refine e_iload_n dJ6_bitCount_0f7a4_10 rfl ?_
  refine e_ldcw dJ6_bitCount_0f7a4_11 ki_J6_266 ?_
  refine e_iand dJ6_bitCount_0f7a4_14 ?_
  refine e_iload_n dJ6_bitCount_0f7a4_15 rfl ?_
  refine e_iconst (v := 2) dJ6_bitCount_0f7a4_16 (by decide) ?_
  refine e_iushr dJ6_bitCount_0f7a4_17 ?_
  refine e_ldcw dJ6_bitCount_0f7a4_18 ki_J6_266 ?_
  refine e_iand dJ6_bitCount_0f7a4_21 ?_
  refine e_iadd dJ6_bitCount_0f7a4_22 ?_
  refine e_istore_n (ls' := [_]) dJ6_bitCount_0f7a4_23 (by decide) rfl ?_
  refine e_iload_n dJ6_bitCount_0f7a4_24 rfl ?_
  refine e_iload_n dJ6_bitCount_0f7a4_25 rfl ?_
  refine e_iconst (v := 4) dJ6_bitCount_0f7a4_26 (by decide) ?_
  refine e_iushr dJ6_bitCount_0f7a4_27 ?_
  refine e_iadd dJ6_bitCount_0f7a4_28 ?_
  refine e_ldcw dJ6_bitCount_0f7a4_29 ki_J6_267 ?_
  refine e_iand dJ6_bitCount_0f7a4_32 ?_
  refine e_istore_n (ls' := [_]) dJ6_bitCount_0f7a4_33 (by decide) rfl ?_
  refine e_iload_n dJ6_bitCount_0f7a4_34 rfl ?_
  refine e_iload_n dJ6_bitCount_0f7a4_35 rfl ?_
  refine e_bipush (v := 8) dJ6_bitCount_0f7a4_36 (by decide) ?_
  refine e_iushr dJ6_bitCount_0f7a4_38 ?_
  refine e_iadd dJ6_bitCount_0f7a4_39 ?_
  refine e_istore_n (ls' := [_]) dJ6_bitCount_0f7a4_40 (by decide) rfl ?_
  refine e_iload_n dJ6_bitCount_0f7a4_41 rfl ?_
  refine e_iload_n dJ6_bitCount_0f7a4_42 rfl ?_
  refine e_bipush (v := 16) dJ6_bitCount_0f7a4_43 (by decide) ?_
  refine e_iushr dJ6_bitCount_0f7a4_45 ?_
  refine e_iadd dJ6_bitCount_0f7a4_46 ?_
  refine e_istore_n (ls' := [_]) dJ6_bitCount_0f7a4_47 (by decide) rfl ?_
  refine e_iload_n dJ6_bitCount_0f7a4_48 rfl ?_
  refine e_bipush (v := 63) dJ6_bitCount_0f7a4_49 (by decide) ?_
  refine e_iand dJ6_bitCount_0f7a4_51 ?_
  refine e_iret dJ6_bitCount_0f7a4_52 rfl ?_
  refine ⟨congrArg (fun v => some (Value.int v)) ?_, rfl⟩
  revert s
  decide +kernel
def sumB (p : Nat → Bool) (g : Nat → Int32) : Nat → Int32
  | 0 => 0
  | k + 1 => if p k then sumB p g k + g k else sumB p g k
theorem sumB_t {p : Nat → Bool} {g : Nat → Int32} {k : Nat} (h : p k = true) : sumB p g (k + 1) = sumB p g k + g k := by simp only [sumB]; rw [if_pos h]
theorem sumB_f {p : Nat → Bool} {g : Nat → Int32} {k : Nat} (h : p k = false) : sumB p g (k + 1) = sumB p g k := by simp only [sumB]; rw [if_neg (by rw [h]; decide)]
def blB (Y : Yv) (S : Sv) (x : Int32) (s : Nat) : Bool := allN (fun j => !(decide (bitI x (nI j)) && decide (S.crow j = 0))) Y.n && decide (¬ sumB (fun j => decide (bitI x (nI j))) (murS S) Y.n < Y.low s ∧ ¬ Y.high s < sumB (fun j => decide (bitI x (nI j))) (murS S) Y.n)
/-- the best of the sets 1 .. k -/
def blN (Y : Yv) (S : Sv) (s : Nat) : Nat → Option Nat
  | 0 => none
  | k + 1 => match blN Y S s k with
    | none => if blB Y S (nI (k + 1)) s then some (k + 1) else none
    | some b => if pcN (k + 1) < pcN b ∧ blB Y S (nI (k + 1)) s = true then some (k + 1) else some b
theorem bl_le {Y : Yv} {S : Sv} {s : Nat} : ∀ {k b : Nat}, blN Y S s k = some b → b ≤ k := by
  intro k
  induction k with
  | zero => intro b h; cases h
  | succ k ih =>
    intro b h
    simp only [blN] at h
    cases hq : blN Y S s k with
    | none => rw [hq] at h; simp only at h; split at h <;> cases h; omega
    | some c =>
      rw [hq] at h
      have := ih hq
      simp only at h
      split at h <;> cases h <;> omega
def blendQ (E : Gs) (i : Int32) : Int32 := if vSt E i then oI (blN E.Y E.S i.toNatClampNeg (2 ^ E.Y.n - 1)) else -1
def fewN : Option Nat → Nat
  | none => 7
  | some b => pcN b
theorem pow6 {n : Nat} (h : n ≤ 6) : (1 : Int32) <<< (nI n &&& 31) = nI (2 ^ n) ∧ 1 ≤ 2 ^ n ∧ 2 ^ n ≤ 64 := by
  rcases (show n = 0 ∨ n = 1 ∨ n = 2 ∨ n = 3 ∨ n = 4 ∨ n = 5 ∨ n = 6 by omega) with rfl | rfl | rfl | rfl | rfl | rfl | rfl <;> exact ⟨by decide +kernel, by decide, by decide⟩
set_option maxHeartbeats 4000000 in
set_option maxRecDepth 20000 in
theorem l_blends {G : Gt} {M : Mm} {E : Gs} {y y' w w' p : Nat} (hX : XJ M E y y' w w' p) {x : Int32} {s : Nat} (hs : s < E.Y.ns) : ∀ (k : Nat) (i : Nat) , (i ≤ E.Y.n) → (E.Y.n < i + k) → (∀ j, j < i → (fun j => !(decide (bitI x (nI j)) && decide (E.S.crow j = 0))) j = true) → Ev G 4 mX10_blends 5 [.ref 0, .int x, .int (nI s), .int (sumB (fun j => decide (bitI x (nI j))) (murS E.S) i), .int (nI i)] [] M (eqQ (some (.int (b2i (blB E.Y E.S x s = true)))) M) := by
  intro k
  induction k with
  | zero => intro i hi hk ha; exact absurd hk (by omega)
  | succ k ih =>
    intro i hi hk ha
    obtain ⟨⟨hld, hsl, hy, hy', hyy⟩, ⟨hpl, hsp, hw, hw', hww⟩, hY, hW, hS, hV, hK, ⟨hpt, hp16, hun, hu16, hU⟩, ⟨htl, htl2, htc⟩⟩ := id hX
    have h6 := hY.1.2
    have hs5 := hY.2.1.2
    refine e_iload dX10_blends_5 rfl ?_
    refine e_aload_n dX10_blends_7 rfl ?_
    refine e_getP dX10_blends_8 fl_X10_19 sh_x rfl ?_
    first | rw [hld] | (simp only [setI_2, setI_22, setL_22]; rw [hld])
    refine e_getI dX10_blends_11 fl_X10_74 (sh_yd (by first | assumption | decide)) rfl ?_
    refine e_icmp_ge (tgt := 62) dX10_blends_14 (by decide) (fun c14 => ?_) (fun c14 => ?_)
    · -- 14 jumps
      rw [hY.1.1] at c14
      have hin : i = E.Y.n := by have := ge_of (by omega) (by omega) c14; omega
      subst hin
      refine e_aload_n dX10_blends_62 rfl ?_
      refine e_getP dX10_blends_63 fl_X10_19 sh_x rfl ?_
      first | rw [hld] | (simp only [setI_2, setI_22, setL_22]; rw [hld])
      refine e_iload_n dX10_blends_66 rfl ?_
      refine e_iload_n dX10_blends_67 rfl ?_
      refine cV2r dX10_blends_68 mo_X8_suits ml_X10_273 (sh_yd (by first | assumption | decide)) rfl (Nat.le_of_ble_eq_true rfl) (by omega) (c_suits (by first | assumption | decide) (by assumption) (by omega)) ?_
      refine e_zret dX10_blends_71 rfl (by first | rfl | exact b2i_nar _) ?_
      refine ⟨congrArg (fun v => some (Value.int v)) ?_, rfl⟩
      have e : (blB E.Y E.S x s = true) ↔ (¬ sumB (fun j => decide (bitI x (nI j))) (murS E.S) E.Y.n < E.Y.low s ∧ ¬ E.Y.high s < sumB (fun j => decide (bitI x (nI j))) (murS E.S) E.Y.n) := by
        unfold blB
        rw [Bool.and_eq_true, allN_iff]
        exact ⟨fun q => of_decide_eq_true q.2, fun q => ⟨ha, decide_eq_true q⟩⟩
      unfold b2i
      by_cases q : (¬ sumB (fun j => decide (bitI x (nI j))) (murS E.S) E.Y.n < E.Y.low s ∧ ¬ E.Y.high s < sumB (fun j => decide (bitI x (nI j))) (murS E.S) E.Y.n)
      · rw [if_pos q, if_pos (e.mpr q)]
      · rw [if_neg q, if_neg (fun r => q (e.mp r))]
    · -- 14 goes on
      rw [hY.1.1] at c14
      have hlt : i < E.Y.n := lt_of (by omega) (by omega) c14
      refine e_iload_n dX10_blends_17 rfl ?_
      refine e_iload dX10_blends_18 rfl ?_
      refine e_ishr dX10_blends_20 ?_
      refine e_iconst (v := 1) dX10_blends_21 (by decide) ?_
      refine e_iand dX10_blends_22 ?_
      refine e_iconst (v := 1) dX10_blends_23 (by decide) ?_
      refine e_icmp_ne (tgt := 56) dX10_blends_24 (by decide) (fun c24 => ?_) (fun c24 => ?_)
      · -- 24 jumps
        refine e_iinc (ls' := [_, _, _, _, _]) dX10_blends_56 rfl (nI_i1 _) (by decide) rfl ?_
        refine e_goto (tgt := 5) dX10_blends_59 (by decide) ?_
        have hh := ih (i + 1) (by omega) (by omega) (lt_s ha (by simp only [decide_eq_false c24]; rfl))
        rw [sumB_f (decide_eq_false c24)] at hh
        exact hh
      · -- 24 goes on
        refine e_aload_n dX10_blends_27 rfl ?_
        refine e_getR dX10_blends_28 fl_X10_39 sh_x rfl ?_
        refine e_getR dX10_blends_31 fl_X10_144 (sh_st (by first | assumption | decide)) rfl ?_
        refine e_iload dX10_blends_34 rfl ?_
        refine cS2r dX10_blends_36 mo_X10_at ml_X10_137 (Nat.le_of_ble_eq_true rfl) (by omega) (c_atN (sa_st_crowns (by first | assumption | decide)) (by decide) (by first | omega | decide)) ?_
        rw [(hS.2.2.2 i hlt).2.1]
        refine e_if_ne (tgt := 44) dX10_blends_39 (by decide) (fun c39 => ?_) (fun c39 => ?_)
        · -- 39 jumps
          refine e_iload_n dX10_blends_44 rfl ?_
          refine e_aload_n dX10_blends_45 rfl ?_
          refine e_getR dX10_blends_46 fl_X10_39 sh_x rfl ?_
          refine e_iload dX10_blends_49 rfl ?_
          refine cV1r dX10_blends_51 mo_X3_murmur ml_X10_156 (sh_st (by first | assumption | decide)) rfl (Nat.le_of_ble_eq_true rfl) (by omega) (c_murmur (by first | assumption | decide) (by omega)) ?_
          rw [(hS.2.2.2 i hlt).2.2.1, (hS.2.2.2 i hlt).2.1]
          refine e_iadd dX10_blends_54 ?_
          refine e_istore_n (ls' := [_, _, _, _, _]) dX10_blends_55 (by decide) rfl ?_
          refine e_iinc (ls' := [_, _, _, _, _]) dX10_blends_56 rfl (nI_i1 _) (by decide) rfl ?_
          refine e_goto (tgt := 5) dX10_blends_59 (by decide) ?_
          have hh := ih (i + 1) (by omega) (by omega) (lt_s ha (by simp only [decide_eq_true c24, decide_eq_false c39]; rfl))
          rw [sumB_t (decide_eq_true c24)] at hh
          exact hh
        · -- 39 goes on
          refine e_iconst (v := 0) dX10_blends_42 (by decide) ?_
          refine e_zret dX10_blends_43 rfl rfl ?_
          exact ⟨by rw [b2i_f (fun q => by unfold blB at q; rw [Bool.and_eq_true, allN_iff] at q; exact absurd q.1 (allN_f hlt (by simp only [decide_eq_true c24, decide_eq_true c39]; rfl)))], rfl⟩
set_option maxHeartbeats 4000000 in
set_option maxRecDepth 20000 in
theorem c_blends {G : Gt} {M : Mm} {E : Gs} {y y' w w' p : Nat} (hX : XJ M E y y' w w' p) {x : Int32} {s : Nat} (hs : s < E.Y.ns) : Call G 4 mX10_blends [.ref 0, .int x, .int (nI s)] M (eqQ (some (.int (b2i (blB E.Y E.S x s = true)))) M) := by
  obtain ⟨⟨hld, hsl, hy, hy', hyy⟩, ⟨hpl, hsp, hw, hw', hww⟩, hY, hW, hS, hV, hK, ⟨hpt, hp16, hun, hu16, hU⟩, ⟨htl, htl2, htc⟩⟩ := id hX
  have h6 := hY.1.2
  have hs5 := hY.2.1.2
  refine Call.intro rfl (Nat.le_of_ble_eq_true rfl) ?_
  show Ev G _ mX10_blends 0 [.ref 0, .int x, .int (nI s), RA, RA] [] M _
  refine e_iconst (v := 0) dX10_blends_0 (by decide) ?_
  refine e_istore_n (ls' := [_, _, _, _, _]) dX10_blends_1 (by decide) rfl ?_
  refine e_iconst (v := 0) dX10_blends_2 (by decide) ?_
  refine e_istore (ls' := [_, _, _, _, _]) dX10_blends_3 (by decide) rfl ?_
  exact l_blends hX hs (E.Y.n + 1) 0 (by omega) (by omega) lt_0
set_option maxHeartbeats 4000000 in
set_option maxRecDepth 20000 in
theorem l_blend {G : Gt} {M : Mm} {E : Gs} {y y' w w' p : Nat} (hX : XJ M E y y' w w' p) {s : Nat} (hs : s < E.Y.ns) : ∀ (k : Nat) (i : Nat), (1 ≤ i ∧ i ≤ 2 ^ E.Y.n) → (2 ^ E.Y.n < i + k) → Ev G 5 mX10_blend 18 [.ref 0, .int (nI s), .int (oI (blN E.Y E.S s (i - 1))), .int (nI (fewN (blN E.Y E.S s (i - 1)))), .int (nI i)] [] M (eqQ (some (.int (oI (blN E.Y E.S s (2 ^ E.Y.n - 1))))) M) := by
  intro k
  induction k with
  | zero => intro i h1i hk; exact absurd hk (by omega)
  | succ k ih =>
    intro i h1i hk
    obtain ⟨⟨hld, hsl, hy, hy', hyy⟩, ⟨hpl, hsp, hw, hw', hww⟩, hY, hW, hS, hV, hK, ⟨hpt, hp16, hun, hu16, hU⟩, ⟨htl, htl2, htc⟩⟩ := id hX
    have h6 := hY.1.2
    have hs5 := hY.2.1.2
    have hpw := pow6 h6
    refine e_iload dX10_blend_18 rfl ?_
    refine e_iconst (v := 1) dX10_blend_20 (by decide) ?_
    refine e_aload_n dX10_blend_21 rfl ?_
    refine e_getP dX10_blend_22 fl_X10_19 sh_x rfl ?_
    first | rw [hld] | (simp only [setI_2, setI_22, setL_22]; rw [hld])
    refine e_getI dX10_blend_25 fl_X10_74 (sh_yd (by first | assumption | decide)) rfl ?_
    rw [hY.1.1]
    refine e_ishl dX10_blend_28 ?_
    rw [hpw.1]
    refine e_icmp_ge (tgt := 66) dX10_blend_29 (by decide) (fun c29 => ?_) (fun c29 => ?_)
    · -- 29 jumps
      have hin : i = 2 ^ E.Y.n := by have := ge_of (by omega) (by omega) c29; omega
      subst hin
      refine e_iload_n dX10_blend_66 rfl ?_
      refine e_iret dX10_blend_67 rfl ?_
      exact ⟨rfl, rfl⟩
    · -- 29 goes on
      have hlt : i < 2 ^ E.Y.n := lt_of (by omega) (by omega) c29
      refine e_iload dX10_blend_32 rfl ?_
      refine cS1r dX10_blend_34 mo_J6_bitCount_0f7a4 ml_X10_298 (Nat.le_of_ble_eq_true rfl) (by omega) (c_bitCount (by omega)) ?_
      refine e_iload_n dX10_blend_37 rfl ?_
      refine e_icmp_ge (tgt := 60) dX10_blend_38 (by decide) (fun c38 => ?_) (fun c38 => ?_)
      · -- 38 jumps
        refine e_iinc (ls' := [_, _, _, _, _]) dX10_blend_60 rfl (nI_i1 _) (by decide) rfl ?_
        refine e_goto (tgt := 18) dX10_blend_63 (by decide) ?_
        have hh := ih (i + 1) (by omega) (by omega)
        have c38 := ge_of (by have := pc_le i; omega) (by cases hq : blN E.Y E.S s (i - 1) with | none => simp [fewN] | some b => have := pc_le b; simp only [fewN]; omega) c38
        have e : blN E.Y E.S s (i + 1 - 1) = blN E.Y E.S s (i - 1) := by
          rw [show i + 1 - 1 = (i - 1) + 1 by omega]
          simp only [blN]
          rw [show i - 1 + 1 = i by omega]
          cases hq : blN E.Y E.S s (i - 1) with
          | none => rw [hq] at c38; have := pc_le i; simp only [fewN] at c38; omega
          | some b => rw [hq] at c38; simp only [fewN] at c38; simp only; rw [if_neg (fun q => by omega)]
        rw [e] at hh
        exact hh
      · -- 38 goes on
        refine e_aload_n dX10_blend_41 rfl ?_
        refine e_iload dX10_blend_42 rfl ?_
        refine e_iload_n dX10_blend_44 rfl ?_
        refine cV2r dX10_blend_45 mo_X10_blends ml_X10_303 sh_x rfl (Nat.le_of_ble_eq_true rfl) (by omega) (c_blends hX hs) ?_
        refine e_if_eq (tgt := 60) dX10_blend_48 (by decide) (fun c48 => ?_) (fun c48 => ?_)
        · -- 48 jumps
          refine e_iinc (ls' := [_, _, _, _, _]) dX10_blend_60 rfl (nI_i1 _) (by decide) rfl ?_
          refine e_goto (tgt := 18) dX10_blend_63 (by decide) ?_
          have hh := ih (i + 1) (by omega) (by omega)
          have c38 := lt_of (by have := pc_le i; omega) (by cases hq : blN E.Y E.S s (i - 1) with | none => simp [fewN] | some b => have := pc_le b; simp only [fewN]; omega) c38
          have c48 := b2i_eq0.mp c48
          have e : blN E.Y E.S s (i + 1 - 1) = blN E.Y E.S s (i - 1) := by
            rw [show i + 1 - 1 = (i - 1) + 1 by omega]
            simp only [blN]
            rw [show i - 1 + 1 = i by omega]
            cases hq : blN E.Y E.S s (i - 1) with
            | none => simp only; rw [if_neg c48]
            | some b => simp only; rw [if_neg (fun q => c48 q.2)]
          rw [e] at hh
          exact hh
        · -- 48 goes on
          refine e_iload dX10_blend_51 rfl ?_
          refine e_istore_n (ls' := [_, _, _, _, _]) dX10_blend_53 (by decide) rfl ?_
          refine e_iload dX10_blend_54 rfl ?_
          refine cS1r dX10_blend_56 mo_J6_bitCount_0f7a4 ml_X10_298 (Nat.le_of_ble_eq_true rfl) (by omega) (c_bitCount (by omega)) ?_
          refine e_istore_n (ls' := [_, _, _, _, _]) dX10_blend_59 (by decide) rfl ?_
          refine e_iinc (ls' := [_, _, _, _, _]) dX10_blend_60 rfl (nI_i1 _) (by decide) rfl ?_
          refine e_goto (tgt := 18) dX10_blend_63 (by decide) ?_
          have hh := ih (i + 1) (by omega) (by omega)
          have c38 := lt_of (by have := pc_le i; omega) (by cases hq : blN E.Y E.S s (i - 1) with | none => simp [fewN] | some b => have := pc_le b; simp only [fewN]; omega) c38
          have c48 : blB E.Y E.S (nI i) s = true := Classical.not_not.mp (fun q => c48 (b2i_f q))
          have e : blN E.Y E.S s (i + 1 - 1) = some i := by
            rw [show i + 1 - 1 = (i - 1) + 1 by omega]
            simp only [blN]
            rw [show i - 1 + 1 = i by omega]
            cases hq : blN E.Y E.S s (i - 1) with
            | none => simp only; rw [if_pos c48]
            | some b => rw [hq] at c38; simp only [fewN] at c38; simp only; rw [if_pos ⟨c38, c48⟩]
          rw [e] at hh
          exact hh
set_option maxHeartbeats 4000000 in
set_option maxRecDepth 20000 in
theorem c_blend {G : Gt} {M : Mm} {E : Gs} {y y' w w' p : Nat} (hX : XJ M E y y' w w' p) {i : Int32} : Call G 5 mX10_blend [.ref 0, .int i] M (eqQ (some (.int (blendQ E i))) M) := by
  obtain ⟨⟨hld, hsl, hy, hy', hyy⟩, ⟨hpl, hsp, hw, hw', hww⟩, hY, hW, hS, hV, hK, ⟨hpt, hp16, hun, hu16, hU⟩, ⟨htl, htl2, htc⟩⟩ := id hX
  have h6 := hY.1.2
  have hs5 := hY.2.1.2
  have hpw := pow6 h6
  refine Call.intro rfl (Nat.le_of_ble_eq_true rfl) ?_
  show Ev G _ mX10_blend 0 [.ref 0, .int i, RA, RA, RA] [] M _
  refine e_aload_n dX10_blend_0 rfl ?_
  refine e_iload_n dX10_blend_1 rfl ?_
  refine cV1r dX10_blend_2 mo_X10_isStage ml_X10_160 sh_x rfl (Nat.le_of_ble_eq_true rfl) (by omega) (c_isStage (by assumption)) ?_
  refine e_if_ne (tgt := 10) dX10_blend_5 (by decide) (fun c5 => ?_) (fun c5 => ?_)
  · -- 5 jumps
    have hsh5 : ¬ i < 0 ∧ i < nI E.Y.ns := by
      by_cases h : (¬ i < 0 ∧ i < nI E.Y.ns)
      · exact h
      · exact absurd (b2i_f h) c5
    obtain ⟨j, hj, rfl⟩ := shed_of (by omega) hsh5
    refine e_iconst (v := (-1)) dX10_blend_10 (by decide) ?_
    refine e_istore_n (ls' := [_, _, _, _, _]) dX10_blend_11 (by decide) rfl ?_
    refine e_bipush (v := 7) dX10_blend_12 (by decide) ?_
    refine e_istore_n (ls' := [_, _, _, _, _]) dX10_blend_14 (by decide) rfl ?_
    refine e_iconst (v := 1) dX10_blend_15 (by decide) ?_
    refine e_istore (ls' := [_, _, _, _, _]) dX10_blend_16 (by decide) rfl ?_
    unfold blendQ
    rw [if_pos hsh5, nI_clamp (by omega)]
    exact l_blend hX hj (2 ^ E.Y.n + 1) 1 ⟨by omega, by omega⟩ (by omega)
  · -- 5 goes on
    refine e_iconst (v := (-1)) dX10_blend_8 (by decide) ?_
    refine e_iret dX10_blend_9 rfl ?_
    exact ⟨by unfold blendQ; rw [if_neg (b2i_eq0.mp c5)], rfl⟩
def heatV (S : Sv) (j : Nat) (v : Int32) : Sv := (S.1, S.2.1, fun q => if q = j then v else S.heat q, S.2.2.2)
theorem SI.heat {Y : Yv} {S : Sv} {T j : Nat} {v : Int32} (h : SI Y S T) : SI Y (heatV S j v) T := h
def citB (E : Gs) (s t j : Nat) (v : Int32) : Bool := decide (¬ murS (itN E.Y (heatV E.S j v) t) j < E.Y.low s ∧ ¬ E.Y.high s < murS (itN E.Y (heatV E.S j v) t) j)
def aimN (E : Gs) (s t h : Nat) : Option Nat := fstN (fun j => citB E s t j (nI h)) 0 E.Y.n
def aimQ (E : Gs) (i t q : Int32) : Int32 := if vSt E i ∧ vWi t 1 20 ∧ vWi q 0 1 then
    (match fstN (fun h => (aimN E i.toNatClampNeg t.toNatClampNeg h).isSome) 0 10 with
    | none => -1
    | some h => if q = 0 then nI h else oI (aimN E i.toNatClampNeg t.toNatClampNeg h)) else -1
set_option maxHeartbeats 4000000 in
set_option maxRecDepth 20000 in
theorem l_cit {G : Gt} {M : Mm} {E : Gs} {y y' w w' p : Nat} (hX : XJ M E y y' w w' p) {T : Nat} (hI : SI E.Y E.S T) (hT : T < 2 ^ 30) {s t j h : Nat} (hs : s < E.Y.ns) (hj : j < E.Y.n) (ht : t ≤ 20) : ∀ (k : Nat) (i : Nat) (Mc : Mm), (i ≤ t) → (t < i + k) → (SC M Mc ∧ SX Mc 51 E.Y.n (itN E.Y (heatV E.S j (nI h)) i)) → Ev G 6 mX10_comesInTime 17 [.ref 0, .int (nI s), .int (nI t), .int (nI j), .int (nI h), .int (nI i)] [] Mc (fun r M' => r = some (.int (b2i (citB E s t j (nI h) = true))) ∧ SC M M') := by
  intro k
  induction k with
  | zero => intro i Mc hi hk hv; exact absurd hk (by omega)
  | succ k ih =>
    intro i Mc hi hk hv
    obtain ⟨⟨hld, hsl, hy, hy', hyy⟩, ⟨hpl, hsp, hw, hw', hww⟩, hY, hW, hS, hV, hK, ⟨hpt, hp16, hun, hu16, hU⟩, ⟨htl, htl2, htc⟩⟩ := id (hv.1.keep hX)
    have h6 := hY.1.2
    have hs5 := hY.2.1.2
    refine e_iload dX10_comesInTime_17 rfl ?_
    refine e_iload_n dX10_comesInTime_19 rfl ?_
    refine e_icmp_ge (tgt := 34) dX10_comesInTime_20 (by decide) (fun c20 => ?_) (fun c20 => ?_)
    · -- 20 jumps
      have hin : i = t := by have := ge_of (by omega) (by omega) c20; omega
      subst hin
      refine e_aload_n dX10_comesInTime_34 rfl ?_
      refine e_getP dX10_comesInTime_35 fl_X10_19 sh_x rfl ?_
      first | rw [hld] | (simp only [setI_2, setI_22, setL_22]; rw [hld])
      refine e_iload_n dX10_comesInTime_38 rfl ?_
      refine e_aload_n dX10_comesInTime_39 rfl ?_
      refine e_getR dX10_comesInTime_40 fl_X10_43 sh_x rfl ?_
      refine e_iload_n dX10_comesInTime_43 rfl ?_
      refine cV1r dX10_comesInTime_44 mo_X3_murmur ml_X10_156 (sh_st (by first | assumption | decide)) rfl (Nat.le_of_ble_eq_true rfl) (by omega) (c_murmur (by first | assumption | decide) (by omega)) ?_
      rw [(hv.2.2.2.2 j hj).2.2.1, (hv.2.2.2.2 j hj).2.1]
      refine cV2r dX10_comesInTime_47 mo_X8_suits ml_X10_273 (sh_yd (by first | assumption | decide)) rfl (Nat.le_of_ble_eq_true rfl) (by omega) (c_suits (by first | assumption | decide) (by assumption) (by omega)) ?_
      refine e_zret dX10_comesInTime_50 rfl (by first | rfl | exact b2i_nar _) ?_
      refine ⟨congrArg (fun v => some (Value.int v)) ?_, hv.1⟩
      unfold b2i citB
      by_cases q : (¬ murS (itN E.Y (heatV E.S j (nI h)) i) j < E.Y.low s ∧ ¬ E.Y.high s < murS (itN E.Y (heatV E.S j (nI h)) i) j)
      · rw [if_pos q, if_pos (decide_eq_true q)]
      · rw [if_neg q, if_neg (by rw [decide_eq_false q]; decide)]
    · -- 20 goes on
      have hlt : i < t := lt_of (by omega) (by omega) c20
      refine e_aload_n dX10_comesInTime_23 rfl ?_
      refine cV0x dX10_comesInTime_24 mo_X10_passTrial ml_X10_252 sh_x rfl (Nat.le_of_ble_eq_true rfl) (by omega) (c_passTrial (hv.1.keep hX) hv.2 (hI.heat.it hY.1.2 i) (by omega)) ?_
      rintro r M1 ⟨rfl, h1, h2, h3⟩
      dsimp only [Option.toList, List.cons_append, List.nil_append]
      refine e_pop dX10_comesInTime_27 rfl ?_
      refine e_iinc (ls' := [_, _, _, _, _, _]) dX10_comesInTime_28 rfl (nI_i1 _) (by decide) rfl ?_
      refine e_goto (tgt := 17) dX10_comesInTime_31 (by decide) ?_
      exact ih (i + 1) M1 (by omega) (by omega) ⟨hv.1.trans h1, h2⟩
set_option maxHeartbeats 4000000 in
set_option maxRecDepth 20000 in
theorem c_cit {G : Gt} {M : Mm} {E : Gs} {y y' w w' p : Nat} (hX : XJ M E y y' w w' p) {T : Nat} (hI : SI E.Y E.S T) (hT : T < 2 ^ 30) {s t j h : Nat} (hs : s < E.Y.ns) (hj : j < E.Y.n) (ht : t ≤ 20) : Call G 6 mX10_comesInTime [.ref 0, .int (nI s), .int (nI t), .int (nI j), .int (nI h)] M (fun r M' => r = some (.int (b2i (citB E s t j (nI h) = true))) ∧ SC M M') := by
  obtain ⟨⟨hld, hsl, hy, hy', hyy⟩, ⟨hpl, hsp, hw, hw', hww⟩, hY, hW, hS, hV, hK, ⟨hpt, hp16, hun, hu16, hU⟩, ⟨htl, htl2, htc⟩⟩ := id hX
  have h6 := hY.1.2
  have hs5 := hY.2.1.2
  refine Call.intro rfl (Nat.le_of_ble_eq_true rfl) ?_
  show Ev G _ mX10_comesInTime 0 [.ref 0, .int (nI s), .int (nI t), .int (nI j), .int (nI h), RA] [] M _
  refine e_aload_n dX10_comesInTime_0 rfl ?_
  refine cV0x dX10_comesInTime_1 mo_X10_beginTrial ml_X10_249 sh_x rfl (Nat.le_of_ble_eq_true rfl) (by omega) (c_beginTrial hX) ?_
  rintro r M0 ⟨rfl, hsc0, hT0⟩
  dsimp only [Option.toList, List.cons_append, List.nil_append]
  have hv0 : trI M M0 E.Y E.S 0 := ⟨hsc0, hT0, fun h => absurd h (by omega)⟩
  refine e_aload_n dX10_comesInTime_4 rfl ?_
  refine e_getR dX10_comesInTime_5 fl_X10_43 sh_x rfl ?_
  refine e_iload_n dX10_comesInTime_8 rfl ?_
  refine e_iload dX10_comesInTime_9 rfl ?_
  refine cV2v dX10_comesInTime_11 mo_X3_heatTo ml_X10_203 (sh_st (by first | assumption | decide)) rfl (Nat.le_of_ble_eq_true rfl) (by omega) (c_heatTo (by first | assumption | decide) (by omega)) ?_
  refine e_iconst (v := 0) dX10_comesInTime_14 (by decide) ?_
  refine e_istore (ls' := [_, _, _, _, _, _]) dX10_comesInTime_15 (by decide) rfl ?_
  refine l_cit hX hI hT hs hj ht (t + 1) 0 _ (by omega) (by omega) ⟨hsc0.trans (SC.of rfl (fun q hq => ?_)), ?_, ?_, ?_, fun q hq => ⟨?_, ?_, ?_, ?_⟩⟩
  · funext k; rw [setI_1, if_neg (by unfold scr at hq; omega)]
  · rw [setI_1, if_neg (by omega)]; exact hT0.1
  · rw [setI_1, if_neg (by omega)]; exact hT0.2.1
  · rw [setI_1, if_neg (by omega)]; exact hT0.2.2.1
  · rw [setI_1]; show _ = if q = j then _ else _
    by_cases e : q = j
    · rw [if_pos ⟨rfl, e⟩, if_pos e]
    · rw [if_neg (fun x => e x.2), if_neg e]; exact (hT0.2.2.2 q hq).1
  · rw [setI_1, if_neg (by omega)]; exact (hT0.2.2.2 q hq).2.1
  · rw [setI_1, if_neg (by omega)]; exact (hT0.2.2.2 q hq).2.2.1
  · rw [setI_1, if_neg (by omega)]; exact (hT0.2.2.2 q hq).2.2.2
set_option maxHeartbeats 4000000 in
set_option maxRecDepth 20000 in
theorem l_aim2 {G : Gt} {M : Mm} {E : Gs} {y y' w w' p : Nat} (hX : XJ M E y y' w w' p) {T : Nat} (hI : SI E.Y E.S T) (hT : T < 2 ^ 30) {s t : Nat} {q : Int32} (hs : s < E.Y.ns) (ht : t ≤ 20) {h : Nat} (hh : h < 10) (hr0 : fstN (fun h => (aimN E s t h).isSome) 0 10 = fstN (fun h => (aimN E s t h).isSome) h (10 - h)) (hCo : ∀ (Mc : Mm) (u : Value), SC M Mc → (aimN E s t h).isSome = false → Ev G 7 mX10_aim 85 [.ref 0, .int (nI s), .int (nI t), .int q, .int (nI h), u] [] Mc (fun r M' => r = some (.int (match fstN (fun h => (aimN E s t h).isSome) 0 10 with
    | none => -1
    | some h => if q = 0 then nI h else oI (aimN E s t h))) ∧ SC M M')) : ∀ (k : Nat) (i : Nat) (Mc : Mm), (i ≤ E.Y.n) → (E.Y.n < i + k) → (aimN E s t h = fstN (fun j => citB E s t j (nI h)) i (E.Y.n - i)) → (SC M Mc) → Ev G 7 mX10_aim 42 [.ref 0, .int (nI s), .int (nI t), .int q, .int (nI h), .int (nI i)] [] Mc (fun r M' => r = some (.int (match fstN (fun h => (aimN E s t h).isSome) 0 10 with
    | none => -1
    | some h => if q = 0 then nI h else oI (aimN E s t h))) ∧ SC M M') := by
  intro k
  induction k with
  | zero => intro i Mc hi hk hr hv; exact absurd hk (by omega)
  | succ k ih =>
    intro i Mc hi hk hr hv
    obtain ⟨⟨hld, hsl, hy, hy', hyy⟩, ⟨hpl, hsp, hw, hw', hww⟩, hY, hW, hS, hV, hK, ⟨hpt, hp16, hun, hu16, hU⟩, ⟨htl, htl2, htc⟩⟩ := id (hv.keep hX)
    have h6 := hY.1.2
    have hs5 := hY.2.1.2
    refine e_iload dX10_aim_42 rfl ?_
    refine e_aload_n dX10_aim_44 rfl ?_
    refine e_getP dX10_aim_45 fl_X10_19 sh_x rfl ?_
    first | rw [hld] | (simp only [setI_2, setI_22, setL_22]; rw [hld])
    refine e_getI dX10_aim_48 fl_X10_74 (sh_yd (by first | assumption | decide)) rfl ?_
    refine e_icmp_ge (tgt := 85) dX10_aim_51 (by decide) (fun c51 => ?_) (fun c51 => ?_)
    · -- 51 jumps
      rw [hY.1.1] at c51
      have hin : i = E.Y.n := by have := ge_of (by omega) (by omega) c51; omega
      subst hin
      exact hCo Mc _ hv (by rw [hr, fst_e]; rfl)
    · -- 51 goes on
      rw [hY.1.1] at c51
      have hlt : i < E.Y.n := lt_of (by omega) (by omega) c51
      refine e_aload_n dX10_aim_54 rfl ?_
      refine e_iload_n dX10_aim_55 rfl ?_
      refine e_iload_n dX10_aim_56 rfl ?_
      refine e_iload dX10_aim_57 rfl ?_
      refine e_iload dX10_aim_59 rfl ?_
      refine cV4x dX10_aim_61 mo_X10_comesInTime ml_X10_306 sh_x rfl (Nat.le_of_ble_eq_true rfl) (by omega) (c_cit (hv.keep hX) hI hT hs hlt ht) ?_
      rintro r M1 ⟨rfl, h1⟩
      dsimp only [Option.toList, List.cons_append, List.nil_append]
      refine e_if_eq (tgt := 79) dX10_aim_64 (by decide) (fun c64 => ?_) (fun c64 => ?_)
      · -- 64 jumps
        refine e_iinc (ls' := [_, _, _, _, _, _]) dX10_aim_79 rfl (nI_i1 _) (by decide) rfl ?_
        refine e_goto (tgt := 42) dX10_aim_82 (by decide) ?_
        exact ih (i + 1) M1 (by omega) (by omega) (hr.trans (fst_f hlt (Bool.eq_false_iff.mpr (b2i_eq0.mp c64)))) (hv.trans h1)
      · -- 64 goes on
        refine e_iload_n dX10_aim_67 rfl ?_
        refine e_if_ne (tgt := 76) dX10_aim_68 (by decide) (fun c68 => ?_) (fun c68 => ?_)
        · -- 68 jumps
          refine e_iload dX10_aim_76 rfl ?_
          refine e_iret dX10_aim_78 rfl ?_
          have c64 : citB E s t i (nI h) = true := Classical.not_not.mp (fun q => c64 (b2i_f q))
          rw [fst_t hlt c64] at hr
          have h10 : fstN (fun h => (aimN E s t h).isSome) 0 10 = some h := by rw [hr0]; exact fst_t hh (by rw [hr]; rfl)
          refine ⟨?_, hv.trans h1⟩
          rw [h10]
          simp only [hr]
          rw [if_neg c68]
          rfl
        · -- 68 goes on
          refine e_iload dX10_aim_71 rfl ?_
          refine e_goto (tgt := 78) dX10_aim_73 (by decide) ?_
          refine e_iret dX10_aim_78 rfl ?_
          have c64 : citB E s t i (nI h) = true := Classical.not_not.mp (fun q => c64 (b2i_f q))
          rw [fst_t hlt c64] at hr
          have h10 : fstN (fun h => (aimN E s t h).isSome) 0 10 = some h := by rw [hr0]; exact fst_t hh (by rw [hr]; rfl)
          refine ⟨?_, hv.trans h1⟩
          rw [h10]
          simp only [hr]
          rw [if_pos c68]
set_option maxHeartbeats 4000000 in
set_option maxRecDepth 20000 in
theorem l_aim1 {G : Gt} {M : Mm} {E : Gs} {y y' w w' p : Nat} (hX : XJ M E y y' w w' p) {T : Nat} (hI : SI E.Y E.S T) (hT : T < 2 ^ 30) {s t : Nat} {q : Int32} (hs : s < E.Y.ns) (ht : t ≤ 20) : ∀ (k : Nat) (i : Nat) (Mc : Mm) (u : Value), (i ≤ 10) → (10 < i + k) → (fstN (fun h => (aimN E s t h).isSome) 0 10 = fstN (fun h => (aimN E s t h).isSome) i (10 - i)) → (SC M Mc) → Ev G 7 mX10_aim 32 [.ref 0, .int (nI s), .int (nI t), .int q, .int (nI i), u] [] Mc (fun r M' => r = some (.int (match fstN (fun h => (aimN E s t h).isSome) 0 10 with
    | none => -1
    | some h => if q = 0 then nI h else oI (aimN E s t h))) ∧ SC M M') := by
  intro k
  induction k with
  | zero => intro i Mc u hi hk hr hv; exact absurd hk (by omega)
  | succ k ih =>
    intro i Mc u hi hk hr hv
    obtain ⟨⟨hld, hsl, hy, hy', hyy⟩, ⟨hpl, hsp, hw, hw', hww⟩, hY, hW, hS, hV, hK, ⟨hpt, hp16, hun, hu16, hU⟩, ⟨htl, htl2, htc⟩⟩ := id (hv.keep hX)
    have h6 := hY.1.2
    have hs5 := hY.2.1.2
    refine e_iload dX10_aim_32 rfl ?_
    refine e_bipush (v := 9) dX10_aim_34 (by decide) ?_
    refine e_icmp_gt (tgt := 91) dX10_aim_36 (by decide) (fun c36 => ?_) (fun c36 => ?_)
    · -- 36 jumps
      have hin : i = 10 := by have := lt_of (i := 9) (n := i) (by omega) (by omega) c36; omega
      subst hin
      refine e_iconst (v := (-1)) dX10_aim_91 (by decide) ?_
      refine e_iret dX10_aim_92 rfl ?_
      exact ⟨by rw [hr, fst_e], hv⟩
    · -- 36 goes on
      have hlt : i < 10 := by have := ge_of (i := 9) (n := i) (by omega) (by omega) c36; omega
      refine e_iconst (v := 0) dX10_aim_39 (by decide) ?_
      refine e_istore (ls' := [_, _, _, _, _, _]) dX10_aim_40 (by decide) rfl ?_
      refine l_aim2 hX hI hT hs ht (h := i) (by omega) hr (fun Mc2 u2 hv2 hn => ?_) (E.Y.n + 1) 0 Mc (by omega) (by omega) rfl hv
      refine e_iinc (ls' := [_, _, _, _, _, _]) dX10_aim_85 rfl (nI_i1 _) (by decide) rfl ?_
      refine e_goto (tgt := 32) dX10_aim_88 (by decide) ?_
      exact ih (i + 1) Mc2 u2 (by omega) (by omega) (hr.trans (fst_f hlt hn)) hv2
set_option maxHeartbeats 4000000 in
set_option maxRecDepth 20000 in
theorem c_aim {G : Gt} {M : Mm} {E : Gs} {y y' w w' p : Nat} (hX : XJ M E y y' w w' p) {T : Nat} (hI : SI E.Y E.S T) (hT : T < 2 ^ 30) {i t q : Int32} : Call G 7 mX10_aim [.ref 0, .int i, .int t, .int q] M (fun r M' => r = some (.int (aimQ E i t q)) ∧ SC M M') := by
  obtain ⟨⟨hld, hsl, hy, hy', hyy⟩, ⟨hpl, hsp, hw, hw', hww⟩, hY, hW, hS, hV, hK, ⟨hpt, hp16, hun, hu16, hU⟩, ⟨htl, htl2, htc⟩⟩ := id hX
  have h6 := hY.1.2
  have hs5 := hY.2.1.2
  refine Call.intro rfl (Nat.le_of_ble_eq_true rfl) ?_
  show Ev G _ mX10_aim 0 [.ref 0, .int i, .int t, .int q, RA, RA] [] M _
  refine e_aload_n dX10_aim_0 rfl ?_
  refine e_iload_n dX10_aim_1 rfl ?_
  refine cV1r dX10_aim_2 mo_X10_isStage ml_X10_160 sh_x rfl (Nat.le_of_ble_eq_true rfl) (by omega) (c_isStage (by assumption)) ?_
  refine e_if_eq (tgt := 27) dX10_aim_5 (by decide) (fun c5 => ?_) (fun c5 => ?_)
  · -- 5 jumps
    refine e_iconst (v := (-1)) dX10_aim_27 (by decide) ?_
    refine e_iret dX10_aim_28 rfl ?_
    exact ⟨by unfold aimQ; rw [if_neg (fun h => absurd h.1 (b2i_eq0.mp c5))], SC.rfl'⟩
  · -- 5 goes on
    have c5 : vSt E i := by
      by_cases h : (vSt E i)
      · exact h
      · exact absurd (b2i_f h) c5
    refine e_iload_n dX10_aim_8 rfl ?_
    refine e_iconst (v := 1) dX10_aim_9 (by decide) ?_
    refine e_bipush (v := 20) dX10_aim_10 (by decide) ?_
    refine cS3r dX10_aim_12 mo_X10_within ml_X10_199 (Nat.le_of_ble_eq_true rfl) (by omega) (c_within) ?_
    refine e_if_eq (tgt := 27) dX10_aim_15 (by decide) (fun c15 => ?_) (fun c15 => ?_)
    · -- 15 jumps
      refine e_iconst (v := (-1)) dX10_aim_27 (by decide) ?_
      refine e_iret dX10_aim_28 rfl ?_
      exact ⟨by unfold aimQ; rw [if_neg (fun h => absurd h.2.1 (b2i_eq0.mp c15))], SC.rfl'⟩
    · -- 15 goes on
      have c15 : vWi t 1 20 := by
        by_cases h : (vWi t 1 20)
        · exact h
        · exact absurd (b2i_f h) c15
      refine e_iload_n dX10_aim_18 rfl ?_
      refine e_iconst (v := 0) dX10_aim_19 (by decide) ?_
      refine e_iconst (v := 1) dX10_aim_20 (by decide) ?_
      refine cS3r dX10_aim_21 mo_X10_within ml_X10_199 (Nat.le_of_ble_eq_true rfl) (by omega) (c_within) ?_
      refine e_if_ne (tgt := 29) dX10_aim_24 (by decide) (fun c24 => ?_) (fun c24 => ?_)
      · -- 24 jumps
        have c24 : vWi q 0 1 := by
          by_cases h : (vWi q 0 1)
          · exact h
          · exact absurd (b2i_f h) c24
        refine e_iconst (v := 0) dX10_aim_29 (by decide) ?_
        refine e_istore (ls' := [_, _, _, _, _, _]) dX10_aim_30 (by decide) rfl ?_
        unfold aimQ
        rw [if_pos ⟨c5, c15, c24⟩]
        obtain ⟨s, hs, rfl⟩ := shed_of (by omega) c5
        obtain ⟨t, ht60, hlo, rfl⟩ := wi_of (a := 1) (b := 20) (by decide) (by decide) c15
        rw [nI_clamp (by omega), nI_clamp (by omega)]
        exact l_aim1 hX hI hT hs ht60 11 0 M _ (by omega) (by omega) rfl SC.rfl'
      · -- 24 goes on
        refine e_iconst (v := (-1)) dX10_aim_27 (by decide) ?_
        refine e_iret dX10_aim_28 rfl ?_
        exact ⟨by unfold aimQ; rw [if_neg (fun h => absurd h.2.2 (b2i_eq0.mp c24))], SC.rfl'⟩
end XBL
