section XSTA
theorem wk2 {w : Nat} (h : w = 36 ∨ w = 40) : w ∈ wkA := by rcases h with rfl | rfl <;> decide
def shedQ (E : Gs) (i w : Int32) : Int32 := if vSh E i then
    (if w = 0 then E.Y.kind i.toNatClampNeg else if w = 1 then E.S.heat i.toNatClampNeg else if w = 2 then E.S.crow i.toNatClampNeg else if w = 3 then E.S.high i.toNatClampNeg else if w = 4 then b2i (bitI E.S.lit i) else if w = 5 then E.Y.near i.toNatClampNeg else if w = 6 then murS E.S i.toNatClampNeg else -2) else -2
def stageQ (E : Gs) (i w : Int32) : Int32 := if vSt E i then (if w = 0 then E.Y.low i.toNatClampNeg else if w = 1 then E.Y.high i.toNatClampNeg else -1) else -1
def riotsV (Y : Yv) (S : Sv) : Int32 := setB (fun j => !decide (murS S j < 60)) Y.n
def hadV (Y : Yv) (S : Sv) (s : Nat) : Int32 := setB (fun j => decide (¬ murS S j < Y.low s ∧ ¬ Y.high s < murS S j)) Y.n
def hadQ (E : Gs) (i : Int32) : Int32 := if vSt E i then hadV E.Y E.S i.toNatClampNeg else -1
def waitsQ (E : Gs) (i : Int32) : Int32 := if vSt E i then oI (fstN (fun t => !decide (hadV E.Y (itN E.Y E.S t) i.toNatClampNeg = 0)) 0 61) else -1
def yieldsQ (E : Gs) (t : Int32) : Int32 := if vWi t 0 60 then sumI (murS (itN E.Y E.S t.toNatClampNeg)) E.Y.n else -1
def amxN (g : Nat → Int32) : Nat → Option Nat
  | 0 => none
  | k + 1 => match amxN g k with
    | none => some k
    | some b => if g b < g k then some k else some b
theorem amx_lt {g : Nat → Int32} : ∀ {k b : Nat}, amxN g k = some b → b < k := by
  intro k
  induction k with
  | zero => intro b h; cases h
  | succ k ih =>
    intro b h
    simp only [amxN] at h
    cases hq : amxN g k with
    | none => rw [hq] at h; cases h; omega
    | some c =>
      rw [hq] at h
      have := ih hq
      simp only at h
      split at h <;> cases h <;> omega
theorem amx_congr {g g' : Nat → Int32} : ∀ {k : Nat}, (∀ j, j < k → g j = g' j) → amxN g k = amxN g' k := by
  intro k
  induction k with
  | zero => intro _; rfl
  | succ k ih =>
    intro h
    simp only [amxN]
    rw [ih (fun j hj => h j (by omega))]
    cases hq : amxN g' k with
    | none => rfl
    | some b => simp only; rw [h b (by have := amx_lt hq; omega), h k (by omega)]
theorem oI_m1 {o : Option Nat} {k : Nat} (hk : k < 2 ^ 31) (h : ∀ b, o = some b → b < k) : (oI o = -1) = (o = none) := by
  cases o with
  | none => simp [oI]
  | some b =>
    have hb := h b rfl
    simp only [oI]
    refine propext ⟨fun e => ?_, fun e => by cases e⟩
    have : (nI b).toInt = (-1 : Int32).toInt := by rw [e]
    rw [nI_toInt (by omega)] at this
    have h2 : (-1 : Int32).toInt = -1 := rfl
    omega
set_option maxHeartbeats 4000000 in
set_option maxRecDepth 20000 in
theorem c_shed {G : Gt} {M : Mm} {E : Gs} {y y' w w' p : Nat} (hX : XJ M E y y' w w' p) {i q : Int32} : Call G 4 mX10_shed [.ref 0, .int i, .int q] M (eqQ (some (.int (shedQ E i q))) M) := by
  obtain ⟨⟨hld, hsl, hy, hy', hyy⟩, ⟨hpl, hsp, hw, hw', hww⟩, hY, hW, hS, hV, hK, ⟨hpt, hp16, hun, hu16, hU⟩, ⟨htl, htl2, htc⟩⟩ := id hX
  have h6 := hY.1.2
  have hs5 := hY.2.1.2
  refine Call.intro rfl (Nat.le_of_ble_eq_true rfl) ?_
  show Ev G _ mX10_shed 0 [.ref 0, .int i, .int q] [] M _
  refine e_aload_n dX10_shed_0 rfl ?_
  refine e_iload_n dX10_shed_1 rfl ?_
  refine cV1r dX10_shed_2 mo_X10_isShed ml_X10_130 sh_x rfl (Nat.le_of_ble_eq_true rfl) (by omega) (c_isShed (by assumption)) ?_
  refine e_if_ne (tgt := 11) dX10_shed_5 (by decide) (fun c5 => ?_) (fun c5 => ?_)
  · -- 5 jumps
    have hsh5 : ¬ i < 0 ∧ i < nI E.Y.n := by
      by_cases h : (¬ i < 0 ∧ i < nI E.Y.n)
      · exact h
      · exact absurd (b2i_f h) c5
    obtain ⟨j, hj, rfl⟩ := shed_of (by omega) hsh5
    refine e_iload_n dX10_shed_11 rfl ?_
    refine e_sw dX10_shed_12 (fun jsw osw hosw hx tsw htsw => ?_) (fun hx tsw htsw => ?_) (by simp)
    · match jsw, hosw, hx with
      | 0, hosw, hx =>
        have hx : q = 0 := hx.trans (by decide)
        obtain rfl : (44 : Int) = osw := Option.some.inj hosw
        obtain rfl : tsw = 56 := by omega
        refine e_aload_n dX10_shed_56 rfl ?_
        refine e_getP dX10_shed_57 fl_X10_19 sh_x rfl ?_
        first | rw [hld] | (simp only [setI_2, setI_22, setL_22]; rw [hld])
        refine e_getR dX10_shed_60 fl_X10_134 (sh_yd (by first | assumption | decide)) rfl ?_
        refine e_iload_n dX10_shed_63 rfl ?_
        refine cS2r dX10_shed_64 mo_X10_at ml_X10_137 (Nat.le_of_ble_eq_true rfl) (by omega) (c_atN (sa_yd_kinds (by first | assumption | decide)) (by decide) (by first | omega | decide)) ?_
        refine e_iret dX10_shed_67 rfl ?_
        subst hx
        exact ⟨by unfold shedQ; rw [if_pos hsh5, if_pos rfl, nI_clamp (by omega), (hY.2.2.2.2.1 j hj).1], rfl⟩
      | 1, hosw, hx =>
        have hx : q = 1 := hx.trans (by decide)
        obtain rfl : (56 : Int) = osw := Option.some.inj hosw
        obtain rfl : tsw = 68 := by omega
        refine e_aload_n dX10_shed_68 rfl ?_
        refine e_getR dX10_shed_69 fl_X10_39 sh_x rfl ?_
        refine e_getR dX10_shed_72 fl_X10_141 (sh_st (by first | assumption | decide)) rfl ?_
        refine e_iload_n dX10_shed_75 rfl ?_
        refine cS2r dX10_shed_76 mo_X10_at ml_X10_137 (Nat.le_of_ble_eq_true rfl) (by omega) (c_atN (sa_st_heats (by first | assumption | decide)) (by decide) (by first | omega | decide)) ?_
        refine e_iret dX10_shed_79 rfl ?_
        subst hx
        exact ⟨by unfold shedQ; rw [if_pos hsh5, if_neg (by decide), if_pos rfl, nI_clamp (by omega), (hS.2.2.2 j hj).1], rfl⟩
      | 2, hosw, hx =>
        have hx : q = 2 := hx.trans (by decide)
        obtain rfl : (68 : Int) = osw := Option.some.inj hosw
        obtain rfl : tsw = 80 := by omega
        refine e_aload_n dX10_shed_80 rfl ?_
        refine e_getR dX10_shed_81 fl_X10_39 sh_x rfl ?_
        refine e_getR dX10_shed_84 fl_X10_144 (sh_st (by first | assumption | decide)) rfl ?_
        refine e_iload_n dX10_shed_87 rfl ?_
        refine cS2r dX10_shed_88 mo_X10_at ml_X10_137 (Nat.le_of_ble_eq_true rfl) (by omega) (c_atN (sa_st_crowns (by first | assumption | decide)) (by decide) (by first | omega | decide)) ?_
        refine e_iret dX10_shed_91 rfl ?_
        subst hx
        exact ⟨by unfold shedQ; rw [if_pos hsh5, if_neg (by decide), if_neg (by decide), if_pos rfl, nI_clamp (by omega), (hS.2.2.2 j hj).2.1], rfl⟩
      | 3, hosw, hx =>
        have hx : q = 3 := hx.trans (by decide)
        obtain rfl : (80 : Int) = osw := Option.some.inj hosw
        obtain rfl : tsw = 92 := by omega
        refine e_aload_n dX10_shed_92 rfl ?_
        refine e_getR dX10_shed_93 fl_X10_39 sh_x rfl ?_
        refine e_getR dX10_shed_96 fl_X10_147 (sh_st (by first | assumption | decide)) rfl ?_
        refine e_iload_n dX10_shed_99 rfl ?_
        refine cS2r dX10_shed_100 mo_X10_at ml_X10_137 (Nat.le_of_ble_eq_true rfl) (by omega) (c_atN (sa_st_heights (by first | assumption | decide)) (by decide) (by first | omega | decide)) ?_
        refine e_iret dX10_shed_103 rfl ?_
        subst hx
        exact ⟨by unfold shedQ; rw [if_pos hsh5, if_neg (by decide), if_neg (by decide), if_neg (by decide), if_pos rfl, nI_clamp (by omega), (hS.2.2.2 j hj).2.2.1], rfl⟩
      | 4, hosw, hx =>
        have hx : q = 4 := hx.trans (by decide)
        obtain rfl : (92 : Int) = osw := Option.some.inj hosw
        obtain rfl : tsw = 104 := by omega
        refine e_aload_n dX10_shed_104 rfl ?_
        refine e_getR dX10_shed_105 fl_X10_39 sh_x rfl ?_
        refine e_iload_n dX10_shed_108 rfl ?_
        refine cV1r dX10_shed_109 mo_X3_isLit ml_X10_150 (sh_st (by first | assumption | decide)) rfl (Nat.le_of_ble_eq_true rfl) (by omega) (c_isLit (by first | assumption | decide)) ?_
        refine e_if_eq (tgt := 119) dX10_shed_112 (by decide) (fun c112 => ?_) (fun c112 => ?_)
        · -- 112 jumps
          refine e_iconst (v := 0) dX10_shed_119 (by decide) ?_
          refine e_iret dX10_shed_120 rfl ?_
          subst hx
          exact ⟨by unfold shedQ; rw [if_pos hsh5, if_neg (by decide), if_neg (by decide), if_neg (by decide), if_neg (by decide), if_pos rfl, ← hS.2.2.1, b2i_f (b2i_eq0.mp c112)], rfl⟩
        · -- 112 goes on
          refine e_iconst (v := 1) dX10_shed_115 (by decide) ?_
          refine e_goto (tgt := 120) dX10_shed_116 (by decide) ?_
          refine e_iret dX10_shed_120 rfl ?_
          subst hx
          have c112 : bitI (M.1 44 2) (nI j) := by
            by_cases h : (bitI (M.1 44 2) (nI j))
            · exact h
            · exact absurd (b2i_f h) c112
          exact ⟨by unfold shedQ; rw [if_pos hsh5, if_neg (by decide), if_neg (by decide), if_neg (by decide), if_neg (by decide), if_pos rfl, ← hS.2.2.1, b2i_t c112], rfl⟩
      | 5, hosw, hx =>
        have hx : q = 5 := hx.trans (by decide)
        obtain rfl : (109 : Int) = osw := Option.some.inj hosw
        obtain rfl : tsw = 121 := by omega
        refine e_aload_n dX10_shed_121 rfl ?_
        refine e_getP dX10_shed_122 fl_X10_19 sh_x rfl ?_
        first | rw [hld] | (simp only [setI_2, setI_22, setL_22]; rw [hld])
        refine e_getR dX10_shed_125 fl_X10_153 (sh_yd (by first | assumption | decide)) rfl ?_
        refine e_iload_n dX10_shed_128 rfl ?_
        refine cS2r dX10_shed_129 mo_X10_at ml_X10_137 (Nat.le_of_ble_eq_true rfl) (by omega) (c_atN (sa_yd_near (by first | assumption | decide)) (by decide) (by first | omega | decide)) ?_
        refine e_iret dX10_shed_132 rfl ?_
        subst hx
        exact ⟨by unfold shedQ; rw [if_pos hsh5, if_neg (by decide), if_neg (by decide), if_neg (by decide), if_neg (by decide), if_neg (by decide), if_pos rfl, nI_clamp (by omega), (hY.2.2.2.2.1 j hj).2.2.2.1], rfl⟩
      | 6, hosw, hx =>
        have hx : q = 6 := hx.trans (by decide)
        obtain rfl : (121 : Int) = osw := Option.some.inj hosw
        obtain rfl : tsw = 133 := by omega
        refine e_aload_n dX10_shed_133 rfl ?_
        refine e_getR dX10_shed_134 fl_X10_39 sh_x rfl ?_
        refine e_iload_n dX10_shed_137 rfl ?_
        refine cV1r dX10_shed_138 mo_X3_murmur ml_X10_156 (sh_st (by first | assumption | decide)) rfl (Nat.le_of_ble_eq_true rfl) (by omega) (c_murmur (by first | assumption | decide) (by omega)) ?_
        refine e_iret dX10_shed_141 rfl ?_
        subst hx
        exact ⟨by unfold shedQ; rw [if_pos hsh5, if_neg (by decide), if_neg (by decide), if_neg (by decide), if_neg (by decide), if_neg (by decide), if_neg (by decide), if_pos rfl, nI_clamp (by omega), (hS.2.2.2 j hj).2.2.1, (hS.2.2.2 j hj).2.1], rfl⟩
      | jsw + 7, hosw, hx => exact absurd (Array.getElem?_eq_some_iff.mp hosw).1 (by show ¬ jsw + 7 < 7; omega)
    · obtain rfl : tsw = 142 := by omega
      refine e_bipush (v := (-2)) dX10_shed_142 (by decide) ?_
      refine e_iret dX10_shed_144 rfl ?_
      have hne : ∀ v : Int32, v.toInt < 0 ∨ 6 < v.toInt → ¬ v = 0 ∧ ¬ v = 1 ∧ ¬ v = 2 ∧ ¬ v = 3 ∧ ¬ v = 4 ∧ ¬ v = 5 ∧ ¬ v = 6 := by
        intro v h
        refine ⟨?_, ?_, ?_, ?_, ?_, ?_, ?_⟩ <;> (rintro rfl; revert h; decide)
      have hne := hne _ hx
      exact ⟨by unfold shedQ; rw [if_pos hsh5, if_neg hne.1, if_neg hne.2.1, if_neg hne.2.2.1, if_neg hne.2.2.2.1, if_neg hne.2.2.2.2.1, if_neg hne.2.2.2.2.2.1, if_neg hne.2.2.2.2.2.2], rfl⟩
  · -- 5 goes on
    refine e_bipush (v := (-2)) dX10_shed_8 (by decide) ?_
    refine e_iret dX10_shed_10 rfl ?_
    exact ⟨by unfold shedQ; rw [if_neg (b2i_eq0.mp c5)], rfl⟩
set_option maxHeartbeats 4000000 in
set_option maxRecDepth 20000 in
theorem c_stage {G : Gt} {M : Mm} {E : Gs} {y y' w w' p : Nat} (hX : XJ M E y y' w w' p) {i q : Int32} : Call G 2 mX10_stage [.ref 0, .int i, .int q] M (eqQ (some (.int (stageQ E i q))) M) := by
  obtain ⟨⟨hld, hsl, hy, hy', hyy⟩, ⟨hpl, hsp, hw, hw', hww⟩, hY, hW, hS, hV, hK, ⟨hpt, hp16, hun, hu16, hU⟩, ⟨htl, htl2, htc⟩⟩ := id hX
  have h6 := hY.1.2
  have hs5 := hY.2.1.2
  refine Call.intro rfl (Nat.le_of_ble_eq_true rfl) ?_
  show Ev G _ mX10_stage 0 [.ref 0, .int i, .int q] [] M _
  refine e_aload_n dX10_stage_0 rfl ?_
  refine e_iload_n dX10_stage_1 rfl ?_
  refine cV1r dX10_stage_2 mo_X10_isStage ml_X10_160 sh_x rfl (Nat.le_of_ble_eq_true rfl) (by omega) (c_isStage (by assumption)) ?_
  refine e_if_ne (tgt := 10) dX10_stage_5 (by decide) (fun c5 => ?_) (fun c5 => ?_)
  · -- 5 jumps
    have hsh5 : ¬ i < 0 ∧ i < nI E.Y.ns := by
      by_cases h : (¬ i < 0 ∧ i < nI E.Y.ns)
      · exact h
      · exact absurd (b2i_f h) c5
    obtain ⟨j, hj, rfl⟩ := shed_of (by omega) hsh5
    refine e_iload_n dX10_stage_10 rfl ?_
    refine e_if_ne (tgt := 26) dX10_stage_11 (by decide) (fun c11 => ?_) (fun c11 => ?_)
    · -- 11 jumps
      refine e_iload_n dX10_stage_26 rfl ?_
      refine e_iconst (v := 1) dX10_stage_27 (by decide) ?_
      refine e_icmp_ne (tgt := 45) dX10_stage_28 (by decide) (fun c28 => ?_) (fun c28 => ?_)
      · -- 28 jumps
        refine e_iconst (v := (-1)) dX10_stage_45 (by decide) ?_
        refine e_iret dX10_stage_46 rfl ?_
        exact ⟨by unfold stageQ; rw [if_pos hsh5, if_neg c11, if_neg c28], rfl⟩
      · -- 28 goes on
        refine e_aload_n dX10_stage_31 rfl ?_
        refine e_getP dX10_stage_32 fl_X10_19 sh_x rfl ?_
        first | rw [hld] | (simp only [setI_2, setI_22, setL_22]; rw [hld])
        refine e_getR dX10_stage_35 fl_X10_166 (sh_yd (by first | assumption | decide)) rfl ?_
        refine e_iload_n dX10_stage_38 rfl ?_
        refine cS2r dX10_stage_39 mo_X10_at ml_X10_137 (Nat.le_of_ble_eq_true rfl) (by omega) (c_atN (sa_yd_highs (by first | assumption | decide)) (by decide) (by first | omega | decide)) ?_
        refine e_goto (tgt := 46) dX10_stage_42 (by decide) ?_
        refine e_iret dX10_stage_46 rfl ?_
        exact ⟨by unfold stageQ; rw [if_pos hsh5, if_neg c11, if_pos c28, nI_clamp (by omega), (hY.2.2.2.2.2.1 j hj).2.1], rfl⟩
    · -- 11 goes on
      refine e_aload_n dX10_stage_14 rfl ?_
      refine e_getP dX10_stage_15 fl_X10_19 sh_x rfl ?_
      first | rw [hld] | (simp only [setI_2, setI_22, setL_22]; rw [hld])
      refine e_getR dX10_stage_18 fl_X10_163 (sh_yd (by first | assumption | decide)) rfl ?_
      refine e_iload_n dX10_stage_21 rfl ?_
      refine cS2r dX10_stage_22 mo_X10_at ml_X10_137 (Nat.le_of_ble_eq_true rfl) (by omega) (c_atN (sa_yd_lows (by first | assumption | decide)) (by decide) (by first | omega | decide)) ?_
      refine e_iret dX10_stage_25 rfl ?_
      exact ⟨by unfold stageQ; rw [if_pos hsh5, if_pos c11, nI_clamp (by omega), (hY.2.2.2.2.2.1 j hj).1], rfl⟩
  · -- 5 goes on
    refine e_iconst (v := (-1)) dX10_stage_8 (by decide) ?_
    refine e_iret dX10_stage_9 rfl ?_
    exact ⟨by unfold stageQ; rw [if_neg (b2i_eq0.mp c5)], rfl⟩
set_option maxHeartbeats 4000000 in
set_option maxRecDepth 20000 in
theorem l_riots {G : Gt} {M : Mm} {E : Gs} {y y' w w' p : Nat} (hX : XJ M E y y' w w' p) : ∀ (k : Nat) (i : Nat) , (i ≤ E.Y.n) → (E.Y.n < i + k) → Ev G 4 mX10_riots 4 [.ref 0, .int (setB (fun j => !decide (murS E.S j < 60)) i), .int (nI i)] [] M (eqQ (some (.int (riotsV E.Y E.S))) M) := by
  intro k
  induction k with
  | zero => intro i hi hk; exact absurd hk (by omega)
  | succ k ih =>
    intro i hi hk
    obtain ⟨⟨hld, hsl, hy, hy', hyy⟩, ⟨hpl, hsp, hw, hw', hww⟩, hY, hW, hS, hV, hK, ⟨hpt, hp16, hun, hu16, hU⟩, ⟨htl, htl2, htc⟩⟩ := id hX
    have h6 := hY.1.2
    have hs5 := hY.2.1.2
    refine e_iload_n dX10_riots_4 rfl ?_
    refine e_aload_n dX10_riots_5 rfl ?_
    refine e_getP dX10_riots_6 fl_X10_19 sh_x rfl ?_
    first | rw [hld] | (simp only [setI_2, setI_22, setL_22]; rw [hld])
    refine e_getI dX10_riots_9 fl_X10_74 (sh_yd (by first | assumption | decide)) rfl ?_
    refine e_icmp_ge (tgt := 40) dX10_riots_12 (by decide) (fun c12 => ?_) (fun c12 => ?_)
    · -- 12 jumps
      rw [hY.1.1] at c12
      have hin : i = E.Y.n := by have := ge_of (by omega) (by omega) c12; omega
      subst hin
      refine e_iload_n dX10_riots_40 rfl ?_
      refine e_iret dX10_riots_41 rfl ?_
      exact ⟨rfl, rfl⟩
    · -- 12 goes on
      rw [hY.1.1] at c12
      have hlt : i < E.Y.n := lt_of (by omega) (by omega) c12
      refine e_aload_n dX10_riots_15 rfl ?_
      refine e_getR dX10_riots_16 fl_X10_39 sh_x rfl ?_
      refine e_iload_n dX10_riots_19 rfl ?_
      refine cV1r dX10_riots_20 mo_X3_murmur ml_X10_156 (sh_st (by first | assumption | decide)) rfl (Nat.le_of_ble_eq_true rfl) (by omega) (c_murmur (by first | assumption | decide) (by omega)) ?_
      rw [(hS.2.2.2 i hlt).2.2.1, (hS.2.2.2 i hlt).2.1]
      refine e_bipush (v := 60) dX10_riots_23 (by decide) ?_
      refine e_icmp_lt (tgt := 34) dX10_riots_25 (by decide) (fun c25 => ?_) (fun c25 => ?_)
      · -- 25 jumps
        refine e_iinc (ls' := [_, _, _]) dX10_riots_34 rfl (nI_i1 _) (by decide) rfl ?_
        refine e_goto (tgt := 4) dX10_riots_37 (by decide) ?_
        have hh := ih (i + 1) (by omega) (by omega)
        rw [setB_f (by simp only [decide_eq_true c25]; rfl)] at hh
        exact hh
      · -- 25 goes on
        refine e_iload_n dX10_riots_28 rfl ?_
        refine e_iconst (v := 1) dX10_riots_29 (by decide) ?_
        refine e_iload_n dX10_riots_30 rfl ?_
        refine e_ishl dX10_riots_31 ?_
        refine e_ior dX10_riots_32 ?_
        refine e_istore_n (ls' := [_, _, _]) dX10_riots_33 (by decide) rfl ?_
        refine e_iinc (ls' := [_, _, _]) dX10_riots_34 rfl (nI_i1 _) (by decide) rfl ?_
        refine e_goto (tgt := 4) dX10_riots_37 (by decide) ?_
        have hh := ih (i + 1) (by omega) (by omega)
        rw [setB_t (by simp only [decide_eq_false c25]; rfl)] at hh
        exact hh
set_option maxHeartbeats 4000000 in
set_option maxRecDepth 20000 in
theorem c_riots {G : Gt} {M : Mm} {E : Gs} {y y' w w' p : Nat} (hX : XJ M E y y' w w' p) : Call G 4 mX10_riots [.ref 0] M (eqQ (some (.int (riotsV E.Y E.S))) M) := by
  obtain ⟨⟨hld, hsl, hy, hy', hyy⟩, ⟨hpl, hsp, hw, hw', hww⟩, hY, hW, hS, hV, hK, ⟨hpt, hp16, hun, hu16, hU⟩, ⟨htl, htl2, htc⟩⟩ := id hX
  have h6 := hY.1.2
  have hs5 := hY.2.1.2
  refine Call.intro rfl (Nat.le_of_ble_eq_true rfl) ?_
  show Ev G _ mX10_riots 0 [.ref 0, RA, RA] [] M _
  refine e_iconst (v := 0) dX10_riots_0 (by decide) ?_
  refine e_istore_n (ls' := [_, _, _]) dX10_riots_1 (by decide) rfl ?_
  refine e_iconst (v := 0) dX10_riots_2 (by decide) ?_
  refine e_istore_n (ls' := [_, _, _]) dX10_riots_3 (by decide) rfl ?_
  exact l_riots hX (E.Y.n + 1) 0 (by omega) (by omega)
set_option maxHeartbeats 4000000 in
set_option maxRecDepth 20000 in
theorem l_hadIn {G : Gt} {M : Mm} {E : Gs} {y y' w w' p : Nat} (hX : XJ M E y y' w w' p) {o s : Nat} {S : Sv} (ho : o ∈ stA) (hO : SX M o E.Y.n S) (hs : s < E.Y.ns) : ∀ (k : Nat) (i : Nat) , (i ≤ E.Y.n) → (E.Y.n < i + k) → Ev G 4 mX10_hadIn 5 [.ref 0, .ref o, .int (nI s), .int (setB (fun j => decide (¬ murS S j < E.Y.low s ∧ ¬ E.Y.high s < murS S j)) i), .int (nI i)] [] M (eqQ (some (.int (hadV E.Y S s))) M) := by
  intro k
  induction k with
  | zero => intro i hi hk; exact absurd hk (by omega)
  | succ k ih =>
    intro i hi hk
    obtain ⟨⟨hld, hsl, hy, hy', hyy⟩, ⟨hpl, hsp, hw, hw', hww⟩, hY, hW, hS, hV, hK, ⟨hpt, hp16, hun, hu16, hU⟩, ⟨htl, htl2, htc⟩⟩ := id hX
    have h6 := hY.1.2
    have hs5 := hY.2.1.2
    refine e_iload dX10_hadIn_5 rfl ?_
    refine e_aload_n dX10_hadIn_7 rfl ?_
    refine e_getP dX10_hadIn_8 fl_X10_19 sh_x rfl ?_
    first | rw [hld] | (simp only [setI_2, setI_22, setL_22]; rw [hld])
    refine e_getI dX10_hadIn_11 fl_X10_74 (sh_yd (by first | assumption | decide)) rfl ?_
    refine e_icmp_ge (tgt := 47) dX10_hadIn_14 (by decide) (fun c14 => ?_) (fun c14 => ?_)
    · -- 14 jumps
      rw [hY.1.1] at c14
      have hin : i = E.Y.n := by have := ge_of (by omega) (by omega) c14; omega
      subst hin
      refine e_iload_n dX10_hadIn_47 rfl ?_
      refine e_iret dX10_hadIn_48 rfl ?_
      exact ⟨rfl, rfl⟩
    · -- 14 goes on
      rw [hY.1.1] at c14
      have hlt : i < E.Y.n := lt_of (by omega) (by omega) c14
      refine e_aload_n dX10_hadIn_17 rfl ?_
      refine e_getP dX10_hadIn_18 fl_X10_19 sh_x rfl ?_
      first | rw [hld] | (simp only [setI_2, setI_22, setL_22]; rw [hld])
      refine e_iload_n dX10_hadIn_21 rfl ?_
      refine e_aload_n dX10_hadIn_22 rfl ?_
      refine e_iload dX10_hadIn_23 rfl ?_
      refine cV1r dX10_hadIn_25 mo_X3_murmur ml_X10_156 (sh_st (by first | assumption | decide)) rfl (Nat.le_of_ble_eq_true rfl) (by omega) (c_murmur (by first | assumption | decide) (by omega)) ?_
      rw [(hO.2.2.2 i hlt).2.2.1, (hO.2.2.2 i hlt).2.1]
      refine cV2r dX10_hadIn_28 mo_X8_suits ml_X10_273 (sh_yd (by first | assumption | decide)) rfl (Nat.le_of_ble_eq_true rfl) (by omega) (c_suits (by first | assumption | decide) (by assumption) (by omega)) ?_
      refine e_if_eq (tgt := 41) dX10_hadIn_31 (by decide) (fun c31 => ?_) (fun c31 => ?_)
      · -- 31 jumps
        have c31 := b2i_eq0.mp c31
        refine e_iinc (ls' := [_, _, _, _, _]) dX10_hadIn_41 rfl (nI_i1 _) (by decide) rfl ?_
        refine e_goto (tgt := 5) dX10_hadIn_44 (by decide) ?_
        have hh := ih (i + 1) (by omega) (by omega)
        rw [setB_f (decide_eq_false c31)] at hh
        exact hh
      · -- 31 goes on
        have c31 : ¬ murS S i < E.Y.low s ∧ ¬ E.Y.high s < murS S i := by
          by_cases h : (¬ murS S i < E.Y.low s ∧ ¬ E.Y.high s < murS S i)
          · exact h
          · exact absurd (b2i_f h) c31
        refine e_iload_n dX10_hadIn_34 rfl ?_
        refine e_iconst (v := 1) dX10_hadIn_35 (by decide) ?_
        refine e_iload dX10_hadIn_36 rfl ?_
        refine e_ishl dX10_hadIn_38 ?_
        refine e_ior dX10_hadIn_39 ?_
        refine e_istore_n (ls' := [_, _, _, _, _]) dX10_hadIn_40 (by decide) rfl ?_
        refine e_iinc (ls' := [_, _, _, _, _]) dX10_hadIn_41 rfl (nI_i1 _) (by decide) rfl ?_
        refine e_goto (tgt := 5) dX10_hadIn_44 (by decide) ?_
        have hh := ih (i + 1) (by omega) (by omega)
        rw [setB_t (decide_eq_true c31)] at hh
        exact hh
set_option maxHeartbeats 4000000 in
set_option maxRecDepth 20000 in
theorem c_hadIn {G : Gt} {M : Mm} {E : Gs} {y y' w w' p : Nat} (hX : XJ M E y y' w w' p) {o s : Nat} {S : Sv} (ho : o ∈ stA) (hO : SX M o E.Y.n S) (hs : s < E.Y.ns) : Call G 4 mX10_hadIn [.ref 0, .ref o, .int (nI s)] M (eqQ (some (.int (hadV E.Y S s))) M) := by
  obtain ⟨⟨hld, hsl, hy, hy', hyy⟩, ⟨hpl, hsp, hw, hw', hww⟩, hY, hW, hS, hV, hK, ⟨hpt, hp16, hun, hu16, hU⟩, ⟨htl, htl2, htc⟩⟩ := id hX
  have h6 := hY.1.2
  have hs5 := hY.2.1.2
  refine Call.intro rfl (Nat.le_of_ble_eq_true rfl) ?_
  show Ev G _ mX10_hadIn 0 [.ref 0, .ref o, .int (nI s), RA, RA] [] M _
  refine e_iconst (v := 0) dX10_hadIn_0 (by decide) ?_
  refine e_istore_n (ls' := [_, _, _, _, _]) dX10_hadIn_1 (by decide) rfl ?_
  refine e_iconst (v := 0) dX10_hadIn_2 (by decide) ?_
  refine e_istore (ls' := [_, _, _, _, _]) dX10_hadIn_3 (by decide) rfl ?_
  exact l_hadIn hX ho hO hs (E.Y.n + 1) 0 (by omega) (by omega)
set_option maxHeartbeats 4000000 in
set_option maxRecDepth 20000 in
theorem c_had {G : Gt} {M : Mm} {E : Gs} {y y' w w' p : Nat} (hX : XJ M E y y' w w' p) {i : Int32} : Call G 5 mX10_had [.ref 0, .int i] M (eqQ (some (.int (hadQ E i))) M) := by
  obtain ⟨⟨hld, hsl, hy, hy', hyy⟩, ⟨hpl, hsp, hw, hw', hww⟩, hY, hW, hS, hV, hK, ⟨hpt, hp16, hun, hu16, hU⟩, ⟨htl, htl2, htc⟩⟩ := id hX
  have h6 := hY.1.2
  have hs5 := hY.2.1.2
  refine Call.intro rfl (Nat.le_of_ble_eq_true rfl) ?_
  show Ev G _ mX10_had 0 [.ref 0, .int i] [] M _
  refine e_aload_n dX10_had_0 rfl ?_
  refine e_iload_n dX10_had_1 rfl ?_
  refine cV1r dX10_had_2 mo_X10_isStage ml_X10_160 sh_x rfl (Nat.le_of_ble_eq_true rfl) (by omega) (c_isStage (by assumption)) ?_
  refine e_if_eq (tgt := 20) dX10_had_5 (by decide) (fun c5 => ?_) (fun c5 => ?_)
  · -- 5 jumps
    refine e_iconst (v := (-1)) dX10_had_20 (by decide) ?_
    refine e_iret dX10_had_21 rfl ?_
    exact ⟨by unfold hadQ; rw [if_neg (b2i_eq0.mp c5)], rfl⟩
  · -- 5 goes on
    have hsh5 : ¬ i < 0 ∧ i < nI E.Y.ns := by
      by_cases h : (¬ i < 0 ∧ i < nI E.Y.ns)
      · exact h
      · exact absurd (b2i_f h) c5
    obtain ⟨j, hj, rfl⟩ := shed_of (by omega) hsh5
    refine e_aload_n dX10_had_8 rfl ?_
    refine e_aload_n dX10_had_9 rfl ?_
    refine e_getR dX10_had_10 fl_X10_39 sh_x rfl ?_
    refine e_iload_n dX10_had_13 rfl ?_
    refine cV2r dX10_had_14 mo_X10_hadIn ml_X10_276 sh_x rfl (Nat.le_of_ble_eq_true rfl) (by omega) (c_hadIn hX (o := 44) (by decide) hS hj) ?_
    refine e_goto (tgt := 21) dX10_had_17 (by decide) ?_
    refine e_iret dX10_had_21 rfl ?_
    exact ⟨by unfold hadQ; rw [if_pos hsh5, nI_clamp (by omega)], rfl⟩
set_option maxHeartbeats 4000000 in
set_option maxRecDepth 20000 in
theorem l_loud {G : Gt} {M : Mm} {E : Gs} {y y' w w' p : Nat} (hX : XJ M E y y' w w' p) : ∀ (k : Nat) (i : Nat) , (i ≤ E.Y.n) → (E.Y.n < i + k) → Ev G 4 mX10_loud 4 [.ref 0, .int (oI (amxN (murS E.S) i)), .int (nI i)] [] M (eqQ (some (.int (oI (amxN (murS E.S) E.Y.n)))) M) := by
  intro k
  induction k with
  | zero => intro i hi hk; exact absurd hk (by omega)
  | succ k ih =>
    intro i hi hk
    obtain ⟨⟨hld, hsl, hy, hy', hyy⟩, ⟨hpl, hsp, hw, hw', hww⟩, hY, hW, hS, hV, hK, ⟨hpt, hp16, hun, hu16, hU⟩, ⟨htl, htl2, htc⟩⟩ := id hX
    have h6 := hY.1.2
    have hs5 := hY.2.1.2
    refine e_iload_n dX10_loud_4 rfl ?_
    refine e_aload_n dX10_loud_5 rfl ?_
    refine e_getP dX10_loud_6 fl_X10_19 sh_x rfl ?_
    first | rw [hld] | (simp only [setI_2, setI_22, setL_22]; rw [hld])
    refine e_getI dX10_loud_9 fl_X10_74 (sh_yd (by first | assumption | decide)) rfl ?_
    refine e_icmp_ge (tgt := 47) dX10_loud_12 (by decide) (fun c12 => ?_) (fun c12 => ?_)
    · -- 12 jumps
      rw [hY.1.1] at c12
      have hin : i = E.Y.n := by have := ge_of (by omega) (by omega) c12; omega
      subst hin
      refine e_iload_n dX10_loud_47 rfl ?_
      refine e_iret dX10_loud_48 rfl ?_
      exact ⟨rfl, rfl⟩
    · -- 12 goes on
      rw [hY.1.1] at c12
      have hlt : i < E.Y.n := lt_of (by omega) (by omega) c12
      refine e_iload_n dX10_loud_15 rfl ?_
      refine e_iconst (v := (-1)) dX10_loud_16 (by decide) ?_
      refine e_icmp_eq (tgt := 39) dX10_loud_17 (by decide) (fun c17 => ?_) (fun c17 => ?_)
      · -- 17 jumps
        rw [oI_m1 (k := i) (by omega) (fun b h => amx_lt h)] at c17
        have ho := c17
        refine e_iload_n dX10_loud_39 rfl ?_
        refine e_istore_n (ls' := [_, _, _]) dX10_loud_40 (by decide) rfl ?_
        refine e_iinc (ls' := [_, _, _]) dX10_loud_41 rfl (nI_i1 _) (by decide) rfl ?_
        refine e_goto (tgt := 4) dX10_loud_44 (by decide) ?_
        have hh := ih (i + 1) (by omega) (by omega)
        rw [show amxN (murS E.S) (i + 1) = some i from by simp only [amxN, ho]] at hh
        exact hh
      · -- 17 goes on
        rw [oI_m1 (k := i) (by omega) (fun b h => amx_lt h)] at c17
        obtain ⟨b, ho⟩ := Option.ne_none_iff_exists'.mp c17
        have hb := amx_lt ho
        rw [ho, show oI (some b) = nI b from rfl]
        refine e_aload_n dX10_loud_20 rfl ?_
        refine e_getR dX10_loud_21 fl_X10_39 sh_x rfl ?_
        refine e_iload_n dX10_loud_24 rfl ?_
        refine cV1r dX10_loud_25 mo_X3_murmur ml_X10_156 (sh_st (by first | assumption | decide)) rfl (Nat.le_of_ble_eq_true rfl) (by omega) (c_murmur (by first | assumption | decide) (by omega)) ?_
        rw [(hS.2.2.2 i hlt).2.2.1, (hS.2.2.2 i hlt).2.1]
        refine e_aload_n dX10_loud_28 rfl ?_
        refine e_getR dX10_loud_29 fl_X10_39 sh_x rfl ?_
        refine e_iload_n dX10_loud_32 rfl ?_
        refine cV1r dX10_loud_33 mo_X3_murmur ml_X10_156 (sh_st (by first | assumption | decide)) rfl (Nat.le_of_ble_eq_true rfl) (by omega) (c_murmur (by first | assumption | decide) (by omega)) ?_
        rw [(hS.2.2.2 b (by omega)).2.2.1, (hS.2.2.2 b (by omega)).2.1]
        refine e_icmp_le (tgt := 41) dX10_loud_36 (by decide) (fun c36 => ?_) (fun c36 => ?_)
        · -- 36 jumps
          refine e_iinc (ls' := [_, _, _]) dX10_loud_41 rfl (nI_i1 _) (by decide) rfl ?_
          refine e_goto (tgt := 4) dX10_loud_44 (by decide) ?_
          have hh := ih (i + 1) (by omega) (by omega)
          rw [show amxN (murS E.S) (i + 1) = some b from by simp only [amxN, ho]; rw [if_neg c36]] at hh
          exact hh
        · -- 36 goes on
          refine e_iload_n dX10_loud_39 rfl ?_
          refine e_istore_n (ls' := [_, _, _]) dX10_loud_40 (by decide) rfl ?_
          refine e_iinc (ls' := [_, _, _]) dX10_loud_41 rfl (nI_i1 _) (by decide) rfl ?_
          refine e_goto (tgt := 4) dX10_loud_44 (by decide) ?_
          have hh := ih (i + 1) (by omega) (by omega)
          rw [show amxN (murS E.S) (i + 1) = some i from by simp only [amxN, ho]; rw [if_pos c36]] at hh
          exact hh
set_option maxHeartbeats 4000000 in
set_option maxRecDepth 20000 in
theorem c_loud {G : Gt} {M : Mm} {E : Gs} {y y' w w' p : Nat} (hX : XJ M E y y' w w' p) : Call G 4 mX10_loud [.ref 0] M (eqQ (some (.int (oI (amxN (murS E.S) E.Y.n)))) M) := by
  obtain ⟨⟨hld, hsl, hy, hy', hyy⟩, ⟨hpl, hsp, hw, hw', hww⟩, hY, hW, hS, hV, hK, ⟨hpt, hp16, hun, hu16, hU⟩, ⟨htl, htl2, htc⟩⟩ := id hX
  have h6 := hY.1.2
  have hs5 := hY.2.1.2
  refine Call.intro rfl (Nat.le_of_ble_eq_true rfl) ?_
  show Ev G _ mX10_loud 0 [.ref 0, RA, RA] [] M _
  refine e_iconst (v := (-1)) dX10_loud_0 (by decide) ?_
  refine e_istore_n (ls' := [_, _, _]) dX10_loud_1 (by decide) rfl ?_
  refine e_iconst (v := 0) dX10_loud_2 (by decide) ?_
  refine e_istore_n (ls' := [_, _, _]) dX10_loud_3 (by decide) rfl ?_
  exact l_loud hX (E.Y.n + 1) 0 (by omega) (by omega)
set_option maxHeartbeats 4000000 in
set_option maxRecDepth 20000 in
theorem l_tall {G : Gt} {M : Mm} {E : Gs} {y y' w w' p : Nat} (hX : XJ M E y y' w w' p) : ∀ (k : Nat) (i : Nat) , (i ≤ E.Y.n) → (E.Y.n < i + k) → Ev G 2 mX10_tall 4 [.ref 0, .int (oI (amxN E.S.high i)), .int (nI i)] [] M (eqQ (some (.int (oI (amxN E.S.high E.Y.n)))) M) := by
  intro k
  induction k with
  | zero => intro i hi hk; exact absurd hk (by omega)
  | succ k ih =>
    intro i hi hk
    obtain ⟨⟨hld, hsl, hy, hy', hyy⟩, ⟨hpl, hsp, hw, hw', hww⟩, hY, hW, hS, hV, hK, ⟨hpt, hp16, hun, hu16, hU⟩, ⟨htl, htl2, htc⟩⟩ := id hX
    have h6 := hY.1.2
    have hs5 := hY.2.1.2
    refine e_iload_n dX10_tall_4 rfl ?_
    refine e_aload_n dX10_tall_5 rfl ?_
    refine e_getP dX10_tall_6 fl_X10_19 sh_x rfl ?_
    first | rw [hld] | (simp only [setI_2, setI_22, setL_22]; rw [hld])
    refine e_getI dX10_tall_9 fl_X10_74 (sh_yd (by first | assumption | decide)) rfl ?_
    refine e_icmp_ge (tgt := 53) dX10_tall_12 (by decide) (fun c12 => ?_) (fun c12 => ?_)
    · -- 12 jumps
      rw [hY.1.1] at c12
      have hin : i = E.Y.n := by have := ge_of (by omega) (by omega) c12; omega
      subst hin
      refine e_iload_n dX10_tall_53 rfl ?_
      refine e_iret dX10_tall_54 rfl ?_
      exact ⟨rfl, rfl⟩
    · -- 12 goes on
      rw [hY.1.1] at c12
      have hlt : i < E.Y.n := lt_of (by omega) (by omega) c12
      refine e_iload_n dX10_tall_15 rfl ?_
      refine e_iconst (v := (-1)) dX10_tall_16 (by decide) ?_
      refine e_icmp_eq (tgt := 45) dX10_tall_17 (by decide) (fun c17 => ?_) (fun c17 => ?_)
      · -- 17 jumps
        rw [oI_m1 (k := i) (by omega) (fun b h => amx_lt h)] at c17
        have ho := c17
        refine e_iload_n dX10_tall_45 rfl ?_
        refine e_istore_n (ls' := [_, _, _]) dX10_tall_46 (by decide) rfl ?_
        refine e_iinc (ls' := [_, _, _]) dX10_tall_47 rfl (nI_i1 _) (by decide) rfl ?_
        refine e_goto (tgt := 4) dX10_tall_50 (by decide) ?_
        have hh := ih (i + 1) (by omega) (by omega)
        rw [show amxN E.S.high (i + 1) = some i from by simp only [amxN, ho]] at hh
        exact hh
      · -- 17 goes on
        rw [oI_m1 (k := i) (by omega) (fun b h => amx_lt h)] at c17
        obtain ⟨b, ho⟩ := Option.ne_none_iff_exists'.mp c17
        have hb := amx_lt ho
        rw [ho, show oI (some b) = nI b from rfl]
        refine e_aload_n dX10_tall_20 rfl ?_
        refine e_getR dX10_tall_21 fl_X10_39 sh_x rfl ?_
        refine e_getR dX10_tall_24 fl_X10_147 (sh_st (by first | assumption | decide)) rfl ?_
        refine e_iload_n dX10_tall_27 rfl ?_
        refine cS2r dX10_tall_28 mo_X10_at ml_X10_137 (Nat.le_of_ble_eq_true rfl) (by omega) (c_atN (sa_st_heights (by first | assumption | decide)) (by decide) (by first | omega | decide)) ?_
        rw [(hS.2.2.2 i hlt).2.2.1]
        refine e_aload_n dX10_tall_31 rfl ?_
        refine e_getR dX10_tall_32 fl_X10_39 sh_x rfl ?_
        refine e_getR dX10_tall_35 fl_X10_147 (sh_st (by first | assumption | decide)) rfl ?_
        refine e_iload_n dX10_tall_38 rfl ?_
        refine cS2r dX10_tall_39 mo_X10_at ml_X10_137 (Nat.le_of_ble_eq_true rfl) (by omega) (c_atN (sa_st_heights (by first | assumption | decide)) (by decide) (by first | omega | decide)) ?_
        rw [(hS.2.2.2 b (by omega)).2.2.1]
        refine e_icmp_le (tgt := 47) dX10_tall_42 (by decide) (fun c42 => ?_) (fun c42 => ?_)
        · -- 42 jumps
          refine e_iinc (ls' := [_, _, _]) dX10_tall_47 rfl (nI_i1 _) (by decide) rfl ?_
          refine e_goto (tgt := 4) dX10_tall_50 (by decide) ?_
          have hh := ih (i + 1) (by omega) (by omega)
          rw [show amxN E.S.high (i + 1) = some b from by simp only [amxN, ho]; rw [if_neg c42]] at hh
          exact hh
        · -- 42 goes on
          refine e_iload_n dX10_tall_45 rfl ?_
          refine e_istore_n (ls' := [_, _, _]) dX10_tall_46 (by decide) rfl ?_
          refine e_iinc (ls' := [_, _, _]) dX10_tall_47 rfl (nI_i1 _) (by decide) rfl ?_
          refine e_goto (tgt := 4) dX10_tall_50 (by decide) ?_
          have hh := ih (i + 1) (by omega) (by omega)
          rw [show amxN E.S.high (i + 1) = some i from by simp only [amxN, ho]; rw [if_pos c42]] at hh
          exact hh
set_option maxHeartbeats 4000000 in
set_option maxRecDepth 20000 in
theorem c_tall {G : Gt} {M : Mm} {E : Gs} {y y' w w' p : Nat} (hX : XJ M E y y' w w' p) : Call G 2 mX10_tall [.ref 0] M (eqQ (some (.int (oI (amxN E.S.high E.Y.n)))) M) := by
  obtain ⟨⟨hld, hsl, hy, hy', hyy⟩, ⟨hpl, hsp, hw, hw', hww⟩, hY, hW, hS, hV, hK, ⟨hpt, hp16, hun, hu16, hU⟩, ⟨htl, htl2, htc⟩⟩ := id hX
  have h6 := hY.1.2
  have hs5 := hY.2.1.2
  refine Call.intro rfl (Nat.le_of_ble_eq_true rfl) ?_
  show Ev G _ mX10_tall 0 [.ref 0, RA, RA] [] M _
  refine e_iconst (v := (-1)) dX10_tall_0 (by decide) ?_
  refine e_istore_n (ls' := [_, _, _]) dX10_tall_1 (by decide) rfl ?_
  refine e_iconst (v := 0) dX10_tall_2 (by decide) ?_
  refine e_istore_n (ls' := [_, _, _]) dX10_tall_3 (by decide) rfl ?_
  exact l_tall hX (E.Y.n + 1) 0 (by omega) (by omega)
set_option maxHeartbeats 4000000 in
set_option maxRecDepth 20000 in
theorem l_waits {G : Gt} {M : Mm} {E : Gs} {y y' w w' p : Nat} (hX : XJ M E y y' w w' p) {T : Nat} (hI : SI E.Y E.S T) (hT : T < 2 ^ 30) {s : Nat} (hs : s < E.Y.ns) : ∀ (k : Nat) (i : Nat) (Mc : Mm), (i ≤ 61) → (61 < i + k) → (fstN (fun t => !decide (hadV E.Y (itN E.Y E.S t) s = 0)) 0 61 = fstN (fun t => !decide (hadV E.Y (itN E.Y E.S t) s = 0)) i (61 - i)) → (trI M Mc E.Y E.S i) → Ev G 6 mX10_waits 16 [.ref 0, .int (nI s), .int (nI i)] [] Mc (fun r M' => r = some (.int (oI (fstN (fun t => !decide (hadV E.Y (itN E.Y E.S t) s = 0)) 0 61))) ∧ SC M M') := by
  intro k
  induction k with
  | zero => intro i Mc hi hk hr hv; exact absurd hk (by omega)
  | succ k ih =>
    intro i Mc hi hk hr hv
    obtain ⟨⟨hld, hsl, hy, hy', hyy⟩, ⟨hpl, hsp, hw, hw', hww⟩, hY, hW, hS, hV, hK, ⟨hpt, hp16, hun, hu16, hU⟩, ⟨htl, htl2, htc⟩⟩ := id (hv.1.keep hX)
    have h6 := hY.1.2
    have hs5 := hY.2.1.2
    refine e_iload_n dX10_waits_16 rfl ?_
    refine e_bipush (v := 60) dX10_waits_17 (by decide) ?_
    refine e_icmp_gt (tgt := 47) dX10_waits_19 (by decide) (fun c19 => ?_) (fun c19 => ?_)
    · -- 19 jumps
      have hin : i = 61 := by have := lt_of (i := 60) (n := i) (by omega) (by omega) c19; omega
      subst hin
      refine e_iconst (v := (-1)) dX10_waits_47 (by decide) ?_
      refine e_iret dX10_waits_48 rfl ?_
      exact ⟨by rw [hr, fst_e]; rfl, hv.1⟩
    · -- 19 goes on
      have hlt : i < 61 := by have := ge_of (i := 60) (n := i) (by omega) (by omega) c19; omega
      refine e_aload_n dX10_waits_22 rfl ?_
      refine e_aload_n dX10_waits_23 rfl ?_
      refine e_getR dX10_waits_24 fl_X10_43 sh_x rfl ?_
      refine e_iload_n dX10_waits_27 rfl ?_
      refine cV2r dX10_waits_28 mo_X10_hadIn ml_X10_276 sh_x rfl (Nat.le_of_ble_eq_true rfl) (by omega) (c_hadIn (hv.1.keep hX) (o := 51) (by decide) hv.2.1 hs) ?_
      refine e_if_eq (tgt := 36) dX10_waits_31 (by decide) (fun c31 => ?_) (fun c31 => ?_)
      · -- 31 jumps
        have hP : (!decide (hadV E.Y (itN E.Y E.S i) s = 0)) = false := by simp only [decide_eq_true c31]; rfl
        refine e_aload_n dX10_waits_36 rfl ?_
        refine cV0x dX10_waits_37 mo_X10_passTrial ml_X10_252 sh_x rfl (Nat.le_of_ble_eq_true rfl) (by omega) (c_passTrial (hv.1.keep hX) hv.2.1 (hI.it hY.1.2 i) (by omega)) ?_
        rintro r M1 ⟨rfl, h1, h2, h3⟩
        dsimp only [Option.toList, List.cons_append, List.nil_append]
        refine e_pop dX10_waits_40 rfl ?_
        refine e_iinc (ls' := [_, _, _]) dX10_waits_41 rfl (nI_i1 _) (by decide) rfl ?_
        refine e_goto (tgt := 16) dX10_waits_44 (by decide) ?_
        exact ih (i + 1) M1 (by omega) (by omega) (hr.trans (fst_f hlt hP)) (hv.next h1 h2 h3)
      · -- 31 goes on
        have hP : (!decide (hadV E.Y (itN E.Y E.S i) s = 0)) = true := by simp only [decide_eq_false c31]; rfl
        refine e_iload_n dX10_waits_34 rfl ?_
        refine e_iret dX10_waits_35 rfl ?_
        exact ⟨by rw [hr, fst_t hlt hP]; rfl, hv.1⟩
set_option maxHeartbeats 4000000 in
set_option maxRecDepth 20000 in
theorem c_waits {G : Gt} {M : Mm} {E : Gs} {y y' w w' p : Nat} (hX : XJ M E y y' w w' p) {T : Nat} (hI : SI E.Y E.S T) (hT : T < 2 ^ 30) {i : Int32} : Call G 6 mX10_waits [.ref 0, .int i] M (fun r M' => r = some (.int (waitsQ E i)) ∧ SC M M') := by
  obtain ⟨⟨hld, hsl, hy, hy', hyy⟩, ⟨hpl, hsp, hw, hw', hww⟩, hY, hW, hS, hV, hK, ⟨hpt, hp16, hun, hu16, hU⟩, ⟨htl, htl2, htc⟩⟩ := id hX
  have h6 := hY.1.2
  have hs5 := hY.2.1.2
  refine Call.intro rfl (Nat.le_of_ble_eq_true rfl) ?_
  show Ev G _ mX10_waits 0 [.ref 0, .int i, RA] [] M _
  refine e_aload_n dX10_waits_0 rfl ?_
  refine e_iload_n dX10_waits_1 rfl ?_
  refine cV1r dX10_waits_2 mo_X10_isStage ml_X10_160 sh_x rfl (Nat.le_of_ble_eq_true rfl) (by omega) (c_isStage (by assumption)) ?_
  refine e_if_ne (tgt := 10) dX10_waits_5 (by decide) (fun c5 => ?_) (fun c5 => ?_)
  · -- 5 jumps
    have hsh5 : ¬ i < 0 ∧ i < nI E.Y.ns := by
      by_cases h : (¬ i < 0 ∧ i < nI E.Y.ns)
      · exact h
      · exact absurd (b2i_f h) c5
    obtain ⟨j, hj, rfl⟩ := shed_of (by omega) hsh5
    refine e_aload_n dX10_waits_10 rfl ?_
    refine cV0x dX10_waits_11 mo_X10_beginTrial ml_X10_249 sh_x rfl (Nat.le_of_ble_eq_true rfl) (by omega) (c_beginTrial hX) ?_
    rintro r M0 ⟨rfl, hsc0, hT0⟩
    dsimp only [Option.toList, List.cons_append, List.nil_append]
    have hv0 : trI M M0 E.Y E.S 0 := ⟨hsc0, hT0, fun h => absurd h (by omega)⟩
    refine e_iconst (v := 0) dX10_waits_14 (by decide) ?_
    refine e_istore_n (ls' := [_, _, _]) dX10_waits_15 (by decide) rfl ?_
    unfold waitsQ
    rw [if_pos hsh5, nI_clamp (by omega)]
    exact l_waits hX hI hT hj 62 0 M0 (by omega) (by omega) rfl hv0
  · -- 5 goes on
    refine e_iconst (v := (-1)) dX10_waits_8 (by decide) ?_
    refine e_iret dX10_waits_9 rfl ?_
    exact ⟨by unfold waitsQ; rw [if_neg (b2i_eq0.mp c5)], SC.rfl'⟩
theorem sumI_murS {M : Mm} {o n : Nat} {S : Sv} (h : SX M o n S) : sumI (fun i => murV (M.1 (o + 1) i) (M.1 (o + 3) i)) n = sumI (murS S) n := sumI_congr (fun j hj => by rw [(h.2.2.2 j hj).2.2.1, (h.2.2.2 j hj).2.1])
theorem sumI_crow {M : Mm} {o n : Nat} {S : Sv} (h : SX M o n S) : sumI (M.1 (o + 3)) n = sumI S.crow n := sumI_congr (fun j hj => (h.2.2.2 j hj).2.1)
set_option maxHeartbeats 4000000 in
set_option maxRecDepth 20000 in
theorem c_yields {G : Gt} {M : Mm} {E : Gs} {y y' w w' p : Nat} (hX : XJ M E y y' w w' p) {T : Nat} (hI : SI E.Y E.S T) (hT : T < 2 ^ 30) {t : Int32} : Call G 7 mX10_yields [.ref 0, .int t] M (fun r M' => r = some (.int (yieldsQ E t)) ∧ SC M M') := by
  obtain ⟨⟨hld, hsl, hy, hy', hyy⟩, ⟨hpl, hsp, hw, hw', hww⟩, hY, hW, hS, hV, hK, ⟨hpt, hp16, hun, hu16, hU⟩, ⟨htl, htl2, htc⟩⟩ := id hX
  have h6 := hY.1.2
  have hs5 := hY.2.1.2
  refine Call.intro rfl (Nat.le_of_ble_eq_true rfl) ?_
  show Ev G _ mX10_yields 0 [.ref 0, .int t] [] M _
  refine e_iload_n dX10_yields_0 rfl ?_
  refine e_iconst (v := 0) dX10_yields_1 (by decide) ?_
  refine e_bipush (v := 60) dX10_yields_2 (by decide) ?_
  refine cS3r dX10_yields_4 mo_X10_within ml_X10_199 (Nat.le_of_ble_eq_true rfl) (by omega) (c_within) ?_
  refine e_if_ne (tgt := 12) dX10_yields_7 (by decide) (fun c7 => ?_) (fun c7 => ?_)
  · -- 7 jumps
    have c7 : vWi t 0 60 := by
      by_cases h : (vWi t 0 60)
      · exact h
      · exact absurd (b2i_f h) c7
    have hwi := c7
    obtain ⟨t, ht60, hlo, rfl⟩ := wi_of (a := 0) (b := 60) (by decide) (by decide) hwi
    refine e_aload_n dX10_yields_12 rfl ?_
    refine e_iload_n dX10_yields_13 rfl ?_
    refine cV1x dX10_yields_14 mo_X10_tryNights ml_X10_255 sh_x rfl (Nat.le_of_ble_eq_true rfl) (by omega) (c_tryNights hX hI hT (t := t) (by omega)) ?_
    rintro r M1 ⟨rfl, hv⟩
    dsimp only [Option.toList, List.cons_append, List.nil_append]
    refine e_aload_n dX10_yields_17 rfl ?_
    refine e_getR dX10_yields_18 fl_X10_43 sh_x rfl ?_
    refine cV0r dX10_yields_21 mo_X3_murmursOfAll ml_X10_270 (sh_st (by first | assumption | decide)) rfl (Nat.le_of_ble_eq_true rfl) (by omega) (c_murmursOfAll (o := 51) (by decide) hv.2.1.1 hY.1.2) ?_
    refine e_iret dX10_yields_24 rfl ?_
    exact ⟨by unfold yieldsQ; rw [if_pos hwi, nI_clamp (by omega), sumI_murS hv.2.1], hv.1⟩
  · -- 7 goes on
    refine e_iconst (v := (-1)) dX10_yields_10 (by decide) ?_
    refine e_iret dX10_yields_11 rfl ?_
    exact ⟨by unfold yieldsQ; rw [if_neg (b2i_eq0.mp c7)], SC.rfl'⟩
def countQ (E : Gs) (q : Int32) : Int32 := if q = 0 then nI E.Y.n else if q = 1 then nI E.Y.ns else if q = 2 then E.S.nights else if q = 3 then frV E.Y E.S.nights else if q = 4 then E.Y.roof else if q = 5 then sumI E.S.crow E.Y.n else if q = 6 then E.S.lit else if q = 7 then riotsV E.Y E.S else if q = 8 then nI E.W.1 else if q = 9 then nI E.V.1 else if q = 10 then nI E.un else if q = 11 then nI E.tl else -1
set_option maxHeartbeats 4000000 in
set_option maxRecDepth 20000 in
theorem c_count {G : Gt} {M : Mm} {E : Gs} {y y' w w' p : Nat} (hX : XJ M E y y' w w' p) {T : Nat} (hI : SI E.Y E.S T) (hT : T < 2 ^ 31) {q : Int32} : Call G 5 mX10_count [.ref 0, .int q] M (eqQ (some (.int (countQ E q))) M) := by
  obtain ⟨⟨hld, hsl, hy, hy', hyy⟩, ⟨hpl, hsp, hw, hw', hww⟩, hY, hW, hS, hV, hK, ⟨hpt, hp16, hun, hu16, hU⟩, ⟨htl, htl2, htc⟩⟩ := id hX
  have h6 := hY.1.2
  have hs5 := hY.2.1.2
  obtain ⟨r0, hr0, hr6, hs0, t, ht, htT⟩ := id hI
  refine Call.intro rfl (Nat.le_of_ble_eq_true rfl) ?_
  show Ev G _ mX10_count 0 [.ref 0, .int q] [] M _
  refine e_iload_n dX10_count_0 rfl ?_
  refine e_sw dX10_count_1 (fun jsw osw hosw hx tsw htsw => ?_) (fun hx tsw htsw => ?_) (by simp)
  · match jsw, hosw, hx with
    | 0, hosw, hx =>
      have hx : q = 0 := hx.trans (by decide)
      obtain rfl : (63 : Int) = osw := Option.some.inj hosw
      obtain rfl : tsw = 64 := by omega
      refine e_aload_n dX10_count_64 rfl ?_
      refine e_getP dX10_count_65 fl_X10_19 sh_x rfl ?_
      first | rw [hld] | (simp only [setI_2, setI_22, setL_22]; rw [hld])
      refine e_getI dX10_count_68 fl_X10_74 (sh_yd (by first | assumption | decide | exact wk2 (by assumption))) rfl ?_
      refine e_iret dX10_count_71 rfl ?_
      subst hx
      refine ⟨?_, rfl⟩
      unfold countQ
      rw [if_pos rfl]
      rw [hY.1.1]
    | 1, hosw, hx =>
      have hx : q = 1 := hx.trans (by decide)
      obtain rfl : (71 : Int) = osw := Option.some.inj hosw
      obtain rfl : tsw = 72 := by omega
      refine e_aload_n dX10_count_72 rfl ?_
      refine e_getP dX10_count_73 fl_X10_19 sh_x rfl ?_
      first | rw [hld] | (simp only [setI_2, setI_22, setL_22]; rw [hld])
      refine e_getI dX10_count_76 fl_X10_78 (sh_yd (by first | assumption | decide | exact wk2 (by assumption))) rfl ?_
      refine e_iret dX10_count_79 rfl ?_
      subst hx
      refine ⟨?_, rfl⟩
      unfold countQ
      rw [if_neg (by decide), if_pos rfl]
      rw [hY.2.1.1]
    | 2, hosw, hx =>
      have hx : q = 2 := hx.trans (by decide)
      obtain rfl : (79 : Int) = osw := Option.some.inj hosw
      obtain rfl : tsw = 80 := by omega
      refine e_aload_n dX10_count_80 rfl ?_
      refine e_getR dX10_count_81 fl_X10_39 sh_x rfl ?_
      refine e_getI dX10_count_84 fl_X10_169 (sh_st (by first | assumption | decide | exact wk2 (by assumption))) rfl ?_
      refine e_iret dX10_count_87 rfl ?_
      subst hx
      refine ⟨?_, rfl⟩
      unfold countQ
      rw [if_neg (by decide), if_neg (by decide), if_pos rfl]
      rw [hS.2.1]
    | 3, hosw, hx =>
      have hx : q = 3 := hx.trans (by decide)
      obtain rfl : (87 : Int) = osw := Option.some.inj hosw
      obtain rfl : tsw = 88 := by omega
      refine e_aload_n dX10_count_88 rfl ?_
      refine e_getP dX10_count_89 fl_X10_19 sh_x rfl ?_
      first | rw [hld] | (simp only [setI_2, setI_22, setL_22]; rw [hld])
      refine e_aload_n dX10_count_92 rfl ?_
      refine e_getR dX10_count_93 fl_X10_39 sh_x rfl ?_
      refine e_getI dX10_count_96 fl_X10_169 (sh_st (by first | assumption | decide | exact wk2 (by assumption))) rfl ?_
      rw [hS.2.1, ht]
      refine cV1r dX10_count_99 mo_X8_frostOf ml_X10_172 (sh_yd (by first | assumption | decide | exact wk2 (by assumption))) rfl (Nat.le_of_ble_eq_true rfl) (by omega) (c_frostOf (by first | assumption | decide) (by assumption) (by omega)) ?_
      rw [← ht]
      refine e_iret dX10_count_102 rfl ?_
      subst hx
      refine ⟨?_, rfl⟩
      unfold countQ
      rw [if_neg (by decide), if_neg (by decide), if_neg (by decide), if_pos rfl]
    | 4, hosw, hx =>
      have hx : q = 4 := hx.trans (by decide)
      obtain rfl : (102 : Int) = osw := Option.some.inj hosw
      obtain rfl : tsw = 103 := by omega
      refine e_aload_n dX10_count_103 rfl ?_
      refine e_getP dX10_count_104 fl_X10_19 sh_x rfl ?_
      first | rw [hld] | (simp only [setI_2, setI_22, setL_22]; rw [hld])
      refine e_getI dX10_count_107 fl_X10_175 (sh_yd (by first | assumption | decide | exact wk2 (by assumption))) rfl ?_
      refine e_iret dX10_count_110 rfl ?_
      subst hx
      refine ⟨?_, rfl⟩
      unfold countQ
      rw [if_neg (by decide), if_neg (by decide), if_neg (by decide), if_neg (by decide), if_pos rfl]
      rw [hY.2.2.2.1]
    | 5, hosw, hx =>
      have hx : q = 5 := hx.trans (by decide)
      obtain rfl : (110 : Int) = osw := Option.some.inj hosw
      obtain rfl : tsw = 111 := by omega
      refine e_aload_n dX10_count_111 rfl ?_
      refine e_getR dX10_count_112 fl_X10_39 sh_x rfl ?_
      refine cV0r dX10_count_115 mo_X3_crownsOfAll ml_X10_178 (sh_st (by first | assumption | decide | exact wk2 (by assumption))) rfl (Nat.le_of_ble_eq_true rfl) (by omega) (c_crownsOfAll (o := 44) (by decide) hS.1 hY.1.2) ?_
      refine e_iret dX10_count_118 rfl ?_
      subst hx
      refine ⟨?_, rfl⟩
      unfold countQ
      rw [if_neg (by decide), if_neg (by decide), if_neg (by decide), if_neg (by decide), if_neg (by decide), if_pos rfl]
      rw [sumI_crow hS]
    | 6, hosw, hx =>
      have hx : q = 6 := hx.trans (by decide)
      obtain rfl : (118 : Int) = osw := Option.some.inj hosw
      obtain rfl : tsw = 119 := by omega
      refine e_aload_n dX10_count_119 rfl ?_
      refine e_getR dX10_count_120 fl_X10_39 sh_x rfl ?_
      refine e_getI dX10_count_123 fl_X10_182 (sh_st (by first | assumption | decide | exact wk2 (by assumption))) rfl ?_
      refine e_iret dX10_count_126 rfl ?_
      subst hx
      refine ⟨?_, rfl⟩
      unfold countQ
      rw [if_neg (by decide), if_neg (by decide), if_neg (by decide), if_neg (by decide), if_neg (by decide), if_neg (by decide), if_pos rfl]
      rw [hS.2.2.1]
    | 7, hosw, hx =>
      have hx : q = 7 := hx.trans (by decide)
      obtain rfl : (126 : Int) = osw := Option.some.inj hosw
      obtain rfl : tsw = 127 := by omega
      refine e_aload_n dX10_count_127 rfl ?_
      refine cV0r dX10_count_128 mo_X10_riots ml_X10_185 sh_x rfl (Nat.le_of_ble_eq_true rfl) (by omega) (c_riots hX) ?_
      refine e_iret dX10_count_131 rfl ?_
      subst hx
      refine ⟨?_, rfl⟩
      unfold countQ
      rw [if_neg (by decide), if_neg (by decide), if_neg (by decide), if_neg (by decide), if_neg (by decide), if_neg (by decide), if_neg (by decide), if_pos rfl]
    | 8, hosw, hx =>
      have hx : q = 8 := hx.trans (by decide)
      obtain rfl : (131 : Int) = osw := Option.some.inj hosw
      obtain rfl : tsw = 132 := by omega
      refine e_aload_n dX10_count_132 rfl ?_
      refine e_getP dX10_count_133 fl_X10_29 sh_x rfl ?_
      first | rw [hpl] | (simp only [setI_2, setI_22, setL_22]; rw [hpl])
      refine e_getI dX10_count_136 fl_X10_188 (sh_wk (by first | assumption | decide | exact wk2 (by assumption))) rfl ?_
      refine e_iret dX10_count_139 rfl ?_
      subst hx
      refine ⟨?_, rfl⟩
      unfold countQ
      rw [if_neg (by decide), if_neg (by decide), if_neg (by decide), if_neg (by decide), if_neg (by decide), if_neg (by decide), if_neg (by decide), if_neg (by decide), if_pos rfl]
      rw [hW.1]
    | 9, hosw, hx =>
      have hx : q = 9 := hx.trans (by decide)
      obtain rfl : (139 : Int) = osw := Option.some.inj hosw
      obtain rfl : tsw = 140 := by omega
      refine e_aload_n dX10_count_140 rfl ?_
      refine e_getR dX10_count_141 fl_X10_49 sh_x rfl ?_
      refine e_getI dX10_count_144 fl_X10_191 (sh_sn (by first | assumption | decide | exact wk2 (by assumption))) rfl ?_
      refine e_iret dX10_count_147 rfl ?_
      subst hx
      refine ⟨?_, rfl⟩
      unfold countQ
      rw [if_neg (by decide), if_neg (by decide), if_neg (by decide), if_neg (by decide), if_neg (by decide), if_neg (by decide), if_neg (by decide), if_neg (by decide), if_neg (by decide), if_pos rfl]
      rw [hV.1]
    | 10, hosw, hx =>
      have hx : q = 10 := hx.trans (by decide)
      obtain rfl : (147 : Int) = osw := Option.some.inj hosw
      obtain rfl : tsw = 148 := by omega
      refine e_aload_n dX10_count_148 rfl ?_
      refine e_getI dX10_count_149 fl_X10_114 sh_x rfl ?_
      refine e_iret dX10_count_152 rfl ?_
      subst hx
      refine ⟨?_, rfl⟩
      unfold countQ
      rw [if_neg (by decide), if_neg (by decide), if_neg (by decide), if_neg (by decide), if_neg (by decide), if_neg (by decide), if_neg (by decide), if_neg (by decide), if_neg (by decide), if_neg (by decide), if_pos rfl]
      rw [hun]
    | 11, hosw, hx =>
      have hx : q = 11 := hx.trans (by decide)
      obtain rfl : (152 : Int) = osw := Option.some.inj hosw
      obtain rfl : tsw = 153 := by omega
      refine e_aload_n dX10_count_153 rfl ?_
      refine e_getR dX10_count_154 fl_X10_10 sh_x rfl ?_
      refine e_getI dX10_count_157 fl_X10_85 sh_tk rfl ?_
      refine e_iret dX10_count_160 rfl ?_
      subst hx
      refine ⟨?_, rfl⟩
      unfold countQ
      rw [if_neg (by decide), if_neg (by decide), if_neg (by decide), if_neg (by decide), if_neg (by decide), if_neg (by decide), if_neg (by decide), if_neg (by decide), if_neg (by decide), if_neg (by decide), if_neg (by decide), if_pos rfl]
      rw [htl]
    | jsw + 12, hosw, hx => exact absurd (Array.getElem?_eq_some_iff.mp hosw).1 (by show ¬ jsw + 12 < 12; omega)
  · obtain rfl : tsw = 161 := by omega
    refine e_iconst (v := (-1)) dX10_count_161 (by decide) ?_
    refine e_iret dX10_count_162 rfl ?_
    have hne : ∀ v : Int32, v.toInt < 0 ∨ 11 < v.toInt → ¬ v = 0 ∧ ¬ v = 1 ∧ ¬ v = 2 ∧ ¬ v = 3 ∧ ¬ v = 4 ∧ ¬ v = 5 ∧ ¬ v = 6 ∧ ¬ v = 7 ∧ ¬ v = 8 ∧ ¬ v = 9 ∧ ¬ v = 10 ∧ ¬ v = 11 := by
      intro v h
      refine ⟨?_, ?_, ?_, ?_, ?_, ?_, ?_, ?_, ?_, ?_, ?_, ?_⟩ <;> (rintro rfl; revert h; decide)
    have hne := hne _ hx
    exact ⟨by unfold countQ; rw [if_neg hne.1, if_neg hne.2.1, if_neg hne.2.2.1, if_neg hne.2.2.2.1, if_neg hne.2.2.2.2.1, if_neg hne.2.2.2.2.2.1, if_neg hne.2.2.2.2.2.2.1, if_neg hne.2.2.2.2.2.2.2.1, if_neg hne.2.2.2.2.2.2.2.2.1, if_neg hne.2.2.2.2.2.2.2.2.2.1, if_neg hne.2.2.2.2.2.2.2.2.2.2.1, if_neg hne.2.2.2.2.2.2.2.2.2.2.2], rfl⟩
end XSTA
