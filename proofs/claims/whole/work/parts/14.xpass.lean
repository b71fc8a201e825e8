section XPS
theorem st_ge {o : Nat} (h : o ∈ stA) : 44 ≤ o ∧ o + 6 < 238 := by
  revert o; decide
theorem yd_le {y : Nat} (h : y ∈ ydA) : 8 ≤ y ∧ y ≤ 22 := by
  revert y; decide
def SX (M : Mm) (o n : Nat) (S : Sv) : Prop := M.1 o 0 = nI n ∧ M.1 o 1 = S.nights ∧ M.1 o 2 = S.lit ∧ ∀ j, j < n → M.1 (o + 2) j = S.heat j ∧ M.1 (o + 3) j = S.crow j ∧ M.1 (o + 1) j = S.high j ∧ M.1 (o + 4) j = S.hear j
theorem SX.congr {M M' : Mm} {o n : Nat} {S : Sv} (h : SX M o n S) (h1 : ∀ i, o ≤ i → i ≤ o + 4 → M'.1 i = M.1 i) : SX M' o n S := by
  unfold SX
  rw [h1 o (by omega) (by omega), h1 (o + 1) (by omega) (by omega), h1 (o + 2) (by omega) (by omega), h1 (o + 3) (by omega) (by omega), h1 (o + 4) (by omega) (by omega)]
  exact h
set_option maxHeartbeats 4000000 in
set_option maxRecDepth 20000 in
theorem l_greaterNear {G : Gt} {M : Mm} {o y j : Nat} {Y : Yv} {S : Sv} (ho : o ∈ stA) (hy : y ∈ ydA) (hY : YX M y Y) (h0 : M.1 o 0 = nI Y.n) (hc : ∀ q, q < Y.n → M.1 (o + 3) q = S.crow q) (hj : j < Y.n) : ∀ (k : Nat) (i : Nat) , (i ≤ Y.n) → (Y.n < i + k) → Ev G 2 mX3_greaterNear 15 [.ref o, .ref y, .int (nI j), .int (cntI (fun i => decide (bitI (Y.near j) (nI i)) && decide (S.crow j < S.crow i)) i), .int (Y.near j), .int (nI i)] [] M (eqQ (some (.int (gnear Y.n (Y.near j) S.crow j))) M) := by
  intro k
  induction k with
  | zero => intro i hi hk; exact absurd hk (by omega)
  | succ k ih =>
    intro i hi hk
    have h6 := hY.1.2
    refine e_iload dX3_greaterNear_15 rfl ?_
    refine e_aload_n dX3_greaterNear_17 rfl ?_
    refine e_getI dX3_greaterNear_18 fl_X3_36 (sh_st (by first | assumption | decide)) rfl ?_
    refine e_icmp_ge (tgt := 64) dX3_greaterNear_21 (by decide) (fun c21 => ?_) (fun c21 => ?_)
    · -- 21 jumps
      rw [h0] at c21
      have hin : i = Y.n := by have := ge_of (by omega) (by omega) c21; omega
      subst hin
      refine e_iload_n dX3_greaterNear_64 rfl ?_
      refine e_iret dX3_greaterNear_65 rfl ?_
      exact ⟨rfl, rfl⟩
    · -- 21 goes on
      rw [h0] at c21
      have hlt : i < Y.n := lt_of (by omega) (by omega) c21
      refine e_iload dX3_greaterNear_24 rfl ?_
      refine e_iload dX3_greaterNear_26 rfl ?_
      refine e_ishr dX3_greaterNear_28 ?_
      refine e_iconst (v := 1) dX3_greaterNear_29 (by decide) ?_
      refine e_iand dX3_greaterNear_30 ?_
      refine e_iconst (v := 1) dX3_greaterNear_31 (by decide) ?_
      refine e_icmp_ne (tgt := 58) dX3_greaterNear_32 (by decide) (fun c32 => ?_) (fun c32 => ?_)
      · -- 32 jumps
        refine e_iinc (ls' := [_, _, _, _, _, _]) dX3_greaterNear_58 rfl (nI_i1 _) (by decide) rfl ?_
        refine e_goto (tgt := 15) dX3_greaterNear_61 (by decide) ?_
        have hh := ih (i + 1) (by omega) (by omega)
        rw [cntI_f (by simp only [decide_eq_false c32]; rfl)] at hh
        exact hh
      · -- 32 goes on
        refine e_aload_n dX3_greaterNear_35 rfl ?_
        refine e_getR dX3_greaterNear_36 fl_X3_18 (sh_st (by first | assumption | decide)) rfl ?_
        refine e_iload dX3_greaterNear_39 rfl ?_
        refine cS2r dX3_greaterNear_41 mo_X10_at ml_X3_53 (Nat.le_of_ble_eq_true rfl) (by omega) (c_atN (sa_st_crowns (by first | assumption | decide)) (by decide) (by first | omega | decide)) ?_
        rw [hc i hlt]
        refine e_aload_n dX3_greaterNear_44 rfl ?_
        refine e_getR dX3_greaterNear_45 fl_X3_18 (sh_st (by first | assumption | decide)) rfl ?_
        refine e_iload_n dX3_greaterNear_48 rfl ?_
        refine cS2r dX3_greaterNear_49 mo_X10_at ml_X3_53 (Nat.le_of_ble_eq_true rfl) (by omega) (c_atN (sa_st_crowns (by first | assumption | decide)) (by decide) (by first | omega | decide)) ?_
        rw [hc j hj]
        refine e_icmp_le (tgt := 58) dX3_greaterNear_52 (by decide) (fun c52 => ?_) (fun c52 => ?_)
        · -- 52 jumps
          refine e_iinc (ls' := [_, _, _, _, _, _]) dX3_greaterNear_58 rfl (nI_i1 _) (by decide) rfl ?_
          refine e_goto (tgt := 15) dX3_greaterNear_61 (by decide) ?_
          have hh := ih (i + 1) (by omega) (by omega)
          rw [cntI_f (by simp only [decide_eq_true c32, decide_eq_false c52]; rfl)] at hh
          exact hh
        · -- 52 goes on
          refine e_iinc (ls' := [_, _, _, _, _, _]) dX3_greaterNear_55 rfl (i_inc1 _) (by decide) rfl ?_
          refine e_iinc (ls' := [_, _, _, _, _, _]) dX3_greaterNear_58 rfl (nI_i1 _) (by decide) rfl ?_
          refine e_goto (tgt := 15) dX3_greaterNear_61 (by decide) ?_
          have hh := ih (i + 1) (by omega) (by omega)
          rw [cntI_t (by simp only [decide_eq_true c32, decide_eq_true c52]; rfl)] at hh
          exact hh
set_option maxHeartbeats 4000000 in
set_option maxRecDepth 20000 in
theorem c_greaterNear {G : Gt} {M : Mm} {o y j : Nat} {Y : Yv} {S : Sv} (ho : o ∈ stA) (hy : y ∈ ydA) (hY : YX M y Y) (h0 : M.1 o 0 = nI Y.n) (hc : ∀ q, q < Y.n → M.1 (o + 3) q = S.crow q) (hj : j < Y.n) : Call G 2 mX3_greaterNear [.ref o, .ref y, .int (nI j)] M (eqQ (some (.int (gnear Y.n (Y.near j) S.crow j))) M) := by
  have h6 := hY.1.2
  refine Call.intro rfl (Nat.le_of_ble_eq_true rfl) ?_
  show Ev G _ mX3_greaterNear 0 [.ref o, .ref y, .int (nI j), RA, RA, RA] [] M _
  refine e_iconst (v := 0) dX3_greaterNear_0 (by decide) ?_
  refine e_istore_n (ls' := [_, _, _, _, _, _]) dX3_greaterNear_1 (by decide) rfl ?_
  refine e_aload_n dX3_greaterNear_2 rfl ?_
  refine e_getR dX3_greaterNear_3 fl_X3_91 (sh_yd (by first | assumption | decide)) rfl ?_
  refine e_iload_n dX3_greaterNear_6 rfl ?_
  refine cS2r dX3_greaterNear_7 mo_X10_at ml_X3_53 (Nat.le_of_ble_eq_true rfl) (by omega) (c_atN (sa_yd_near (by first | assumption | decide)) (by decide) (by first | omega | decide)) ?_
  rw [(hY.2.2.2.2.1 j hj).2.2.2.1]
  refine e_istore (ls' := [_, _, _, _, _, _]) dX3_greaterNear_10 (by decide) rfl ?_
  refine e_iconst (v := 0) dX3_greaterNear_12 (by decide) ?_
  refine e_istore (ls' := [_, _, _, _, _, _]) dX3_greaterNear_13 (by decide) rfl ?_
  exact l_greaterNear ho hy hY h0 hc hj (Y.n + 1) 0 (by omega) (by omega)
set_option maxHeartbeats 4000000 in
set_option maxRecDepth 20000 in
theorem c_growth {G : Gt} {M : Mm} {o y j : Nat} {Y : Yv} {S : Sv} (ho : o ∈ stA) (hy : y ∈ ydA) (hY : YX M y Y) (h0 : M.1 o 0 = nI Y.n) (hc : ∀ q, q < Y.n → M.1 (o + 3) q = S.crow q) (hj : j < Y.n) {fr : Int32} (h1 : M.1 o 1 = S.nights) (h2 : M.1 o 2 = S.lit) (hh : M.1 (o + 2) j = S.heat j) (hg : M.1 (o + 1) j = S.high j) : Call G 3 mX3_growth [.ref o, .ref y, .int (nI j), .int fr] M (fun r M' => r = some (.int (growV Y S fr j)) ∧ M'.2 = M.2 ∧ ∀ q, ¬ q = y + 12 → ¬ q = y + 13 → M'.1 q = M.1 q) := by
  have h6 := hY.1.2
  have hrg := st_ge ho
  have hyl := yd_le hy
  refine Call.intro rfl (Nat.le_of_ble_eq_true rfl) ?_
  show Ev G _ mX3_growth 0 [.ref o, .ref y, .int (nI j), .int fr, RA, RA, RA, RA, RA] [] M _
  refine e_aload_n dX3_growth_0 rfl ?_
  refine e_getR dX3_growth_1 fl_X3_18 (sh_st (by first | assumption | decide)) rfl ?_
  refine e_iload_n dX3_growth_4 rfl ?_
  refine cS2r dX3_growth_5 mo_X10_at ml_X3_53 (Nat.le_of_ble_eq_true rfl) (by omega) (c_atN (sa_st_crowns (by first | assumption | decide)) (by decide) (by first | omega | decide)) ?_
  rw [hc j hj]
  refine e_istore (ls' := [_, _, _, _, _, _, _, _, _]) dX3_growth_8 (by decide) rfl ?_
  refine e_iload dX3_growth_10 rfl ?_
  refine e_if_eq (tgt := 23) dX3_growth_12 (by decide) (fun c12 => ?_) (fun c12 => ?_)
  · -- 12 jumps
    refine e_iconst (v := 0) dX3_growth_23 (by decide) ?_
    refine e_iret dX3_growth_24 rfl ?_
    exact ⟨by unfold growV; rw [if_pos c12], rfl, fun _ _ _ => rfl⟩
  · -- 12 goes on
    refine e_aload_n dX3_growth_15 rfl ?_
    refine e_iload_n dX3_growth_16 rfl ?_
    refine cV1r dX3_growth_17 mo_X3_isLit ml_X3_65 (sh_st (by first | assumption | decide)) rfl (Nat.le_of_ble_eq_true rfl) (by omega) (c_isLit (by first | assumption | decide)) ?_
    rw [h2]
    refine e_if_eq (tgt := 25) dX3_growth_20 (by decide) (fun c20 => ?_) (fun c20 => ?_)
    · -- 20 jumps
      have hlit := b2i_eq0.mp c20
      refine e_aload_n dX3_growth_25 rfl ?_
      refine e_getR dX3_growth_26 fl_X3_9 (sh_st (by first | assumption | decide)) rfl ?_
      refine e_iload_n dX3_growth_29 rfl ?_
      refine cS2r dX3_growth_30 mo_X10_at ml_X3_53 (Nat.le_of_ble_eq_true rfl) (by omega) (c_atN (sa_st_heights (by first | assumption | decide)) (by decide) (by first | omega | decide)) ?_
      rw [hg]
      refine e_istore (ls' := [_, _, _, _, _, _, _, _, _]) dX3_growth_33 (by decide) rfl ?_
      refine e_iconst (v := 0) dX3_growth_35 (by decide) ?_
      refine e_aload_n dX3_growth_36 rfl ?_
      refine e_getR dX3_growth_37 fl_X3_15 (sh_st (by first | assumption | decide)) rfl ?_
      refine e_iload_n dX3_growth_40 rfl ?_
      refine cS2r dX3_growth_41 mo_X10_at ml_X3_53 (Nat.le_of_ble_eq_true rfl) (by omega) (c_atN (sa_st_heats (by first | assumption | decide)) (by decide) (by first | omega | decide)) ?_
      rw [hh]
      refine e_iload_n dX3_growth_44 rfl ?_
      refine e_isub dX3_growth_45 ?_
      refine e_max dX3_growth_46 (mem_g 782 (by decide +kernel) rfl) (mem_g 422 (by decide +kernel) rfl) (mem_g 15 (by decide +kernel) rfl) (mem_g 423 (by decide +kernel) rfl) (Nat.le_of_ble_eq_true rfl) (by omega) ?_
      refine e_istore (ls' := [_, _, _, _, _, _, _, _, _]) dX3_growth_49 (by decide) rfl ?_
      refine e_iconst (v := 0) dX3_growth_51 (by decide) ?_
      refine e_bipush (v := 9) dX3_growth_52 (by decide) ?_
      refine e_aload_n dX3_growth_54 rfl ?_
      refine e_getR dX3_growth_55 fl_X3_75 (sh_yd (by first | assumption | decide)) rfl ?_
      refine e_iload dX3_growth_58 rfl ?_
      refine e_iload dX3_growth_60 rfl ?_
      refine e_iload dX3_growth_62 rfl ?_
      refine e_aload_n dX3_growth_64 rfl ?_
      refine e_getI dX3_growth_65 fl_X3_37 (sh_st (by first | assumption | decide)) rfl ?_
      rw [h1]
      refine cV4x dX3_growth_68 mo_X0_amount ml_X3_79 (sh_lw (by first | assumption | exact yd_lw (by assumption) | decide)) rfl (Nat.le_of_ble_eq_true rfl) (by omega) (c_amount (yd_lw (by assumption)) (hY.2.2.2.2.2.2.2 (by omega))) ?_
      rintro r M1 ⟨rfl, hl2, hfr⟩
      have hY1 : YX M1 y Y := hY.congr hl2 (fun i q1 q2 => hfr i (by omega) (by omega))
      have h01 : M1.1 o 0 = nI Y.n := by rw [hfr o (by omega) (by omega)]; exact h0
      have hc1 : ∀ q, q < Y.n → M1.1 (o + 3) q = S.crow q := by rw [hfr (o + 3) (by omega) (by omega)]; exact hc
      have h21 : M1.1 o 2 = S.lit := by rw [hfr o (by omega) (by omega)]; exact h2
      dsimp only [Option.toList, List.cons_append, List.nil_append]
      refine e_min dX3_growth_71 (mem_g 731 (by decide +kernel) rfl) (mem_g 425 (by decide +kernel) rfl) (mem_g 15 (by decide +kernel) rfl) (mem_g 426 (by decide +kernel) rfl) (Nat.le_of_ble_eq_true rfl) (by omega) ?_
      refine e_max dX3_growth_74 (mem_g 782 (by decide +kernel) rfl) (mem_g 422 (by decide +kernel) rfl) (mem_g 15 (by decide +kernel) rfl) (mem_g 423 (by decide +kernel) rfl) (Nat.le_of_ble_eq_true rfl) (by omega) ?_
      refine e_istore (ls' := [_, _, _, _, _, _, _, _, _]) dX3_growth_77 (by decide) rfl ?_
      refine e_aload_n dX3_growth_79 rfl ?_
      refine e_getR dX3_growth_80 fl_X3_88 (sh_yd (by first | assumption | decide)) rfl ?_
      refine e_iload_n dX3_growth_83 rfl ?_
      refine cS2r dX3_growth_84 mo_X10_at ml_X3_53 (Nat.le_of_ble_eq_true rfl) (by omega) (c_atN (sa_yd_kinds (by first | assumption | decide)) (by decide) (by first | omega | decide)) ?_
      rw [(hY1.2.2.2.2.1 j hj).1]
      refine e_istore (ls' := [_, _, _, _, _, _, _, _, _]) dX3_growth_87 (by decide) rfl ?_
      refine e_iload dX3_growth_89 rfl ?_
      refine e_iconst (v := 1) dX3_growth_91 (by decide) ?_
      refine e_icmp_ne (tgt := 108) dX3_growth_92 (by decide) (fun c92 => ?_) (fun c92 => ?_)
      · -- 92 jumps
        refine e_iload dX3_growth_108 rfl ?_
        refine e_iconst (v := 2) dX3_growth_110 (by decide) ?_
        refine e_icmp_ne (tgt := 139) dX3_growth_111 (by decide) (fun c111 => ?_) (fun c111 => ?_)
        · -- 111 jumps
          refine e_iload dX3_growth_139 rfl ?_
          refine e_iconst (v := 3) dX3_growth_141 (by decide) ?_
          refine e_icmp_ne (tgt := 156) dX3_growth_142 (by decide) (fun c142 => ?_) (fun c142 => ?_)
          · -- 142 jumps
            refine e_iload dX3_growth_156 rfl ?_
            refine e_aload_n dX3_growth_158 rfl ?_
            refine e_getI dX3_growth_159 fl_X3_98 (sh_yd (by first | assumption | decide)) rfl ?_
            rw [hY1.2.2.2.1]
            refine e_iload dX3_growth_162 rfl ?_
            refine e_isub dX3_growth_164 ?_
            refine e_min dX3_growth_165 (mem_g 731 (by decide +kernel) rfl) (mem_g 425 (by decide +kernel) rfl) (mem_g 15 (by decide +kernel) rfl) (mem_g 426 (by decide +kernel) rfl) (Nat.le_of_ble_eq_true rfl) (by omega) ?_
            refine e_iret dX3_growth_168 rfl ?_
            refine ⟨congrArg (fun v => some (Value.int v)) ?_, hl2, hfr⟩
            rw [growV_eq c12 hlit, gW0 (fun q => c92 q.1) (fun q => c111 q.1) c142]
            rfl
          · -- 142 goes on
            refine e_iload dX3_growth_145 rfl ?_
            refine e_aload_n dX3_growth_147 rfl ?_
            refine e_aload_n dX3_growth_148 rfl ?_
            refine e_iload_n dX3_growth_149 rfl ?_
            refine cV2r dX3_growth_150 mo_X3_greaterNear ml_X3_94 (sh_st (by first | assumption | decide)) rfl (Nat.le_of_ble_eq_true rfl) (by omega) (c_greaterNear ho hy hY1 h01 hc1 hj) ?_
            refine e_iadd dX3_growth_153 ?_
            refine e_istore (ls' := [_, _, _, _, _, _, _, _, _]) dX3_growth_154 (by decide) rfl ?_
            refine e_iload dX3_growth_156 rfl ?_
            refine e_aload_n dX3_growth_158 rfl ?_
            refine e_getI dX3_growth_159 fl_X3_98 (sh_yd (by first | assumption | decide)) rfl ?_
            rw [hY1.2.2.2.1]
            refine e_iload dX3_growth_162 rfl ?_
            refine e_isub dX3_growth_164 ?_
            refine e_min dX3_growth_165 (mem_g 731 (by decide +kernel) rfl) (mem_g 425 (by decide +kernel) rfl) (mem_g 15 (by decide +kernel) rfl) (mem_g 426 (by decide +kernel) rfl) (Nat.le_of_ble_eq_true rfl) (by omega) ?_
            refine e_iret dX3_growth_168 rfl ?_
            refine ⟨congrArg (fun v => some (Value.int v)) ?_, hl2, hfr⟩
            rw [growV_eq c12 hlit, gW3 c142]
            rfl
        · -- 111 goes on
          refine e_aload_n dX3_growth_114 rfl ?_
          refine e_getR dX3_growth_115 fl_X3_91 (sh_yd (by first | assumption | decide)) rfl ?_
          refine e_iload_n dX3_growth_118 rfl ?_
          refine cS2r dX3_growth_119 mo_X10_at ml_X3_53 (Nat.le_of_ble_eq_true rfl) (by omega) (c_atN (sa_yd_near (by first | assumption | decide)) (by decide) (by first | omega | decide)) ?_
          rw [(hY1.2.2.2.2.1 j hj).2.2.2.1]
          refine e_aload_n dX3_growth_122 rfl ?_
          refine e_getI dX3_growth_123 fl_X3_40 (sh_st (by first | assumption | decide)) rfl ?_
          rw [h21]
          refine e_iand dX3_growth_126 ?_
          refine e_if_eq (tgt := 139) dX3_growth_127 (by decide) (fun c127 => ?_) (fun c127 => ?_)
          · -- 127 jumps
            refine e_iload dX3_growth_139 rfl ?_
            refine e_iconst (v := 3) dX3_growth_141 (by decide) ?_
            refine e_icmp_ne (tgt := 156) dX3_growth_142 (by decide) (fun c142 => ?_) (fun c142 => ?_)
            · -- 142 jumps
              refine e_iload dX3_growth_156 rfl ?_
              refine e_aload_n dX3_growth_158 rfl ?_
              refine e_getI dX3_growth_159 fl_X3_98 (sh_yd (by first | assumption | decide)) rfl ?_
              rw [hY1.2.2.2.1]
              refine e_iload dX3_growth_162 rfl ?_
              refine e_isub dX3_growth_164 ?_
              refine e_min dX3_growth_165 (mem_g 731 (by decide +kernel) rfl) (mem_g 425 (by decide +kernel) rfl) (mem_g 15 (by decide +kernel) rfl) (mem_g 426 (by decide +kernel) rfl) (Nat.le_of_ble_eq_true rfl) (by omega) ?_
              refine e_iret dX3_growth_168 rfl ?_
              refine ⟨congrArg (fun v => some (Value.int v)) ?_, hl2, hfr⟩
              rw [growV_eq c12 hlit, gW0 (fun q => c92 q.1) (fun q => q.2 c127) c142]
              rfl
            · -- 142 goes on
              refine e_iload dX3_growth_145 rfl ?_
              refine e_aload_n dX3_growth_147 rfl ?_
              refine e_aload_n dX3_growth_148 rfl ?_
              refine e_iload_n dX3_growth_149 rfl ?_
              refine cV2r dX3_growth_150 mo_X3_greaterNear ml_X3_94 (sh_st (by first | assumption | decide)) rfl (Nat.le_of_ble_eq_true rfl) (by omega) (c_greaterNear ho hy hY1 h01 hc1 hj) ?_
              refine e_iadd dX3_growth_153 ?_
              refine e_istore (ls' := [_, _, _, _, _, _, _, _, _]) dX3_growth_154 (by decide) rfl ?_
              refine e_iload dX3_growth_156 rfl ?_
              refine e_aload_n dX3_growth_158 rfl ?_
              refine e_getI dX3_growth_159 fl_X3_98 (sh_yd (by first | assumption | decide)) rfl ?_
              rw [hY1.2.2.2.1]
              refine e_iload dX3_growth_162 rfl ?_
              refine e_isub dX3_growth_164 ?_
              refine e_min dX3_growth_165 (mem_g 731 (by decide +kernel) rfl) (mem_g 425 (by decide +kernel) rfl) (mem_g 15 (by decide +kernel) rfl) (mem_g 426 (by decide +kernel) rfl) (Nat.le_of_ble_eq_true rfl) (by omega) ?_
              refine e_iret dX3_growth_168 rfl ?_
              exact absurd (c111.symm.trans c142) (by decide)
          · -- 127 goes on
            refine e_iload dX3_growth_130 rfl ?_
            refine e_iconst (v := 2) dX3_growth_132 (by decide) ?_
            refine e_idiv dX3_growth_133 (by decide) ?_
            refine e_istore (ls' := [_, _, _, _, _, _, _, _, _]) dX3_growth_134 (by decide) rfl ?_
            refine e_goto (tgt := 156) dX3_growth_136 (by decide) ?_
            refine e_iload dX3_growth_156 rfl ?_
            refine e_aload_n dX3_growth_158 rfl ?_
            refine e_getI dX3_growth_159 fl_X3_98 (sh_yd (by first | assumption | decide)) rfl ?_
            rw [hY1.2.2.2.1]
            refine e_iload dX3_growth_162 rfl ?_
            refine e_isub dX3_growth_164 ?_
            refine e_min dX3_growth_165 (mem_g 731 (by decide +kernel) rfl) (mem_g 425 (by decide +kernel) rfl) (mem_g 15 (by decide +kernel) rfl) (mem_g 426 (by decide +kernel) rfl) (Nat.le_of_ble_eq_true rfl) (by omega) ?_
            refine e_iret dX3_growth_168 rfl ?_
            refine ⟨congrArg (fun v => some (Value.int v)) ?_, hl2, hfr⟩
            rw [growV_eq c12 hlit, gW2 c111 c127]
            rfl
      · -- 92 goes on
        refine e_iload dX3_growth_95 rfl ?_
        refine e_bipush (v := 10) dX3_growth_97 (by decide) ?_
        refine e_icmp_ge (tgt := 108) dX3_growth_99 (by decide) (fun c99 => ?_) (fun c99 => ?_)
        · -- 99 jumps
          refine e_iload dX3_growth_108 rfl ?_
          refine e_iconst (v := 2) dX3_growth_110 (by decide) ?_
          refine e_icmp_ne (tgt := 139) dX3_growth_111 (by decide) (fun c111 => ?_) (fun c111 => ?_)
          · -- 111 jumps
            refine e_iload dX3_growth_139 rfl ?_
            refine e_iconst (v := 3) dX3_growth_141 (by decide) ?_
            refine e_icmp_ne (tgt := 156) dX3_growth_142 (by decide) (fun c142 => ?_) (fun c142 => ?_)
            · -- 142 jumps
              refine e_iload dX3_growth_156 rfl ?_
              refine e_aload_n dX3_growth_158 rfl ?_
              refine e_getI dX3_growth_159 fl_X3_98 (sh_yd (by first | assumption | decide)) rfl ?_
              rw [hY1.2.2.2.1]
              refine e_iload dX3_growth_162 rfl ?_
              refine e_isub dX3_growth_164 ?_
              refine e_min dX3_growth_165 (mem_g 731 (by decide +kernel) rfl) (mem_g 425 (by decide +kernel) rfl) (mem_g 15 (by decide +kernel) rfl) (mem_g 426 (by decide +kernel) rfl) (Nat.le_of_ble_eq_true rfl) (by omega) ?_
              refine e_iret dX3_growth_168 rfl ?_
              refine ⟨congrArg (fun v => some (Value.int v)) ?_, hl2, hfr⟩
              rw [growV_eq c12 hlit, gW0 (fun q => c99 q.2) (fun q => c111 q.1) c142]
              rfl
            · -- 142 goes on
              refine e_iload dX3_growth_145 rfl ?_
              refine e_aload_n dX3_growth_147 rfl ?_
              refine e_aload_n dX3_growth_148 rfl ?_
              refine e_iload_n dX3_growth_149 rfl ?_
              refine cV2r dX3_growth_150 mo_X3_greaterNear ml_X3_94 (sh_st (by first | assumption | decide)) rfl (Nat.le_of_ble_eq_true rfl) (by omega) (c_greaterNear ho hy hY1 h01 hc1 hj) ?_
              refine e_iadd dX3_growth_153 ?_
              refine e_istore (ls' := [_, _, _, _, _, _, _, _, _]) dX3_growth_154 (by decide) rfl ?_
              refine e_iload dX3_growth_156 rfl ?_
              refine e_aload_n dX3_growth_158 rfl ?_
              refine e_getI dX3_growth_159 fl_X3_98 (sh_yd (by first | assumption | decide)) rfl ?_
              rw [hY1.2.2.2.1]
              refine e_iload dX3_growth_162 rfl ?_
              refine e_isub dX3_growth_164 ?_
              refine e_min dX3_growth_165 (mem_g 731 (by decide +kernel) rfl) (mem_g 425 (by decide +kernel) rfl) (mem_g 15 (by decide +kernel) rfl) (mem_g 426 (by decide +kernel) rfl) (Nat.le_of_ble_eq_true rfl) (by omega) ?_
              refine e_iret dX3_growth_168 rfl ?_
              exact absurd (c92.symm.trans c142) (by decide)
          · -- 111 goes on
            refine e_aload_n dX3_growth_114 rfl ?_
            refine e_getR dX3_growth_115 fl_X3_91 (sh_yd (by first | assumption | decide)) rfl ?_
            refine e_iload_n dX3_growth_118 rfl ?_
            refine cS2r dX3_growth_119 mo_X10_at ml_X3_53 (Nat.le_of_ble_eq_true rfl) (by omega) (c_atN (sa_yd_near (by first | assumption | decide)) (by decide) (by first | omega | decide)) ?_
            rw [(hY1.2.2.2.2.1 j hj).2.2.2.1]
            refine e_aload_n dX3_growth_122 rfl ?_
            refine e_getI dX3_growth_123 fl_X3_40 (sh_st (by first | assumption | decide)) rfl ?_
            rw [h21]
            refine e_iand dX3_growth_126 ?_
            refine e_if_eq (tgt := 139) dX3_growth_127 (by decide) (fun c127 => ?_) (fun c127 => ?_)
            · -- 127 jumps
              refine e_iload dX3_growth_139 rfl ?_
              refine e_iconst (v := 3) dX3_growth_141 (by decide) ?_
              refine e_icmp_ne (tgt := 156) dX3_growth_142 (by decide) (fun c142 => ?_) (fun c142 => ?_)
              · -- 142 jumps
                refine e_iload dX3_growth_156 rfl ?_
                refine e_aload_n dX3_growth_158 rfl ?_
                refine e_getI dX3_growth_159 fl_X3_98 (sh_yd (by first | assumption | decide)) rfl ?_
                rw [hY1.2.2.2.1]
                refine e_iload dX3_growth_162 rfl ?_
                refine e_isub dX3_growth_164 ?_
                refine e_min dX3_growth_165 (mem_g 731 (by decide +kernel) rfl) (mem_g 425 (by decide +kernel) rfl) (mem_g 15 (by decide +kernel) rfl) (mem_g 426 (by decide +kernel) rfl) (Nat.le_of_ble_eq_true rfl) (by omega) ?_
                refine e_iret dX3_growth_168 rfl ?_
                exact absurd (c92.symm.trans c111) (by decide)
              · -- 142 goes on
                refine e_iload dX3_growth_145 rfl ?_
                refine e_aload_n dX3_growth_147 rfl ?_
                refine e_aload_n dX3_growth_148 rfl ?_
                refine e_iload_n dX3_growth_149 rfl ?_
                refine cV2r dX3_growth_150 mo_X3_greaterNear ml_X3_94 (sh_st (by first | assumption | decide)) rfl (Nat.le_of_ble_eq_true rfl) (by omega) (c_greaterNear ho hy hY1 h01 hc1 hj) ?_
                refine e_iadd dX3_growth_153 ?_
                refine e_istore (ls' := [_, _, _, _, _, _, _, _, _]) dX3_growth_154 (by decide) rfl ?_
                refine e_iload dX3_growth_156 rfl ?_
                refine e_aload_n dX3_growth_158 rfl ?_
                refine e_getI dX3_growth_159 fl_X3_98 (sh_yd (by first | assumption | decide)) rfl ?_
                rw [hY1.2.2.2.1]
                refine e_iload dX3_growth_162 rfl ?_
                refine e_isub dX3_growth_164 ?_
                refine e_min dX3_growth_165 (mem_g 731 (by decide +kernel) rfl) (mem_g 425 (by decide +kernel) rfl) (mem_g 15 (by decide +kernel) rfl) (mem_g 426 (by decide +kernel) rfl) (Nat.le_of_ble_eq_true rfl) (by omega) ?_
                refine e_iret dX3_growth_168 rfl ?_
                exact absurd (c92.symm.trans c111) (by decide)
            · -- 127 goes on
              refine e_iload dX3_growth_130 rfl ?_
              refine e_iconst (v := 2) dX3_growth_132 (by decide) ?_
              refine e_idiv dX3_growth_133 (by decide) ?_
              refine e_istore (ls' := [_, _, _, _, _, _, _, _, _]) dX3_growth_134 (by decide) rfl ?_
              refine e_goto (tgt := 156) dX3_growth_136 (by decide) ?_
              refine e_iload dX3_growth_156 rfl ?_
              refine e_aload_n dX3_growth_158 rfl ?_
              refine e_getI dX3_growth_159 fl_X3_98 (sh_yd (by first | assumption | decide)) rfl ?_
              rw [hY1.2.2.2.1]
              refine e_iload dX3_growth_162 rfl ?_
              refine e_isub dX3_growth_164 ?_
              refine e_min dX3_growth_165 (mem_g 731 (by decide +kernel) rfl) (mem_g 425 (by decide +kernel) rfl) (mem_g 15 (by decide +kernel) rfl) (mem_g 426 (by decide +kernel) rfl) (Nat.le_of_ble_eq_true rfl) (by omega) ?_
              refine e_iret dX3_growth_168 rfl ?_
              exact absurd (c92.symm.trans c111) (by decide)
        · -- 99 goes on
          refine e_iinc (ls' := [_, _, _, _, _, _, _, _, _]) dX3_growth_102 rfl (i_inc1 _) (by decide) rfl ?_
          refine e_goto (tgt := 156) dX3_growth_105 (by decide) ?_
          refine e_iload dX3_growth_156 rfl ?_
          refine e_aload_n dX3_growth_158 rfl ?_
          refine e_getI dX3_growth_159 fl_X3_98 (sh_yd (by first | assumption | decide)) rfl ?_
          rw [hY1.2.2.2.1]
          refine e_iload dX3_growth_162 rfl ?_
          refine e_isub dX3_growth_164 ?_
          refine e_min dX3_growth_165 (mem_g 731 (by decide +kernel) rfl) (mem_g 425 (by decide +kernel) rfl) (mem_g 15 (by decide +kernel) rfl) (mem_g 426 (by decide +kernel) rfl) (Nat.le_of_ble_eq_true rfl) (by omega) ?_
          refine e_iret dX3_growth_168 rfl ?_
          refine ⟨congrArg (fun v => some (Value.int v)) ?_, hl2, hfr⟩
          rw [growV_eq c12 hlit, gW1 c92 c99]
          rfl
    · -- 20 goes on
      have hlit : bitI S.lit (nI j) := by
        by_cases h : bitI S.lit (nI j)
        · exact h
        · exact absurd (b2i_f h) c20
      refine e_iconst (v := 0) dX3_growth_23 (by decide) ?_
      refine e_iret dX3_growth_24 rfl ?_
      exact ⟨by unfold growV; rw [if_neg c12, if_pos hlit], rfl, fun _ _ _ => rfl⟩
end XPS
