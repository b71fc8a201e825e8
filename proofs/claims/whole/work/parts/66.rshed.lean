section RSH
theorem bit01 (x i : Int32) : (x >>> (i &&& 31)) &&& 1 = b2i (bitI x i) := by
  by_cases h : bitI x i
  · rw [b2i_t h]; exact h
  · rw [b2i_f h]; exact (and1 _).resolve_right h
set_option maxHeartbeats 4000000 in
set_option maxRecDepth 20000 in
theorem r_shed {G : Gt} {M : Mm} {E : Gs} (hJ : RJ M E) {i v : Int32} : Call G 3 mX11_shed [.ref 238, .int i, .int v] M (fun r M' => r = some (.int (shedQ E i v)) ∧ RC M M') := by
  refine Call.intro rfl (Nat.le_of_ble_eq_true rfl) ?_
  show Ev G _ mX11_shed 0 [.ref 238, .int i, .int v] [] M _
  refine e_aload_n dX11_shed_0 rfl ?_
  refine e_iconst (v := 0) dX11_shed_1 (by decide) ?_
  refine e_putI dX11_shed_2 fl_X11_153 sh_m rfl rfl rfl ?_
  refine th0 (fun M1 hC1 => ?_)
  have hJ := hC1.keep hJ
  have hY := hJ.1
  have h6 := hY.1.2
  have hs5 := hY.2.1.2
  have hL := hJ.2.1
  have hS := hJ.2.2.1
  refine e_aload_n dX11_shed_5 rfl ?_
  refine e_iload_n dX11_shed_6 rfl ?_
  refine cV1r dX11_shed_7 mo_X11_isShed ml_X11_397 sh_m rfl (Nat.le_of_ble_eq_true rfl) (by omega) (r_isShed (by assumption)) ?_
  refine e_if_eq (tgt := 23) dX11_shed_10 (by decide) (fun c10 => ?_) (fun c10 => ?_)
  · -- 10 jumps
    refine e_bipush (v := (-2)) dX11_shed_23 (by decide) ?_
    refine e_iret dX11_shed_25 rfl ?_
    exact ⟨by unfold shedQ; rw [if_neg (b2i_eq0.mp c10)], hC1⟩
  · -- 10 goes on
    have hsh10 : ¬ i < 0 ∧ i < nI E.Y.n := by
      by_cases h : (¬ i < 0 ∧ i < nI E.Y.n)
      · exact h
      · exact absurd (b2i_f h) c10
    obtain ⟨j, hj, rfl⟩ := shed_of (by omega) hsh10
    refine e_iload_n dX11_shed_13 rfl ?_
    refine e_iconst (v := 0) dX11_shed_14 (by decide) ?_
    refine e_bipush (v := 6) dX11_shed_15 (by decide) ?_
    refine cS3r dX11_shed_17 mo_X11_within ml_X11_274 (Nat.le_of_ble_eq_true rfl) (by omega) (r_within) ?_
    refine e_if_ne (tgt := 26) dX11_shed_20 (by decide) (fun c20 => ?_) (fun c20 => ?_)
    · -- 20 jumps
      have c20 : vWi v 0 6 := by
        by_cases h : (vWi v 0 6)
        · exact h
        · exact absurd (b2i_f h) c20
      obtain ⟨q, hq6, -, rfl⟩ := wi_of (a := 0) (b := 6) (by decide) (by decide) c20
      refine e_iload_n dX11_shed_26 rfl ?_
      refine e_iconst (v := 4) dX11_shed_27 (by decide) ?_
      refine e_icmp_ge (tgt := 87) dX11_shed_28 (by decide) (fun c28 => ?_) (fun c28 => ?_)
      · -- 28 jumps
        refine e_iload_n dX11_shed_87 rfl ?_
        refine e_iconst (v := 4) dX11_shed_88 (by decide) ?_
        refine e_icmp_ne (tgt := 105) dX11_shed_89 (by decide) (fun c89 => ?_) (fun c89 => ?_)
        · -- 89 jumps
          refine e_iload_n dX11_shed_105 rfl ?_
          refine e_iconst (v := 5) dX11_shed_106 (by decide) ?_
          refine e_icmp_ne (tgt := 119) dX11_shed_107 (by decide) (fun c107 => ?_) (fun c107 => ?_)
          · -- 107 jumps
            refine e_aload_n dX11_shed_119 rfl ?_
            refine e_iload_n dX11_shed_120 rfl ?_
            refine cV1r dX11_shed_121 mo_X11_murmurOf ml_X11_394 sh_m rfl (Nat.le_of_ble_eq_true rfl) (by omega) (r_murmurOf hY hS hj) ?_
            refine e_iret dX11_shed_124 rfl ?_
            refine ⟨?_, hC1⟩
            unfold shedQ
            rw [if_pos hsh10, nI_clamp (by omega)]
            rcases (show q = 0 ∨ q = 1 ∨ q = 2 ∨ q = 3 ∨ q = 4 ∨ q = 5 ∨ q = 6 by omega) with rfl | rfl | rfl | rfl | rfl | rfl | rfl <;> first | rfl | exact absurd c28 (by decide) | exact absurd c89 (by decide) | exact absurd c107 (by decide)
          · -- 107 goes on
            refine e_aload_n dX11_shed_110 rfl ?_
            refine e_getR dX11_shed_111 fl_X11_32 sh_m rfl ?_
            refine e_iload_n dX11_shed_114 rfl ?_
            refine e_ialdN (j := j) dX11_shed_115 (sa_m_near) (by decide) (by omega) ?_
            rw [(hY.2.2.2.2.1 j hj).2.2.2.1]
            refine e_goto (tgt := 124) dX11_shed_116 (by decide) ?_
            refine e_iret dX11_shed_124 rfl ?_
            refine ⟨?_, hC1⟩
            unfold shedQ
            rw [if_pos hsh10, nI_clamp (by omega)]
            rcases (show q = 0 ∨ q = 1 ∨ q = 2 ∨ q = 3 ∨ q = 4 ∨ q = 5 ∨ q = 6 by omega) with rfl | rfl | rfl | rfl | rfl | rfl | rfl <;> first | rfl | exact absurd c28 (by decide) | exact absurd c89 (by decide) | exact absurd c107 (by decide)
        · -- 89 goes on
          refine e_aload_n dX11_shed_92 rfl ?_
          refine e_getR dX11_shed_93 fl_X11_114 sh_m rfl ?_
          refine e_iconst (v := 1) dX11_shed_96 (by decide) ?_
          refine e_ialdN (j := 1) dX11_shed_97 (sa_m_s) (by decide) (by omega) ?_
          rw [hS.li]
          refine e_iload_n dX11_shed_98 rfl ?_
          refine e_ishr dX11_shed_99 ?_
          refine e_iconst (v := 1) dX11_shed_100 (by decide) ?_
          refine e_iand dX11_shed_101 ?_
          rw [bit01]
          refine e_goto (tgt := 124) dX11_shed_102 (by decide) ?_
          refine e_iret dX11_shed_124 rfl ?_
          refine ⟨?_, hC1⟩
          unfold shedQ
          rw [if_pos hsh10, nI_clamp (by omega)]
          rcases (show q = 0 ∨ q = 1 ∨ q = 2 ∨ q = 3 ∨ q = 4 ∨ q = 5 ∨ q = 6 by omega) with rfl | rfl | rfl | rfl | rfl | rfl | rfl <;> first | rfl | exact absurd c28 (by decide) | exact absurd c89 (by decide)
      · -- 28 goes on
        refine e_iload_n dX11_shed_31 rfl ?_
        refine e_if_ne (tgt := 44) dX11_shed_32 (by decide) (fun c32 => ?_) (fun c32 => ?_)
        · -- 32 jumps
          refine e_iload_n dX11_shed_44 rfl ?_
          refine e_iconst (v := 1) dX11_shed_45 (by decide) ?_
          refine e_icmp_ne (tgt := 60) dX11_shed_46 (by decide) (fun c46 => ?_) (fun c46 => ?_)
          · -- 46 jumps
            refine e_iload_n dX11_shed_60 rfl ?_
            refine e_iconst (v := 2) dX11_shed_61 (by decide) ?_
            refine e_icmp_ne (tgt := 77) dX11_shed_62 (by decide) (fun c62 => ?_) (fun c62 => ?_)
            · -- 62 jumps
              refine e_aload_n dX11_shed_77 rfl ?_
              refine e_getR dX11_shed_78 fl_X11_114 sh_m rfl ?_
              refine e_bipush (v := 14) dX11_shed_81 (by decide) ?_
              refine e_iload_n dX11_shed_83 rfl ?_
              refine e_iaddN (a := 14) (b := j) dX11_shed_84 ?_
              refine e_ialdN (j := (14 + j)) dX11_shed_85 (sa_m_s) (by decide) (by omega) ?_
              rw [hS.hi hj]
              refine e_iret dX11_shed_86 rfl ?_
              refine ⟨?_, hC1⟩
              unfold shedQ
              rw [if_pos hsh10, nI_clamp (by omega)]
              rcases (show q = 0 ∨ q = 1 ∨ q = 2 ∨ q = 3 ∨ q = 4 ∨ q = 5 ∨ q = 6 by omega) with rfl | rfl | rfl | rfl | rfl | rfl | rfl <;> first | rfl | exact absurd c28 (by decide) | exact absurd c32 (by decide) | exact absurd c46 (by decide) | exact absurd c62 (by decide)
            · -- 62 goes on
              refine e_aload_n dX11_shed_65 rfl ?_
              refine e_getR dX11_shed_66 fl_X11_114 sh_m rfl ?_
              refine e_bipush (v := 8) dX11_shed_69 (by decide) ?_
              refine e_iload_n dX11_shed_71 rfl ?_
              refine e_iaddN (a := 8) (b := j) dX11_shed_72 ?_
              refine e_ialdN (j := (8 + j)) dX11_shed_73 (sa_m_s) (by decide) (by omega) ?_
              rw [hS.cr hj]
              refine e_goto (tgt := 86) dX11_shed_74 (by decide) ?_
              refine e_iret dX11_shed_86 rfl ?_
              refine ⟨?_, hC1⟩
              unfold shedQ
              rw [if_pos hsh10, nI_clamp (by omega)]
              rcases (show q = 0 ∨ q = 1 ∨ q = 2 ∨ q = 3 ∨ q = 4 ∨ q = 5 ∨ q = 6 by omega) with rfl | rfl | rfl | rfl | rfl | rfl | rfl <;> first | rfl | exact absurd c28 (by decide) | exact absurd c32 (by decide) | exact absurd c46 (by decide) | exact absurd c62 (by decide)
          · -- 46 goes on
            refine e_aload_n dX11_shed_49 rfl ?_
            refine e_getR dX11_shed_50 fl_X11_114 sh_m rfl ?_
            refine e_iconst (v := 2) dX11_shed_53 (by decide) ?_
            refine e_iload_n dX11_shed_54 rfl ?_
            refine e_iaddN (a := 2) (b := j) dX11_shed_55 ?_
            refine e_ialdN (j := (2 + j)) dX11_shed_56 (sa_m_s) (by decide) (by omega) ?_
            rw [hS.ht hj]
            refine e_goto (tgt := 86) dX11_shed_57 (by decide) ?_
            refine e_iret dX11_shed_86 rfl ?_
            refine ⟨?_, hC1⟩
            unfold shedQ
            rw [if_pos hsh10, nI_clamp (by omega)]
            rcases (show q = 0 ∨ q = 1 ∨ q = 2 ∨ q = 3 ∨ q = 4 ∨ q = 5 ∨ q = 6 by omega) with rfl | rfl | rfl | rfl | rfl | rfl | rfl <;> first | rfl | exact absurd c28 (by decide) | exact absurd c32 (by decide) | exact absurd c46 (by decide)
        · -- 32 goes on
          refine e_aload_n dX11_shed_35 rfl ?_
          refine e_getR dX11_shed_36 fl_X11_23 sh_m rfl ?_
          refine e_iload_n dX11_shed_39 rfl ?_
          refine e_ialdN (j := j) dX11_shed_40 (sa_m_kind) (by decide) (by omega) ?_
          rw [(hY.2.2.2.2.1 j hj).1]
          refine e_goto (tgt := 86) dX11_shed_41 (by decide) ?_
          refine e_iret dX11_shed_86 rfl ?_
          refine ⟨?_, hC1⟩
          unfold shedQ
          rw [if_pos hsh10, nI_clamp (by omega)]
          rcases (show q = 0 ∨ q = 1 ∨ q = 2 ∨ q = 3 ∨ q = 4 ∨ q = 5 ∨ q = 6 by omega) with rfl | rfl | rfl | rfl | rfl | rfl | rfl <;> first | rfl | exact absurd c28 (by decide) | exact absurd c32 (by decide)
    · -- 20 goes on
      refine e_bipush (v := (-2)) dX11_shed_23 (by decide) ?_
      refine e_iret dX11_shed_25 rfl ?_
      refine ⟨?_, hC1⟩
      have hn := b2i_eq0.mp c20
      unfold shedQ
      rw [if_pos hsh10, if_neg (fun e => hn (by rw [e]; decide)), if_neg (fun e => hn (by rw [e]; decide)), if_neg (fun e => hn (by rw [e]; decide)), if_neg (fun e => hn (by rw [e]; decide)), if_neg (fun e => hn (by rw [e]; decide)), if_neg (fun e => hn (by rw [e]; decide)), if_neg (fun e => hn (by rw [e]; decide))]
set_option maxHeartbeats 4000000 in
set_option maxRecDepth 20000 in
theorem r_stage {G : Gt} {M : Mm} {E : Gs} (hJ : RJ M E) {i v : Int32} : Call G 2 mX11_stage [.ref 238, .int i, .int v] M (fun r M' => r = some (.int (stageQ E i v)) ∧ RC M M') := by
  refine Call.intro rfl (Nat.le_of_ble_eq_true rfl) ?_
  show Ev G _ mX11_stage 0 [.ref 238, .int i, .int v] [] M _
  refine e_aload_n dX11_stage_0 rfl ?_
  refine e_iconst (v := 0) dX11_stage_1 (by decide) ?_
  refine e_putI dX11_stage_2 fl_X11_153 sh_m rfl rfl rfl ?_
  refine th0 (fun M1 hC1 => ?_)
  have hJ := hC1.keep hJ
  have hY := hJ.1
  have h6 := hY.1.2
  have hs5 := hY.2.1.2
  have hL := hJ.2.1
  have hS := hJ.2.2.1
  refine e_aload_n dX11_stage_5 rfl ?_
  refine e_iload_n dX11_stage_6 rfl ?_
  refine cV1r dX11_stage_7 mo_X11_isStage ml_X11_400 sh_m rfl (Nat.le_of_ble_eq_true rfl) (by omega) (r_isStage (by assumption)) ?_
  refine e_if_eq (tgt := 22) dX11_stage_10 (by decide) (fun c10 => ?_) (fun c10 => ?_)
  · -- 10 jumps
    refine e_iconst (v := (-1)) dX11_stage_22 (by decide) ?_
    refine e_iret dX11_stage_23 rfl ?_
    exact ⟨by unfold stageQ; rw [if_neg (b2i_eq0.mp c10)], hC1⟩
  · -- 10 goes on
    have hsh10 : ¬ i < 0 ∧ i < nI E.Y.ns := by
      by_cases h : (¬ i < 0 ∧ i < nI E.Y.ns)
      · exact h
      · exact absurd (b2i_f h) c10
    obtain ⟨j, hj, rfl⟩ := shed_of (by omega) hsh10
    refine e_iload_n dX11_stage_13 rfl ?_
    refine e_iconst (v := 0) dX11_stage_14 (by decide) ?_
    refine e_iconst (v := 1) dX11_stage_15 (by decide) ?_
    refine cS3r dX11_stage_16 mo_X11_within ml_X11_274 (Nat.le_of_ble_eq_true rfl) (by omega) (r_within) ?_
    refine e_if_ne (tgt := 24) dX11_stage_19 (by decide) (fun c19 => ?_) (fun c19 => ?_)
    · -- 19 jumps
      have c19 : vWi v 0 1 := by
        by_cases h : (vWi v 0 1)
        · exact h
        · exact absurd (b2i_f h) c19
      obtain ⟨q, hq6, -, rfl⟩ := wi_of (a := 0) (b := 1) (by decide) (by decide) c19
      refine e_iload_n dX11_stage_24 rfl ?_
      refine e_if_ne (tgt := 37) dX11_stage_25 (by decide) (fun c25 => ?_) (fun c25 => ?_)
      · -- 25 jumps
        refine e_aload_n dX11_stage_37 rfl ?_
        refine e_getR dX11_stage_38 fl_X11_38 sh_m rfl ?_
        refine e_iload_n dX11_stage_41 rfl ?_
        refine e_ialdN (j := j) dX11_stage_42 (sa_m_wantsTo) (by decide) (by omega) ?_
        rw [(hY.2.2.2.2.2.1 j hj).2.1]
        refine e_iret dX11_stage_43 rfl ?_
        refine ⟨?_, hC1⟩
        unfold stageQ
        rw [if_pos hsh10, nI_clamp (by omega)]
        rcases (show q = 0 ∨ q = 1 by omega) with rfl | rfl <;> first | rfl | exact absurd c25 (by decide)
      · -- 25 goes on
        refine e_aload_n dX11_stage_28 rfl ?_
        refine e_getR dX11_stage_29 fl_X11_35 sh_m rfl ?_
        refine e_iload_n dX11_stage_32 rfl ?_
        refine e_ialdN (j := j) dX11_stage_33 (sa_m_wantsFrom) (by decide) (by omega) ?_
        rw [(hY.2.2.2.2.2.1 j hj).1]
        refine e_goto (tgt := 43) dX11_stage_34 (by decide) ?_
        refine e_iret dX11_stage_43 rfl ?_
        refine ⟨?_, hC1⟩
        unfold stageQ
        rw [if_pos hsh10, nI_clamp (by omega)]
        rcases (show q = 0 ∨ q = 1 by omega) with rfl | rfl <;> first | rfl | exact absurd c25 (by decide)
    · -- 19 goes on
      refine e_iconst (v := (-1)) dX11_stage_22 (by decide) ?_
      refine e_iret dX11_stage_23 rfl ?_
      refine ⟨?_, hC1⟩
      have hn := b2i_eq0.mp c19
      unfold stageQ
      rw [if_pos hsh10, if_neg (fun e => hn (by rw [e]; decide)), if_neg (fun e => hn (by rw [e]; decide))]
set_option maxHeartbeats 4000000 in
set_option maxRecDepth 20000 in
theorem l_rriots {G : Gt} {M : Mm} {Y : Yv} {S : Sv} (hY : RY M Y) (hS : RW M 273 0 Y.n S) : ∀ (k : Nat) (i : Nat) , (i ≤ Y.n) → (Y.n < i + k) → Ev G 3 mX11_riotsNow 4 [.ref 238, .int (setB (fun j => !decide (murS S j < 60)) i), .int (nI i)] [] M (eqQ (some (.int (riotsV Y S))) M) := by
  intro k
  induction k with
  | zero => intro i hi hk; exact absurd hk (by omega)
  | succ k ih =>
    intro i hi hk
    have h6 := hY.1.2
    refine e_iload_n dX11_riotsNow_4 rfl ?_
    refine e_aload_n dX11_riotsNow_5 rfl ?_
    refine e_getR dX11_riotsNow_6 fl_X11_13 sh_m rfl ?_
    refine e_iconst (v := 0) dX11_riotsNow_9 (by decide) ?_
    refine e_ialdN (j := 0) dX11_riotsNow_10 (sa_m_yard) (by decide) (by omega) ?_
    rw [hY.1.1]
    refine e_icmp_ge (tgt := 40) dX11_riotsNow_11 (by decide) (fun c11 => ?_) (fun c11 => ?_)
    · -- 11 jumps
      have hin : i = Y.n := by have := ge_of (n := Y.n) (by omega) (by omega) c11; omega
      subst hin
      refine e_iload_n dX11_riotsNow_40 rfl ?_
      refine e_iret dX11_riotsNow_41 rfl ?_
      exact ⟨rfl, rfl⟩
    · -- 11 goes on
      have hlt : i < Y.n := lt_of (n := Y.n) (by omega) (by omega) c11
      refine e_iload_n dX11_riotsNow_14 rfl ?_
      refine e_aload_n dX11_riotsNow_15 rfl ?_
      refine e_iload_n dX11_riotsNow_16 rfl ?_
      refine cV1r dX11_riotsNow_17 mo_X11_murmurOf ml_X11_394 sh_m rfl (Nat.le_of_ble_eq_true rfl) (by omega) (r_murmurOf hY hS hlt) ?_
      refine e_bipush (v := 60) dX11_riotsNow_20 (by decide) ?_
      refine e_icmp_lt (tgt := 31) dX11_riotsNow_22 (by decide) (fun c22 => ?_) (fun c22 => ?_)
      · -- 22 jumps
        refine e_iconst (v := 0) dX11_riotsNow_31 (by decide) ?_
        refine e_ior dX11_riotsNow_32 ?_
        refine e_istore_n (ls' := [_, _, _]) dX11_riotsNow_33 (by decide) rfl ?_
        refine e_iinc (ls' := [_, _, _]) dX11_riotsNow_34 rfl (nI_i1 _) (by decide) rfl ?_
        refine e_goto (tgt := 4) dX11_riotsNow_37 (by decide) ?_
        have hh := ih (i + 1) (by omega) (by omega)
        rw [setB_f (by rw [decide_eq_true c22]; rfl)] at hh
        rw [Int32.or_zero]
        exact hh
      · -- 22 goes on
        refine e_iconst (v := 1) dX11_riotsNow_25 (by decide) ?_
        refine e_iload_n dX11_riotsNow_26 rfl ?_
        refine e_ishl dX11_riotsNow_27 ?_
        refine e_goto (tgt := 32) dX11_riotsNow_28 (by decide) ?_
        refine e_ior dX11_riotsNow_32 ?_
        refine e_istore_n (ls' := [_, _, _]) dX11_riotsNow_33 (by decide) rfl ?_
        refine e_iinc (ls' := [_, _, _]) dX11_riotsNow_34 rfl (nI_i1 _) (by decide) rfl ?_
        refine e_goto (tgt := 4) dX11_riotsNow_37 (by decide) ?_
        have hh := ih (i + 1) (by omega) (by omega)
        rw [setB_t (by rw [decide_eq_false c22]; rfl)] at hh
        exact hh
set_option maxHeartbeats 4000000 in
set_option maxRecDepth 20000 in
theorem r_riotsNow {G : Gt} {M : Mm} {Y : Yv} {S : Sv} (hY : RY M Y) (hS : RW M 273 0 Y.n S) : Call G 3 mX11_riotsNow [.ref 238] M (eqQ (some (.int (riotsV Y S))) M) := by
  refine Call.intro rfl (Nat.le_of_ble_eq_true rfl) ?_
  show Ev G _ mX11_riotsNow 0 [.ref 238, RA, RA] [] M _
  refine e_iconst (v := 0) dX11_riotsNow_0 (by decide) ?_
  refine e_istore_n (ls' := [_, _, _]) dX11_riotsNow_1 (by decide) rfl ?_
  refine e_iconst (v := 0) dX11_riotsNow_2 (by decide) ?_
  refine e_istore_n (ls' := [_, _, _]) dX11_riotsNow_3 (by decide) rfl ?_
  have h6 := hY.1.2
  exact l_rriots hY hS (Y.n + 1) 0 (by omega) (by omega)
set_option maxHeartbeats 4000000 in
set_option maxRecDepth 20000 in
theorem r_count {G : Gt} {M : Mm} {E : Gs} (hJ : RJ M E) {T : Nat} (hI : SI E.Y E.S T) (hTT : T < 2 ^ 31) {v : Int32} : Call G 4 mX11_count [.ref 238, .int v] M (fun r M' => r = some (.int (countQ E v)) ∧ RC M M') := by
  refine Call.intro rfl (Nat.le_of_ble_eq_true rfl) ?_
  show Ev G _ mX11_count 0 [.ref 238, .int v] [] M _
  refine e_aload_n dX11_count_0 rfl ?_
  refine e_iconst (v := 0) dX11_count_1 (by decide) ?_
  refine e_putI dX11_count_2 fl_X11_153 sh_m rfl rfl rfl ?_
  refine th0 (fun M1 hC1 => ?_)
  have hJ := hC1.keep hJ
  have hY := hJ.1
  have h6 := hY.1.2
  have hs5 := hY.2.1.2
  have hL := hJ.2.1
  have hS := hJ.2.2.1
  refine e_iload_n dX11_count_5 rfl ?_
  refine e_iconst (v := 0) dX11_count_6 (by decide) ?_
  refine e_bipush (v := 11) dX11_count_7 (by decide) ?_
  refine cS3r dX11_count_9 mo_X11_within ml_X11_274 (Nat.le_of_ble_eq_true rfl) (by omega) (r_within) ?_
  refine e_if_ne (tgt := 17) dX11_count_12 (by decide) (fun c12 => ?_) (fun c12 => ?_)
  · -- 12 jumps
    have c12 : vWi v 0 11 := by
      by_cases h : (vWi v 0 11)
      · exact h
      · exact absurd (b2i_f h) c12
    obtain ⟨q, hq6, -, rfl⟩ := wi_of (a := 0) (b := 11) (by decide) (by decide) c12
    obtain ⟨r0, hr0, hr6, hs0, t, ht, htT⟩ := hI
    refine e_iload_n dX11_count_17 rfl ?_
    refine e_iconst (v := 2) dX11_count_18 (by decide) ?_
    refine e_icmp_ge (tgt := 29) dX11_count_19 (by decide) (fun c19 => ?_) (fun c19 => ?_)
    · -- 19 jumps
      refine e_iload_n dX11_count_29 rfl ?_
      refine e_iconst (v := 5) dX11_count_30 (by decide) ?_
      refine e_icmp_ge (tgt := 73) dX11_count_31 (by decide) (fun c31 => ?_) (fun c31 => ?_)
      · -- 31 jumps
        refine e_iload_n dX11_count_73 rfl ?_
        refine e_bipush (v := 8) dX11_count_74 (by decide) ?_
        refine e_icmp_ge (tgt := 111) dX11_count_76 (by decide) (fun c76 => ?_) (fun c76 => ?_)
        · -- 76 jumps
          refine e_iload_n dX11_count_111 rfl ?_
          refine e_bipush (v := 10) dX11_count_112 (by decide) ?_
          refine e_icmp_ge (tgt := 139) dX11_count_114 (by decide) (fun c114 => ?_) (fun c114 => ?_)
          · -- 114 jumps
            refine e_iload_n dX11_count_139 rfl ?_
            refine e_bipush (v := 10) dX11_count_140 (by decide) ?_
            refine e_icmp_ne (tgt := 152) dX11_count_142 (by decide) (fun c142 => ?_) (fun c142 => ?_)
            · -- 142 jumps
              refine e_aload_n dX11_count_152 rfl ?_
              refine e_getI dX11_count_153 fl_X11_159 sh_m rfl ?_
              rw [hJ.2.2.2.2.2.2.2.1]
              refine e_iret dX11_count_156 rfl ?_
              refine ⟨?_, hC1⟩
              unfold countQ
              rcases (show q = 0 ∨ q = 1 ∨ q = 2 ∨ q = 3 ∨ q = 4 ∨ q = 5 ∨ q = 6 ∨ q = 7 ∨ q = 8 ∨ q = 9 ∨ q = 10 ∨ q = 11 by omega) with rfl | rfl | rfl | rfl | rfl | rfl | rfl | rfl | rfl | rfl | rfl | rfl <;> first | rfl | exact absurd c19 (by decide) | exact absurd c31 (by decide) | exact absurd c76 (by decide) | exact absurd c114 (by decide) | exact absurd c142 (by decide) | exact congrArg (fun z => some (Value.int z)) hY.1.1 | exact congrArg (fun z => some (Value.int z)) hY.2.1.1
            · -- 142 goes on
              refine e_aload_n dX11_count_145 rfl ?_
              refine e_getI dX11_count_146 fl_X11_353 sh_m rfl ?_
              rw [hJ.2.2.2.2.2.2.1.1]
              refine e_goto (tgt := 156) dX11_count_149 (by decide) ?_
              refine e_iret dX11_count_156 rfl ?_
              refine ⟨?_, hC1⟩
              unfold countQ
              rcases (show q = 0 ∨ q = 1 ∨ q = 2 ∨ q = 3 ∨ q = 4 ∨ q = 5 ∨ q = 6 ∨ q = 7 ∨ q = 8 ∨ q = 9 ∨ q = 10 ∨ q = 11 by omega) with rfl | rfl | rfl | rfl | rfl | rfl | rfl | rfl | rfl | rfl | rfl | rfl <;> first | rfl | exact absurd c19 (by decide) | exact absurd c31 (by decide) | exact absurd c76 (by decide) | exact absurd c114 (by decide) | exact absurd c142 (by decide) | exact congrArg (fun z => some (Value.int z)) hY.1.1 | exact congrArg (fun z => some (Value.int z)) hY.2.1.1
          · -- 114 goes on
            refine e_iload_n dX11_count_117 rfl ?_
            refine e_bipush (v := 8) dX11_count_118 (by decide) ?_
            refine e_icmp_ne (tgt := 132) dX11_count_120 (by decide) (fun c120 => ?_) (fun c120 => ?_)
            · -- 120 jumps
              refine e_aload_n dX11_count_132 rfl ?_
              refine e_getR dX11_count_133 fl_X11_102 sh_m rfl ?_
              refine e_iconst (v := 0) dX11_count_136 (by decide) ?_
              refine e_ialdN (j := 0) dX11_count_137 (sa_m_seens) (by decide) (by omega) ?_
              rw [hJ.2.2.2.2.1.1]
              refine e_iret dX11_count_138 rfl ?_
              refine ⟨?_, hC1⟩
              unfold countQ
              rcases (show q = 0 ∨ q = 1 ∨ q = 2 ∨ q = 3 ∨ q = 4 ∨ q = 5 ∨ q = 6 ∨ q = 7 ∨ q = 8 ∨ q = 9 ∨ q = 10 ∨ q = 11 by omega) with rfl | rfl | rfl | rfl | rfl | rfl | rfl | rfl | rfl | rfl | rfl | rfl <;> first | rfl | exact absurd c19 (by decide) | exact absurd c31 (by decide) | exact absurd c76 (by decide) | exact absurd c114 (by decide) | exact absurd c120 (by decide) | exact congrArg (fun z => some (Value.int z)) hY.1.1 | exact congrArg (fun z => some (Value.int z)) hY.2.1.1
            · -- 120 goes on
              refine e_aload_n dX11_count_123 rfl ?_
              refine e_getR dX11_count_124 fl_X11_90 sh_m rfl ?_
              refine e_iconst (v := 0) dX11_count_127 (by decide) ?_
              refine e_ialdN (j := 0) dX11_count_128 (sa_m_lines) (by decide) (by omega) ?_
              rw [hJ.2.2.2.1.1]
              refine e_goto (tgt := 138) dX11_count_129 (by decide) ?_
              refine e_iret dX11_count_138 rfl ?_
              refine ⟨?_, hC1⟩
              unfold countQ
              rcases (show q = 0 ∨ q = 1 ∨ q = 2 ∨ q = 3 ∨ q = 4 ∨ q = 5 ∨ q = 6 ∨ q = 7 ∨ q = 8 ∨ q = 9 ∨ q = 10 ∨ q = 11 by omega) with rfl | rfl | rfl | rfl | rfl | rfl | rfl | rfl | rfl | rfl | rfl | rfl <;> first | rfl | exact absurd c19 (by decide) | exact absurd c31 (by decide) | exact absurd c76 (by decide) | exact absurd c114 (by decide) | exact absurd c120 (by decide) | exact congrArg (fun z => some (Value.int z)) hY.1.1 | exact congrArg (fun z => some (Value.int z)) hY.2.1.1
        · -- 76 goes on
          refine e_iload_n dX11_count_79 rfl ?_
          refine e_iconst (v := 5) dX11_count_80 (by decide) ?_
          refine e_icmp_ne (tgt := 91) dX11_count_81 (by decide) (fun c81 => ?_) (fun c81 => ?_)
          · -- 81 jumps
            refine e_iload_n dX11_count_91 rfl ?_
            refine e_bipush (v := 6) dX11_count_92 (by decide) ?_
            refine e_icmp_ne (tgt := 106) dX11_count_94 (by decide) (fun c94 => ?_) (fun c94 => ?_)
            · -- 94 jumps
              refine e_aload_n dX11_count_106 rfl ?_
              refine cV0r dX11_count_107 mo_X11_riotsNow ml_X11_496 sh_m rfl (Nat.le_of_ble_eq_true rfl) (by omega) (r_riotsNow hY hS) ?_
              refine e_iret dX11_count_110 rfl ?_
              refine ⟨?_, hC1⟩
              unfold countQ
              rcases (show q = 0 ∨ q = 1 ∨ q = 2 ∨ q = 3 ∨ q = 4 ∨ q = 5 ∨ q = 6 ∨ q = 7 ∨ q = 8 ∨ q = 9 ∨ q = 10 ∨ q = 11 by omega) with rfl | rfl | rfl | rfl | rfl | rfl | rfl | rfl | rfl | rfl | rfl | rfl <;> first | rfl | exact absurd c19 (by decide) | exact absurd c31 (by decide) | exact absurd c76 (by decide) | exact absurd c81 (by decide) | exact absurd c94 (by decide) | exact congrArg (fun z => some (Value.int z)) hY.1.1 | exact congrArg (fun z => some (Value.int z)) hY.2.1.1
            · -- 94 goes on
              refine e_aload_n dX11_count_97 rfl ?_
              refine e_getR dX11_count_98 fl_X11_114 sh_m rfl ?_
              refine e_iconst (v := 1) dX11_count_101 (by decide) ?_
              refine e_ialdN (j := 1) dX11_count_102 (sa_m_s) (by decide) (by omega) ?_
              rw [hS.li]
              refine e_goto (tgt := 110) dX11_count_103 (by decide) ?_
              refine e_iret dX11_count_110 rfl ?_
              refine ⟨?_, hC1⟩
              unfold countQ
              rcases (show q = 0 ∨ q = 1 ∨ q = 2 ∨ q = 3 ∨ q = 4 ∨ q = 5 ∨ q = 6 ∨ q = 7 ∨ q = 8 ∨ q = 9 ∨ q = 10 ∨ q = 11 by omega) with rfl | rfl | rfl | rfl | rfl | rfl | rfl | rfl | rfl | rfl | rfl | rfl <;> first | rfl | exact absurd c19 (by decide) | exact absurd c31 (by decide) | exact absurd c76 (by decide) | exact absurd c81 (by decide) | exact absurd c94 (by decide) | exact congrArg (fun z => some (Value.int z)) hY.1.1 | exact congrArg (fun z => some (Value.int z)) hY.2.1.1
          · -- 81 goes on
            refine e_aload_n dX11_count_84 rfl ?_
            refine cV0r dX11_count_85 mo_X11_allCrowns ml_X11_419 sh_m rfl (Nat.le_of_ble_eq_true rfl) (by omega) (r_allCrowns hS h6) ?_
            refine e_goto (tgt := 110) dX11_count_88 (by decide) ?_
            refine e_iret dX11_count_110 rfl ?_
            refine ⟨?_, hC1⟩
            unfold countQ
            rcases (show q = 0 ∨ q = 1 ∨ q = 2 ∨ q = 3 ∨ q = 4 ∨ q = 5 ∨ q = 6 ∨ q = 7 ∨ q = 8 ∨ q = 9 ∨ q = 10 ∨ q = 11 by omega) with rfl | rfl | rfl | rfl | rfl | rfl | rfl | rfl | rfl | rfl | rfl | rfl <;> first | rfl | exact absurd c19 (by decide) | exact absurd c31 (by decide) | exact absurd c76 (by decide) | exact absurd c81 (by decide) | exact congrArg (fun z => some (Value.int z)) hY.1.1 | exact congrArg (fun z => some (Value.int z)) hY.2.1.1
      · -- 31 goes on
        refine e_iload_n dX11_count_34 rfl ?_
        refine e_iconst (v := 2) dX11_count_35 (by decide) ?_
        refine e_icmp_ne (tgt := 48) dX11_count_36 (by decide) (fun c36 => ?_) (fun c36 => ?_)
        · -- 36 jumps
          refine e_iload_n dX11_count_48 rfl ?_
          refine e_iconst (v := 3) dX11_count_49 (by decide) ?_
          refine e_icmp_ne (tgt := 66) dX11_count_50 (by decide) (fun c50 => ?_) (fun c50 => ?_)
          · -- 50 jumps
            refine e_aload_n dX11_count_66 rfl ?_
            refine e_getR dX11_count_67 fl_X11_13 sh_m rfl ?_
            refine e_iconst (v := 3) dX11_count_70 (by decide) ?_
            refine e_ialdN (j := 3) dX11_count_71 (sa_m_yard) (by decide) (by omega) ?_
            rw [hY.2.2.2.1]
            refine e_iret dX11_count_72 rfl ?_
            refine ⟨?_, hC1⟩
            unfold countQ
            rcases (show q = 0 ∨ q = 1 ∨ q = 2 ∨ q = 3 ∨ q = 4 ∨ q = 5 ∨ q = 6 ∨ q = 7 ∨ q = 8 ∨ q = 9 ∨ q = 10 ∨ q = 11 by omega) with rfl | rfl | rfl | rfl | rfl | rfl | rfl | rfl | rfl | rfl | rfl | rfl <;> first | rfl | exact absurd c19 (by decide) | exact absurd c31 (by decide) | exact absurd c36 (by decide) | exact absurd c50 (by decide) | exact congrArg (fun z => some (Value.int z)) hY.1.1 | exact congrArg (fun z => some (Value.int z)) hY.2.1.1
          · -- 50 goes on
            refine e_aload_n dX11_count_53 rfl ?_
            refine e_aload_n dX11_count_54 rfl ?_
            refine e_getR dX11_count_55 fl_X11_114 sh_m rfl ?_
            refine e_iconst (v := 0) dX11_count_58 (by decide) ?_
            refine e_ialdN (j := 0) dX11_count_59 (sa_m_s) (by decide) (by omega) ?_
            rw [hS.ni, ht]
            refine cV1r dX11_count_60 mo_X11_frostOf ml_X11_388 sh_m rfl (Nat.le_of_ble_eq_true rfl) (by omega) (r_frostOf hY (t := t) (by omega)) ?_
            rw [← ht]
            refine e_goto (tgt := 72) dX11_count_63 (by decide) ?_
            refine e_iret dX11_count_72 rfl ?_
            refine ⟨?_, hC1⟩
            unfold countQ
            rcases (show q = 0 ∨ q = 1 ∨ q = 2 ∨ q = 3 ∨ q = 4 ∨ q = 5 ∨ q = 6 ∨ q = 7 ∨ q = 8 ∨ q = 9 ∨ q = 10 ∨ q = 11 by omega) with rfl | rfl | rfl | rfl | rfl | rfl | rfl | rfl | rfl | rfl | rfl | rfl <;> first | rfl | exact absurd c19 (by decide) | exact absurd c31 (by decide) | exact absurd c36 (by decide) | exact absurd c50 (by decide) | exact congrArg (fun z => some (Value.int z)) hY.1.1 | exact congrArg (fun z => some (Value.int z)) hY.2.1.1
        · -- 36 goes on
          refine e_aload_n dX11_count_39 rfl ?_
          refine e_getR dX11_count_40 fl_X11_114 sh_m rfl ?_
          refine e_iconst (v := 0) dX11_count_43 (by decide) ?_
          refine e_ialdN (j := 0) dX11_count_44 (sa_m_s) (by decide) (by omega) ?_
          rw [hS.ni]
          refine e_goto (tgt := 72) dX11_count_45 (by decide) ?_
          refine e_iret dX11_count_72 rfl ?_
          refine ⟨?_, hC1⟩
          unfold countQ
          rcases (show q = 0 ∨ q = 1 ∨ q = 2 ∨ q = 3 ∨ q = 4 ∨ q = 5 ∨ q = 6 ∨ q = 7 ∨ q = 8 ∨ q = 9 ∨ q = 10 ∨ q = 11 by omega) with rfl | rfl | rfl | rfl | rfl | rfl | rfl | rfl | rfl | rfl | rfl | rfl <;> first | rfl | exact absurd c19 (by decide) | exact absurd c31 (by decide) | exact absurd c36 (by decide) | exact congrArg (fun z => some (Value.int z)) hY.1.1 | exact congrArg (fun z => some (Value.int z)) hY.2.1.1
    · -- 19 goes on
      have hq2 : q < 2 := (nI_ltI (b := 2) (by omega) (by omega)).mp c19
      refine e_aload_n dX11_count_22 rfl ?_
      refine e_getR dX11_count_23 fl_X11_13 sh_m rfl ?_
      refine e_iload_n dX11_count_26 rfl ?_
      refine e_ialdN (j := q) dX11_count_27 (sa_m_yard) (by decide) (by omega) ?_
      refine e_iret dX11_count_28 rfl ?_
      refine ⟨?_, hC1⟩
      unfold countQ
      rcases (show q = 0 ∨ q = 1 ∨ q = 2 ∨ q = 3 ∨ q = 4 ∨ q = 5 ∨ q = 6 ∨ q = 7 ∨ q = 8 ∨ q = 9 ∨ q = 10 ∨ q = 11 by omega) with rfl | rfl | rfl | rfl | rfl | rfl | rfl | rfl | rfl | rfl | rfl | rfl <;> first | rfl | exact absurd c19 (by decide) | exact congrArg (fun z => some (Value.int z)) hY.1.1 | exact congrArg (fun z => some (Value.int z)) hY.2.1.1
  · -- 12 goes on
    refine e_iconst (v := (-1)) dX11_count_15 (by decide) ?_
    refine e_iret dX11_count_16 rfl ?_
    refine ⟨?_, hC1⟩
    have hn := b2i_eq0.mp c12
    unfold countQ
    rw [if_neg (fun e => hn (by rw [e]; decide)), if_neg (fun e => hn (by rw [e]; decide)), if_neg (fun e => hn (by rw [e]; decide)), if_neg (fun e => hn (by rw [e]; decide)), if_neg (fun e => hn (by rw [e]; decide)), if_neg (fun e => hn (by rw [e]; decide)), if_neg (fun e => hn (by rw [e]; decide)), if_neg (fun e => hn (by rw [e]; decide)), if_neg (fun e => hn (by rw [e]; decide)), if_neg (fun e => hn (by rw [e]; decide)), if_neg (fun e => hn (by rw [e]; decide)), if_neg (fun e => hn (by rw [e]; decide))]
set_option maxHeartbeats 4000000 in
set_option maxRecDepth 20000 in
theorem x_rpops {G : Gt} {M Mc : Mm} {E : Gs} {S : Sv} {x z : Int32} {u : Value} (hT : TB 275 M Mc E.Y.n S) : Ev G 7 mX11_popsOf 52 [.ref 238, .int x, .int z, u] [] Mc (fun r M' => r = some (.int z) ∧ RC M M' ∧ M'.1 238 57 = Mc.1 238 57) := by
  refine e_aload_n dX11_popsOf_52 rfl ?_
  refine e_getR dX11_popsOf_53 fl_X11_120 sh_m rfl ?_
  refine e_iconst (v := 0) dX11_popsOf_56 (by decide) ?_
  refine e_aload_n dX11_popsOf_57 rfl ?_
  refine e_getR dX11_popsOf_58 fl_X11_114 sh_m rfl ?_
  refine e_iconst (v := 0) dX11_popsOf_61 (by decide) ?_
  refine cS4v dX11_popsOf_62 mo_X11_copies ml_X11_403 (Nat.le_of_ble_eq_true rfl) (by omega) (r_copies (p := 0) (b := 0) (sa_m_before) (sa_m_s) (by omega) (by omega) (by decide) (by decide) (by decide)) ?_
  refine e_iload_n dX11_popsOf_65 rfl ?_
  refine e_iret dX11_popsOf_66 rfl ?_
  exact ⟨rfl, hT.back, by rw [cpR_ne (by decide)]⟩
set_option maxHeartbeats 4000000 in
set_option maxRecDepth 20000 in
theorem x_rpopsF {G : Gt} {M Mc : Mm} {E : Gs} {S : Sv} {x : Int32} {t m : Nat} (ht : t ≤ 60) (hm : m ≤ 61) (hT : TB 275 M Mc E.Y.n S) : Ev G 7 mX11_popsOf 17 [.ref 238, .int x, .int (nI t), .int (nI m)] [] Mc (fun r M' => r = some (.int (nI t)) ∧ RC M M' ∧ M'.1 238 57 = Mc.1 238 57) := by
  refine e_iload_n dX11_popsOf_17 rfl ?_
  refine e_bipush (v := 60) dX11_popsOf_18 (by decide) ?_
  refine e_icmp_gt (tgt := 52) dX11_popsOf_20 (by decide) (fun c20 => ?_) (fun c20 => ?_)
  · -- 20 jumps
    exact x_rpops hT
  · -- 20 goes on
    refine e_iload_n dX11_popsOf_23 rfl ?_
    refine e_if_ge (tgt := 52) dX11_popsOf_24 (by decide) (fun c24 => ?_) (fun c24 => absurd c24 (fun z => absurd ((nI_ltI (b := 0) (by omega) (by omega)).mp z) (by omega)))
    exact x_rpops hT
set_option maxHeartbeats 4000000 in
set_option maxRecDepth 20000 in
theorem l_rpops {G : Gt} {M : Mm} {E : Gs} (hJ : RJ M E) {T : Nat} (hI : SI E.Y E.S T) (hTT : T < 2 ^ 30) (hN : NS E.Y) {x : Int32} : ∀ (k : Nat) (i : Nat) (Mc : Mm), (1 ≤ i) → (i ≤ 61) → (61 < i + k) → (fstN (fun t => !decide (popN E.Y (itN E.Y E.S (t - 1)) &&& x = 0)) 1 60 = fstN (fun t => !decide (popN E.Y (itN E.Y E.S (t - 1)) &&& x = 0)) i (61 - i)) → (TR 275 M Mc E.Y E.S (i - 1)) → Ev G 7 mX11_popsOf 17 [.ref 238, .int x, .int (-1), .int (nI i)] [] Mc (fun r M' => r = some (.int (oI (fstN (fun t => !decide (popN E.Y (itN E.Y E.S (t - 1)) &&& x = 0)) 1 60))) ∧ RC M M' ∧ ∀ t, fstN (fun t => !decide (popN E.Y (itN E.Y E.S (t - 1)) &&& x = 0)) 1 60 = some t → M'.1 238 57 = popN E.Y (itN E.Y E.S (t - 1)) &&& x) := by
  intro k
  induction k with
  | zero => intro i Mc h1i hi hk hr hT; exact absurd hk (by omega)
  | succ k ih =>
    intro i Mc h1i hi hk hr hT
    have hY := hJ.1
    have h6 := hY.1.2
    have hs5 := hY.2.1.2
    have hL := hJ.2.1
    have hS := hJ.2.2.1
    have hYc := hT.1.1.ry hY
    have hLc := hT.1.1.rl hL
    have hSc := hT.1.2.2
    obtain ⟨ti, hti, hti2⟩ := hI.nt h6 (i - 1)
    refine e_iload_n dX11_popsOf_17 rfl ?_
    refine e_bipush (v := 60) dX11_popsOf_18 (by decide) ?_
    refine e_icmp_gt (tgt := 52) dX11_popsOf_20 (by decide) (fun c20 => ?_) (fun c20 => ?_)
    · -- 20 jumps
      have hin : i = 61 := by have := lt_of (i := 60) (n := i) (by omega) (by omega) c20; omega
      subst hin
      have hf : fstN (fun t => !decide (popN E.Y (itN E.Y E.S (t - 1)) &&& x = 0)) 1 60 = none := hr.trans fst_e
      refine (x_rpops hT.1).weaken (fun r M3 h => ⟨by rw [hf]; exact h.1, h.2.1, fun t2 h2 => ?_⟩)
      rw [hf] at h2
      cases h2
    · -- 20 goes on
      have hlt : i < 61 := by have := ge_of (i := 60) (n := i) (by omega) (by omega) c20; omega
      refine e_iload_n dX11_popsOf_23 rfl ?_
      refine e_if_ge (tgt := 52) dX11_popsOf_24 (by decide) (fun c24 => absurd c24 (by decide)) (fun c24 => ?_)
      refine e_aload_n dX11_popsOf_27 rfl ?_
      refine e_aload_n dX11_popsOf_28 rfl ?_
      refine cV0x dX11_popsOf_29 mo_X11_passesAsTold ml_X11_410 sh_m rfl (Nat.le_of_ble_eq_true rfl) (by omega) (r_passesAsTold hYc hSc hLc hN hti (by omega)) ?_
      rintro r M2 ⟨rfl, hp1, hp2, hp3⟩
      dsimp only [Option.toList, List.cons_append, List.nil_append]
      refine e_iload_n dX11_popsOf_32 rfl ?_
      refine e_iand dX11_popsOf_33 ?_
      refine e_putI dX11_popsOf_34 fl_X11_422 sh_m rfl rfl rfl ?_
      have hX2 : TB 275 M (setI M2 238 57 (popN E.Y (itN E.Y E.S (i - 1)) &&& x)) E.Y.n (itN E.Y E.S (i + 1 - 1)) := by
        rw [show i + 1 - 1 = (i - 1) + 1 by omega]
        exact (hT.1.pf tx5 hp1 hp2).f h6 tx5 (by omega)
      refine e_aload_n dX11_popsOf_37 rfl ?_
      refine e_getI dX11_popsOf_38 fl_X11_422 sh_m rfl ?_
      rw [setI_p]
      refine e_if_eq (tgt := 46) dX11_popsOf_41 (by decide) (fun c41 => ?_) (fun c41 => ?_)
      · -- 41 jumps
        refine e_iinc (ls' := [_, _, _, _]) dX11_popsOf_46 rfl (nI_i1 _) (by decide) rfl ?_
        refine e_goto (tgt := 17) dX11_popsOf_49 (by decide) ?_
        exact ih (i + 1) _ (by omega) (by omega) (by omega) (hr.trans (fst_f hlt (by rw [decide_eq_true c41]; rfl))) ⟨hX2, fun _ j hj => by rw [show i + 1 - 1 - 1 = i - 1 by omega, setI_1, if_neg (fun z => absurd z.1 (by decide))]; exact hp3 j hj⟩
      · -- 41 goes on
        refine e_iload_n dX11_popsOf_44 rfl ?_
        refine e_istore_n (ls' := [_, _, _, _]) dX11_popsOf_45 (by decide) rfl ?_
        refine e_iinc (ls' := [_, _, _, _]) dX11_popsOf_46 rfl (nI_i1 _) (by decide) rfl ?_
        refine e_goto (tgt := 17) dX11_popsOf_49 (by decide) ?_
        have hf : fstN (fun t => !decide (popN E.Y (itN E.Y E.S (t - 1)) &&& x = 0)) 1 60 = some i := hr.trans (fst_t hlt (by rw [decide_eq_false c41]; rfl))
        refine (x_rpopsF (t := i) (m := i + 1) (by omega) (by omega) hX2).weaken (fun r M3 h => ⟨by rw [hf]; exact h.1, h.2.1, fun t2 h2 => ?_⟩)
        rw [hf] at h2
        cases h2
        rw [h.2.2, setI_1, if_pos ⟨rfl, rfl⟩]
set_option maxHeartbeats 4000000 in
set_option maxRecDepth 20000 in
theorem r_popsOf {G : Gt} {M : Mm} {E : Gs} (hJ : RJ M E) {T : Nat} (hI : SI E.Y E.S T) (hTT : T < 2 ^ 30) (hN : NS E.Y) {x : Int32} : Call G 7 mX11_popsOf [.ref 238, .int x] M (fun r M' => r = some (.int (oI (fstN (fun t => !decide (popN E.Y (itN E.Y E.S (t - 1)) &&& x = 0)) 1 60))) ∧ RC M M' ∧ ∀ t, fstN (fun t => !decide (popN E.Y (itN E.Y E.S (t - 1)) &&& x = 0)) 1 60 = some t → M'.1 238 57 = popN E.Y (itN E.Y E.S (t - 1)) &&& x) := by
  have hY := hJ.1
  have h6 := hY.1.2
  have hs5 := hY.2.1.2
  have hL := hJ.2.1
  have hS := hJ.2.2.1
  refine Call.intro rfl (Nat.le_of_ble_eq_true rfl) ?_
  show Ev G _ mX11_popsOf 0 [.ref 238, .int x, RA, RA] [] M _
  refine e_aload_n dX11_popsOf_0 rfl ?_
  refine e_getR dX11_popsOf_1 fl_X11_114 sh_m rfl ?_
  refine e_iconst (v := 0) dX11_popsOf_4 (by decide) ?_
  refine e_aload_n dX11_popsOf_5 rfl ?_
  refine e_getR dX11_popsOf_6 fl_X11_120 sh_m rfl ?_
  refine e_iconst (v := 0) dX11_popsOf_9 (by decide) ?_
  refine cS4v dX11_popsOf_10 mo_X11_copies ml_X11_403 (Nat.le_of_ble_eq_true rfl) (by omega) (r_copies (p := 0) (b := 0) (sa_m_s) (sa_m_before) (by omega) (by omega) (by decide) (by decide) (by decide)) ?_
  refine e_iconst (v := (-1)) dX11_popsOf_13 (by decide) ?_
  refine e_istore_n (ls' := [_, _, _, _]) dX11_popsOf_14 (by decide) rfl ?_
  refine e_iconst (v := 1) dX11_popsOf_15 (by decide) ?_
  refine e_istore_n (ls' := [_, _, _, _]) dX11_popsOf_16 (by decide) rfl ?_
  exact l_rpops hJ hI hTT hN 61 1 _ (by omega) (by omega) (by omega) rfl (TR.start tx5 h6 hS)
theorem pops_c {Y : Yv} {S : Sv} {j : Nat} (h6 : Y.n ≤ 6) (hj : j < 6) : (!decide (popN Y S &&& b1 (nI j) = 0)) = decide (bitI (popN Y S) (nI j)) := by
  obtain ⟨s, hs, e⟩ := popn_nat (Y := Y) (S := S) h6
  rw [e]
  by_cases h : bitI (nI s) (nI j)
  · rw [decide_eq_true h, decide_eq_false (fun q => (bt6 s hs j hj).mp q h)]; rfl
  · rw [decide_eq_false h, decide_eq_true ((bt6 s hs j hj).mpr h)]; rfl
theorem pops_63 {Y : Yv} {S : Sv} (h6 : Y.n ≤ 6) : popN Y S &&& 63 = popN Y S := by
  obtain ⟨s, hs, e⟩ := popn_nat (Y := Y) (S := S) h6
  rw [e, an63 s hs]
set_option maxHeartbeats 4000000 in
set_option maxRecDepth 20000 in
theorem r_pops {G : Gt} {M : Mm} {E : Gs} (hJ : RJ M E) {T : Nat} (hI : SI E.Y E.S T) (hTT : T < 2 ^ 30) (hN : NS E.Y) {i : Int32} : Call G 8 mX11_pops [.ref 238, .int i] M (fun r M' => r = some (.int (popsQ E i)) ∧ RC M M') := by
  refine Call.intro rfl (Nat.le_of_ble_eq_true rfl) ?_
  show Ev G _ mX11_pops 0 [.ref 238, .int i] [] M _
  refine e_aload_n dX11_pops_0 rfl ?_
  refine e_iconst (v := 0) dX11_pops_1 (by decide) ?_
  refine e_putI dX11_pops_2 fl_X11_153 sh_m rfl rfl rfl ?_
  refine th0 (fun M1 hC1 => ?_)
  have hJ := hC1.keep hJ
  have hY := hJ.1
  have h6 := hY.1.2
  have hs5 := hY.2.1.2
  have hL := hJ.2.1
  have hS := hJ.2.2.1
  refine e_aload_n dX11_pops_5 rfl ?_
  refine e_iload_n dX11_pops_6 rfl ?_
  refine cV1r dX11_pops_7 mo_X11_isShed ml_X11_397 sh_m rfl (Nat.le_of_ble_eq_true rfl) (by omega) (r_isShed (by assumption)) ?_
  refine e_if_eq (tgt := 23) dX11_pops_10 (by decide) (fun c10 => ?_) (fun c10 => ?_)
  · -- 10 jumps
    refine e_iconst (v := (-1)) dX11_pops_23 (by decide) ?_
    refine e_iret dX11_pops_24 rfl ?_
    exact ⟨by unfold popsQ; rw [if_neg (b2i_eq0.mp c10)], hC1⟩
  · -- 10 goes on
    have hsh10 : ¬ i < 0 ∧ i < nI E.Y.n := by
      by_cases h : (¬ i < 0 ∧ i < nI E.Y.n)
      · exact h
      · exact absurd (b2i_f h) c10
    obtain ⟨j, hj, rfl⟩ := shed_of (by omega) hsh10
    refine e_aload_n dX11_pops_13 rfl ?_
    refine e_iconst (v := 1) dX11_pops_14 (by decide) ?_
    refine e_iload_n dX11_pops_15 rfl ?_
    refine e_ishl dX11_pops_16 ?_
    refine cV1x dX11_pops_17 mo_X11_popsOf ml_X11_425 sh_m rfl (Nat.le_of_ble_eq_true rfl) (by omega) (r_popsOf hJ hI hTT hN) ?_
    rintro r M2 ⟨rfl, hC2, -⟩
    dsimp only [Option.toList, List.cons_append, List.nil_append]
    refine e_goto (tgt := 24) dX11_pops_20 (by decide) ?_
    refine e_iret dX11_pops_24 rfl ?_
    refine ⟨?_, hC1.trans hC2⟩
    unfold popsQ
    rw [if_pos hsh10, nI_clamp (by omega), fst_congr 60 1 (fun t _ _ => pops_c (Y := E.Y) (S := itN E.Y E.S (t - 1)) h6 (j := j) (by omega))]
set_option maxHeartbeats 4000000 in
set_option maxRecDepth 20000 in
theorem r_first {G : Gt} {M : Mm} {E : Gs} (hJ : RJ M E) {T : Nat} (hI : SI E.Y E.S T) (hTT : T < 2 ^ 30) (hN : NS E.Y) : Call G 8 mX11_first [.ref 238] M (fun r M' => r = some (.int (firstQ E)) ∧ RC M M') := by
  refine Call.intro rfl (Nat.le_of_ble_eq_true rfl) ?_
  show Ev G _ mX11_first 0 [.ref 238] [] M _
  refine e_aload_n dX11_first_0 rfl ?_
  refine e_iconst (v := 0) dX11_first_1 (by decide) ?_
  refine e_putI dX11_first_2 fl_X11_153 sh_m rfl rfl rfl ?_
  refine th0 (fun M1 hC1 => ?_)
  have hJ := hC1.keep hJ
  have hY := hJ.1
  have h6 := hY.1.2
  have hs5 := hY.2.1.2
  have hL := hJ.2.1
  have hS := hJ.2.2.1
  refine e_aload_n dX11_first_5 rfl ?_
  refine e_bipush (v := 63) dX11_first_6 (by decide) ?_
  refine cV1x dX11_first_8 mo_X11_popsOf ml_X11_425 sh_m rfl (Nat.le_of_ble_eq_true rfl) (by omega) (r_popsOf hJ hI hTT hN (x := 63)) ?_
  rintro r M2 ⟨rfl, hC2, hpp⟩
  dsimp only [Option.toList, List.cons_append, List.nil_append]
  have hcg : fstN (fun t => !decide (popN E.Y (itN E.Y E.S (t - 1)) &&& 63 = 0)) 1 60 = fstN (fun t => !decide (popN E.Y (itN E.Y E.S (t - 1)) = 0)) 1 60 := fst_congr 60 1 (fun t _ _ => by rw [pops_63 h6])
  rw [hcg] at hpp ⊢
  refine e_if_ge (tgt := 18) dX11_first_11 (by decide) (fun c11 => ?_) (fun c11 => ?_)
  · -- 11 jumps
    have ho : ∃ t, fstN (fun t => !decide (popN E.Y (itN E.Y E.S (t - 1)) = 0)) 1 60 = some t := by
      cases ho : fstN (fun t => !decide (popN E.Y (itN E.Y E.S (t - 1)) = 0)) 1 60 with
      | none => rw [ho] at c11; exact absurd c11 (by decide)
      | some t => exact ⟨t, rfl⟩
    obtain ⟨t, ho⟩ := ho
    refine e_aload_n dX11_first_18 rfl ?_
    refine e_getI dX11_first_19 fl_X11_422 sh_m rfl ?_
    rw [hpp t ho, pops_63 h6]
    refine cS1r dX11_first_22 mo_X11_lowest ml_X11_428 (Nat.le_of_ble_eq_true rfl) (by omega) (r_lowest) ?_
    refine e_iret dX11_first_25 rfl ?_
    exact ⟨by unfold firstQ; rw [ho], hC1.trans hC2⟩
  · -- 11 goes on
    have ho : fstN (fun t => !decide (popN E.Y (itN E.Y E.S (t - 1)) = 0)) 1 60 = none := (oI_neg (k := 61) (by omega) (fun b h => by have := fst_spec (P := fun t => !decide (popN E.Y (itN E.Y E.S (t - 1)) = 0)) 60 1; rw [h] at this; omega)).mp c11
    refine e_iconst (v := (-1)) dX11_first_14 (by decide) ?_
    refine e_goto (tgt := 25) dX11_first_15 (by decide) ?_
    refine e_iret dX11_first_25 rfl ?_
    exact ⟨by unfold firstQ; rw [ho], hC1.trans hC2⟩
end RSH
