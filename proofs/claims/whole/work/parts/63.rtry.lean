section RTY
theorem tx4 : tx 274 := by unfold tx; omega
theorem tx5 : tx 275 := by unfold tx; omega
theorem tx6 : tx 276 := by unfold tx; omega
theorem itN_crow {Y : Yv} {S : Sv} {q : Nat} (h : 0 < q) : (itN Y S q).crow = (itN Y S (q - 1)).crow := by
  cases q with
  | zero => omega
  | succ q => rfl
set_option maxHeartbeats 4000000 in
set_option maxRecDepth 20000 in
theorem l_rlater {G : Gt} {M : Mm} {E : Gs} (hJ : RJ M E) {T : Nat} (hI : SI E.Y E.S T) (hTT : T < 2 ^ 30) (hN : NS E.Y) {j q : Nat} (hj : j < E.Y.n) (hq : q ≤ 60) : ∀ (k : Nat) (i : Nat) (Mc : Mm), (i ≤ q) → (q < i + k) → (TR 275 M Mc E.Y E.S i) → Ev G 7 mX11_later 40 [.ref 238, .int (nI j), .int (nI q), .int (nI i)] [] Mc (fun r M' => r = some (.int ((itN E.Y E.S q).high j)) ∧ RC M M') := by
  intro k
  induction k with
  | zero => intro i Mc hi hk hT; exact absurd hk (by omega)
  | succ k ih =>
    intro i Mc hi hk hT
    have hY := hJ.1
    have h6 := hY.1.2
    have hs5 := hY.2.1.2
    have hL := hJ.2.1
    have hS := hJ.2.2.1
    have hYc := hT.1.1.ry hY
    have hLc := hT.1.1.rl hL
    have hSc := hT.1.2.2
    obtain ⟨ti, hti, hti2⟩ := hI.nt h6 i
    refine e_iload_n dX11_later_40 rfl ?_
    refine e_iload_n dX11_later_41 rfl ?_
    refine e_icmp_ge (tgt := 56) dX11_later_42 (by decide) (fun c42 => ?_) (fun c42 => ?_)
    · -- 42 jumps
      have hin : i = q := by have := ge_of (i := i) (n := q) (by omega) (by omega) c42; omega
      subst hin
      refine e_aload_n dX11_later_56 rfl ?_
      refine e_getR dX11_later_57 fl_X11_114 sh_m rfl ?_
      refine e_bipush (v := 14) dX11_later_60 (by decide) ?_
      refine e_iload_n dX11_later_62 rfl ?_
      refine e_iaddN (a := 14) (b := j) dX11_later_63 ?_
      refine e_ialdN (j := (14 + j)) dX11_later_64 (sa_m_s) (by decide) (by omega) ?_
      rw [hSc.hi hj]
      refine e_istore_n (ls' := [_, _, _, _]) dX11_later_65 (by decide) rfl ?_
      refine e_aload_n dX11_later_66 rfl ?_
      refine e_getR dX11_later_67 fl_X11_120 sh_m rfl ?_
      refine e_iconst (v := 0) dX11_later_70 (by decide) ?_
      refine e_aload_n dX11_later_71 rfl ?_
      refine e_getR dX11_later_72 fl_X11_114 sh_m rfl ?_
      refine e_iconst (v := 0) dX11_later_75 (by decide) ?_
      refine cS4v dX11_later_76 mo_X11_copies ml_X11_403 (Nat.le_of_ble_eq_true rfl) (by omega) (r_copies (p := 0) (b := 0) (sa_m_before) (sa_m_s) (by omega) (by omega) (by decide) (by decide) (by decide)) ?_
      refine e_iload_n dX11_later_79 rfl ?_
      refine e_iret dX11_later_80 rfl ?_
      exact ⟨rfl, hT.1.back⟩
    · -- 42 goes on
      have hlt : i < q := lt_of (i := i) (n := q) (by omega) (by omega) c42
      refine e_aload_n dX11_later_45 rfl ?_
      refine cV0x dX11_later_46 mo_X11_passesAsTold ml_X11_410 sh_m rfl (Nat.le_of_ble_eq_true rfl) (by omega) (r_passesAsTold hYc hSc hLc hN hti (by omega)) ?_
      rintro r M2 ⟨rfl, hp1, hp2, hp3⟩
      dsimp only [Option.toList, List.cons_append, List.nil_append]
      refine e_pop dX11_later_49 rfl ?_
      refine e_iinc (ls' := [_, _, _, _]) dX11_later_50 rfl (nI_i1 _) (by decide) rfl ?_
      refine e_goto (tgt := 40) dX11_later_53 (by decide) ?_
      exact ih (i + 1) M2 (by omega) (by omega) (hT.next tx5 hp1 hp2 hp3)
set_option maxHeartbeats 4000000 in
set_option maxRecDepth 20000 in
theorem l_rcreak {G : Gt} {M : Mm} {E : Gs} (hJ : RJ M E) {T : Nat} (hI : SI E.Y E.S T) (hTT : T < 2 ^ 30) (hN : NS E.Y) {j q : Nat} (hj : j < E.Y.n) (hq : q ≤ 60) (hq1 : 1 ≤ q) : ∀ (k : Nat) (i : Nat) (Mc : Mm), (i ≤ q) → (q < i + k) → (TR 275 M Mc E.Y E.S i) → Ev G 7 mX11_creak 40 [.ref 238, .int (nI j), .int (nI q), .int (nI i)] [] Mc (fun r M' => r = some (.int (crkV E.Y E.S (q - 1) j)) ∧ RC M M') := by
  intro k
  induction k with
  | zero => intro i Mc hi hk hT; exact absurd hk (by omega)
  | succ k ih =>
    intro i Mc hi hk hT
    have hY := hJ.1
    have h6 := hY.1.2
    have hs5 := hY.2.1.2
    have hL := hJ.2.1
    have hS := hJ.2.2.1
    have hYc := hT.1.1.ry hY
    have hLc := hT.1.1.rl hL
    have hSc := hT.1.2.2
    obtain ⟨ti, hti, hti2⟩ := hI.nt h6 i
    refine e_iload_n dX11_creak_40 rfl ?_
    refine e_iload_n dX11_creak_41 rfl ?_
    refine e_icmp_ge (tgt := 56) dX11_creak_42 (by decide) (fun c42 => ?_) (fun c42 => ?_)
    · -- 42 jumps
      have hin : i = q := by have := ge_of (i := i) (n := q) (by omega) (by omega) c42; omega
      subst hin
      refine e_aload_n dX11_creak_56 rfl ?_
      refine e_getR dX11_creak_57 fl_X11_135 sh_m rfl ?_
      refine e_iload_n dX11_creak_60 rfl ?_
      refine e_ialdN (j := j) dX11_creak_61 (sa_m_grew) (by decide) (by omega) ?_
      rw [hT.2 (by omega) j hj]
      refine e_aload_n dX11_creak_62 rfl ?_
      refine e_getR dX11_creak_63 fl_X11_114 sh_m rfl ?_
      refine e_bipush (v := 8) dX11_creak_66 (by decide) ?_
      refine e_iload_n dX11_creak_68 rfl ?_
      refine e_iaddN (a := 8) (b := j) dX11_creak_69 ?_
      refine e_ialdN (j := (8 + j)) dX11_creak_70 (sa_m_s) (by decide) (by omega) ?_
      rw [hSc.cr hj, itN_crow (by omega)]
      refine e_imul dX11_creak_71 ?_
      refine e_istore_n (ls' := [_, _, _, _]) dX11_creak_72 (by decide) rfl ?_
      refine e_aload_n dX11_creak_73 rfl ?_
      refine e_getR dX11_creak_74 fl_X11_120 sh_m rfl ?_
      refine e_iconst (v := 0) dX11_creak_77 (by decide) ?_
      refine e_aload_n dX11_creak_78 rfl ?_
      refine e_getR dX11_creak_79 fl_X11_114 sh_m rfl ?_
      refine e_iconst (v := 0) dX11_creak_82 (by decide) ?_
      refine cS4v dX11_creak_83 mo_X11_copies ml_X11_403 (Nat.le_of_ble_eq_true rfl) (by omega) (r_copies (p := 0) (b := 0) (sa_m_before) (sa_m_s) (by omega) (by omega) (by decide) (by decide) (by decide)) ?_
      refine e_iload_n dX11_creak_86 rfl ?_
      refine e_iret dX11_creak_87 rfl ?_
      exact ⟨rfl, hT.1.back⟩
    · -- 42 goes on
      have hlt : i < q := lt_of (i := i) (n := q) (by omega) (by omega) c42
      refine e_aload_n dX11_creak_45 rfl ?_
      refine cV0x dX11_creak_46 mo_X11_passesAsTold ml_X11_410 sh_m rfl (Nat.le_of_ble_eq_true rfl) (by omega) (r_passesAsTold hYc hSc hLc hN hti (by omega)) ?_
      rintro r M2 ⟨rfl, hp1, hp2, hp3⟩
      dsimp only [Option.toList, List.cons_append, List.nil_append]
      refine e_pop dX11_creak_49 rfl ?_
      refine e_iinc (ls' := [_, _, _, _]) dX11_creak_50 rfl (nI_i1 _) (by decide) rfl ?_
      refine e_goto (tgt := 40) dX11_creak_53 (by decide) ?_
      exact ih (i + 1) M2 (by omega) (by omega) (hT.next tx5 hp1 hp2 hp3)
set_option maxHeartbeats 4000000 in
set_option maxRecDepth 20000 in
theorem r_later {G : Gt} {M : Mm} {E : Gs} (hJ : RJ M E) {T : Nat} (hI : SI E.Y E.S T) (hTT : T < 2 ^ 30) (hN : NS E.Y) {i t : Int32} : Call G 7 mX11_later [.ref 238, .int i, .int t] M (fun r M' => r = some (.int (laterQ E i t)) ∧ RC M M') := by
  refine Call.intro rfl (Nat.le_of_ble_eq_true rfl) ?_
  show Ev G _ mX11_later 0 [.ref 238, .int i, .int t, RA] [] M _
  refine e_aload_n dX11_later_0 rfl ?_
  refine e_iconst (v := 0) dX11_later_1 (by decide) ?_
  refine e_putI dX11_later_2 fl_X11_153 sh_m rfl rfl rfl ?_
  refine th0 (fun M1 hC1 => ?_)
  have hJ := hC1.keep hJ
  have hY := hJ.1
  have h6 := hY.1.2
  have hs5 := hY.2.1.2
  have hL := hJ.2.1
  have hS := hJ.2.2.1
  refine e_aload_n dX11_later_5 rfl ?_
  refine e_iload_n dX11_later_6 rfl ?_
  refine cV1r dX11_later_7 mo_X11_isShed ml_X11_397 sh_m rfl (Nat.le_of_ble_eq_true rfl) (by omega) (r_isShed (by assumption)) ?_
  refine e_if_eq (tgt := 23) dX11_later_10 (by decide) (fun c10 => ?_) (fun c10 => ?_)
  · -- 10 jumps
    refine e_iconst (v := (-1)) dX11_later_23 (by decide) ?_
    refine e_iret dX11_later_24 rfl ?_
    exact ⟨by unfold laterQ; rw [if_neg (fun q => absurd q.1 (b2i_eq0.mp c10))], hC1⟩
  · -- 10 goes on
    have c10 : vSh E i := by
      by_cases h : (vSh E i)
      · exact h
      · exact absurd (b2i_f h) c10
    have hsh := c10
    refine e_iload_n dX11_later_13 rfl ?_
    refine e_iconst (v := 0) dX11_later_14 (by decide) ?_
    refine e_bipush (v := 60) dX11_later_15 (by decide) ?_
    refine cS3r dX11_later_17 mo_X11_within ml_X11_274 (Nat.le_of_ble_eq_true rfl) (by omega) (r_within) ?_
    refine e_if_ne (tgt := 25) dX11_later_20 (by decide) (fun c20 => ?_) (fun c20 => ?_)
    · -- 20 jumps
      have c20 : vWi t 0 60 := by
        by_cases h : (vWi t 0 60)
        · exact h
        · exact absurd (b2i_f h) c20
      have hwi := c20
      obtain ⟨j, hj, rfl⟩ := shed_of (by omega) hsh
      obtain ⟨t, ht60, hlo, rfl⟩ := wi_of (a := 0) (b := 60) (by decide) (by decide) hwi
      refine e_aload_n dX11_later_25 rfl ?_
      refine e_getR dX11_later_26 fl_X11_114 sh_m rfl ?_
      refine e_iconst (v := 0) dX11_later_29 (by decide) ?_
      refine e_aload_n dX11_later_30 rfl ?_
      refine e_getR dX11_later_31 fl_X11_120 sh_m rfl ?_
      refine e_iconst (v := 0) dX11_later_34 (by decide) ?_
      refine cS4v dX11_later_35 mo_X11_copies ml_X11_403 (Nat.le_of_ble_eq_true rfl) (by omega) (r_copies (p := 0) (b := 0) (sa_m_s) (sa_m_before) (by omega) (by omega) (by decide) (by decide) (by decide)) ?_
      refine e_iconst (v := 0) dX11_later_38 (by decide) ?_
      refine e_istore_n (ls' := [_, _, _, _]) dX11_later_39 (by decide) rfl ?_
      unfold laterQ
      rw [if_pos ⟨hsh, hwi⟩, nI_clamp (by omega), nI_clamp (by omega)]
      exact (l_rlater hJ hI hTT hN hj ht60 (t + 1) 0 _ (by omega) (by omega) (TR.start tx5 h6 hS)).weaken (fun r M2 h => ⟨h.1, hC1.trans h.2⟩)
    · -- 20 goes on
      refine e_iconst (v := (-1)) dX11_later_23 (by decide) ?_
      refine e_iret dX11_later_24 rfl ?_
      exact ⟨by unfold laterQ; rw [if_neg (fun q => absurd q.2 (b2i_eq0.mp c20))], hC1⟩
set_option maxHeartbeats 4000000 in
set_option maxRecDepth 20000 in
theorem r_creak {G : Gt} {M : Mm} {E : Gs} (hJ : RJ M E) {T : Nat} (hI : SI E.Y E.S T) (hTT : T < 2 ^ 30) (hN : NS E.Y) {i t : Int32} : Call G 7 mX11_creak [.ref 238, .int i, .int t] M (fun r M' => r = some (.int (creakQ E i t)) ∧ RC M M') := by
  refine Call.intro rfl (Nat.le_of_ble_eq_true rfl) ?_
  show Ev G _ mX11_creak 0 [.ref 238, .int i, .int t, RA] [] M _
  refine e_aload_n dX11_creak_0 rfl ?_
  refine e_iconst (v := 0) dX11_creak_1 (by decide) ?_
  refine e_putI dX11_creak_2 fl_X11_153 sh_m rfl rfl rfl ?_
  refine th0 (fun M1 hC1 => ?_)
  have hJ := hC1.keep hJ
  have hY := hJ.1
  have h6 := hY.1.2
  have hs5 := hY.2.1.2
  have hL := hJ.2.1
  have hS := hJ.2.2.1
  refine e_aload_n dX11_creak_5 rfl ?_
  refine e_iload_n dX11_creak_6 rfl ?_
  refine cV1r dX11_creak_7 mo_X11_isShed ml_X11_397 sh_m rfl (Nat.le_of_ble_eq_true rfl) (by omega) (r_isShed (by assumption)) ?_
  refine e_if_eq (tgt := 23) dX11_creak_10 (by decide) (fun c10 => ?_) (fun c10 => ?_)
  · -- 10 jumps
    refine e_iconst (v := (-1)) dX11_creak_23 (by decide) ?_
    refine e_iret dX11_creak_24 rfl ?_
    exact ⟨by unfold creakQ; rw [if_neg (fun q => absurd q.1 (b2i_eq0.mp c10))], hC1⟩
  · -- 10 goes on
    have c10 : vSh E i := by
      by_cases h : (vSh E i)
      · exact h
      · exact absurd (b2i_f h) c10
    have hsh := c10
    refine e_iload_n dX11_creak_13 rfl ?_
    refine e_iconst (v := 1) dX11_creak_14 (by decide) ?_
    refine e_bipush (v := 60) dX11_creak_15 (by decide) ?_
    refine cS3r dX11_creak_17 mo_X11_within ml_X11_274 (Nat.le_of_ble_eq_true rfl) (by omega) (r_within) ?_
    refine e_if_ne (tgt := 25) dX11_creak_20 (by decide) (fun c20 => ?_) (fun c20 => ?_)
    · -- 20 jumps
      have c20 : vWi t 1 60 := by
        by_cases h : (vWi t 1 60)
        · exact h
        · exact absurd (b2i_f h) c20
      have hwi := c20
      obtain ⟨j, hj, rfl⟩ := shed_of (by omega) hsh
      obtain ⟨t, ht60, hlo, rfl⟩ := wi_of (a := 1) (b := 60) (by decide) (by decide) hwi
      refine e_aload_n dX11_creak_25 rfl ?_
      refine e_getR dX11_creak_26 fl_X11_114 sh_m rfl ?_
      refine e_iconst (v := 0) dX11_creak_29 (by decide) ?_
      refine e_aload_n dX11_creak_30 rfl ?_
      refine e_getR dX11_creak_31 fl_X11_120 sh_m rfl ?_
      refine e_iconst (v := 0) dX11_creak_34 (by decide) ?_
      refine cS4v dX11_creak_35 mo_X11_copies ml_X11_403 (Nat.le_of_ble_eq_true rfl) (by omega) (r_copies (p := 0) (b := 0) (sa_m_s) (sa_m_before) (by omega) (by omega) (by decide) (by decide) (by decide)) ?_
      refine e_iconst (v := 0) dX11_creak_38 (by decide) ?_
      refine e_istore_n (ls' := [_, _, _, _]) dX11_creak_39 (by decide) rfl ?_
      unfold creakQ
      rw [if_pos ⟨hsh, hwi⟩, nI_clamp (by omega), nI_clamp (by omega)]
      exact (l_rcreak hJ hI hTT hN hj ht60 hlo (t + 1) 0 _ (by omega) (by omega) (TR.start tx5 h6 hS)).weaken (fun r M2 h => ⟨h.1, hC1.trans h.2⟩)
    · -- 20 goes on
      refine e_iconst (v := (-1)) dX11_creak_23 (by decide) ?_
      refine e_iret dX11_creak_24 rfl ?_
      exact ⟨by unfold creakQ; rw [if_neg (fun q => absurd q.2 (b2i_eq0.mp c20))], hC1⟩
/-- how many nights -/
theorem fst60 {P : Nat → Bool} : fstN P 0 61 = fstN P 0 (61 - 0) := rfl
set_option maxHeartbeats 4000000 in
set_option maxRecDepth 20000 in
theorem x_rriot {G : Gt} {M Mc : Mm} {E : Gs} {S : Sv} {i : Nat} {j : Nat} (hj : j < E.Y.n) (hT : TB 275 M Mc E.Y.n S) : Ev G 7 mX11_riot 57 [.ref 238, .int (nI j), .int (nI i)] [] Mc (fun r M' => r = some (.int (if 60 < nI i then -1 else nI i)) ∧ RC M M') := by
  refine e_aload_n dX11_riot_57 rfl ?_
  refine e_getR dX11_riot_58 fl_X11_120 sh_m rfl ?_
  refine e_iconst (v := 0) dX11_riot_61 (by decide) ?_
  refine e_aload_n dX11_riot_62 rfl ?_
  refine e_getR dX11_riot_63 fl_X11_114 sh_m rfl ?_
  refine e_iconst (v := 0) dX11_riot_66 (by decide) ?_
  refine cS4v dX11_riot_67 mo_X11_copies ml_X11_403 (Nat.le_of_ble_eq_true rfl) (by omega) (r_copies (p := 0) (b := 0) (sa_m_before) (sa_m_s) (by omega) (by omega) (by decide) (by decide) (by decide)) ?_
  refine e_iload_n dX11_riot_70 rfl ?_
  refine e_bipush (v := 60) dX11_riot_71 (by decide) ?_
  refine e_icmp_le (tgt := 80) dX11_riot_73 (by decide) (fun c73 => ?_) (fun c73 => ?_)
  · -- 73 jumps
    refine e_iload_n dX11_riot_80 rfl ?_
    refine e_iret dX11_riot_81 rfl ?_
    exact ⟨by rw [if_neg c73], hT.back⟩
  · -- 73 goes on
    refine e_iconst (v := (-1)) dX11_riot_76 (by decide) ?_
    refine e_goto (tgt := 81) dX11_riot_77 (by decide) ?_
    refine e_iret dX11_riot_81 rfl ?_
    exact ⟨by rw [if_pos c73], hT.back⟩
set_option maxHeartbeats 4000000 in
set_option maxRecDepth 20000 in
theorem l_rriot {G : Gt} {M : Mm} {E : Gs} (hJ : RJ M E) {T : Nat} (hI : SI E.Y E.S T) (hTT : T < 2 ^ 30) (hN : NS E.Y) {j : Nat} (hj : j < E.Y.n) : ∀ (k : Nat) (i : Nat) (Mc : Mm), (i ≤ 61) → (61 < i + k) → (fstN (fun t => !decide (murS (itN E.Y E.S t) j < 60)) 0 61 = fstN (fun t => !decide (murS (itN E.Y E.S t) j < 60)) i (61 - i)) → (TR 275 M Mc E.Y E.S i) → Ev G 7 mX11_riot 30 [.ref 238, .int (nI j), .int (nI i)] [] Mc (fun r M' => r = some (.int (oI (fstN (fun t => !decide (murS (itN E.Y E.S t) j < 60)) 0 61))) ∧ RC M M') := by
  intro k
  induction k with
  | zero => intro i Mc hi hk hr hT; exact absurd hk (by omega)
  | succ k ih =>
    intro i Mc hi hk hr hT
    have hY := hJ.1
    have h6 := hY.1.2
    have hs5 := hY.2.1.2
    have hL := hJ.2.1
    have hS := hJ.2.2.1
    have hYc := hT.1.1.ry hY
    have hLc := hT.1.1.rl hL
    have hSc := hT.1.2.2
    obtain ⟨ti, hti, hti2⟩ := hI.nt h6 i
    refine e_iload_n dX11_riot_30 rfl ?_
    refine e_bipush (v := 60) dX11_riot_31 (by decide) ?_
    refine e_icmp_gt (tgt := 57) dX11_riot_33 (by decide) (fun c33 => ?_) (fun c33 => ?_)
    · -- 33 jumps
      have hin : i = 61 := by have := lt_of (i := 60) (n := i) (by omega) (by omega) c33; omega
      subst hin
      rw [hr, fst_e]
      have h := x_rriot (G := G) hj (i := 61) hT.1
      rw [if_pos (by decide)] at h
      exact h
    · -- 33 goes on
      have hn60 := c33
      have hlt : i < 61 := by have := ge_of (i := 60) (n := i) (by omega) (by omega) c33; omega
      refine e_aload_n dX11_riot_36 rfl ?_
      refine e_iload_n dX11_riot_37 rfl ?_
      refine cV1r dX11_riot_38 mo_X11_murmurOf ml_X11_394 sh_m rfl (Nat.le_of_ble_eq_true rfl) (by omega) (r_murmurOf hYc hSc hj) ?_
      refine e_bipush (v := 60) dX11_riot_41 (by decide) ?_
      refine e_icmp_ge (tgt := 57) dX11_riot_43 (by decide) (fun c43 => ?_) (fun c43 => ?_)
      · -- 43 jumps
        have hP : (!decide (murS (itN E.Y E.S i) j < 60)) = true := by rw [decide_eq_false c43]; rfl
        rw [hr, fst_t hlt hP]
        have h := x_rriot (G := G) hj (i := i) hT.1
        rw [if_neg hn60] at h
        exact h
      · -- 43 goes on
        refine e_aload_n dX11_riot_46 rfl ?_
        refine cV0x dX11_riot_47 mo_X11_passesAsTold ml_X11_410 sh_m rfl (Nat.le_of_ble_eq_true rfl) (by omega) (r_passesAsTold hYc hSc hLc hN hti (by omega)) ?_
        rintro r M2 ⟨rfl, hp1, hp2, hp3⟩
        dsimp only [Option.toList, List.cons_append, List.nil_append]
        refine e_pop dX11_riot_50 rfl ?_
        refine e_iinc (ls' := [_, _, _]) dX11_riot_51 rfl (nI_i1 _) (by decide) rfl ?_
        refine e_goto (tgt := 30) dX11_riot_54 (by decide) ?_
        have hP : (!decide (murS (itN E.Y E.S i) j < 60)) = false := by rw [decide_eq_true c43]; rfl
        exact ih (i + 1) M2 (by omega) (by omega) (hr.trans (fst_f hlt hP)) (hT.next tx5 hp1 hp2 hp3)
set_option maxHeartbeats 4000000 in
set_option maxRecDepth 20000 in
theorem r_riot {G : Gt} {M : Mm} {E : Gs} (hJ : RJ M E) {T : Nat} (hI : SI E.Y E.S T) (hTT : T < 2 ^ 30) (hN : NS E.Y) {i : Int32} : Call G 7 mX11_riot [.ref 238, .int i] M (fun r M' => r = some (.int (riotQ E i)) ∧ RC M M') := by
  refine Call.intro rfl (Nat.le_of_ble_eq_true rfl) ?_
  show Ev G _ mX11_riot 0 [.ref 238, .int i, RA] [] M _
  refine e_aload_n dX11_riot_0 rfl ?_
  refine e_iconst (v := 0) dX11_riot_1 (by decide) ?_
  refine e_putI dX11_riot_2 fl_X11_153 sh_m rfl rfl rfl ?_
  refine th0 (fun M1 hC1 => ?_)
  have hJ := hC1.keep hJ
  have hY := hJ.1
  have h6 := hY.1.2
  have hs5 := hY.2.1.2
  have hL := hJ.2.1
  have hS := hJ.2.2.1
  refine e_aload_n dX11_riot_5 rfl ?_
  refine e_iload_n dX11_riot_6 rfl ?_
  refine cV1r dX11_riot_7 mo_X11_isShed ml_X11_397 sh_m rfl (Nat.le_of_ble_eq_true rfl) (by omega) (r_isShed (by assumption)) ?_
  refine e_if_ne (tgt := 15) dX11_riot_10 (by decide) (fun c10 => ?_) (fun c10 => ?_)
  · -- 10 jumps
    have hsh10 : ¬ i < 0 ∧ i < nI E.Y.n := by
      by_cases h : (¬ i < 0 ∧ i < nI E.Y.n)
      · exact h
      · exact absurd (b2i_f h) c10
    obtain ⟨j, hj, rfl⟩ := shed_of (by omega) hsh10
    refine e_aload_n dX11_riot_15 rfl ?_
    refine e_getR dX11_riot_16 fl_X11_114 sh_m rfl ?_
    refine e_iconst (v := 0) dX11_riot_19 (by decide) ?_
    refine e_aload_n dX11_riot_20 rfl ?_
    refine e_getR dX11_riot_21 fl_X11_120 sh_m rfl ?_
    refine e_iconst (v := 0) dX11_riot_24 (by decide) ?_
    refine cS4v dX11_riot_25 mo_X11_copies ml_X11_403 (Nat.le_of_ble_eq_true rfl) (by omega) (r_copies (p := 0) (b := 0) (sa_m_s) (sa_m_before) (by omega) (by omega) (by decide) (by decide) (by decide)) ?_
    refine e_iconst (v := 0) dX11_riot_28 (by decide) ?_
    refine e_istore_n (ls' := [_, _, _]) dX11_riot_29 (by decide) rfl ?_
    unfold riotQ
    rw [if_pos hsh10, nI_clamp (by omega)]
    exact (l_rriot hJ hI hTT hN hj 62 0 _ (by omega) (by omega) rfl (TR.start tx5 h6 hS)).weaken (fun r M2 h => ⟨h.1, hC1.trans h.2⟩)
  · -- 10 goes on
    refine e_iconst (v := (-1)) dX11_riot_13 (by decide) ?_
    refine e_iret dX11_riot_14 rfl ?_
    exact ⟨by unfold riotQ; rw [if_neg (b2i_eq0.mp c10)], hC1⟩
set_option maxHeartbeats 4000000 in
set_option maxRecDepth 20000 in
theorem l_rroof {G : Gt} {M : Mm} {Y : Yv} {S : Sv} (hY : RY M Y) (hS : RW M 273 0 Y.n S) : ∀ (k : Nat) (i : Nat) , (i ≤ Y.n) → (Y.n < i + k) → (∀ j, j < i → (!(decide (0 < S.crow j) && decide (S.high j < Y.roof))) = true) → Ev G 1 mX11_areRoofed 2 [.ref 238, .int (nI i)] [] M (eqQ (some (.int (b2i (roofV Y S = true)))) M) := by
  intro k
  induction k with
  | zero => intro i hi hk hv; exact absurd hk (by omega)
  | succ k ih =>
    intro i hi hk hv
    have h6 := hY.1.2
    refine e_iload_n dX11_areRoofed_2 rfl ?_
    refine e_aload_n dX11_areRoofed_3 rfl ?_
    refine e_getR dX11_areRoofed_4 fl_X11_13 sh_m rfl ?_
    refine e_iconst (v := 0) dX11_areRoofed_7 (by decide) ?_
    refine e_ialdN (j := 0) dX11_areRoofed_8 (sa_m_yard) (by decide) (by omega) ?_
    rw [hY.1.1]
    refine e_icmp_ge (tgt := 50) dX11_areRoofed_9 (by decide) (fun c9 => ?_) (fun c9 => ?_)
    · -- 9 jumps
      have hin : i = Y.n := by have := ge_of (n := Y.n) (by omega) (by omega) c9; omega
      subst hin
      refine e_iconst (v := 1) dX11_areRoofed_50 (by decide) ?_
      refine e_zret dX11_areRoofed_51 rfl (by first | rfl | exact b2i_nar _) ?_
      exact ⟨by rw [b2i_t (show roofV Y S = true from by unfold roofV; rw [allN_iff]; exact hv)], rfl⟩
    · -- 9 goes on
      have hlt : i < Y.n := lt_of (n := Y.n) (by omega) (by omega) c9
      refine e_aload_n dX11_areRoofed_12 rfl ?_
      refine e_getR dX11_areRoofed_13 fl_X11_114 sh_m rfl ?_
      refine e_bipush (v := 8) dX11_areRoofed_16 (by decide) ?_
      refine e_iload_n dX11_areRoofed_18 rfl ?_
      refine e_iaddN (a := 8) (b := i) dX11_areRoofed_19 ?_
      refine e_ialdN (j := (8 + i)) dX11_areRoofed_20 (sa_m_s) (by decide) (by omega) ?_
      rw [hS.cr hlt]
      refine e_if_le (tgt := 44) dX11_areRoofed_21 (by decide) (fun c21 => ?_) (fun c21 => ?_)
      · -- 21 jumps
        refine e_iinc (ls' := [_, _]) dX11_areRoofed_44 rfl (nI_i1 _) (by decide) rfl ?_
        refine e_goto (tgt := 2) dX11_areRoofed_47 (by decide) ?_
        exact ih (i + 1) (by omega) (by omega) (fun q hq => by
          by_cases e : q = i
          · subst e; rw [decide_eq_false c21]; rfl
          · exact hv q (by omega))
      · -- 21 goes on
        refine e_aload_n dX11_areRoofed_24 rfl ?_
        refine e_getR dX11_areRoofed_25 fl_X11_114 sh_m rfl ?_
        refine e_bipush (v := 14) dX11_areRoofed_28 (by decide) ?_
        refine e_iload_n dX11_areRoofed_30 rfl ?_
        refine e_iaddN (a := 14) (b := i) dX11_areRoofed_31 ?_
        refine e_ialdN (j := (14 + i)) dX11_areRoofed_32 (sa_m_s) (by decide) (by omega) ?_
        rw [hS.hi hlt]
        refine e_aload_n dX11_areRoofed_33 rfl ?_
        refine e_getR dX11_areRoofed_34 fl_X11_13 sh_m rfl ?_
        refine e_iconst (v := 3) dX11_areRoofed_37 (by decide) ?_
        refine e_ialdN (j := 3) dX11_areRoofed_38 (sa_m_yard) (by decide) (by omega) ?_
        rw [hY.2.2.2.1]
        refine e_icmp_ge (tgt := 44) dX11_areRoofed_39 (by decide) (fun c39 => ?_) (fun c39 => ?_)
        · -- 39 jumps
          refine e_iinc (ls' := [_, _]) dX11_areRoofed_44 rfl (nI_i1 _) (by decide) rfl ?_
          refine e_goto (tgt := 2) dX11_areRoofed_47 (by decide) ?_
          exact ih (i + 1) (by omega) (by omega) (fun q hq => by
            by_cases e : q = i
            · subst e; rw [decide_eq_false c39, Bool.and_false]; rfl
            · exact hv q (by omega))
        · -- 39 goes on
          refine e_iconst (v := 0) dX11_areRoofed_42 (by decide) ?_
          refine e_zret dX11_areRoofed_43 rfl (by first | rfl | exact b2i_nar _) ?_
          exact ⟨by rw [b2i_f (p := roofV Y S = true) (fun q => by unfold roofV at q; rw [allN_iff] at q; have := q i hlt; rw [decide_eq_true c21, decide_eq_true c39] at this; exact absurd this (by decide))], rfl⟩
set_option maxHeartbeats 4000000 in
set_option maxRecDepth 20000 in
theorem r_areRoofed {G : Gt} {M : Mm} {Y : Yv} {S : Sv} (hY : RY M Y) (hS : RW M 273 0 Y.n S) : Call G 1 mX11_areRoofed [.ref 238] M (eqQ (some (.int (b2i (roofV Y S = true)))) M) := by
  refine Call.intro rfl (Nat.le_of_ble_eq_true rfl) ?_
  show Ev G _ mX11_areRoofed 0 [.ref 238, RA] [] M _
  refine e_iconst (v := 0) dX11_areRoofed_0 (by decide) ?_
  refine e_istore_n (ls' := [_, _]) dX11_areRoofed_1 (by decide) rfl ?_
  have h6 := hY.1.2
  exact l_rroof hY hS (Y.n + 1) 0 (by omega) (by omega) (fun q hq => absurd hq (by omega))
set_option maxHeartbeats 4000000 in
set_option maxRecDepth 20000 in
theorem x_rroofed {G : Gt} {M Mc : Mm} {E : Gs} {S : Sv} {i : Nat}  (hT : TB 275 M Mc E.Y.n S) : Ev G 7 mX11_roofed 44 [.ref 238, .int (nI i)] [] Mc (fun r M' => r = some (.int (if 60 < nI i then -1 else nI i)) ∧ RC M M') := by
  refine e_aload_n dX11_roofed_44 rfl ?_
  refine e_getR dX11_roofed_45 fl_X11_120 sh_m rfl ?_
  refine e_iconst (v := 0) dX11_roofed_48 (by decide) ?_
  refine e_aload_n dX11_roofed_49 rfl ?_
  refine e_getR dX11_roofed_50 fl_X11_114 sh_m rfl ?_
  refine e_iconst (v := 0) dX11_roofed_53 (by decide) ?_
  refine cS4v dX11_roofed_54 mo_X11_copies ml_X11_403 (Nat.le_of_ble_eq_true rfl) (by omega) (r_copies (p := 0) (b := 0) (sa_m_before) (sa_m_s) (by omega) (by omega) (by decide) (by decide) (by decide)) ?_
  refine e_iload_n dX11_roofed_57 rfl ?_
  refine e_bipush (v := 60) dX11_roofed_58 (by decide) ?_
  refine e_icmp_le (tgt := 67) dX11_roofed_60 (by decide) (fun c60 => ?_) (fun c60 => ?_)
  · -- 60 jumps
    refine e_iload_n dX11_roofed_67 rfl ?_
    refine e_iret dX11_roofed_68 rfl ?_
    exact ⟨by rw [if_neg c60], hT.back⟩
  · -- 60 goes on
    refine e_iconst (v := (-1)) dX11_roofed_63 (by decide) ?_
    refine e_goto (tgt := 68) dX11_roofed_64 (by decide) ?_
    refine e_iret dX11_roofed_68 rfl ?_
    exact ⟨by rw [if_pos c60], hT.back⟩
set_option maxHeartbeats 4000000 in
set_option maxRecDepth 20000 in
theorem l_rroofed {G : Gt} {M : Mm} {E : Gs} (hJ : RJ M E) {T : Nat} (hI : SI E.Y E.S T) (hTT : T < 2 ^ 30) (hN : NS E.Y)  : ∀ (k : Nat) (i : Nat) (Mc : Mm), (i ≤ 61) → (61 < i + k) → (fstN (fun t => roofV E.Y (itN E.Y E.S t)) 0 61 = fstN (fun t => roofV E.Y (itN E.Y E.S t)) i (61 - i)) → (TR 275 M Mc E.Y E.S i) → Ev G 7 mX11_roofed 20 [.ref 238, .int (nI i)] [] Mc (fun r M' => r = some (.int (oI (fstN (fun t => roofV E.Y (itN E.Y E.S t)) 0 61))) ∧ RC M M') := by
  intro k
  induction k with
  | zero => intro i Mc hi hk hr hT; exact absurd hk (by omega)
  | succ k ih =>
    intro i Mc hi hk hr hT
    have hY := hJ.1
    have h6 := hY.1.2
    have hs5 := hY.2.1.2
    have hL := hJ.2.1
    have hS := hJ.2.2.1
    have hYc := hT.1.1.ry hY
    have hLc := hT.1.1.rl hL
    have hSc := hT.1.2.2
    obtain ⟨ti, hti, hti2⟩ := hI.nt h6 i
    refine e_iload_n dX11_roofed_20 rfl ?_
    refine e_bipush (v := 60) dX11_roofed_21 (by decide) ?_
    refine e_icmp_gt (tgt := 44) dX11_roofed_23 (by decide) (fun c23 => ?_) (fun c23 => ?_)
    · -- 23 jumps
      have hin : i = 61 := by have := lt_of (i := 60) (n := i) (by omega) (by omega) c23; omega
      subst hin
      rw [hr, fst_e]
      have h := x_rroofed (G := G) (i := 61) hT.1
      rw [if_pos (by decide)] at h
      exact h
    · -- 23 goes on
      have hn60 := c23
      have hlt : i < 61 := by have := ge_of (i := 60) (n := i) (by omega) (by omega) c23; omega
      refine e_aload_n dX11_roofed_26 rfl ?_
      refine cV0r dX11_roofed_27 mo_X11_areRoofed ml_X11_431 sh_m rfl (Nat.le_of_ble_eq_true rfl) (by omega) (r_areRoofed hYc hSc) ?_
      refine e_if_ne (tgt := 44) dX11_roofed_30 (by decide) (fun c30 => ?_) (fun c30 => ?_)
      · -- 30 jumps
        have hP : roofV E.Y (itN E.Y E.S i) = true := Classical.not_not.mp (fun q => c30 (b2i_f q))
        rw [hr, fst_t hlt hP]
        have h := x_rroofed (G := G) (i := i) hT.1
        rw [if_neg hn60] at h
        exact h
      · -- 30 goes on
        refine e_aload_n dX11_roofed_33 rfl ?_
        refine cV0x dX11_roofed_34 mo_X11_passesAsTold ml_X11_410 sh_m rfl (Nat.le_of_ble_eq_true rfl) (by omega) (r_passesAsTold hYc hSc hLc hN hti (by omega)) ?_
        rintro r M2 ⟨rfl, hp1, hp2, hp3⟩
        dsimp only [Option.toList, List.cons_append, List.nil_append]
        refine e_pop dX11_roofed_37 rfl ?_
        refine e_iinc (ls' := [_, _]) dX11_roofed_38 rfl (nI_i1 _) (by decide) rfl ?_
        refine e_goto (tgt := 20) dX11_roofed_41 (by decide) ?_
        have hP : roofV E.Y (itN E.Y E.S i) = false := Bool.eq_false_iff.mpr (b2i_eq0.mp c30)
        exact ih (i + 1) M2 (by omega) (by omega) (hr.trans (fst_f hlt hP)) (hT.next tx5 hp1 hp2 hp3)
set_option maxHeartbeats 4000000 in
set_option maxRecDepth 20000 in
theorem r_roofed {G : Gt} {M : Mm} {E : Gs} (hJ : RJ M E) {T : Nat} (hI : SI E.Y E.S T) (hTT : T < 2 ^ 30) (hN : NS E.Y) : Call G 7 mX11_roofed [.ref 238] M (fun r M' => r = some (.int (roofedQ E)) ∧ RC M M') := by
  refine Call.intro rfl (Nat.le_of_ble_eq_true rfl) ?_
  show Ev G _ mX11_roofed 0 [.ref 238, RA] [] M _
  refine e_aload_n dX11_roofed_0 rfl ?_
  refine e_iconst (v := 0) dX11_roofed_1 (by decide) ?_
  refine e_putI dX11_roofed_2 fl_X11_153 sh_m rfl rfl rfl ?_
  refine th0 (fun M1 hC1 => ?_)
  have hJ := hC1.keep hJ
  have hY := hJ.1
  have h6 := hY.1.2
  have hs5 := hY.2.1.2
  have hL := hJ.2.1
  have hS := hJ.2.2.1
  refine e_aload_n dX11_roofed_5 rfl ?_
  refine e_getR dX11_roofed_6 fl_X11_114 sh_m rfl ?_
  refine e_iconst (v := 0) dX11_roofed_9 (by decide) ?_
  refine e_aload_n dX11_roofed_10 rfl ?_
  refine e_getR dX11_roofed_11 fl_X11_120 sh_m rfl ?_
  refine e_iconst (v := 0) dX11_roofed_14 (by decide) ?_
  refine cS4v dX11_roofed_15 mo_X11_copies ml_X11_403 (Nat.le_of_ble_eq_true rfl) (by omega) (r_copies (p := 0) (b := 0) (sa_m_s) (sa_m_before) (by omega) (by omega) (by decide) (by decide) (by decide)) ?_
  refine e_iconst (v := 0) dX11_roofed_18 (by decide) ?_
  refine e_istore_n (ls' := [_, _]) dX11_roofed_19 (by decide) rfl ?_
  unfold roofedQ
  exact (l_rroofed hJ hI hTT hN 62 0 _ (by omega) (by omega) rfl (TR.start tx5 h6 hS)).weaken (fun r M2 h => ⟨h.1, hC1.trans h.2⟩)
set_option maxHeartbeats 4000000 in
set_option maxRecDepth 20000 in
theorem l_rhad {G : Gt} {M : Mm} {Y : Yv} {S : Sv} {s : Nat} (hY : RY M Y) (hS : RW M 273 0 Y.n S) (hs : s < Y.ns) : ∀ (k : Nat) (i : Nat) , (i ≤ Y.n) → (Y.n < i + k) → Ev G 3 mX11_hadBy 4 [.ref 238, .int (nI s), .int (setB (fun j => decide (¬ murS S j < Y.low s ∧ ¬ Y.high s < murS S j)) i), .int (nI i)] [] M (eqQ (some (.int (hadV Y S s))) M) := by
  intro k
  induction k with
  | zero => intro i hi hk; exact absurd hk (by omega)
  | succ k ih =>
    intro i hi hk
    have h6 := hY.1.2
    refine e_iload_n dX11_hadBy_4 rfl ?_
    refine e_aload_n dX11_hadBy_5 rfl ?_
    refine e_getR dX11_hadBy_6 fl_X11_13 sh_m rfl ?_
    refine e_iconst (v := 0) dX11_hadBy_9 (by decide) ?_
    refine e_ialdN (j := 0) dX11_hadBy_10 (sa_m_yard) (by decide) (by omega) ?_
    rw [hY.1.1]
    refine e_icmp_ge (tgt := 43) dX11_hadBy_11 (by decide) (fun c11 => ?_) (fun c11 => ?_)
    · -- 11 jumps
      have hin : i = Y.n := by have := ge_of (n := Y.n) (by omega) (by omega) c11; omega
      subst hin
      refine e_iload_n dX11_hadBy_43 rfl ?_
      refine e_iret dX11_hadBy_44 rfl ?_
      exact ⟨rfl, rfl⟩
    · -- 11 goes on
      have hlt : i < Y.n := lt_of (n := Y.n) (by omega) (by omega) c11
      refine e_iload_n dX11_hadBy_14 rfl ?_
      refine e_aload_n dX11_hadBy_15 rfl ?_
      refine e_iload_n dX11_hadBy_16 rfl ?_
      refine e_aload_n dX11_hadBy_17 rfl ?_
      refine e_iload_n dX11_hadBy_18 rfl ?_
      refine cV1r dX11_hadBy_19 mo_X11_murmurOf ml_X11_394 sh_m rfl (Nat.le_of_ble_eq_true rfl) (by omega) (r_murmurOf hY hS hlt) ?_
      refine cV2r dX11_hadBy_22 mo_X11_canHave ml_X11_434 sh_m rfl (Nat.le_of_ble_eq_true rfl) (by omega) (r_canHave hY hs) ?_
      refine e_if_eq (tgt := 34) dX11_hadBy_25 (by decide) (fun c25 => ?_) (fun c25 => ?_)
      · -- 25 jumps
        refine e_iconst (v := 0) dX11_hadBy_34 (by decide) ?_
        refine e_ior dX11_hadBy_35 ?_
        refine e_istore_n (ls' := [_, _, _, _]) dX11_hadBy_36 (by decide) rfl ?_
        refine e_iinc (ls' := [_, _, _, _]) dX11_hadBy_37 rfl (nI_i1 _) (by decide) rfl ?_
        refine e_goto (tgt := 4) dX11_hadBy_40 (by decide) ?_
        have hh := ih (i + 1) (by omega) (by omega)
        rw [setB_f (decide_eq_false (b2i_eq0.mp c25))] at hh
        rw [Int32.or_zero]
        exact hh
      · -- 25 goes on
        refine e_iconst (v := 1) dX11_hadBy_28 (by decide) ?_
        refine e_iload_n dX11_hadBy_29 rfl ?_
        refine e_ishl dX11_hadBy_30 ?_
        refine e_goto (tgt := 35) dX11_hadBy_31 (by decide) ?_
        refine e_ior dX11_hadBy_35 ?_
        refine e_istore_n (ls' := [_, _, _, _]) dX11_hadBy_36 (by decide) rfl ?_
        refine e_iinc (ls' := [_, _, _, _]) dX11_hadBy_37 rfl (nI_i1 _) (by decide) rfl ?_
        refine e_goto (tgt := 4) dX11_hadBy_40 (by decide) ?_
        have hh := ih (i + 1) (by omega) (by omega)
        rw [setB_t (decide_eq_true (Classical.not_not.mp (fun q => c25 (b2i_f q))))] at hh
        exact hh
set_option maxHeartbeats 4000000 in
set_option maxRecDepth 20000 in
theorem r_hadBy {G : Gt} {M : Mm} {Y : Yv} {S : Sv} {s : Nat} (hY : RY M Y) (hS : RW M 273 0 Y.n S) (hs : s < Y.ns) : Call G 3 mX11_hadBy [.ref 238, .int (nI s)] M (eqQ (some (.int (hadV Y S s))) M) := by
  refine Call.intro rfl (Nat.le_of_ble_eq_true rfl) ?_
  show Ev G _ mX11_hadBy 0 [.ref 238, .int (nI s), RA, RA] [] M _
  refine e_iconst (v := 0) dX11_hadBy_0 (by decide) ?_
  refine e_istore_n (ls' := [_, _, _, _]) dX11_hadBy_1 (by decide) rfl ?_
  refine e_iconst (v := 0) dX11_hadBy_2 (by decide) ?_
  refine e_istore_n (ls' := [_, _, _, _]) dX11_hadBy_3 (by decide) rfl ?_
  have h6 := hY.1.2
  exact l_rhad hY hS hs (Y.n + 1) 0 (by omega) (by omega)
set_option maxHeartbeats 4000000 in
set_option maxRecDepth 20000 in
theorem r_had {G : Gt} {M : Mm} {E : Gs} (hJ : RJ M E) {i : Int32} : Call G 4 mX11_had [.ref 238, .int i] M (fun r M' => r = some (.int (hadQ E i)) ∧ RC M M') := by
  refine Call.intro rfl (Nat.le_of_ble_eq_true rfl) ?_
  show Ev G _ mX11_had 0 [.ref 238, .int i] [] M _
  refine e_aload_n dX11_had_0 rfl ?_
  refine e_iconst (v := 0) dX11_had_1 (by decide) ?_
  refine e_putI dX11_had_2 fl_X11_153 sh_m rfl rfl rfl ?_
  refine th0 (fun M1 hC1 => ?_)
  have hJ := hC1.keep hJ
  have hY := hJ.1
  have h6 := hY.1.2
  have hs5 := hY.2.1.2
  have hL := hJ.2.1
  have hS := hJ.2.2.1
  refine e_aload_n dX11_had_5 rfl ?_
  refine e_iload_n dX11_had_6 rfl ?_
  refine cV1r dX11_had_7 mo_X11_isStage ml_X11_400 sh_m rfl (Nat.le_of_ble_eq_true rfl) (by omega) (r_isStage (by assumption)) ?_
  refine e_if_eq (tgt := 21) dX11_had_10 (by decide) (fun c10 => ?_) (fun c10 => ?_)
  · -- 10 jumps
    refine e_iconst (v := (-1)) dX11_had_21 (by decide) ?_
    refine e_iret dX11_had_22 rfl ?_
    exact ⟨by unfold hadQ; rw [if_neg (b2i_eq0.mp c10)], hC1⟩
  · -- 10 goes on
    have hsh10 : ¬ i < 0 ∧ i < nI E.Y.ns := by
      by_cases h : (¬ i < 0 ∧ i < nI E.Y.ns)
      · exact h
      · exact absurd (b2i_f h) c10
    obtain ⟨j, hj, rfl⟩ := shed_of (by omega) hsh10
    refine e_aload_n dX11_had_13 rfl ?_
    refine e_iload_n dX11_had_14 rfl ?_
    refine cV1r dX11_had_15 mo_X11_hadBy ml_X11_437 sh_m rfl (Nat.le_of_ble_eq_true rfl) (by omega) (r_hadBy hY hS hj) ?_
    refine e_goto (tgt := 22) dX11_had_18 (by decide) ?_
    refine e_iret dX11_had_22 rfl ?_
    exact ⟨by unfold hadQ; rw [if_pos hsh10, nI_clamp (by omega)], hC1⟩
set_option maxHeartbeats 4000000 in
set_option maxRecDepth 20000 in
theorem x_rwaits {G : Gt} {M Mc : Mm} {E : Gs} {S : Sv} {i : Nat} {j : Nat} (hj : j < E.Y.ns) (hT : TB 275 M Mc E.Y.n S) : Ev G 7 mX11_waits 55 [.ref 238, .int (nI j), .int (nI i)] [] Mc (fun r M' => r = some (.int (if 60 < nI i then -1 else nI i)) ∧ RC M M') := by
  refine e_aload_n dX11_waits_55 rfl ?_
  refine e_getR dX11_waits_56 fl_X11_120 sh_m rfl ?_
  refine e_iconst (v := 0) dX11_waits_59 (by decide) ?_
  refine e_aload_n dX11_waits_60 rfl ?_
  refine e_getR dX11_waits_61 fl_X11_114 sh_m rfl ?_
  refine e_iconst (v := 0) dX11_waits_64 (by decide) ?_
  refine cS4v dX11_waits_65 mo_X11_copies ml_X11_403 (Nat.le_of_ble_eq_true rfl) (by omega) (r_copies (p := 0) (b := 0) (sa_m_before) (sa_m_s) (by omega) (by omega) (by decide) (by decide) (by decide)) ?_
  refine e_iload_n dX11_waits_68 rfl ?_
  refine e_bipush (v := 60) dX11_waits_69 (by decide) ?_
  refine e_icmp_le (tgt := 78) dX11_waits_71 (by decide) (fun c71 => ?_) (fun c71 => ?_)
  · -- 71 jumps
    refine e_iload_n dX11_waits_78 rfl ?_
    refine e_iret dX11_waits_79 rfl ?_
    exact ⟨by rw [if_neg c71], hT.back⟩
  · -- 71 goes on
    refine e_iconst (v := (-1)) dX11_waits_74 (by decide) ?_
    refine e_goto (tgt := 79) dX11_waits_75 (by decide) ?_
    refine e_iret dX11_waits_79 rfl ?_
    exact ⟨by rw [if_pos c71], hT.back⟩
set_option maxHeartbeats 4000000 in
set_option maxRecDepth 20000 in
theorem l_rwaits {G : Gt} {M : Mm} {E : Gs} (hJ : RJ M E) {T : Nat} (hI : SI E.Y E.S T) (hTT : T < 2 ^ 30) (hN : NS E.Y) {j : Nat} (hj : j < E.Y.ns) : ∀ (k : Nat) (i : Nat) (Mc : Mm), (i ≤ 61) → (61 < i + k) → (fstN (fun t => !decide (hadV E.Y (itN E.Y E.S t) j = 0)) 0 61 = fstN (fun t => !decide (hadV E.Y (itN E.Y E.S t) j = 0)) i (61 - i)) → (TR 275 M Mc E.Y E.S i) → Ev G 7 mX11_waits 30 [.ref 238, .int (nI j), .int (nI i)] [] Mc (fun r M' => r = some (.int (oI (fstN (fun t => !decide (hadV E.Y (itN E.Y E.S t) j = 0)) 0 61))) ∧ RC M M') := by
  intro k
  induction k with
  | zero => intro i Mc hi hk hr hT; exact absurd hk (by omega)
  | succ k ih =>
    intro i Mc hi hk hr hT
    have hY := hJ.1
    have h6 := hY.1.2
    have hs5 := hY.2.1.2
    have hL := hJ.2.1
    have hS := hJ.2.2.1
    have hYc := hT.1.1.ry hY
    have hLc := hT.1.1.rl hL
    have hSc := hT.1.2.2
    obtain ⟨ti, hti, hti2⟩ := hI.nt h6 i
    refine e_iload_n dX11_waits_30 rfl ?_
    refine e_bipush (v := 60) dX11_waits_31 (by decide) ?_
    refine e_icmp_gt (tgt := 55) dX11_waits_33 (by decide) (fun c33 => ?_) (fun c33 => ?_)
    · -- 33 jumps
      have hin : i = 61 := by have := lt_of (i := 60) (n := i) (by omega) (by omega) c33; omega
      subst hin
      rw [hr, fst_e]
      have h := x_rwaits (G := G) hj (i := 61) hT.1
      rw [if_pos (by decide)] at h
      exact h
    · -- 33 goes on
      have hn60 := c33
      have hlt : i < 61 := by have := ge_of (i := 60) (n := i) (by omega) (by omega) c33; omega
      refine e_aload_n dX11_waits_36 rfl ?_
      refine e_iload_n dX11_waits_37 rfl ?_
      refine cV1r dX11_waits_38 mo_X11_hadBy ml_X11_437 sh_m rfl (Nat.le_of_ble_eq_true rfl) (by omega) (r_hadBy hYc hSc hj) ?_
      refine e_if_ne (tgt := 55) dX11_waits_41 (by decide) (fun c41 => ?_) (fun c41 => ?_)
      · -- 41 jumps
        have hP : (!decide (hadV E.Y (itN E.Y E.S i) j = 0)) = true := by rw [decide_eq_false c41]; rfl
        rw [hr, fst_t hlt hP]
        have h := x_rwaits (G := G) hj (i := i) hT.1
        rw [if_neg hn60] at h
        exact h
      · -- 41 goes on
        refine e_aload_n dX11_waits_44 rfl ?_
        refine cV0x dX11_waits_45 mo_X11_passesAsTold ml_X11_410 sh_m rfl (Nat.le_of_ble_eq_true rfl) (by omega) (r_passesAsTold hYc hSc hLc hN hti (by omega)) ?_
        rintro r M2 ⟨rfl, hp1, hp2, hp3⟩
        dsimp only [Option.toList, List.cons_append, List.nil_append]
        refine e_pop dX11_waits_48 rfl ?_
        refine e_iinc (ls' := [_, _, _]) dX11_waits_49 rfl (nI_i1 _) (by decide) rfl ?_
        refine e_goto (tgt := 30) dX11_waits_52 (by decide) ?_
        have hP : (!decide (hadV E.Y (itN E.Y E.S i) j = 0)) = false := by rw [decide_eq_true c41]; rfl
        exact ih (i + 1) M2 (by omega) (by omega) (hr.trans (fst_f hlt hP)) (hT.next tx5 hp1 hp2 hp3)
set_option maxHeartbeats 4000000 in
set_option maxRecDepth 20000 in
theorem r_waits {G : Gt} {M : Mm} {E : Gs} (hJ : RJ M E) {T : Nat} (hI : SI E.Y E.S T) (hTT : T < 2 ^ 30) (hN : NS E.Y) {i : Int32} : Call G 7 mX11_waits [.ref 238, .int i] M (fun r M' => r = some (.int (waitsQ E i)) ∧ RC M M') := by
  refine Call.intro rfl (Nat.le_of_ble_eq_true rfl) ?_
  show Ev G _ mX11_waits 0 [.ref 238, .int i, RA] [] M _
  refine e_aload_n dX11_waits_0 rfl ?_
  refine e_iconst (v := 0) dX11_waits_1 (by decide) ?_
  refine e_putI dX11_waits_2 fl_X11_153 sh_m rfl rfl rfl ?_
  refine th0 (fun M1 hC1 => ?_)
  have hJ := hC1.keep hJ
  have hY := hJ.1
  have h6 := hY.1.2
  have hs5 := hY.2.1.2
  have hL := hJ.2.1
  have hS := hJ.2.2.1
  refine e_aload_n dX11_waits_5 rfl ?_
  refine e_iload_n dX11_waits_6 rfl ?_
  refine cV1r dX11_waits_7 mo_X11_isStage ml_X11_400 sh_m rfl (Nat.le_of_ble_eq_true rfl) (by omega) (r_isStage (by assumption)) ?_
  refine e_if_ne (tgt := 15) dX11_waits_10 (by decide) (fun c10 => ?_) (fun c10 => ?_)
  · -- 10 jumps
    have hsh10 : ¬ i < 0 ∧ i < nI E.Y.ns := by
      by_cases h : (¬ i < 0 ∧ i < nI E.Y.ns)
      · exact h
      · exact absurd (b2i_f h) c10
    obtain ⟨j, hj, rfl⟩ := shed_of (by omega) hsh10
    refine e_aload_n dX11_waits_15 rfl ?_
    refine e_getR dX11_waits_16 fl_X11_114 sh_m rfl ?_
    refine e_iconst (v := 0) dX11_waits_19 (by decide) ?_
    refine e_aload_n dX11_waits_20 rfl ?_
    refine e_getR dX11_waits_21 fl_X11_120 sh_m rfl ?_
    refine e_iconst (v := 0) dX11_waits_24 (by decide) ?_
    refine cS4v dX11_waits_25 mo_X11_copies ml_X11_403 (Nat.le_of_ble_eq_true rfl) (by omega) (r_copies (p := 0) (b := 0) (sa_m_s) (sa_m_before) (by omega) (by omega) (by decide) (by decide) (by decide)) ?_
    refine e_iconst (v := 0) dX11_waits_28 (by decide) ?_
    refine e_istore_n (ls' := [_, _, _]) dX11_waits_29 (by decide) rfl ?_
    unfold waitsQ
    rw [if_pos hsh10, nI_clamp (by omega)]
    exact (l_rwaits hJ hI hTT hN hj 62 0 _ (by omega) (by omega) rfl (TR.start tx5 h6 hS)).weaken (fun r M2 h => ⟨h.1, hC1.trans h.2⟩)
  · -- 10 goes on
    refine e_iconst (v := (-1)) dX11_waits_13 (by decide) ?_
    refine e_iret dX11_waits_14 rfl ?_
    exact ⟨by unfold waitsQ; rw [if_neg (b2i_eq0.mp c10)], hC1⟩
end RTY
