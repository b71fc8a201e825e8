section XYD
theorem np0 {d : Nat} (hd : d < 2 ^ 31) (h : ¬ 0 < nI d) : d = 0 := by
  rcases Nat.eq_zero_or_pos d with q | q
  · exact q
  · exact absurd ((nI_ltI (a := 0) (by omega) hd).mpr q) h
theorem pk_rem' {a d : Nat} (ha : a < 2 ^ 31) (h0 : 0 < d) (hd : d < 2 ^ 31) : nI a - nI a / nI d * nI d = nI (a % d) := pk_rem ha h0 hd
def YX (M : Mm) (y : Nat) (Y : Yv) : Prop :=
  (M.1 y 5 = nI Y.n ∧ Y.n ≤ 6) ∧ (M.1 y 9 = nI Y.ns ∧ Y.ns ≤ 5) ∧ (M.1 y 11 = nI Y.nf ∧ Y.nf ≤ 12) ∧ M.1 y 12 = Y.roof ∧
  (∀ j, j < Y.n → M.1 (y + 2) j = Y.kind j ∧ M.1 (y + 3) j = Y.heat j ∧ M.1 (y + 4) j = Y.crow j ∧ M.1 (y + 5) j = Y.near j ∧ M.2.1 (y + 1) j = Y.name j) ∧
  (∀ j, j < Y.ns → M.1 (y + 7) j = Y.low j ∧ M.1 (y + 8) j = Y.high j ∧ M.2.1 (y + 6) j = Y.sname j) ∧
  (∀ j, j < Y.nf → M.1 (y + 9) j = Y.frost j) ∧
  (0 < Y.n → lawOK M (y + 10) Y.gE)
theorem lawOK.congr {M M' : Mm} {w : Nat} {E : Int32 → Int32 → Int32 → Int32 → Int32} (h : lawOK M w E) (h1 : M'.1 w = M.1 w) (h2 : M'.1 (w + 1) = M.1 (w + 1)) : lawOK M' w E := by
  obtain ⟨z, a, b, c, d⟩ := h
  exact ⟨z, a, b, by rw [h1]; exact c, by rw [h2]; exact d⟩
/-- a yard is as it was where its cells but facts and stack are -/
theorem YX.congr {M M' : Mm} {y : Nat} {Y : Yv} (h : YX M y Y) (hl : M'.2 = M.2) (h1 : ∀ i, y ≤ i → i ≤ y + 11 → M'.1 i = M.1 i) : YX M' y Y := by
  obtain ⟨a, b, c, d, e, g, k, l⟩ := h
  unfold YX
  rw [h1 y (by omega) (by omega), h1 (y + 2) (by omega) (by omega), h1 (y + 3) (by omega) (by omega), h1 (y + 4) (by omega) (by omega), h1 (y + 5) (by omega) (by omega), h1 (y + 7) (by omega) (by omega), h1 (y + 8) (by omega) (by omega), h1 (y + 9) (by omega) (by omega), hl]
  exact ⟨a, b, c, d, e, g, k, fun q => (l q).congr (h1 _ (by omega) (by omega)) (h1 _ (by omega) (by omega))⟩
def frV (Y : Yv) (nights : Int32) : Int32 := if Y.nf = 0 then 0 else Y.frost (nights.toNatClampNeg % Y.nf)
set_option maxHeartbeats 4000000 in
set_option maxRecDepth 20000 in
theorem c_areNear {G : Gt} {M : Mm} {y i : Nat} {x : Int32} (hy : y ∈ ydA) (hi : i < 6) : Call G 2 mX8_areNear [.ref y, .int (nI i), .int x] M (eqQ (some (.int (b2i (bitI (M.1 (y + 5) i) x)))) M) := by
  refine Call.intro rfl (Nat.le_of_ble_eq_true rfl) ?_
  show Ev G _ mX8_areNear 0 [.ref y, .int (nI i), .int x] [] M _
  refine e_aload_n dX8_areNear_0 rfl ?_
  refine e_getR dX8_areNear_1 fl_X8_25 (sh_yd (by first | assumption | decide)) rfl ?_
  refine e_iload_n dX8_areNear_4 rfl ?_
  refine cS2r dX8_areNear_5 mo_X10_at ml_X8_77 (Nat.le_of_ble_eq_true rfl) (by omega) (c_atN (sa_yd_near (by first | assumption | decide)) (by decide) (by first | omega | decide)) ?_
  refine e_iload_n dX8_areNear_8 rfl ?_
  refine e_ishr dX8_areNear_9 ?_
  refine e_iconst (v := 1) dX8_areNear_10 (by decide) ?_
  refine e_iand dX8_areNear_11 ?_
  refine e_iconst (v := 1) dX8_areNear_12 (by decide) ?_
  refine e_icmp_ne (tgt := 20) dX8_areNear_13 (by decide) (fun c13 => ?_) (fun c13 => ?_)
  · -- 13 jumps
    refine e_iconst (v := 0) dX8_areNear_20 (by decide) ?_
    refine e_zret dX8_areNear_21 rfl (by first | rfl | exact b2i_nar _) ?_
    exact ⟨by rw [b2i_f c13], rfl⟩
  · -- 13 goes on
    refine e_iconst (v := 1) dX8_areNear_16 (by decide) ?_
    refine e_goto (tgt := 21) dX8_areNear_17 (by decide) ?_
    refine e_zret dX8_areNear_21 rfl (by first | rfl | exact b2i_nar _) ?_
    exact ⟨by rw [b2i_t c13], rfl⟩
set_option maxHeartbeats 4000000 in
set_option maxRecDepth 20000 in
theorem c_frostOf {G : Gt} {M : Mm} {y : Nat} {Y : Yv} (hy : y ∈ ydA) (hY : YX M y Y) {t : Nat} (ht : t < 2 ^ 31) : Call G 2 mX8_frostOf [.ref y, .int (nI t)] M (eqQ (some (.int (frV Y (nI t)))) M) := by
  refine Call.intro rfl (Nat.le_of_ble_eq_true rfl) ?_
  show Ev G _ mX8_frostOf 0 [.ref y, .int (nI t)] [] M _
  refine e_aload_n dX8_frostOf_0 rfl ?_
  refine e_getI dX8_frostOf_1 fl_X8_57 (sh_yd (by first | assumption | decide)) rfl ?_
  refine e_if_le (tgt := 23) dX8_frostOf_4 (by decide) (fun c4 => ?_) (fun c4 => ?_)
  · -- 4 jumps
    refine e_iconst (v := 0) dX8_frostOf_23 (by decide) ?_
    refine e_iret dX8_frostOf_24 rfl ?_
    have h := hY.2.2.1
    rw [h.1] at c4
    exact ⟨by unfold frV; rw [if_pos (np0 (by omega) c4)], rfl⟩
  · -- 4 goes on
    have h := hY.2.2.1
    rw [h.1] at c4
    have hpos : 0 < Y.nf := (nI_ltI (a := 0) (by omega) (by omega)).mp c4
    have hne : ¬ M.1 y 11 = 0 := by rw [h.1]; exact nI_ne0 hpos (by omega)
    refine e_aload_n dX8_frostOf_7 rfl ?_
    refine e_getR dX8_frostOf_8 fl_X8_37 (sh_yd (by first | assumption | decide)) rfl ?_
    refine e_iload_n dX8_frostOf_11 rfl ?_
    refine e_aload_n dX8_frostOf_12 rfl ?_
    refine e_getI dX8_frostOf_13 fl_X8_57 (sh_yd (by first | assumption | decide)) rfl ?_
    refine e_irem dX8_frostOf_16 hne ?_
    rw [h.1, pk_rem' ht hpos (by omega)]
    refine cS2r dX8_frostOf_17 mo_X10_at ml_X8_77 (Nat.le_of_ble_eq_true rfl) (by omega) (c_atN (sa_yd_frosts (by first | assumption | decide)) (by decide) (by have := Nat.mod_lt t hpos; omega)) ?_
    refine e_goto (tgt := 24) dX8_frostOf_20 (by decide) ?_
    refine e_iret dX8_frostOf_24 rfl ?_
    exact ⟨by unfold frV; rw [if_neg (by omega), nI_clamp ht, hY.2.2.2.2.2.2.1 _ (Nat.mod_lt _ hpos)], rfl⟩
def suitV (Y : Yv) (s : Nat) (v : Int32) : Prop := ¬ v < Y.low s ∧ ¬ Y.high s < v
set_option maxHeartbeats 4000000 in
set_option maxRecDepth 20000 in
theorem c_suits {G : Gt} {M : Mm} {y : Nat} {Y : Yv} (hy : y ∈ ydA) (hY : YX M y Y) {s : Nat} {v : Int32} (hs : s < Y.ns) : Call G 2 mX8_suits [.ref y, .int (nI s), .int v] M (eqQ (some (.int (b2i (¬ v < Y.low s ∧ ¬ Y.high s < v)))) M) := by
  refine Call.intro rfl (Nat.le_of_ble_eq_true rfl) ?_
  show Ev G _ mX8_suits 0 [.ref y, .int (nI s), .int v] [] M _
  refine e_iload_n dX8_suits_0 rfl ?_
  refine e_aload_n dX8_suits_1 rfl ?_
  refine e_getR dX8_suits_2 fl_X8_31 (sh_yd (by first | assumption | decide)) rfl ?_
  refine e_iload_n dX8_suits_5 rfl ?_
  refine cS2r dX8_suits_6 mo_X10_at ml_X8_77 (Nat.le_of_ble_eq_true rfl) (by omega) (c_atN (sa_yd_lows (by first | assumption | decide)) (by decide) (by have := hY.2.1.2; omega)) ?_
  refine e_aload_n dX8_suits_9 rfl ?_
  refine e_getR dX8_suits_10 fl_X8_34 (sh_yd (by first | assumption | decide)) rfl ?_
  refine e_iload_n dX8_suits_13 rfl ?_
  refine cS2r dX8_suits_14 mo_X10_at ml_X8_77 (Nat.le_of_ble_eq_true rfl) (by omega) (c_atN (sa_yd_highs (by first | assumption | decide)) (by decide) (by have := hY.2.1.2; omega)) ?_
  refine cS3r dX8_suits_17 mo_X10_within ml_X8_84 (Nat.le_of_ble_eq_true rfl) (by omega) (c_within) ?_
  refine e_zret dX8_suits_20 rfl (by first | rfl | exact b2i_nar _) ?_
  exact ⟨by rw [(hY.2.2.2.2.2.1 s hs).1, (hY.2.2.2.2.2.1 s hs).2.1], rfl⟩
set_option maxHeartbeats 4000000 in
set_option maxRecDepth 20000 in
theorem l_withNear {G : Gt} {M : Mm} {y : Nat} {Y : Yv} (hy : y ∈ ydA) (hY : YX M y Y) {x : Int32} : ∀ (k : Nat) (i : Nat) , (i ≤ Y.n) → (Y.n < i + k) → Ev G 2 mX8_withNear 4 [.ref y, .int x, .int (orF (fun i => decide (bitI x (nI i))) Y.near x i), .int (nI i)] [] M (eqQ (some (.int (orF (fun i => decide (bitI x (nI i))) Y.near x Y.n))) M) := by
  intro k
  induction k with
  | zero => intro i hi hk; exact absurd hk (by omega)
  | succ k ih =>
    intro i hi hk
    have h6 := hY.1.2
    refine e_iload_n dX8_withNear_4 rfl ?_
    refine e_aload_n dX8_withNear_5 rfl ?_
    refine e_getI dX8_withNear_6 fl_X8_51 (sh_yd (by first | assumption | decide)) rfl ?_
    refine e_icmp_ge (tgt := 38) dX8_withNear_9 (by decide) (fun c9 => ?_) (fun c9 => ?_)
    · -- 9 jumps
      rw [hY.1.1] at c9
      have hin : i = Y.n := by have := ge_of (by omega) (by omega) c9; omega
      subst hin
      refine e_iload_n dX8_withNear_38 rfl ?_
      refine e_iret dX8_withNear_39 rfl ?_
      exact ⟨rfl, rfl⟩
    · -- 9 goes on
      rw [hY.1.1] at c9
      have hlt : i < Y.n := lt_of (by omega) (by omega) c9
      refine e_iload_n dX8_withNear_12 rfl ?_
      refine e_iload_n dX8_withNear_13 rfl ?_
      refine e_ishr dX8_withNear_14 ?_
      refine e_iconst (v := 1) dX8_withNear_15 (by decide) ?_
      refine e_iand dX8_withNear_16 ?_
      refine e_iconst (v := 1) dX8_withNear_17 (by decide) ?_
      refine e_icmp_ne (tgt := 32) dX8_withNear_18 (by decide) (fun c18 => ?_) (fun c18 => ?_)
      · -- 18 jumps
        refine e_iinc (ls' := [_, _, _, _]) dX8_withNear_32 rfl (nI_i1 _) (by decide) rfl ?_
        refine e_goto (tgt := 4) dX8_withNear_35 (by decide) ?_
        have hh := ih (i + 1) (by omega) (by omega)
        rw [orF_f (decide_eq_false c18)] at hh
        exact hh
      · -- 18 goes on
        refine e_iload_n dX8_withNear_21 rfl ?_
        refine e_aload_n dX8_withNear_22 rfl ?_
        refine e_getR dX8_withNear_23 fl_X8_25 (sh_yd (by first | assumption | decide)) rfl ?_
        refine e_iload_n dX8_withNear_26 rfl ?_
        refine cS2r dX8_withNear_27 mo_X10_at ml_X8_77 (Nat.le_of_ble_eq_true rfl) (by omega) (c_atN (sa_yd_near (by first | assumption | decide)) (by decide) (by have := hY.1.2; omega)) ?_
        refine e_ior dX8_withNear_30 ?_
        refine e_istore_n (ls' := [_, _, _, _]) dX8_withNear_31 (by decide) rfl ?_
        refine e_iinc (ls' := [_, _, _, _]) dX8_withNear_32 rfl (nI_i1 _) (by decide) rfl ?_
        refine e_goto (tgt := 4) dX8_withNear_35 (by decide) ?_
        have hh := ih (i + 1) (by omega) (by omega)
        rw [orF_t (decide_eq_true c18)] at hh
        rw [(hY.2.2.2.2.1 i hlt).2.2.2.1]
        exact hh
set_option maxHeartbeats 4000000 in
set_option maxRecDepth 20000 in
theorem c_withNear {G : Gt} {M : Mm} {y : Nat} {Y : Yv} (hy : y ∈ ydA) (hY : YX M y Y) {x : Int32} : Call G 2 mX8_withNear [.ref y, .int x] M (eqQ (some (.int (orF (fun i => decide (bitI x (nI i))) Y.near x Y.n))) M) := by
  refine Call.intro rfl (Nat.le_of_ble_eq_true rfl) ?_
  show Ev G _ mX8_withNear 0 [.ref y, .int x, RA, RA] [] M _
  refine e_iload_n dX8_withNear_0 rfl ?_
  refine e_istore_n (ls' := [_, _, _, _]) dX8_withNear_1 (by decide) rfl ?_
  refine e_iconst (v := 0) dX8_withNear_2 (by decide) ?_
  refine e_istore_n (ls' := [_, _, _, _]) dX8_withNear_3 (by decide) rfl ?_
  exact l_withNear hy hY (Y.n + 1) 0 (by omega) (by omega)
end XYD
