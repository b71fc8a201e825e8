section XTA
/-- where a reader stands: the fault, the place behind the last token that was gone past -/
abbrev Xv : Type := Int32 × Nat
def TG (M : Mm) (t : Tv) (x : Xv) : Prop := x.2 ≤ t.1 ∧ TI t ∧ (x.1 = 0 → TP M t (pl t x.2)) ∧ (¬ x.1 = 0 → TX M t ∧ M.1 6 9 = x.1)
abbrev kdX (t : Tv) (x : Xv) : Int32 := kdP t (pl t x.2)
abbrev wdX (t : Tv) (x : Xv) : Int64 := wdP t (pl t x.2)
abbrev nmX (t : Tv) (x : Xv) : Int32 := nmP t (pl t x.2)
abbrev sgX (t : Tv) (x : Xv) : Int32 := t.2 (pl t x.2)
def advX (t : Tv) (x : Xv) : Xv := if x.1 = 0 then (0, enP t (pl t x.2)) else x
def failX (t : Tv) (k : Int32) (x : Xv) : Xv := if x.1 = 0 then (k + 16 * nI (pl t x.2), x.2) else x
abbrev isW (t : Tv) (x : Xv) (k : Nat) : Prop := x.1 = 0 ∧ kdX t x = 2 ∧ wI (wdX t x) = k
abbrev isN (t : Tv) (x : Xv) : Prop := x.1 = 0 ∧ kdX t x = 3
abbrev isS (t : Tv) (x : Xv) (s : Int32) : Prop := x.1 = 0 ∧ kdX t x = 4 ∧ sgX t x = s
abbrev isM (t : Tv) (x : Xv) : Prop := x.1 = 0 ∧ kdX t x = 2 ∧ wRes.getD (wI (wdX t x)) 0 = 0
abbrev goX (t : Tv) (x : Xv) : Prop := x.1 = 0 ∧ ¬ kdX t x = 0
theorem adv_f {t : Tv} {x : Xv} (h : ¬ x.1 = 0) : advX t x = x := if_neg h
theorem fail_f {t : Tv} {x : Xv} {k : Int32} (h : ¬ x.1 = 0) : failX t k x = x := if_neg h
theorem pl_lt {t : Tv} {x : Xv} (h : x.2 ≤ t.1) (hI : TI t) : pl t x.2 ≤ 1000 := Nat.le_trans (pl_le h).2 hI.1
theorem fail_ne {k p : Nat} (h : 1 ≤ k ∧ k ≤ 5) (hp : p ≤ 1000) : ¬ nI k + 16 * nI p = 0 := by
  have h2 : ∀ k, k ≤ 5 → 1 ≤ k → ∀ p, p ≤ 1000 → ¬ nI k + 16 * nI p = 0 := by
    intro k hk hk1 p hp e
    have e2 : nI k + 16 * nI p = nI (k + 16 * p) := by
      show Int32.ofNat k + Int32.ofNat 16 * Int32.ofNat p = Int32.ofNat (k + 16 * p)
      rw [Int32.ofNat_add, Int32.ofNat_mul]
    rw [e2] at e
    have := (nI_ltI (a := 0) (b := k + 16 * p) (by omega) (by omega)).mpr (by omega)
    rw [e] at this
    exact absurd this (by decide)
  exact h2 k h.2 h.1 p hp
theorem TG.ok {M : Mm} {t : Tv} {x : Xv} (h : TG M t x) (h0 : x.1 = 0) : TP M t (pl t x.2) := h.2.2.1 h0
theorem TG.f9 {M : Mm} {t : Tv} {x : Xv} (h : TG M t x) : M.1 6 9 = x.1 := by
  by_cases h0 : x.1 = 0
  · rw [(h.ok h0).2.2.2.2.1, h0]
  · exact (h.2.2.2 h0).2
theorem TG.tx {M : Mm} {t : Tv} {x : Xv} (h : TG M t x) : TX M t := by
  by_cases h0 : x.1 = 0
  · exact (h.ok h0).1
  · exact (h.2.2.2 h0).1
theorem TG.keep {M M' : Mm} {t : Tv} {x : Xv} (h : TG M t x) (h6 : M'.1 6 = M.1 6) (h7 : M'.1 7 = M.1 7) (hl : M'.2.1 6 = M.2.1 6) (hp : M'.2.2 6 = M.2.2 6) : TG M' t x := by
  refine ⟨h.1, h.2.1, fun h0 => (h.ok h0).keep h6 h7 hl hp, fun h0 => ?_⟩
  obtain ⟨⟨a, b, c⟩, d⟩ := h.2.2.2 h0
  unfold TX
  rw [h6, h7]
  exact ⟨⟨a, b, c⟩, d⟩
theorem enP_le {t : Tv} {p : Nat} (hp : p ≤ t.1) : p ≤ enP t p ∧ enP t p ≤ t.1 := by
  unfold enP
  split
  · split
    · exact rn_le hp
    · split
      · exact rn_le hp
      · omega
  · omega
theorem enP_lt {t : Tv} {p : Nat} (h : p < t.1) : p < enP t p := by
  unfold enP
  rw [if_pos h]
  split
  · rename_i hw
    rw [rn_s h hw]
    have := rn_le (lo := 97) (hi := 122) (t := t) (i := p + 1) (by omega)
    omega
  · split
    · rename_i hw
      rw [rn_s h hw]
      have := rn_le (lo := 48) (hi := 57) (t := t) (i := p + 1) (by omega)
      omega
    · omega
theorem kdP_lt {t : Tv} {p : Nat} (h : ¬ kdP t p = 0) : p < t.1 := by
  rcases Nat.lt_or_ge p t.1 with q | q
  · exact q
  · exact absurd (if_neg (by omega)) h
theorem adv_le {t : Tv} {x : Xv} (h : x.2 ≤ t.1) : x.2 ≤ (advX t x).2 ∧ (advX t x).2 ≤ t.1 := by
  unfold advX
  split
  · have := pl_le h
    have := enP_le (t := t) (p := pl t x.2) (by omega)
    show x.2 ≤ enP t (pl t x.2) ∧ enP t (pl t x.2) ≤ t.1
    omega
  · omega
theorem fail_2 {t : Tv} {x : Xv} {k : Int32} : (failX t k x).2 = x.2 := by
  unfold failX
  split <;> rfl
theorem adv_1 {t : Tv} {x : Xv} : (advX t x).1 = x.1 := by
  unfold advX
  split
  · rename_i h; exact h.symm
  · rfl
-- decisions

set_option maxHeartbeats 4000000 in
set_option maxRecDepth 20000 in
theorem c_goesOn {G : Gt} {M : Mm} {t : Tv} {x : Xv} (hG : TG M t x) : Call G 1 mX4_goesOn [.ref 6] M (eqQ (some (.int (b2i (x.1 = 0 ∧ ¬ kdX t x = 0)))) M) := by
  refine Call.intro rfl (Nat.le_of_ble_eq_true rfl) ?_
  show Ev G _ mX4_goesOn 0 [.ref 6] [] M _
  refine e_aload_n dX4_goesOn_0 rfl ?_
  refine e_getI dX4_goesOn_1 fl_X4_39 sh_tk rfl ?_
  rw [hG.f9]
  refine e_if_ne (tgt := 18) dX4_goesOn_4 (by decide) (fun c4 => ?_) (fun c4 => ?_)
  · -- 4 jumps
    refine e_iconst (v := 0) dX4_goesOn_18 (by decide) ?_
    refine e_zret dX4_goesOn_19 rfl (by first | rfl | exact b2i_nar _) ?_
    exact ⟨by rw [b2i_f (fun q => c4 q.1)], rfl⟩
  · -- 4 goes on
    have hP := hG.ok c4
    refine e_aload_n dX4_goesOn_7 rfl ?_
    refine e_getI dX4_goesOn_8 fl_X4_55 sh_tk rfl ?_
    rw [hP.2.2.1]
    refine e_if_eq (tgt := 18) dX4_goesOn_11 (by decide) (fun c11 => ?_) (fun c11 => ?_)
    · -- 11 jumps
      refine e_iconst (v := 0) dX4_goesOn_18 (by decide) ?_
      refine e_zret dX4_goesOn_19 rfl (by first | rfl | exact b2i_nar _) ?_
      exact ⟨by rw [b2i_f (fun q => q.2 c11)], rfl⟩
    · -- 11 goes on
      refine e_iconst (v := 1) dX4_goesOn_14 (by decide) ?_
      refine e_goto (tgt := 19) dX4_goesOn_15 (by decide) ?_
      refine e_zret dX4_goesOn_19 rfl (by first | rfl | exact b2i_nar _) ?_
      exact ⟨by rw [b2i_t ⟨c4, c11⟩], rfl⟩
set_option maxHeartbeats 4000000 in
set_option maxRecDepth 20000 in
theorem c_isNumber {G : Gt} {M : Mm} {t : Tv} {x : Xv} (hG : TG M t x) : Call G 1 mX4_isNumber [.ref 6] M (eqQ (some (.int (b2i (x.1 = 0 ∧ kdX t x = 3)))) M) := by
  refine Call.intro rfl (Nat.le_of_ble_eq_true rfl) ?_
  show Ev G _ mX4_isNumber 0 [.ref 6] [] M _
  refine e_aload_n dX4_isNumber_0 rfl ?_
  refine e_getI dX4_isNumber_1 fl_X4_39 sh_tk rfl ?_
  rw [hG.f9]
  refine e_if_ne (tgt := 19) dX4_isNumber_4 (by decide) (fun c4 => ?_) (fun c4 => ?_)
  · -- 4 jumps
    refine e_iconst (v := 0) dX4_isNumber_19 (by decide) ?_
    refine e_zret dX4_isNumber_20 rfl (by first | rfl | exact b2i_nar _) ?_
    exact ⟨by rw [b2i_f (fun q => c4 q.1)], rfl⟩
  · -- 4 goes on
    have hP := hG.ok c4
    refine e_aload_n dX4_isNumber_7 rfl ?_
    refine e_getI dX4_isNumber_8 fl_X4_55 sh_tk rfl ?_
    rw [hP.2.2.1]
    refine e_iconst (v := 3) dX4_isNumber_11 (by decide) ?_
    refine e_icmp_ne (tgt := 19) dX4_isNumber_12 (by decide) (fun c12 => ?_) (fun c12 => ?_)
    · -- 12 jumps
      refine e_iconst (v := 0) dX4_isNumber_19 (by decide) ?_
      refine e_zret dX4_isNumber_20 rfl (by first | rfl | exact b2i_nar _) ?_
      exact ⟨by rw [b2i_f (fun q => c12 q.2)], rfl⟩
    · -- 12 goes on
      refine e_iconst (v := 1) dX4_isNumber_15 (by decide) ?_
      refine e_goto (tgt := 20) dX4_isNumber_16 (by decide) ?_
      refine e_zret dX4_isNumber_20 rfl (by first | rfl | exact b2i_nar _) ?_
      exact ⟨by rw [b2i_t ⟨c4, c12⟩], rfl⟩
set_option maxHeartbeats 4000000 in
set_option maxRecDepth 20000 in
theorem c_isSign {G : Gt} {M : Mm} {t : Tv} {x : Xv} (hG : TG M t x) {s : Int32} : Call G 1 mX4_isSign [.ref 6, .int s] M (eqQ (some (.int (b2i (x.1 = 0 ∧ kdX t x = 4 ∧ sgX t x = s)))) M) := by
  refine Call.intro rfl (Nat.le_of_ble_eq_true rfl) ?_
  show Ev G _ mX4_isSign 0 [.ref 6, .int s] [] M _
  refine e_aload_n dX4_isSign_0 rfl ?_
  refine e_getI dX4_isSign_1 fl_X4_39 sh_tk rfl ?_
  rw [hG.f9]
  refine e_if_ne (tgt := 27) dX4_isSign_4 (by decide) (fun c4 => ?_) (fun c4 => ?_)
  · -- 4 jumps
    refine e_iconst (v := 0) dX4_isSign_27 (by decide) ?_
    refine e_zret dX4_isSign_28 rfl (by first | rfl | exact b2i_nar _) ?_
    exact ⟨by rw [b2i_f (fun q => c4 q.1)], rfl⟩
  · -- 4 goes on
    have hP := hG.ok c4
    refine e_aload_n dX4_isSign_7 rfl ?_
    refine e_getI dX4_isSign_8 fl_X4_55 sh_tk rfl ?_
    rw [hP.2.2.1]
    refine e_iconst (v := 4) dX4_isSign_11 (by decide) ?_
    refine e_icmp_ne (tgt := 27) dX4_isSign_12 (by decide) (fun c12 => ?_) (fun c12 => ?_)
    · -- 12 jumps
      refine e_iconst (v := 0) dX4_isSign_27 (by decide) ?_
      refine e_zret dX4_isSign_28 rfl (by first | rfl | exact b2i_nar _) ?_
      exact ⟨by rw [b2i_f (fun q => c12 q.2.1)], rfl⟩
    · -- 12 goes on
      refine e_aload_n dX4_isSign_15 rfl ?_
      refine e_getI dX4_isSign_16 fl_X4_52 sh_tk rfl ?_
      rw [hP.2.2.2.2.2.1 c12]
      refine e_iload_n dX4_isSign_19 rfl ?_
      refine e_icmp_ne (tgt := 27) dX4_isSign_20 (by decide) (fun c20 => ?_) (fun c20 => ?_)
      · -- 20 jumps
        refine e_iconst (v := 0) dX4_isSign_27 (by decide) ?_
        refine e_zret dX4_isSign_28 rfl (by first | rfl | exact b2i_nar _) ?_
        exact ⟨by rw [b2i_f (fun q => c20 q.2.2)], rfl⟩
      · -- 20 goes on
        refine e_iconst (v := 1) dX4_isSign_23 (by decide) ?_
        refine e_goto (tgt := 28) dX4_isSign_24 (by decide) ?_
        refine e_zret dX4_isSign_28 rfl (by first | rfl | exact b2i_nar _) ?_
        exact ⟨by rw [b2i_t ⟨c4, c12, c20⟩], rfl⟩
set_option maxHeartbeats 4000000 in
set_option maxRecDepth 20000 in
theorem c_isWord {G : Gt} {M : Mm} {t : Tv} {x : Xv} (hG : TG M t x) {k : Nat} (hk : k < 25) : Call G 1 mX4_isWord [.ref 6, .ref (2000 + k)] M (eqQ (some (.int (b2i (x.1 = 0 ∧ kdX t x = 2 ∧ wI (wdX t x) = k)))) M) := by
  refine Call.intro rfl (Nat.le_of_ble_eq_true rfl) ?_
  show Ev G _ mX4_isWord 0 [.ref 6, .ref (2000 + k)] [] M _
  refine e_aload_n dX4_isWord_0 rfl ?_
  refine e_getI dX4_isWord_1 fl_X4_39 sh_tk rfl ?_
  rw [hG.f9]
  refine e_if_ne (tgt := 27) dX4_isWord_4 (by decide) (fun c4 => ?_) (fun c4 => ?_)
  · -- 4 jumps
    refine e_iconst (v := 0) dX4_isWord_27 (by decide) ?_
    refine e_zret dX4_isWord_28 rfl (by first | rfl | exact b2i_nar _) ?_
    exact ⟨by rw [b2i_f (fun q => c4 q.1)], rfl⟩
  · -- 4 goes on
    have hP := hG.ok c4
    refine e_aload_n dX4_isWord_7 rfl ?_
    refine e_getI dX4_isWord_8 fl_X4_55 sh_tk rfl ?_
    rw [hP.2.2.1]
    refine e_iconst (v := 2) dX4_isWord_11 (by decide) ?_
    refine e_icmp_ne (tgt := 27) dX4_isWord_12 (by decide) (fun c12 => ?_) (fun c12 => ?_)
    · -- 12 jumps
      refine e_iconst (v := 0) dX4_isWord_27 (by decide) ?_
      refine e_zret dX4_isWord_28 rfl (by first | rfl | exact b2i_nar _) ?_
      exact ⟨by rw [b2i_f (fun q => c12 q.2.1)], rfl⟩
    · -- 12 goes on
      have hwd := (hP.2.2.2.2.2.2.2 c12).2
      have ok1 := ok_W (wI_lt (wdX t x))
      have ok2 := ok_W hk
      refine e_aload_n dX4_isWord_15 rfl ?_
      refine e_getP dX4_isWord_16 fl_X4_21 sh_tk rfl ?_
      first | rw [hwd] | (simp only [setI_2, setI_22, setL_22]; rw [hwd])
      refine e_aload_n dX4_isWord_19 rfl ?_
      refine e_acmp_ne (tgt := 27) dX4_isWord_20 (by decide) (by first | assumption | decide | exact Or.inl (by decide)) (by first | assumption | decide | exact Or.inr (by decide)) (fun c20 => ?_) (fun c20 => ?_)
      · -- 20 jumps
        refine e_iconst (v := 0) dX4_isWord_27 (by decide) ?_
        refine e_zret dX4_isWord_28 rfl (by first | rfl | exact b2i_nar _) ?_
        exact ⟨by rw [b2i_f (fun q => c20 (congrArg (fun z => 2000 + z) q.2.2))], rfl⟩
      · -- 20 goes on
        refine e_iconst (v := 1) dX4_isWord_23 (by decide) ?_
        refine e_goto (tgt := 28) dX4_isWord_24 (by decide) ?_
        refine e_zret dX4_isWord_28 rfl (by first | rfl | exact b2i_nar _) ?_
        exact ⟨by rw [b2i_t ⟨c4, c12, Nat.add_left_cancel c20⟩], rfl⟩
set_option maxHeartbeats 4000000 in
set_option maxRecDepth 20000 in
theorem c_isName {G : Gt} {M : Mm} {t : Tv} {x : Xv} (hG : TG M t x) : Call G 1 mX4_isName [.ref 6] M (eqQ (some (.int (b2i (x.1 = 0 ∧ kdX t x = 2 ∧ wRes.getD (wI (wdX t x)) 0 = 0)))) M) := by
  refine Call.intro rfl (Nat.le_of_ble_eq_true rfl) ?_
  show Ev G _ mX4_isName 0 [.ref 6] [] M _
  refine e_aload_n dX4_isName_0 rfl ?_
  refine e_getI dX4_isName_1 fl_X4_39 sh_tk rfl ?_
  rw [hG.f9]
  refine e_if_ne (tgt := 29) dX4_isName_4 (by decide) (fun c4 => ?_) (fun c4 => ?_)
  · -- 4 jumps
    refine e_iconst (v := 0) dX4_isName_29 (by decide) ?_
    refine e_zret dX4_isName_30 rfl (by first | rfl | exact b2i_nar _) ?_
    exact ⟨by rw [b2i_f (fun q => c4 q.1)], rfl⟩
  · -- 4 goes on
    have hP := hG.ok c4
    refine e_aload_n dX4_isName_7 rfl ?_
    refine e_getI dX4_isName_8 fl_X4_55 sh_tk rfl ?_
    rw [hP.2.2.1]
    refine e_iconst (v := 2) dX4_isName_11 (by decide) ?_
    refine e_icmp_ne (tgt := 29) dX4_isName_12 (by decide) (fun c12 => ?_) (fun c12 => ?_)
    · -- 12 jumps
      refine e_iconst (v := 0) dX4_isName_29 (by decide) ?_
      refine e_zret dX4_isName_30 rfl (by first | rfl | exact b2i_nar _) ?_
      exact ⟨by rw [b2i_f (fun q => c12 q.2.1)], rfl⟩
    · -- 12 goes on
      have hwd := (hP.2.2.2.2.2.2.2 c12).2
      refine e_aload_n dX4_isName_15 rfl ?_
      refine e_getP dX4_isName_16 fl_X4_21 sh_tk rfl ?_
      first | rw [hwd] | (simp only [setI_2, setI_22, setL_22]; rw [hwd])
      refine e_reserved dX4_isName_19 (wI_lt _) ⟨"MurmurSheds", mem_n 1833 (by decide +kernel) rfl⟩ ?_
      refine e_if_ne (tgt := 29) dX4_isName_22 (by decide) (fun c22 => ?_) (fun c22 => ?_)
      · -- 22 jumps
        refine e_iconst (v := 0) dX4_isName_29 (by decide) ?_
        refine e_zret dX4_isName_30 rfl (by first | rfl | exact b2i_nar _) ?_
        exact ⟨by rw [b2i_f (fun q => c22 q.2.2)], rfl⟩
      · -- 22 goes on
        refine e_iconst (v := 1) dX4_isName_25 (by decide) ?_
        refine e_goto (tgt := 30) dX4_isName_26 (by decide) ?_
        refine e_zret dX4_isName_30 rfl (by first | rfl | exact b2i_nar _) ?_
        exact ⟨by rw [b2i_t ⟨c4, c12, c22⟩], rfl⟩
set_option maxHeartbeats 4000000 in
set_option maxRecDepth 20000 in
theorem c_fail {G : Gt} {M : Mm} {t : Tv} {x : Xv} (hG : TG M t x) {k : Nat} (hk : 1 ≤ k ∧ k ≤ 5) : Call G 1 mX4_fail [.ref 6, .int (nI k)] M (fun r M' => r = none ∧ TS M M' ∧ TG M' t (failX t (nI k) x)) := by
  refine Call.intro rfl (Nat.le_of_ble_eq_true rfl) ?_
  show Ev G _ mX4_fail 0 [.ref 6, .int (nI k)] [] M _
  refine e_aload_n dX4_fail_0 rfl ?_
  refine e_getI dX4_fail_1 fl_X4_39 sh_tk rfl ?_
  rw [hG.f9]
  refine e_if_ne (tgt := 20) dX4_fail_4 (by decide) (fun c4 => ?_) (fun c4 => ?_)
  · -- 4 jumps
    refine e_vret dX4_fail_20 rfl ?_
    rw [fail_f c4]
    exact ⟨rfl, TS.rfl', hG⟩
  · -- 4 goes on
    have hP := hG.ok c4
    refine e_aload_n dX4_fail_7 rfl ?_
    refine e_iload_n dX4_fail_8 rfl ?_
    refine e_bipush (v := 16) dX4_fail_9 (by decide) ?_
    refine e_aload_n dX4_fail_11 rfl ?_
    refine e_getI dX4_fail_12 fl_X4_49 sh_tk rfl ?_
    rw [hP.2.2.2.1]
    refine e_imul dX4_fail_15 ?_
    refine e_iadd dX4_fail_16 ?_
    refine e_putI dX4_fail_17 fl_X4_39 sh_tk rfl rfl rfl ?_
    refine e_vret dX4_fail_20 rfl ?_
    have hne := fail_ne hk (pl_lt hG.1 hG.2.1)
    rw [show failX t (nI k) x = _ from if_pos c4]
    refine ⟨rfl, TS.rfl'.i _ _, hG.1, hG.2.1, fun q => absurd q hne, fun _ => ⟨⟨by rw [setI_1, if_neg (by decide)]; exact hP.1.1, hP.1.2.1, fun k hk => by rw [setI_1, if_neg (by omega)]; exact hP.1.2.2 k hk⟩, by rw [setI_1, if_pos ⟨rfl, rfl⟩]⟩⟩
theorem c_advX {G : Gt} {M : Mm} {t : Tv} {x : Xv} (hG : TG M t x) : Call G 8 mX4_advance [.ref 6] M (fun r M' => r = none ∧ TS M M' ∧ TG M' t (advX t x)) := by
  by_cases h0 : x.1 = 0
  · have hP := hG.ok h0
    have hp := pl_le hG.1
    have he := enP_le (t := t) (p := pl t x.2) hp.2
    refine (c_adv hG.2.1 he.2 hP.1 hP.2.1 hP.2.2.2.2.1).weaken (fun r M' h => ⟨h.1, h.2.1, ?_⟩)
    rw [show advX t x = _ from if_pos h0]
    exact ⟨he.2, hG.2.1, fun _ => h.2.2, fun q => absurd rfl q⟩
  · refine (c_advF (by rw [hG.f9]; exact h0)).weaken (fun r M' h => ?_)
    obtain ⟨rfl, rfl⟩ := h
    rw [adv_f h0]
    exact ⟨rfl, TS.rfl', hG⟩
end XTA
