section XPU
theorem cntI_nat (p : Nat → Bool) (n : Nat) : ∃ c, c ≤ n ∧ cntI p n = nI c := by
  induction n with
  | zero => exact ⟨0, Nat.le_refl _, rfl⟩
  | succ n ih =>
    obtain ⟨c, hc, e⟩ := ih
    by_cases h : p n = true
    · exact ⟨c + 1, by omega, by rw [cntI_t h, e, nI_1]⟩
    · exact ⟨c, by omega, by rw [cntI_f (by simpa using h), e]⟩
theorem clampN (e : Int32) : ∃ v, v ≤ 9 ∧ mx 0 (mn 9 e) = nI v := by
  have h1 : ¬ mx 0 (mn 9 e) < 0 := by
    unfold mx
    by_cases h : 0 < mn 9 e
    · rw [if_pos h]; intro q
      have a := Int32.lt_iff_toInt_lt.mp h
      have b := Int32.lt_iff_toInt_lt.mp q
      omega
    · rw [if_neg h]; decide
  have h2 : mx 0 (mn 9 e) ≤ 9 := by
    unfold mx
    have h3 : mn 9 e ≤ 9 := by
      unfold mn
      by_cases h : e < 9
      · rw [if_pos h]; exact Int32.le_of_lt h
      · rw [if_neg h]; exact Int32.le_refl _
    by_cases h : 0 < mn 9 e
    · rw [if_pos h]; exact h3
    · rw [if_neg h]; decide
  exact nI_of2 (M := 9) (n := 9) (by decide) h1 h2
theorem mn_nat {a b : Nat} (ha : a < 2 ^ 31) (hb : b < 2 ^ 31) : mn (nI a) (nI b) = nI (min a b) := by
  unfold mn
  by_cases h : nI b < nI a
  · rw [if_pos h, Nat.min_eq_right (by have := lt_of hb ha h; omega)]
  · rw [if_neg h, Nat.min_eq_left (by have := ge_of hb ha h; omega)]
theorem growW_nat (Y : Yv) (S : Sv) (j : Nat) {a : Nat} (ha : a ≤ 9) (h6 : Y.n ≤ 6) : ∃ b, b ≤ 15 ∧ growW Y S j (nI a) = nI b := by
  by_cases h1 : Y.kind j = 1 ∧ S.high j < 10
  · exact ⟨a + 1, by omega, by rw [gW1 h1.1 h1.2, nI_1]⟩
  · by_cases h2 : Y.kind j = 2 ∧ ¬ Y.near j &&& S.lit = 0
    · exact ⟨a / 2, by omega, by rw [gW2 h2.1 h2.2]; exact pk_div (d := 2) (by omega) (by omega) (by omega)⟩
    · by_cases h3 : Y.kind j = 3
      · obtain ⟨c, hc, e⟩ := cntI_nat (fun i => decide (bitI (Y.near j) (nI i)) && decide (S.crow j < S.crow i)) Y.n
        exact ⟨a + c, by omega, by rw [gW3 h3]; unfold gnear; rw [e, nI_add]⟩
      · exact ⟨a, by omega, gW0 h1 h2 h3⟩
/-- what always holds of how it stands: small crowns, heights below the roof, nights told -/
def SI (Y : Yv) (S : Sv) (T : Nat) : Prop := ∃ r, Y.roof = nI r ∧ r ≤ 60 ∧ (∀ j, j < Y.n → ∃ c h, S.crow j = nI c ∧ c ≤ 20 ∧ S.high j = nI h ∧ h ≤ r) ∧ ∃ t, S.nights = nI t ∧ t ≤ T
theorem growV_nat {Y : Yv} {S : Sv} {T : Nat} {fr : Int32} {j : Nat} (h : SI Y S T) (h6 : Y.n ≤ 6) (hj : j < Y.n) : ∃ g c h r, growV Y S fr j = nI g ∧ g ≤ 15 ∧ S.crow j = nI c ∧ c ≤ 20 ∧ (c = 0 → g = 0) ∧ S.high j = nI h ∧ Y.roof = nI r ∧ r ≤ 60 ∧ h + g ≤ r := by
  obtain ⟨r, hr, hr6, hs, -⟩ := h
  obtain ⟨c, q, hc, hc2, hq, hq2⟩ := hs j hj
  by_cases h0 : S.crow j = 0
  · exact ⟨0, c, q, r, by unfold growV; rw [if_pos h0]; rfl, by omega, hc, hc2, fun _ => rfl, hq, hr, hr6, by omega⟩
  · by_cases h1 : bitI S.lit (nI j)
    · exact ⟨0, c, q, r, by unfold growV; rw [if_neg h0, if_pos h1]; rfl, by omega, hc, hc2, fun _ => rfl, hq, hr, hr6, by omega⟩
    · obtain ⟨v, hv, ev⟩ := clampN (Y.gE (mx 0 (S.heat j - fr)) (S.high j) (S.crow j) S.nights)
      obtain ⟨b, hb, eb⟩ := growW_nat Y S j hv h6
      refine ⟨min b (r - q), c, q, r, ?_, by omega, hc, hc2, ?_, hq, hr, hr6, by omega⟩
      · rw [growV_eq h0 h1, ev, eb, hr, hq, pk_sub hq2, mn_nat (by omega) (by omega)]
      · intro e; subst e; exact absurd hc h0
theorem SI.pass {Y : Yv} {S : Sv} {T : Nat} {fr : Int32} (h : SI Y S T) (h6 : Y.n ≤ 6) : SI Y (passV Y S fr) (T + 1) := by
  have hg := fun j hj => growV_nat (fr := fr) (j := j) h h6 hj
  obtain ⟨r, hr, hr6, hs, t, ht, ht2⟩ := h
  refine ⟨r, hr, hr6, fun j hj => ?_, t + 1, ?_, by omega⟩
  · obtain ⟨g, c, q, r', h1, h2, h3, h4, h5, h7, h8, h9, h10⟩ := hg j hj
    have hrr : r' = r := by
      have := hr.symm.trans h8
      exact ((nI_eq (by omega) (by omega)).mp this).symm
    subst hrr
    refine ⟨c, q + g, h3, h4, ?_, h10⟩
    show S.high j + growV Y S fr j = nI (q + g)
    rw [h7, h1, nI_add]
  · show S.nights + 1 = nI (t + 1)
    rw [ht, nI_1]
theorem grow_creak {Y : Yv} {S : Sv} {T : Nat} {fr : Int32} {j : Nat} (h : SI Y S T) (h6 : Y.n ≤ 6) (hj : j < Y.n) : (0 < growV Y S fr j * S.crow j) = (0 < growV Y S fr j) := by
  obtain ⟨g, c, q, r', h1, h2, h3, h4, h5, -⟩ := growV_nat (fr := fr) h h6 hj
  have hm : g * c ≤ 15 * 20 := Nat.mul_le_mul h2 h4
  rw [h1, h3, pk_mul]
  have e1 : ((0 : Int32) < nI (g * c)) ↔ 0 < g * c := nI_ltI (a := 0) (by omega) (by omega)
  have e2 : ((0 : Int32) < nI g) ↔ 0 < g := nI_ltI (a := 0) (by omega) (by omega)
  refine propext ((e1.trans ?_).trans e2.symm)
  constructor
  · intro h; exact Nat.pos_of_ne_zero (fun e => by rw [e, Nat.zero_mul] at h; omega)
  · intro h; exact Nat.mul_pos h (Nat.pos_of_ne_zero (fun e => by have := h5 e; omega))
/-- in the middle of a night's growing -/
def gInv (M Mc : Mm) (o y : Nat) (Y : Yv) (S : Sv) (fr : Int32) (i : Nat) : Prop := Mc.2 = M.2 ∧ (∀ q, ¬ q = o + 1 → ¬ q = o + 6 → ¬ q = y + 12 → ¬ q = y + 13 → Mc.1 q = M.1 q) ∧ (∀ q, q < Y.n → Mc.1 (o + 1) q = if q < i then S.high q + growV Y S fr q else S.high q) ∧ ∀ q, q < i → Mc.1 (o + 6) q = growV Y S fr q * S.crow q
theorem gInv.next {M Mc : Mm} {o y : Nat} {Y : Yv} {S : Sv} {fr : Int32} {i : Nat} (h : gInv M Mc o y Y S fr i) : gInv M (setI (setI Mc (o + 1) i (S.high i + growV Y S fr i)) (o + 6) i (growV Y S fr i * S.crow i)) o y Y S fr (i + 1) := by
  refine ⟨h.1, fun q q1 q2 q3 q4 => ?_, fun q hq => ?_, fun q hq => ?_⟩
  · rw [← h.2.1 q q1 q2 q3 q4]; funext k; rw [setI_1, if_neg (fun e => q2 e.1), setI_1, if_neg (fun e => q1 e.1)]
  · rw [setI_1, if_neg (by omega), setI_1]
    by_cases e : q = i
    · subst e; rw [if_pos ⟨rfl, rfl⟩, if_pos (by omega)]
    · rw [if_neg (fun x => e x.2), h.2.2.1 q hq]
      by_cases l : q < i
      · rw [if_pos l, if_pos (by omega)]
      · rw [if_neg l, if_neg (by omega)]
  · rw [setI_1]
    by_cases e : q = i
    · subst e; rw [if_pos ⟨rfl, rfl⟩]
    · rw [if_neg (fun x => e x.2), setI_1, if_neg (by omega)]; exact h.2.2.2 q (by omega)
set_option maxHeartbeats 4000000 in
set_option maxRecDepth 20000 in
theorem l_pass {G : Gt} {M : Mm} {o y : Nat} {Y : Yv} {S : Sv} {fr : Int32} {T : Nat} (ho : o ∈ stA) (hy : y ∈ ydA) (hY : YX M y Y) (hS : SX M o Y.n S) (hI : SI Y S T) : ∀ (k : Nat) (i : Nat) (Mc : Mm) (u5 : Value) (u6 : Value), (i ≤ Y.n) → (Y.n < i + k) → (gInv M Mc o y Y S fr i) → Ev G 4 mX3_pass 5 [.ref o, .ref y, .int fr, .int (setB (fun j => decide (S.high j < 10) && !decide (S.high j + growV Y S fr j < 10)) i), .int (nI i), u5, u6] [] Mc (fun r M' => r = some (.int (popV Y S fr)) ∧ M'.2 = M.2 ∧ (∀ q, ¬ (o ≤ q ∧ q ≤ o + 6) → ¬ q = y + 12 → ¬ q = y + 13 → M'.1 q = M.1 q) ∧ SX M' o Y.n (passV Y S fr) ∧ ∀ j, j < Y.n → M'.1 (o + 6) j = growV Y S fr j * S.crow j) := by
  intro k
  induction k with
  | zero => intro i Mc u5 u6 hi hk hv; exact absurd hk (by omega)
  | succ k ih =>
    intro i Mc u5 u6 hi hk hv
    have hrg := st_ge ho
    have hyl := yd_le hy
    have h6 := hY.1.2
    refine e_iload dX3_pass_5 rfl ?_
    refine e_aload_n dX3_pass_7 rfl ?_
    refine e_getI dX3_pass_8 fl_X3_36 (sh_st (by first | assumption | decide)) rfl ?_
    refine e_icmp_ge (tgt := 100) dX3_pass_11 (by decide) (fun c11 => ?_) (fun c11 => ?_)
    · -- 11 jumps
      rw [hv.2.1 o (by omega) (by omega) (by omega) (by omega), hS.1] at c11
      have hin : i = Y.n := by have := ge_of (by omega) (by omega) c11; omega
      subst hin
      refine e_aload_n dX3_pass_100 rfl ?_
      refine e_aload_n dX3_pass_101 rfl ?_
      refine cV1x dX3_pass_102 mo_X3_passOnHearsay ml_X3_61 (sh_st (by first | assumption | decide)) rfl (Nat.le_of_ble_eq_true rfl) (by omega) (c_hear ho hy (n := Y.n) (by rw [hv.2.1 o (by omega) (by omega) (by omega) (by omega)]; exact hS.1) hY.1.2) ?_
      rintro r M1 ⟨rfl, hl2, hfr, hhr⟩
      dsimp only [Option.toList, List.nil_append]
      refine e_aload_n dX3_pass_105 rfl ?_
      refine e_iconst (v := 0) dX3_pass_106 (by decide) ?_
      refine e_putI dX3_pass_107 fl_X3_40 (sh_st (by first | assumption | decide)) rfl rfl rfl ?_
      refine e_aload_n dX3_pass_110 rfl ?_
      refine e_dup dX3_pass_111 rfl ?_
      refine e_getI dX3_pass_112 fl_X3_37 (sh_st (by first | assumption | decide)) rfl ?_
      refine e_iconst (v := 1) dX3_pass_115 (by decide) ?_
      refine e_iadd dX3_pass_116 ?_
      refine e_putI dX3_pass_117 fl_X3_37 (sh_st (by first | assumption | decide)) rfl rfl rfl ?_
      refine e_iload_n dX3_pass_120 rfl ?_
      refine e_iret dX3_pass_121 rfl ?_
      refine ⟨rfl, hl2.trans hv.1, fun q q1 q2 q3 => ?_, ⟨?_, ?_, ?_, fun j hj => ⟨?_, ?_, ?_, ?_⟩⟩, fun j hj => ?_⟩
      · funext k; rw [setI_1, if_neg (by omega), setI_1, if_neg (by omega), hfr q (by omega) (by omega), hv.2.1 q (by omega) (by omega) (by omega) (by omega)]
      · rw [setI_1, if_neg (by omega), setI_1, if_neg (by omega), hfr o (by omega) (by omega), hv.2.1 o (by omega) (by omega) (by omega) (by omega)]; exact hS.1
      · rw [setI_1, if_pos ⟨rfl, rfl⟩, setI_1, if_neg (by omega), hfr o (by omega) (by omega), hv.2.1 o (by omega) (by omega) (by omega) (by omega), hS.2.1]; rfl
      · rw [setI_1, if_neg (by omega), setI_1, if_pos ⟨rfl, rfl⟩]; rfl
      · rw [setI_1, if_neg (by omega), setI_1, if_neg (by omega), hfr (o + 2) (by omega) (by omega), hv.2.1 (o + 2) (by omega) (by omega) (by omega) (by omega)]; exact (hS.2.2.2 j hj).1
      · rw [setI_1, if_neg (by omega), setI_1, if_neg (by omega), hfr (o + 3) (by omega) (by omega), hv.2.1 (o + 3) (by omega) (by omega) (by omega) (by omega)]; exact (hS.2.2.2 j hj).2.1
      · rw [setI_1, if_neg (by omega), setI_1, if_neg (by omega), hfr (o + 1) (by omega) (by omega), hv.2.2.1 j hj, if_pos hj]; rfl
      · rw [setI_1, if_neg (by omega), setI_1, if_neg (by omega), hhr j hj]
        show orF _ _ _ _ = orF _ _ _ _
        rw [hv.2.1 (o + 4) (by omega) (by omega) (by omega) (by omega), (hS.2.2.2 j hj).2.2.2]
        refine orF_congr (fun q hq => ?_) (fun q hq => (hS.2.2.2 q hq).2.2.2)
        rw [hv.2.2.2 q hq, hv.2.1 (y + 5) (by omega) (by omega) (by omega) (by omega), (hY.2.2.2.2.1 q hq).2.2.2.1]
        simp only [grow_creak hI hY.1.2 hq]
      · rw [setI_1, if_neg (by omega), setI_1, if_neg (by omega), hfr (o + 6) (by omega) (by omega), hv.2.2.2 j hj]
    · -- 11 goes on
      rw [hv.2.1 o (by omega) (by omega) (by omega) (by omega), hS.1] at c11
      have hlt : i < Y.n := lt_of (by omega) (by omega) c11
      refine e_aload_n dX3_pass_14 rfl ?_
      refine e_getR dX3_pass_15 fl_X3_9 (sh_st (by first | assumption | decide)) rfl ?_
      refine e_iload dX3_pass_18 rfl ?_
      refine cS2r dX3_pass_20 mo_X10_at ml_X3_53 (Nat.le_of_ble_eq_true rfl) (by omega) (c_atN (sa_st_heights (by first | assumption | decide)) (by decide) (by first | omega | decide)) ?_
      rw [hv.2.2.1 i hlt, if_neg (by omega)]
      refine e_istore (ls' := [_, _, _, _, _, _, _]) dX3_pass_23 (by decide) rfl ?_
      refine e_aload_n dX3_pass_25 rfl ?_
      refine e_aload_n dX3_pass_26 rfl ?_
      refine e_iload dX3_pass_27 rfl ?_
      refine e_iload_n dX3_pass_29 rfl ?_
      refine cV3x dX3_pass_30 mo_X3_growth ml_X3_57 (sh_st (by first | assumption | decide)) rfl (Nat.le_of_ble_eq_true rfl) (by omega) (c_growth (S := S) ho hy (hY.congr hv.1 (fun q q1 q2 => hv.2.1 q (by omega) (by omega) (by omega) (by omega))) (by rw [hv.2.1 o (by omega) (by omega) (by omega) (by omega)]; exact hS.1) (fun q hq => by rw [hv.2.1 (o + 3) (by omega) (by omega) (by omega) (by omega)]; exact (hS.2.2.2 q hq).2.1) hlt (by rw [hv.2.1 o (by omega) (by omega) (by omega) (by omega)]; exact hS.2.1) (by rw [hv.2.1 o (by omega) (by omega) (by omega) (by omega)]; exact hS.2.2.1) (by rw [hv.2.1 (o + 2) (by omega) (by omega) (by omega) (by omega)]; exact (hS.2.2.2 i hlt).1) (by rw [hv.2.2.1 i hlt, if_neg (by omega)])) ?_
      rintro r M1 ⟨rfl, hl2, hfr⟩
      dsimp only [Option.toList, List.cons_append, List.nil_append]
      have hv1 : gInv M M1 o y Y S fr i := ⟨hl2.trans hv.1, fun q q1 q2 q3 q4 => (hfr q q3 q4).trans (hv.2.1 q q1 q2 q3 q4), by rw [hfr (o + 1) (by omega) (by omega)]; exact hv.2.2.1, by rw [hfr (o + 6) (by omega) (by omega)]; exact hv.2.2.2⟩
      refine e_istore (ls' := [_, _, _, _, _, _, _]) dX3_pass_33 (by decide) rfl ?_
      refine e_aload_n dX3_pass_35 rfl ?_
      refine e_getR dX3_pass_36 fl_X3_9 (sh_st (by first | assumption | decide)) rfl ?_
      refine e_iload dX3_pass_39 rfl ?_
      refine e_iload dX3_pass_41 rfl ?_
      refine e_iload dX3_pass_43 rfl ?_
      refine e_iadd dX3_pass_45 ?_
      refine cS3v dX3_pass_46 mo_X10_put ml_X3_49 (Nat.le_of_ble_eq_true rfl) (by omega) (c_putN (sa_st_heights (by first | assumption | decide)) (by decide) (by first | omega | decide)) ?_
      refine e_aload_n dX3_pass_49 rfl ?_
      refine e_getR dX3_pass_50 fl_X3_27 (sh_st (by first | assumption | decide)) rfl ?_
      refine e_iload dX3_pass_53 rfl ?_
      refine e_iload dX3_pass_55 rfl ?_
      refine e_aload_n dX3_pass_57 rfl ?_
      refine e_getR dX3_pass_58 fl_X3_18 (sh_st (by first | assumption | decide)) rfl ?_
      refine e_iload dX3_pass_61 rfl ?_
      refine cS2r dX3_pass_63 mo_X10_at ml_X3_53 (Nat.le_of_ble_eq_true rfl) (by omega) (c_atN (sa_st_crowns (by first | assumption | decide)) (by decide) (by first | omega | decide)) ?_
      rw [setI_1, if_neg (by omega), hv1.2.1 (o + 3) (by omega) (by omega) (by omega) (by omega), (hS.2.2.2 i hlt).2.1]
      refine e_imul dX3_pass_66 ?_
      refine cS3v dX3_pass_67 mo_X10_put ml_X3_49 (Nat.le_of_ble_eq_true rfl) (by omega) (c_putN (sa_st_creaks (by first | assumption | decide)) (by decide) (by first | omega | decide)) ?_
      refine e_iload dX3_pass_70 rfl ?_
      refine e_bipush (v := 10) dX3_pass_72 (by decide) ?_
      refine e_icmp_ge (tgt := 94) dX3_pass_74 (by decide) (fun c74 => ?_) (fun c74 => ?_)
      · -- 74 jumps
        refine e_iinc (ls' := [_, _, _, _, _, _, _]) dX3_pass_94 rfl (nI_i1 _) (by decide) rfl ?_
        refine e_goto (tgt := 5) dX3_pass_97 (by decide) ?_
        have hh := ih (i + 1) _ (.int (S.high i)) (.int (growV Y S fr i)) (by omega) (by omega) hv1.next
        rw [setB_f (by simp only [decide_eq_false c74]; rfl)] at hh
        exact hh
      · -- 74 goes on
        refine e_iload dX3_pass_77 rfl ?_
        refine e_iload dX3_pass_79 rfl ?_
        refine e_iadd dX3_pass_81 ?_
        refine e_bipush (v := 10) dX3_pass_82 (by decide) ?_
        refine e_icmp_lt (tgt := 94) dX3_pass_84 (by decide) (fun c84 => ?_) (fun c84 => ?_)
        · -- 84 jumps
          refine e_iinc (ls' := [_, _, _, _, _, _, _]) dX3_pass_94 rfl (nI_i1 _) (by decide) rfl ?_
          refine e_goto (tgt := 5) dX3_pass_97 (by decide) ?_
          have hh := ih (i + 1) _ (.int (S.high i)) (.int (growV Y S fr i)) (by omega) (by omega) hv1.next
          rw [setB_f (by simp only [decide_eq_true c74, decide_eq_true c84]; rfl)] at hh
          exact hh
        · -- 84 goes on
          refine e_iload_n dX3_pass_87 rfl ?_
          refine e_iconst (v := 1) dX3_pass_88 (by decide) ?_
          refine e_iload dX3_pass_89 rfl ?_
          refine e_ishl dX3_pass_91 ?_
          refine e_ior dX3_pass_92 ?_
          refine e_istore_n (ls' := [_, _, _, _, _, _, _]) dX3_pass_93 (by decide) rfl ?_
          refine e_iinc (ls' := [_, _, _, _, _, _, _]) dX3_pass_94 rfl (nI_i1 _) (by decide) rfl ?_
          refine e_goto (tgt := 5) dX3_pass_97 (by decide) ?_
          have hh := ih (i + 1) _ (.int (S.high i)) (.int (growV Y S fr i)) (by omega) (by omega) hv1.next
          rw [setB_t (by simp only [decide_eq_true c74, decide_eq_false c84]; rfl)] at hh
          exact hh
set_option maxHeartbeats 4000000 in
set_option maxRecDepth 20000 in
theorem c_pass {G : Gt} {M : Mm} {o y : Nat} {Y : Yv} {S : Sv} {fr : Int32} {T : Nat} (ho : o ∈ stA) (hy : y ∈ ydA) (hY : YX M y Y) (hS : SX M o Y.n S) (hI : SI Y S T) : Call G 4 mX3_pass [.ref o, .ref y, .int fr] M (fun r M' => r = some (.int (popV Y S fr)) ∧ M'.2 = M.2 ∧ (∀ q, ¬ (o ≤ q ∧ q ≤ o + 6) → ¬ q = y + 12 → ¬ q = y + 13 → M'.1 q = M.1 q) ∧ SX M' o Y.n (passV Y S fr) ∧ ∀ j, j < Y.n → M'.1 (o + 6) j = growV Y S fr j * S.crow j) := by
  refine Call.intro rfl (Nat.le_of_ble_eq_true rfl) ?_
  show Ev G _ mX3_pass 0 [.ref o, .ref y, .int fr, RA, RA, RA, RA] [] M _
  refine e_iconst (v := 0) dX3_pass_0 (by decide) ?_
  refine e_istore_n (ls' := [_, _, _, _, _, _, _]) dX3_pass_1 (by decide) rfl ?_
  refine e_iconst (v := 0) dX3_pass_2 (by decide) ?_
  refine e_istore (ls' := [_, _, _, _, _, _, _]) dX3_pass_3 (by decide) rfl ?_
  exact l_pass ho hy hY hS hI (Y.n + 1) 0 M _ _ (by omega) (by omega) ⟨rfl, fun _ _ _ _ _ => rfl, fun q hq => by rw [if_neg (by omega)]; exact (hS.2.2.2 q hq).2.2.1, fun q hq => absurd hq (by omega)⟩
end XPU
