section XSE
/-- what is seen is well told -/
def VI (V : Rv) : Prop := ∀ k, k < V.1 → (∃ t, 1 ≤ t ∧ t ≤ 20 ∧ V.2.1 k = nI t) ∧ (V.2.2.2 k = 0 ∨ V.2.2.2 k = 1)
def susP (E : Gs) (j k : Nat) : Bool := (!decide (crkV E.Y E.S ((E.V.2.1 k).toNatClampNeg - 1) j < E.V.2.2.1 k)) == decide (E.V.2.2.2 k = 1)
def susB (E : Gs) (j : Nat) : Bool := allN (susP E j) E.V.1
def whoV (E : Gs) : Int32 := setB (susB E) E.Y.n
def crkIn (M : Mm) (E : Gs) : Prop := ∀ t j, t < 20 → j < E.Y.n → M.1 3 (t * 6 + j) = crkV E.Y E.S t j
theorem ix6 (i j : Nat) : nI i * 6 + nI j = nI (i * 6 + j) := by
  have h : nI i * nI 6 = nI (i * 6) := pk_mul i 6
  show nI i * nI 6 + nI j = _
  rw [h, nI_add]
theorem crkIn.congr {M M' : Mm} {E : Gs} (h : crkIn M E) (h3 : M'.1 3 = M.1 3) : crkIn M' E := fun t j ht hj => by rw [h3]; exact h t j ht hj
set_option maxHeartbeats 4000000 in
set_option maxRecDepth 20000 in
theorem c_passTrial3 {G : Gt} {M : Mm} {E : Gs} {y y' w w' p : Nat} (hX : XJ M E y y' w w' p) {S : Sv} {T : Nat} (hT : SX M 51 E.Y.n S) (hI : SI E.Y S T) (hT2 : T < 2 ^ 31) : Call G 5 mX10_passTrial [.ref 0] M (fun r M' => r = some (.int (popN E.Y S)) ∧ SC M M' ∧ SX M' 51 E.Y.n (nightV E.Y S) ∧ (∀ j, j < E.Y.n → M'.1 57 j = growV E.Y S (frV E.Y S.nights) j * S.crow j) ∧ M'.1 3 = M.1 3) := by
  obtain ⟨⟨hld, hsl, hy, hy', hyy⟩, ⟨hpl, hsp, hw, hw', hww⟩, hY, hW, hS, hV, hK, ⟨hpt, hp16, hun, hu16, hU⟩, ⟨htl, htl2, htc⟩⟩ := id hX
  have h6 := hY.1.2
  have hs5 := hY.2.1.2
  obtain ⟨r0, hr0, hr6, hs0, t, ht, htT⟩ := id hI
  refine Call.intro rfl (Nat.le_of_ble_eq_true rfl) ?_
  show Ev G _ mX10_passTrial 0 [.ref 0] [] M _
  refine e_aload_n dX10_passTrial_0 rfl ?_
  refine e_getR dX10_passTrial_1 fl_X10_43 sh_x rfl ?_
  refine e_aload_n dX10_passTrial_4 rfl ?_
  refine e_getP dX10_passTrial_5 fl_X10_19 sh_x rfl ?_
  first | rw [hld] | (simp only [setI_2, setI_22, setL_22]; rw [hld])
  refine e_aload_n dX10_passTrial_8 rfl ?_
  refine e_getP dX10_passTrial_9 fl_X10_19 sh_x rfl ?_
  first | rw [hld] | (simp only [setI_2, setI_22, setL_22]; rw [hld])
  refine e_aload_n dX10_passTrial_12 rfl ?_
  refine e_getR dX10_passTrial_13 fl_X10_43 sh_x rfl ?_
  refine e_getI dX10_passTrial_16 fl_X10_169 (sh_st (by first | assumption | decide)) rfl ?_
  rw [hT.2.1, ht]
  refine cV1r dX10_passTrial_19 mo_X8_frostOf ml_X10_172 (sh_yd (by first | assumption | decide)) rfl (Nat.le_of_ble_eq_true rfl) (by omega) (c_frostOf (by first | assumption | decide) (by assumption) (by omega)) ?_
  refine cV2x dX10_passTrial_22 mo_X3_pass ml_X10_195 (sh_st (by first | assumption | decide)) rfl (Nat.le_of_ble_eq_true rfl) (by omega) (c_pass (o := 51) (by decide) hy hY hT hI) ?_
  rintro r M1 ⟨rfl, h2, hf, hS1, hcr⟩
  dsimp only [Option.toList, List.cons_append, List.nil_append]
  refine e_iret dX10_passTrial_25 rfl ?_
  exact ⟨by unfold popN; rw [ht], SC.of h2 (fun i hi => hf i (by unfold scr at hi; omega) (by unfold scr at hi; rcases yd_two hy with e | e <;> omega) (by unfold scr at hi; rcases yd_two hy with e | e <;> omega)), by unfold nightV; rw [ht]; exact hS1, hcr, hf 3 (by omega) (by rcases yd_two hy with e | e <;> omega) (by rcases yd_two hy with e | e <;> omega)⟩
set_option maxHeartbeats 4000000 in
set_option maxRecDepth 20000 in
theorem l_listen2 {G : Gt} {M : Mm} {E : Gs} {y y' w w' p : Nat} (hX : XJ M E y y' w w' p) {T : Nat} (hI : SI E.Y E.S T) (hT : T < 2 ^ 30) {i : Nat} (hi20 : i < 20) (hCo : ∀ (Mc : Mm) (u : Value), (SC M Mc ∧ SX Mc 51 E.Y.n (itN E.Y E.S (i + 1)) ∧ ∀ t q, t < i + 1 → q < E.Y.n → Mc.1 3 (t * 6 + q) = crkV E.Y E.S t q) → Ev G 6 mX10_listen 60 [.ref 0, .int (nI i), u] [] Mc (fun r M' => r = none ∧ SC M M' ∧ crkIn M' E)) : ∀ (k : Nat) (j : Nat) (Mc : Mm), (j ≤ E.Y.n) → (E.Y.n < j + k) → (SC M Mc ∧ SX Mc 51 E.Y.n (itN E.Y E.S (i + 1)) ∧ (∀ q, q < E.Y.n → Mc.1 57 q = crkV E.Y E.S i q) ∧ (∀ t q, t < i → q < E.Y.n → Mc.1 3 (t * 6 + q) = crkV E.Y E.S t q) ∧ ∀ q, q < j → Mc.1 3 (i * 6 + q) = crkV E.Y E.S i q) → Ev G 6 mX10_listen 19 [.ref 0, .int (nI i), .int (nI j)] [] Mc (fun r M' => r = none ∧ SC M M' ∧ crkIn M' E) := by
  intro k
  induction k with
  | zero => intro j Mc hj hk hv; exact absurd hk (by omega)
  | succ k ih =>
    intro j Mc hj hk hv
    obtain ⟨⟨hld, hsl, hy, hy', hyy⟩, ⟨hpl, hsp, hw, hw', hww⟩, hY, hW, hS, hV, hK, ⟨hpt, hp16, hun, hu16, hU⟩, ⟨htl, htl2, htc⟩⟩ := id (hv.1.keep hX)
    have h6 := hY.1.2
    refine e_iload_n dX10_listen_19 rfl ?_
    refine e_aload_n dX10_listen_20 rfl ?_
    refine e_getP dX10_listen_21 fl_X10_19 sh_x rfl ?_
    first | rw [hld] | (simp only [setI_2, setI_22, setL_22]; rw [hld])
    refine e_getI dX10_listen_24 fl_X10_74 (sh_yd (by first | assumption | decide)) rfl ?_
    refine e_icmp_ge (tgt := 60) dX10_listen_27 (by decide) (fun c27 => ?_) (fun c27 => ?_)
    · -- 27 jumps
      rw [hY.1.1] at c27
      have hjn : j = E.Y.n := by have := ge_of (by omega) (by omega) c27; omega
      subst hjn
      refine hCo Mc _ ⟨hv.1, hv.2.1, fun t q ht hq => ?_⟩
      by_cases e : t = i
      · subst e; exact hv.2.2.2.2 q hq
      · exact hv.2.2.2.1 t q (by omega) hq
    · -- 27 goes on
      rw [hY.1.1] at c27
      have hlt : j < E.Y.n := lt_of (by omega) (by omega) c27
      refine e_aload_n dX10_listen_30 rfl ?_
      refine e_getR dX10_listen_31 fl_X10_63 sh_x rfl ?_
      refine e_iload_n dX10_listen_34 rfl ?_
      refine e_bipush (v := 6) dX10_listen_35 (by decide) ?_
      refine e_imul dX10_listen_37 ?_
      refine e_iload_n dX10_listen_38 rfl ?_
      refine e_iadd dX10_listen_39 ?_
      rw [ix6]
      refine e_aload_n dX10_listen_40 rfl ?_
      refine e_getR dX10_listen_41 fl_X10_43 sh_x rfl ?_
      refine e_getR dX10_listen_44 fl_X10_258 (sh_st (by first | assumption | decide)) rfl ?_
      refine e_iload_n dX10_listen_47 rfl ?_
      refine cS2r dX10_listen_48 mo_X10_at ml_X10_137 (Nat.le_of_ble_eq_true rfl) (by omega) (c_atN (sa_st_creaks (by first | assumption | decide)) (by decide) (by first | omega | decide)) ?_
      refine cS3v dX10_listen_51 mo_X10_put ml_X10_294 (Nat.le_of_ble_eq_true rfl) (by omega) (c_putN (sa_x_creaksAhead) (by decide) (by first | omega | decide)) ?_
      refine e_iinc (ls' := [_, _, _]) dX10_listen_54 rfl (nI_i1 _) (by decide) rfl ?_
      refine e_goto (tgt := 19) dX10_listen_57 (by decide) ?_
      refine ih (j + 1) _ (by omega) (by omega) ⟨hv.1.trans (SC.of rfl (fun q hq => ?_)), hv.2.1.congr (fun q q1 q2 => ?_), ?_, fun t q ht hq => ?_, fun q hq => ?_⟩
      · funext k; rw [setI_1, if_neg (by unfold scr at hq; omega)]
      · funext k; rw [setI_1, if_neg (by omega)]
      · intro q hq; rw [setI_1, if_neg (by omega)]; exact hv.2.2.1 q hq
      · rw [setI_1, if_neg (by omega)]; exact hv.2.2.2.1 t q ht hq
      · rw [setI_1]
        by_cases e : q = j
        · subst e; rw [if_pos ⟨rfl, rfl⟩]; exact hv.2.2.1 q hlt
        · rw [if_neg (by omega)]; exact hv.2.2.2.2 q (by omega)
set_option maxHeartbeats 4000000 in
set_option maxRecDepth 20000 in
theorem l_listen1 {G : Gt} {M : Mm} {E : Gs} {y y' w w' p : Nat} (hX : XJ M E y y' w w' p) {T : Nat} (hI : SI E.Y E.S T) (hT : T < 2 ^ 30) : ∀ (k : Nat) (i : Nat) (Mc : Mm) (u : Value), (i ≤ 20) → (20 < i + k) → (SC M Mc ∧ SX Mc 51 E.Y.n (itN E.Y E.S i) ∧ ∀ t q, t < i → q < E.Y.n → Mc.1 3 (t * 6 + q) = crkV E.Y E.S t q) → Ev G 6 mX10_listen 6 [.ref 0, .int (nI i), u] [] Mc (fun r M' => r = none ∧ SC M M' ∧ crkIn M' E) := by
  intro k
  induction k with
  | zero => intro i Mc u hi hk hv; exact absurd hk (by omega)
  | succ k ih =>
    intro i Mc u hi hk hv
    obtain ⟨⟨hld, hsl, hy, hy', hyy⟩, ⟨hpl, hsp, hw, hw', hww⟩, hY, hW, hS, hV, hK, ⟨hpt, hp16, hun, hu16, hU⟩, ⟨htl, htl2, htc⟩⟩ := id (hv.1.keep hX)
    have h6 := hY.1.2
    refine e_iload_n dX10_listen_6 rfl ?_
    refine e_bipush (v := 20) dX10_listen_7 (by decide) ?_
    refine e_icmp_ge (tgt := 66) dX10_listen_9 (by decide) (fun c9 => ?_) (fun c9 => ?_)
    · -- 9 jumps
      have hin : i = 20 := by have := ge_of (n := 20) (by omega) (by omega) c9; omega
      subst hin
      refine e_vret dX10_listen_66 rfl ?_
      exact ⟨rfl, hv.1, fun t j ht hj => hv.2.2 t j (by omega) hj⟩
    · -- 9 goes on
      have hlt : i < 20 := lt_of (n := 20) (by omega) (by omega) c9
      refine e_aload_n dX10_listen_12 rfl ?_
      refine cV0x dX10_listen_13 mo_X10_passTrial ml_X10_252 sh_x rfl (Nat.le_of_ble_eq_true rfl) (by omega) (c_passTrial3 (hv.1.keep hX) hv.2.1 (hI.it hY.1.2 i) (by omega)) ?_
      rintro r M1 ⟨rfl, h1, h2, h3, h4⟩
      dsimp only [Option.toList, List.cons_append, List.nil_append]
      refine e_pop dX10_listen_16 rfl ?_
      refine e_iconst (v := 0) dX10_listen_17 (by decide) ?_
      refine e_istore_n (ls' := [_, _, _]) dX10_listen_18 (by decide) rfl ?_
      refine l_listen2 hX hI hT (i := i) hlt (fun Mc2 u2 hv2 => ?_) (E.Y.n + 1) 0 M1 (by omega) (by omega) ⟨hv.1.trans h1, h2, h3, fun t q ht hq => ?_, fun q hq => absurd hq (by omega)⟩
      · refine e_iinc (ls' := [_, _, _]) dX10_listen_60 rfl (nI_i1 _) (by decide) rfl ?_
        refine e_goto (tgt := 6) dX10_listen_63 (by decide) ?_
        exact ih (i + 1) Mc2 u2 (by omega) (by omega) hv2
      · rw [h4]; exact hv.2.2 t q ht hq
set_option maxHeartbeats 4000000 in
set_option maxRecDepth 20000 in
theorem c_listen {G : Gt} {M : Mm} {E : Gs} {y y' w w' p : Nat} (hX : XJ M E y y' w w' p) {T : Nat} (hI : SI E.Y E.S T) (hT : T < 2 ^ 30) : Call G 6 mX10_listen [.ref 0] M (fun r M' => r = none ∧ SC M M' ∧ crkIn M' E) := by
  obtain ⟨⟨hld, hsl, hy, hy', hyy⟩, ⟨hpl, hsp, hw, hw', hww⟩, hY, hW, hS, hV, hK, ⟨hpt, hp16, hun, hu16, hU⟩, ⟨htl, htl2, htc⟩⟩ := id hX
  have h6 := hY.1.2
  have hs5 := hY.2.1.2
  refine Call.intro rfl (Nat.le_of_ble_eq_true rfl) ?_
  show Ev G _ mX10_listen 0 [.ref 0, RA, RA] [] M _
  refine e_aload_n dX10_listen_0 rfl ?_
  refine cV0x dX10_listen_1 mo_X10_beginTrial ml_X10_249 sh_x rfl (Nat.le_of_ble_eq_true rfl) (by omega) (c_beginTrial hX) ?_
  rintro r M0 ⟨rfl, hsc0, hT0⟩
  dsimp only [Option.toList, List.cons_append, List.nil_append]
  have hv0 : trI M M0 E.Y E.S 0 := ⟨hsc0, hT0, fun h => absurd h (by omega)⟩
  refine e_iconst (v := 0) dX10_listen_4 (by decide) ?_
  refine e_istore_n (ls' := [_, _, _]) dX10_listen_5 (by decide) rfl ?_
  exact l_listen1 hX hI hT 21 0 M0 _ (by omega) (by omega) ⟨hsc0, hT0, fun t q ht _ => absurd ht (by omega)⟩
set_option maxHeartbeats 4000000 in
set_option maxRecDepth 20000 in
theorem c_creakAhead {G : Gt} {M : Mm} {E : Gs} {t j : Nat} (h6 : E.Y.n ≤ 6) (hc : crkIn M E) (ht : t < 20) (hj : j < E.Y.n) : Call G 2 mX10_creakAhead [.ref 0, .int (nI (t + 1)), .int (nI j)] M (eqQ (some (.int (crkV E.Y E.S t j))) M) := by
  refine Call.intro rfl (Nat.le_of_ble_eq_true rfl) ?_
  show Ev G _ mX10_creakAhead 0 [.ref 0, .int (nI (t + 1)), .int (nI j)] [] M _
  refine e_aload_n dX10_creakAhead_0 rfl ?_
  refine e_getR dX10_creakAhead_1 fl_X10_63 sh_x rfl ?_
  refine e_iload_n dX10_creakAhead_4 rfl ?_
  refine e_iconst (v := 1) dX10_creakAhead_5 (by decide) ?_
  refine e_isub dX10_creakAhead_6 ?_
  rw [nI_sub1]
  refine e_bipush (v := 6) dX10_creakAhead_7 (by decide) ?_
  refine e_imul dX10_creakAhead_9 ?_
  refine e_iload_n dX10_creakAhead_10 rfl ?_
  refine e_iadd dX10_creakAhead_11 ?_
  rw [ix6]
  refine cS2r dX10_creakAhead_12 mo_X10_at ml_X10_137 (Nat.le_of_ble_eq_true rfl) (by omega) (c_atN (sa_x_creaksAhead) (by decide) (by first | omega | decide)) ?_
  refine e_iret dX10_creakAhead_15 rfl ?_
  exact ⟨by rw [hc t j ht hj], rfl⟩
set_option maxHeartbeats 4000000 in
set_option maxRecDepth 20000 in
theorem l_sus {G : Gt} {M : Mm} {E : Gs} {y y' w w' p : Nat} (hX : XJ M E y y' w w' p) {j : Nat} (hj : j < E.Y.n) (hc : crkIn M E) (hVI : VI E.V) : ∀ (k : Nat) (i : Nat) (u : Value), (i ≤ E.V.1) → (E.V.1 < i + k) → (∀ k, k < i → susP E j k = true) → Ev G 3 mX10_isSuspect 2 [.ref 0, .int (nI j), .int (nI i), u] [] M (eqQ (some (.int (b2i (susB E j = true)))) M) := by
  intro k
  induction k with
  | zero => intro i u hi hk ha; exact absurd hk (by omega)
  | succ k ih =>
    intro i u hi hk ha
    obtain ⟨⟨hld, hsl, hy, hy', hyy⟩, ⟨hpl, hsp, hw, hw', hww⟩, hY, hW, hS, hV, hK, ⟨hpt, hp16, hun, hu16, hU⟩, ⟨htl, htl2, htc⟩⟩ := id hX
    have h6 := hY.1.2
    have hs5 := hY.2.1.2
    have hV8 := hV.2.1
    refine e_iload_n dX10_isSuspect_2 rfl ?_
    refine e_aload_n dX10_isSuspect_3 rfl ?_
    refine e_getR dX10_isSuspect_4 fl_X10_49 sh_x rfl ?_
    refine e_getI dX10_isSuspect_7 fl_X10_191 (sh_sn (by first | assumption | decide)) rfl ?_
    refine e_icmp_ge (tgt := 81) dX10_isSuspect_10 (by decide) (fun c10 => ?_) (fun c10 => ?_)
    · -- 10 jumps
      rw [hV.1] at c10
      have hin : i = E.V.1 := by have := ge_of (by omega) (by omega) c10; omega
      subst hin
      refine e_iconst (v := 1) dX10_isSuspect_81 (by decide) ?_
      refine e_zret dX10_isSuspect_82 rfl rfl ?_
      exact ⟨by rw [b2i_t (by unfold susB; rw [allN_iff]; exact ha)], rfl⟩
    · -- 10 goes on
      rw [hV.1] at c10
      have hlt : i < E.V.1 := lt_of (by omega) (by omega) c10
      obtain ⟨⟨t1, h1t, ht2, hs1⟩, hm⟩ := hVI i hlt
      obtain ⟨t, rfl⟩ : ∃ t, t1 = t + 1 := ⟨t1 - 1, by omega⟩
      have ht20 : t < 20 := by omega
      refine e_aload_n dX10_isSuspect_13 rfl ?_
      refine e_aload_n dX10_isSuspect_14 rfl ?_
      refine e_getR dX10_isSuspect_15 fl_X10_49 sh_x rfl ?_
      refine e_getR dX10_isSuspect_18 fl_X10_336 (sh_sn (by first | assumption | decide)) rfl ?_
      refine e_iload_n dX10_isSuspect_21 rfl ?_
      refine cS2r dX10_isSuspect_22 mo_X10_at ml_X10_137 (Nat.le_of_ble_eq_true rfl) (by omega) (c_atN (sa_sn_nights (by first | assumption | decide)) (by decide) (by first | omega | decide)) ?_
      rw [(hV.2.2 i hlt).1, hs1]
      refine e_iload_n dX10_isSuspect_25 rfl ?_
      refine cV2r dX10_isSuspect_26 mo_X10_creakAhead ml_X10_338 sh_x rfl (Nat.le_of_ble_eq_true rfl) (by omega) (c_creakAhead h6 hc ht20 hj) ?_
      refine e_aload_n dX10_isSuspect_29 rfl ?_
      refine e_getR dX10_isSuspect_30 fl_X10_49 sh_x rfl ?_
      refine e_getR dX10_isSuspect_33 fl_X10_341 (sh_sn (by first | assumption | decide)) rfl ?_
      refine e_iload_n dX10_isSuspect_36 rfl ?_
      refine cS2r dX10_isSuspect_37 mo_X10_at ml_X10_137 (Nat.le_of_ble_eq_true rfl) (by omega) (c_atN (sa_sn_much (by first | assumption | decide)) (by decide) (by first | omega | decide)) ?_
      rw [(hV.2.2 i hlt).2.1]
      refine e_icmp_lt (tgt := 47) dX10_isSuspect_40 (by decide) (fun c40 => ?_) (fun c40 => ?_)
      · -- 40 jumps
        refine e_iconst (v := 0) dX10_isSuspect_47 (by decide) ?_
        refine e_istore_n (ls' := [_, _, _, _]) dX10_isSuspect_48 (by decide) rfl ?_
        refine e_iload_n dX10_isSuspect_49 rfl ?_
        refine e_aload_n dX10_isSuspect_50 rfl ?_
        refine e_getR dX10_isSuspect_51 fl_X10_49 sh_x rfl ?_
        refine e_getR dX10_isSuspect_54 fl_X10_344 (sh_sn (by first | assumption | decide)) rfl ?_
        refine e_iload_n dX10_isSuspect_57 rfl ?_
        refine cS2r dX10_isSuspect_58 mo_X10_at ml_X10_137 (Nat.le_of_ble_eq_true rfl) (by omega) (c_atN (sa_sn_more (by first | assumption | decide)) (by decide) (by first | omega | decide)) ?_
        rw [(hV.2.2 i hlt).2.2]
        refine e_iconst (v := 1) dX10_isSuspect_61 (by decide) ?_
        refine e_icmp_ne (tgt := 69) dX10_isSuspect_62 (by decide) (fun c62 => ?_) (fun c62 => ?_)
        · -- 62 jumps
          refine e_iconst (v := 0) dX10_isSuspect_69 (by decide) ?_
          refine e_icmp_eq (tgt := 75) dX10_isSuspect_70 (by decide) (fun c70 => ?_) (fun c70 => ?_)
          · -- 70 jumps
            refine e_iinc (ls' := [_, _, _, _]) dX10_isSuspect_75 rfl (nI_i1 _) (by decide) rfl ?_
            refine e_goto (tgt := 2) dX10_isSuspect_78 (by decide) ?_
            exact ih (i + 1) _ (by omega) (by omega) (lt_s ha (by unfold susP; rw [hs1, nI_clamp (by omega), Nat.add_sub_cancel]; simp only [decide_eq_true c40, decide_eq_false c62]; rfl))
          · -- 70 goes on
            refine e_iconst (v := 0) dX10_isSuspect_73 (by decide) ?_
            refine e_zret dX10_isSuspect_74 rfl rfl ?_
            exact absurd rfl c70
        · -- 62 goes on
          refine e_iconst (v := 1) dX10_isSuspect_65 (by decide) ?_
          refine e_goto (tgt := 70) dX10_isSuspect_66 (by decide) ?_
          refine e_icmp_eq (tgt := 75) dX10_isSuspect_70 (by decide) (fun c70 => ?_) (fun c70 => ?_)
          · -- 70 jumps
            refine e_iinc (ls' := [_, _, _, _]) dX10_isSuspect_75 rfl (nI_i1 _) (by decide) rfl ?_
            refine e_goto (tgt := 2) dX10_isSuspect_78 (by decide) ?_
            exact absurd c70 (by decide)
          · -- 70 goes on
            refine e_iconst (v := 0) dX10_isSuspect_73 (by decide) ?_
            refine e_zret dX10_isSuspect_74 rfl rfl ?_
            exact ⟨by rw [b2i_f (by unfold susB; rw [allN_iff]; exact allN_f hlt (by unfold susP; rw [hs1, nI_clamp (by omega), Nat.add_sub_cancel]; simp only [decide_eq_true c40, decide_eq_true c62]; rfl))], rfl⟩
      · -- 40 goes on
        refine e_iconst (v := 1) dX10_isSuspect_43 (by decide) ?_
        refine e_goto (tgt := 48) dX10_isSuspect_44 (by decide) ?_
        refine e_istore_n (ls' := [_, _, _, _]) dX10_isSuspect_48 (by decide) rfl ?_
        refine e_iload_n dX10_isSuspect_49 rfl ?_
        refine e_aload_n dX10_isSuspect_50 rfl ?_
        refine e_getR dX10_isSuspect_51 fl_X10_49 sh_x rfl ?_
        refine e_getR dX10_isSuspect_54 fl_X10_344 (sh_sn (by first | assumption | decide)) rfl ?_
        refine e_iload_n dX10_isSuspect_57 rfl ?_
        refine cS2r dX10_isSuspect_58 mo_X10_at ml_X10_137 (Nat.le_of_ble_eq_true rfl) (by omega) (c_atN (sa_sn_more (by first | assumption | decide)) (by decide) (by first | omega | decide)) ?_
        rw [(hV.2.2 i hlt).2.2]
        refine e_iconst (v := 1) dX10_isSuspect_61 (by decide) ?_
        refine e_icmp_ne (tgt := 69) dX10_isSuspect_62 (by decide) (fun c62 => ?_) (fun c62 => ?_)
        · -- 62 jumps
          refine e_iconst (v := 0) dX10_isSuspect_69 (by decide) ?_
          refine e_icmp_eq (tgt := 75) dX10_isSuspect_70 (by decide) (fun c70 => ?_) (fun c70 => ?_)
          · -- 70 jumps
            refine e_iinc (ls' := [_, _, _, _]) dX10_isSuspect_75 rfl (nI_i1 _) (by decide) rfl ?_
            refine e_goto (tgt := 2) dX10_isSuspect_78 (by decide) ?_
            exact absurd c70 (by decide)
          · -- 70 goes on
            refine e_iconst (v := 0) dX10_isSuspect_73 (by decide) ?_
            refine e_zret dX10_isSuspect_74 rfl rfl ?_
            exact ⟨by rw [b2i_f (by unfold susB; rw [allN_iff]; exact allN_f hlt (by unfold susP; rw [hs1, nI_clamp (by omega), Nat.add_sub_cancel]; simp only [decide_eq_false c40, decide_eq_false c62]; rfl))], rfl⟩
        · -- 62 goes on
          refine e_iconst (v := 1) dX10_isSuspect_65 (by decide) ?_
          refine e_goto (tgt := 70) dX10_isSuspect_66 (by decide) ?_
          refine e_icmp_eq (tgt := 75) dX10_isSuspect_70 (by decide) (fun c70 => ?_) (fun c70 => ?_)
          · -- 70 jumps
            refine e_iinc (ls' := [_, _, _, _]) dX10_isSuspect_75 rfl (nI_i1 _) (by decide) rfl ?_
            refine e_goto (tgt := 2) dX10_isSuspect_78 (by decide) ?_
            exact ih (i + 1) _ (by omega) (by omega) (lt_s ha (by unfold susP; rw [hs1, nI_clamp (by omega), Nat.add_sub_cancel]; simp only [decide_eq_false c40, decide_eq_true c62]; rfl))
          · -- 70 goes on
            refine e_iconst (v := 0) dX10_isSuspect_73 (by decide) ?_
            refine e_zret dX10_isSuspect_74 rfl rfl ?_
            exact absurd rfl c70
set_option maxHeartbeats 4000000 in
set_option maxRecDepth 20000 in
theorem c_sus {G : Gt} {M : Mm} {E : Gs} {y y' w w' p : Nat} (hX : XJ M E y y' w w' p) {j : Nat} (hj : j < E.Y.n) (hc : crkIn M E) (hVI : VI E.V) : Call G 3 mX10_isSuspect [.ref 0, .int (nI j)] M (eqQ (some (.int (b2i (susB E j = true)))) M) := by
  obtain ⟨⟨hld, hsl, hy, hy', hyy⟩, ⟨hpl, hsp, hw, hw', hww⟩, hY, hW, hS, hV, hK, ⟨hpt, hp16, hun, hu16, hU⟩, ⟨htl, htl2, htc⟩⟩ := id hX
  have h6 := hY.1.2
  have hs5 := hY.2.1.2
  refine Call.intro rfl (Nat.le_of_ble_eq_true rfl) ?_
  show Ev G _ mX10_isSuspect 0 [.ref 0, .int (nI j), RA, RA] [] M _
  refine e_iconst (v := 0) dX10_isSuspect_0 (by decide) ?_
  refine e_istore_n (ls' := [_, _, _, _]) dX10_isSuspect_1 (by decide) rfl ?_
  exact l_sus hX hj hc hVI (E.V.1 + 1) 0 _ (by omega) (by omega) lt_0
set_option maxHeartbeats 4000000 in
set_option maxRecDepth 20000 in
theorem l_suspects {G : Gt} {M : Mm} {E : Gs} {y y' w w' p : Nat} (hX : XJ M E y y' w w' p) (hc : crkIn M E) (hVI : VI E.V) : ∀ (k : Nat) (i : Nat) , (i ≤ E.Y.n) → (E.Y.n < i + k) → Ev G 4 mX10_suspects 4 [.ref 0, .int (setB (susB E) i), .int (nI i)] [] M (eqQ (some (.int (whoV E))) M) := by
  intro k
  induction k with
  | zero => intro i hi hk; exact absurd hk (by omega)
  | succ k ih =>
    intro i hi hk
    obtain ⟨⟨hld, hsl, hy, hy', hyy⟩, ⟨hpl, hsp, hw, hw', hww⟩, hY, hW, hS, hV, hK, ⟨hpt, hp16, hun, hu16, hU⟩, ⟨htl, htl2, htc⟩⟩ := id hX
    have h6 := hY.1.2
    have hs5 := hY.2.1.2
    refine e_iload_n dX10_suspects_4 rfl ?_
    refine e_aload_n dX10_suspects_5 rfl ?_
    refine e_getP dX10_suspects_6 fl_X10_19 sh_x rfl ?_
    first | rw [hld] | (simp only [setI_2, setI_22, setL_22]; rw [hld])
    refine e_getI dX10_suspects_9 fl_X10_74 (sh_yd (by first | assumption | decide)) rfl ?_
    refine e_icmp_ge (tgt := 35) dX10_suspects_12 (by decide) (fun c12 => ?_) (fun c12 => ?_)
    · -- 12 jumps
      rw [hY.1.1] at c12
      have hin : i = E.Y.n := by have := ge_of (by omega) (by omega) c12; omega
      subst hin
      refine e_iload_n dX10_suspects_35 rfl ?_
      refine e_iret dX10_suspects_36 rfl ?_
      exact ⟨rfl, rfl⟩
    · -- 12 goes on
      rw [hY.1.1] at c12
      have hlt : i < E.Y.n := lt_of (by omega) (by omega) c12
      refine e_aload_n dX10_suspects_15 rfl ?_
      refine e_iload_n dX10_suspects_16 rfl ?_
      refine cV1r dX10_suspects_17 mo_X10_isSuspect ml_X10_333 sh_x rfl (Nat.le_of_ble_eq_true rfl) (by omega) (c_sus hX hlt hc hVI) ?_
      refine e_if_eq (tgt := 29) dX10_suspects_20 (by decide) (fun c20 => ?_) (fun c20 => ?_)
      · -- 20 jumps
        refine e_iinc (ls' := [_, _, _]) dX10_suspects_29 rfl (nI_i1 _) (by decide) rfl ?_
        refine e_goto (tgt := 4) dX10_suspects_32 (by decide) ?_
        have hh := ih (i + 1) (by omega) (by omega)
        rw [setB_f (Bool.eq_false_iff.mpr (b2i_eq0.mp c20))] at hh
        exact hh
      · -- 20 goes on
        refine e_iload_n dX10_suspects_23 rfl ?_
        refine e_iconst (v := 1) dX10_suspects_24 (by decide) ?_
        refine e_iload_n dX10_suspects_25 rfl ?_
        refine e_ishl dX10_suspects_26 ?_
        refine e_ior dX10_suspects_27 ?_
        refine e_istore_n (ls' := [_, _, _]) dX10_suspects_28 (by decide) rfl ?_
        refine e_iinc (ls' := [_, _, _]) dX10_suspects_29 rfl (nI_i1 _) (by decide) rfl ?_
        refine e_goto (tgt := 4) dX10_suspects_32 (by decide) ?_
        have hh := ih (i + 1) (by omega) (by omega)
        rw [setB_t (Classical.not_not.mp (fun q => c20 (b2i_f q)))] at hh
        exact hh
set_option maxHeartbeats 4000000 in
set_option maxRecDepth 20000 in
theorem c_suspects {G : Gt} {M : Mm} {E : Gs} {y y' w w' p : Nat} (hX : XJ M E y y' w w' p) (hc : crkIn M E) (hVI : VI E.V) : Call G 4 mX10_suspects [.ref 0] M (eqQ (some (.int (whoV E))) M) := by
  obtain ⟨⟨hld, hsl, hy, hy', hyy⟩, ⟨hpl, hsp, hw, hw', hww⟩, hY, hW, hS, hV, hK, ⟨hpt, hp16, hun, hu16, hU⟩, ⟨htl, htl2, htc⟩⟩ := id hX
  have h6 := hY.1.2
  have hs5 := hY.2.1.2
  refine Call.intro rfl (Nat.le_of_ble_eq_true rfl) ?_
  show Ev G _ mX10_suspects 0 [.ref 0, RA, RA] [] M _
  refine e_iconst (v := 0) dX10_suspects_0 (by decide) ?_
  refine e_istore_n (ls' := [_, _, _]) dX10_suspects_1 (by decide) rfl ?_
  refine e_iconst (v := 0) dX10_suspects_2 (by decide) ?_
  refine e_istore_n (ls' := [_, _, _]) dX10_suspects_3 (by decide) rfl ?_
  exact l_suspects hX hc hVI (E.Y.n + 1) 0 (by omega) (by omega)
set_option maxHeartbeats 4000000 in
set_option maxRecDepth 20000 in
theorem c_who {G : Gt} {M : Mm} {E : Gs} {y y' w w' p : Nat} (hX : XJ M E y y' w w' p) {T : Nat} (hI : SI E.Y E.S T) (hT : T < 2 ^ 30) (hVI : VI E.V) : Call G 7 mX10_who [.ref 0] M (fun r M' => r = some (.int (whoV E)) ∧ SC M M') := by
  obtain ⟨⟨hld, hsl, hy, hy', hyy⟩, ⟨hpl, hsp, hw, hw', hww⟩, hY, hW, hS, hV, hK, ⟨hpt, hp16, hun, hu16, hU⟩, ⟨htl, htl2, htc⟩⟩ := id hX
  have h6 := hY.1.2
  have hs5 := hY.2.1.2
  refine Call.intro rfl (Nat.le_of_ble_eq_true rfl) ?_
  show Ev G _ mX10_who 0 [.ref 0] [] M _
  refine e_aload_n dX10_who_0 rfl ?_
  refine cV0x dX10_who_1 mo_X10_listen ml_X10_327 sh_x rfl (Nat.le_of_ble_eq_true rfl) (by omega) (c_listen hX hI hT) ?_
  rintro r M0 ⟨rfl, hsc0, hc0⟩
  dsimp only [Option.toList, List.cons_append, List.nil_append]
  refine e_aload_n dX10_who_4 rfl ?_
  refine cV0r dX10_who_5 mo_X10_suspects ml_X10_330 sh_x rfl (Nat.le_of_ble_eq_true rfl) (by omega) (c_suspects (hsc0.keep hX) hc0 hVI) ?_
  refine e_iret dX10_who_8 rfl ?_
  exact ⟨rfl, hsc0⟩
/-- a set of sheds, below 64 -/
theorem setB_nat (p : Nat → Bool) : ∀ n, n ≤ 6 → ∃ s, s < 2 ^ n ∧ setB p n = nI s := by
  intro n
  induction n with
  | zero => intro _; exact ⟨0, by decide, rfl⟩
  | succ n ih =>
    intro h
    obtain ⟨s, hs, e⟩ := ih (by omega)
    have key : ∀ n, n < 6 → ∀ s, s < 2 ^ n → nI s ||| b1 (nI n) = nI (s + 2 ^ n) := by decide +kernel
    by_cases hp : p n = true
    · exact ⟨s + 2 ^ n, by rw [Nat.pow_succ]; omega, by rw [setB_t hp, e, key n (by omega) s hs]⟩
    · exact ⟨s, by rw [Nat.pow_succ]; omega, by rw [setB_f (by simpa using hp), e]⟩
def soV (E : Gs) (x : Int32) (t m : Nat) : Int32 := cntI (fun j => decide (bitI x (nI j)) && !decide (crkV E.Y E.S t j < nI m)) E.Y.n
/-- the best question so far: (how many then, which), behind those of night t + 1 up to m -/
def askI (E : Gs) (x all : Int32) (t : Nat) (q : Int32 × Int32) : Nat → Int32 × Int32
  | 0 => q
  | m + 1 => if mx (soV E x t (m + 1)) (all - soV E x t (m + 1)) < (askI E x all t q m).1 then (mx (soV E x t (m + 1)) (all - soV E x t (m + 1)), 1000 * nI (t + 1) + nI (m + 1)) else askI E x all t q m
def askO (E : Gs) (x all : Int32) (q : Int32 × Int32) : Nat → Int32 × Int32
  | 0 => q
  | t + 1 => askI E x all t (askO E x all q t) 400
def askQ (E : Gs) (x all : Int32) : Int32 := (askO E x all (all, -1) 20).2
set_option maxHeartbeats 4000000 in
set_option maxRecDepth 20000 in
theorem l_creaking {G : Gt} {M : Mm} {E : Gs} {y y' w w' p : Nat} (hX : XJ M E y y' w w' p) {x : Int32} {t m : Nat} (hc : crkIn M E) (ht : t < 20) : ∀ (k : Nat) (i : Nat) , (i ≤ E.Y.n) → (E.Y.n < i + k) → Ev G 3 mX10_creaking 6 [.ref 0, .int x, .int (nI (t + 1)), .int (nI m), .int (cntI (fun j => decide (bitI x (nI j)) && !decide (crkV E.Y E.S t j < nI m)) i), .int (nI i)] [] M (eqQ (some (.int (soV E x t m))) M) := by
  intro k
  induction k with
  | zero => intro i hi hk; exact absurd hk (by omega)
  | succ k ih =>
    intro i hi hk
    obtain ⟨⟨hld, hsl, hy, hy', hyy⟩, ⟨hpl, hsp, hw, hw', hww⟩, hY, hW, hS, hV, hK, ⟨hpt, hp16, hun, hu16, hU⟩, ⟨htl, htl2, htc⟩⟩ := id hX
    have h6 := hY.1.2
    have hs5 := hY.2.1.2
    refine e_iload dX10_creaking_6 rfl ?_
    refine e_aload_n dX10_creaking_8 rfl ?_
    refine e_getP dX10_creaking_9 fl_X10_19 sh_x rfl ?_
    first | rw [hld] | (simp only [setI_2, setI_22, setL_22]; rw [hld])
    refine e_getI dX10_creaking_12 fl_X10_74 (sh_yd (by first | assumption | decide)) rfl ?_
    refine e_icmp_ge (tgt := 48) dX10_creaking_15 (by decide) (fun c15 => ?_) (fun c15 => ?_)
    · -- 15 jumps
      rw [hY.1.1] at c15
      have hin : i = E.Y.n := by have := ge_of (by omega) (by omega) c15; omega
      subst hin
      refine e_iload dX10_creaking_48 rfl ?_
      refine e_iret dX10_creaking_50 rfl ?_
      exact ⟨rfl, rfl⟩
    · -- 15 goes on
      rw [hY.1.1] at c15
      have hlt : i < E.Y.n := lt_of (by omega) (by omega) c15
      refine e_iload_n dX10_creaking_18 rfl ?_
      refine e_iload dX10_creaking_19 rfl ?_
      refine e_ishr dX10_creaking_21 ?_
      refine e_iconst (v := 1) dX10_creaking_22 (by decide) ?_
      refine e_iand dX10_creaking_23 ?_
      refine e_iconst (v := 1) dX10_creaking_24 (by decide) ?_
      refine e_icmp_ne (tgt := 42) dX10_creaking_25 (by decide) (fun c25 => ?_) (fun c25 => ?_)
      · -- 25 jumps
        refine e_iinc (ls' := [_, _, _, _, _, _]) dX10_creaking_42 rfl (nI_i1 _) (by decide) rfl ?_
        refine e_goto (tgt := 6) dX10_creaking_45 (by decide) ?_
        have hh := ih (i + 1) (by omega) (by omega)
        rw [cntI_f (by simp only [decide_eq_false c25]; rfl)] at hh
        exact hh
      · -- 25 goes on
        refine e_aload_n dX10_creaking_28 rfl ?_
        refine e_iload_n dX10_creaking_29 rfl ?_
        refine e_iload dX10_creaking_30 rfl ?_
        refine cV2r dX10_creaking_32 mo_X10_creakAhead ml_X10_338 sh_x rfl (Nat.le_of_ble_eq_true rfl) (by omega) (c_creakAhead h6 hc ht hlt) ?_
        refine e_iload_n dX10_creaking_35 rfl ?_
        refine e_icmp_lt (tgt := 42) dX10_creaking_36 (by decide) (fun c36 => ?_) (fun c36 => ?_)
        · -- 36 jumps
          refine e_iinc (ls' := [_, _, _, _, _, _]) dX10_creaking_42 rfl (nI_i1 _) (by decide) rfl ?_
          refine e_goto (tgt := 6) dX10_creaking_45 (by decide) ?_
          have hh := ih (i + 1) (by omega) (by omega)
          rw [cntI_f (by simp only [decide_eq_true c25, decide_eq_true c36]; rfl)] at hh
          exact hh
        · -- 36 goes on
          refine e_iinc (ls' := [_, _, _, _, _, _]) dX10_creaking_39 rfl (i_inc1 _) (by decide) rfl ?_
          refine e_iinc (ls' := [_, _, _, _, _, _]) dX10_creaking_42 rfl (nI_i1 _) (by decide) rfl ?_
          refine e_goto (tgt := 6) dX10_creaking_45 (by decide) ?_
          have hh := ih (i + 1) (by omega) (by omega)
          rw [cntI_t (by simp only [decide_eq_true c25, decide_eq_false c36]; rfl)] at hh
          exact hh
set_option maxHeartbeats 4000000 in
set_option maxRecDepth 20000 in
theorem c_creaking {G : Gt} {M : Mm} {E : Gs} {y y' w w' p : Nat} (hX : XJ M E y y' w w' p) {x : Int32} {t m : Nat} (hc : crkIn M E) (ht : t < 20) : Call G 3 mX10_creaking [.ref 0, .int x, .int (nI (t + 1)), .int (nI m)] M (eqQ (some (.int (soV E x t m))) M) := by
  obtain ⟨⟨hld, hsl, hy, hy', hyy⟩, ⟨hpl, hsp, hw, hw', hww⟩, hY, hW, hS, hV, hK, ⟨hpt, hp16, hun, hu16, hU⟩, ⟨htl, htl2, htc⟩⟩ := id hX
  have h6 := hY.1.2
  have hs5 := hY.2.1.2
  refine Call.intro rfl (Nat.le_of_ble_eq_true rfl) ?_
  show Ev G _ mX10_creaking 0 [.ref 0, .int x, .int (nI (t + 1)), .int (nI m), RA, RA] [] M _
  refine e_iconst (v := 0) dX10_creaking_0 (by decide) ?_
  refine e_istore (ls' := [_, _, _, _, _, _]) dX10_creaking_1 (by decide) rfl ?_
  refine e_iconst (v := 0) dX10_creaking_3 (by decide) ?_
  refine e_istore (ls' := [_, _, _, _, _, _]) dX10_creaking_4 (by decide) rfl ?_
  exact l_creaking hX hc ht (E.Y.n + 1) 0 (by omega) (by omega)
set_option maxHeartbeats 4000000 in
set_option maxRecDepth 20000 in
theorem l_ask2 {G : Gt} {M : Mm} {E : Gs} {y y' w w' p : Nat} (hX : XJ M E y y' w w' p) {x all : Int32} {t : Nat} (hc : crkIn M E) (ht : t < 20) (hCo : ∀ (u7 u8 u6 : Value), Ev G 7 mX10_ask 88 [.ref 0, .int x, .int all, .int (askO E x all (all, -1) (t + 1)).1, .int (askO E x all (all, -1) (t + 1)).2, .int (nI (t + 1)), u6, u7, u8] [] M (eqQ (some (.int (askQ E x all))) M)) : ∀ (k : Nat) (i : Nat) (u7 : Value) (u8 : Value), (i ≤ 400) → (400 < i + k) → Ev G 7 mX10_ask 32 [.ref 0, .int x, .int all, .int (askI E x all t (askO E x all (all, -1) t) i).1, .int (askI E x all t (askO E x all (all, -1) t) i).2, .int (nI (t + 1)), .int (nI (i + 1)), u7, u8] [] M (eqQ (some (.int (askQ E x all))) M) := by
  intro k
  induction k with
  | zero => intro i u7 u8 hi hk; exact absurd hk (by omega)
  | succ k ih =>
    intro i u7 u8 hi hk
    obtain ⟨⟨hld, hsl, hy, hy', hyy⟩, ⟨hpl, hsp, hw, hw', hww⟩, hY, hW, hS, hV, hK, ⟨hpt, hp16, hun, hu16, hU⟩, ⟨htl, htl2, htc⟩⟩ := id hX
    have h6 := hY.1.2
    have hs5 := hY.2.1.2
    refine e_iload dX10_ask_32 rfl ?_
    refine e_sipush (v := 400) dX10_ask_34 (by decide) ?_
    refine e_icmp_gt (tgt := 88) dX10_ask_37 (by decide) (fun c37 => ?_) (fun c37 => ?_)
    · -- 37 jumps
      have hin : i = 400 := by have := lt_of (i := 400) (n := i + 1) (by omega) (by omega) c37; omega
      subst hin
      exact hCo _ _ _
    · -- 37 goes on
      have hlt : i < 400 := by have := ge_of (i := 400) (n := i + 1) (by omega) (by omega) c37; omega
      refine e_aload_n dX10_ask_40 rfl ?_
      refine e_iload_n dX10_ask_41 rfl ?_
      refine e_iload dX10_ask_42 rfl ?_
      refine e_iload dX10_ask_44 rfl ?_
      refine cV3r dX10_ask_46 mo_X10_creaking ml_X10_347 sh_x rfl (Nat.le_of_ble_eq_true rfl) (by omega) (c_creaking hX hc ht) ?_
      refine e_istore (ls' := [_, _, _, _, _, _, _, _, _]) dX10_ask_49 (by decide) rfl ?_
      refine e_iload dX10_ask_51 rfl ?_
      refine e_iload_n dX10_ask_53 rfl ?_
      refine e_iload dX10_ask_54 rfl ?_
      refine e_isub dX10_ask_56 ?_
      refine e_max dX10_ask_57 (mem_g 1049 (by decide +kernel) rfl) (mem_g 422 (by decide +kernel) rfl) (mem_g 15 (by decide +kernel) rfl) (mem_g 423 (by decide +kernel) rfl) (Nat.le_of_ble_eq_true rfl) (by omega) ?_
      refine e_istore (ls' := [_, _, _, _, _, _, _, _, _]) dX10_ask_60 (by decide) rfl ?_
      refine e_iload dX10_ask_62 rfl ?_
      refine e_iload_n dX10_ask_64 rfl ?_
      refine e_icmp_ge (tgt := 82) dX10_ask_65 (by decide) (fun c65 => ?_) (fun c65 => ?_)
      · -- 65 jumps
        refine e_iinc (ls' := [_, _, _, _, _, _, _, _, _]) dX10_ask_82 rfl (nI_i1 _) (by decide) rfl ?_
        refine e_goto (tgt := 32) dX10_ask_85 (by decide) ?_
        have hh := ih (i + 1) (.int (soV E x t (i + 1))) (.int (mx (soV E x t (i + 1)) (all - soV E x t (i + 1)))) (by omega) (by omega)
        rw [show askI E x all t (askO E x all (all, -1) t) (i + 1) = askI E x all t (askO E x all (all, -1) t) i from if_neg c65] at hh
        exact hh
      · -- 65 goes on
        refine e_iload dX10_ask_68 rfl ?_
        refine e_istore_n (ls' := [_, _, _, _, _, _, _, _, _]) dX10_ask_70 (by decide) rfl ?_
        refine e_sipush (v := 1000) dX10_ask_71 (by decide) ?_
        refine e_iload dX10_ask_74 rfl ?_
        refine e_imul dX10_ask_76 ?_
        refine e_iload dX10_ask_77 rfl ?_
        refine e_iadd dX10_ask_79 ?_
        refine e_istore (ls' := [_, _, _, _, _, _, _, _, _]) dX10_ask_80 (by decide) rfl ?_
        refine e_iinc (ls' := [_, _, _, _, _, _, _, _, _]) dX10_ask_82 rfl (nI_i1 _) (by decide) rfl ?_
        refine e_goto (tgt := 32) dX10_ask_85 (by decide) ?_
        have hh := ih (i + 1) (.int (soV E x t (i + 1))) (.int (mx (soV E x t (i + 1)) (all - soV E x t (i + 1)))) (by omega) (by omega)
        rw [show askI E x all t (askO E x all (all, -1) t) (i + 1) = (mx (soV E x t (i + 1)) (all - soV E x t (i + 1)), 1000 * nI (t + 1) + nI (i + 1)) from if_pos c65] at hh
        exact hh
set_option maxHeartbeats 4000000 in
set_option maxRecDepth 20000 in
theorem l_ask1 {G : Gt} {M : Mm} {E : Gs} {y y' w w' p : Nat} (hX : XJ M E y y' w w' p) {x all : Int32} (hc : crkIn M E) : ∀ (k : Nat) (i : Nat) (u6 : Value) (u7 : Value) (u8 : Value), (i ≤ 20) → (20 < i + k) → Ev G 7 mX10_ask 22 [.ref 0, .int x, .int all, .int (askO E x all (all, -1) i).1, .int (askO E x all (all, -1) i).2, .int (nI (i + 1)), u6, u7, u8] [] M (eqQ (some (.int (askQ E x all))) M) := by
  intro k
  induction k with
  | zero => intro i u6 u7 u8 hi hk; exact absurd hk (by omega)
  | succ k ih =>
    intro i u6 u7 u8 hi hk
    obtain ⟨⟨hld, hsl, hy, hy', hyy⟩, ⟨hpl, hsp, hw, hw', hww⟩, hY, hW, hS, hV, hK, ⟨hpt, hp16, hun, hu16, hU⟩, ⟨htl, htl2, htc⟩⟩ := id hX
    have h6 := hY.1.2
    have hs5 := hY.2.1.2
    refine e_iload dX10_ask_22 rfl ?_
    refine e_bipush (v := 20) dX10_ask_24 (by decide) ?_
    refine e_icmp_gt (tgt := 94) dX10_ask_26 (by decide) (fun c26 => ?_) (fun c26 => ?_)
    · -- 26 jumps
      have hin : i = 20 := by have := lt_of (i := 20) (n := i + 1) (by omega) (by omega) c26; omega
      subst hin
      refine e_iload dX10_ask_94 rfl ?_
      refine e_iret dX10_ask_96 rfl ?_
      exact ⟨rfl, rfl⟩
    · -- 26 goes on
      have hlt : i < 20 := by have := ge_of (i := 20) (n := i + 1) (by omega) (by omega) c26; omega
      refine e_iconst (v := 1) dX10_ask_29 (by decide) ?_
      refine e_istore (ls' := [_, _, _, _, _, _, _, _, _]) dX10_ask_30 (by decide) rfl ?_
      refine l_ask2 hX hc (t := i) hlt (fun v7 v8 v6 => ?_) 401 0 _ _ (by omega) (by omega)
      refine e_iinc (ls' := [_, _, _, _, _, _, _, _, _]) dX10_ask_88 rfl (nI_i1 _) (by decide) rfl ?_
      refine e_goto (tgt := 22) dX10_ask_91 (by decide) ?_
      exact ih (i + 1) v6 v7 v8 (by omega) (by omega)
def askA (E : Gs) : Int32 := askQ E (whoV E) (nI (pcN (whoV E).toNatClampNeg))
set_option maxHeartbeats 4000000 in
set_option maxRecDepth 20000 in
theorem c_ask {G : Gt} {M : Mm} {E : Gs} {y y' w w' p : Nat} (hX : XJ M E y y' w w' p) {T : Nat} (hI : SI E.Y E.S T) (hT : T < 2 ^ 30) (hVI : VI E.V) : Call G 7 mX10_ask [.ref 0] M (fun r M' => r = some (.int (askA E)) ∧ SC M M') := by
  obtain ⟨⟨hld, hsl, hy, hy', hyy⟩, ⟨hpl, hsp, hw, hw', hww⟩, hY, hW, hS, hV, hK, ⟨hpt, hp16, hun, hu16, hU⟩, ⟨htl, htl2, htc⟩⟩ := id hX
  have h6 := hY.1.2
  have hs5 := hY.2.1.2
  obtain ⟨s, hs, es⟩ := setB_nat (susB E) E.Y.n h6
  have hs64 : s < 64 := by have := (pow6 h6).2.2; omega
  refine Call.intro rfl (Nat.le_of_ble_eq_true rfl) ?_
  show Ev G _ mX10_ask 0 [.ref 0, RA, RA, RA, RA, RA, RA, RA, RA] [] M _
  refine e_aload_n dX10_ask_0 rfl ?_
  refine cV0x dX10_ask_1 mo_X10_listen ml_X10_327 sh_x rfl (Nat.le_of_ble_eq_true rfl) (by omega) (c_listen hX hI hT) ?_
  rintro r M0 ⟨rfl, hsc0, hc0⟩
  dsimp only [Option.toList, List.cons_append, List.nil_append]
  refine e_aload_n dX10_ask_4 rfl ?_
  refine cV0r dX10_ask_5 mo_X10_suspects ml_X10_330 sh_x rfl (Nat.le_of_ble_eq_true rfl) (by omega) (c_suspects (hsc0.keep hX) hc0 hVI) ?_
  rw [show whoV E = nI s from es]
  refine e_istore_n (ls' := [_, _, _, _, _, _, _, _, _]) dX10_ask_8 (by decide) rfl ?_
  refine e_iload_n dX10_ask_9 rfl ?_
  refine cS1r dX10_ask_10 mo_J6_bitCount_0f7a4 ml_X10_298 (Nat.le_of_ble_eq_true rfl) (by omega) (c_bitCount (by omega)) ?_
  refine e_istore_n (ls' := [_, _, _, _, _, _, _, _, _]) dX10_ask_13 (by decide) rfl ?_
  refine e_iload_n dX10_ask_14 rfl ?_
  refine e_istore_n (ls' := [_, _, _, _, _, _, _, _, _]) dX10_ask_15 (by decide) rfl ?_
  refine e_iconst (v := (-1)) dX10_ask_16 (by decide) ?_
  refine e_istore (ls' := [_, _, _, _, _, _, _, _, _]) dX10_ask_17 (by decide) rfl ?_
  refine e_iconst (v := 1) dX10_ask_19 (by decide) ?_
  refine e_istore (ls' := [_, _, _, _, _, _, _, _, _]) dX10_ask_20 (by decide) rfl ?_
  refine Ev.weaken (l_ask1 (hsc0.keep hX) hc0 21 0 _ _ _ (by omega) (by omega)) ?_
  rintro r M1 ⟨rfl, rfl⟩
  exact ⟨by unfold askA; rw [show whoV E = nI s from es, nI_clamp (by omega)], hsc0⟩
def seeB (E : Gs) (t m : Int32) : Bool := decide ((vWi t 1 20 ∧ vWi m 1 400) ∧ E.V.1 < 8)
def addR (R : Rv) (a b c : Int32) : Rv := (R.1 + 1, fun k => if k = R.1 then a else R.2.1 k, fun k => if k = R.1 then b else R.2.2.1 k, fun k => if k = R.1 then c else R.2.2.2 k)
set_option maxHeartbeats 4000000 in
set_option maxRecDepth 20000 in
theorem c_addV {G : Gt} {M : Mm} {o : Nat} {R : Rv} {a b c : Int32} (ho : o ∈ snA) (hR : RX M o 8 R) (hc : c = 0 ∨ c = 1) : Call G 2 mX2_add [.ref o, .int a, .int b, .int c] M (fun r M' => r = some (.int (b2i (R.1 < 8))) ∧ M'.2 = M.2 ∧ (∀ i, ¬ (o ≤ i ∧ i ≤ o + 3) → M'.1 i = M.1 i) ∧ (R.1 < 8 → RX M' o 8 (addR R a b c)) ∧ (¬ R.1 < 8 → M' = M)) := by
  have hR8 := hR.2.1
  refine Call.intro rfl (Nat.le_of_ble_eq_true rfl) ?_
  show Ev G _ mX2_add 0 [.ref o, .int a, .int b, .int c] [] M _
  refine e_aload_n dX2_add_0 rfl ?_
  refine e_getI dX2_add_1 fl_X2_21 (sh_sn (by first | assumption | decide)) rfl ?_
  refine e_bipush (v := 8) dX2_add_4 (by decide) ?_
  refine e_icmp_lt (tgt := 11) dX2_add_6 (by decide) (fun c6 => ?_) (fun c6 => ?_)
  · -- 6 jumps
    rw [hR.1] at c6
    have h8 : R.1 < 8 := lt_of (n := 8) (by omega) (by omega) c6
    refine e_aload_n dX2_add_11 rfl ?_
    refine e_getR dX2_add_12 fl_X2_9 (sh_sn (by first | assumption | decide)) rfl ?_
    refine e_aload_n dX2_add_15 rfl ?_
    refine e_getI dX2_add_16 fl_X2_21 (sh_sn (by first | assumption | decide)) rfl ?_
    rw [hR.1]
    refine e_iload_n dX2_add_19 rfl ?_
    refine cS3v dX2_add_20 mo_X10_put ml_X2_25 (Nat.le_of_ble_eq_true rfl) (by omega) (c_putN (sa_sn_nights (by first | assumption | decide)) (by decide) (by first | omega | decide)) ?_
    refine e_aload_n dX2_add_23 rfl ?_
    refine e_getR dX2_add_24 fl_X2_15 (sh_sn (by first | assumption | decide)) rfl ?_
    refine e_aload_n dX2_add_27 rfl ?_
    refine e_getI dX2_add_28 fl_X2_21 (sh_sn (by first | assumption | decide)) rfl ?_
    rw [show (_ : Mm).1 o 3 = nI R.1 from by (repeat (first | rw [if_neg (by omega)] | rw [if_pos (by omega)] | rw [setI_1])); exact hR.1]
    refine e_iload_n dX2_add_31 rfl ?_
    refine cS3v dX2_add_32 mo_X10_put ml_X2_25 (Nat.le_of_ble_eq_true rfl) (by omega) (c_putN (sa_sn_much (by first | assumption | decide)) (by decide) (by first | omega | decide)) ?_
    refine e_aload_n dX2_add_35 rfl ?_
    refine e_getR dX2_add_36 fl_X2_18 (sh_sn (by first | assumption | decide)) rfl ?_
    refine e_aload_n dX2_add_39 rfl ?_
    refine e_getI dX2_add_40 fl_X2_21 (sh_sn (by first | assumption | decide)) rfl ?_
    rw [show (_ : Mm).1 o 3 = nI R.1 from by (repeat (first | rw [if_neg (by omega)] | rw [if_pos (by omega)] | rw [setI_1])); exact hR.1]
    refine e_iload_n dX2_add_43 rfl ?_
    refine e_if_eq (tgt := 51) dX2_add_44 (by decide) (fun c44 => ?_) (fun c44 => ?_)
    · -- 44 jumps
      obtain rfl : c = 0 := c44
      refine e_iconst (v := 0) dX2_add_51 (by decide) ?_
      refine cS3v dX2_add_52 mo_X10_put ml_X2_25 (Nat.le_of_ble_eq_true rfl) (by omega) (c_putN (sa_sn_more (by first | assumption | decide)) (by decide) (by first | omega | decide)) ?_
      refine e_aload_n dX2_add_55 rfl ?_
      refine e_dup dX2_add_56 rfl ?_
      refine e_getI dX2_add_57 fl_X2_21 (sh_sn (by first | assumption | decide)) rfl ?_
      rw [show (_ : Mm).1 o 3 = nI R.1 from by (repeat (first | rw [if_neg (by omega)] | rw [if_pos (by omega)] | rw [setI_1])); exact hR.1]
      refine e_iconst (v := 1) dX2_add_60 (by decide) ?_
      refine e_iadd dX2_add_61 ?_
      refine e_putI dX2_add_62 fl_X2_21 (sh_sn (by first | assumption | decide)) rfl rfl rfl ?_
      refine e_iconst (v := 1) dX2_add_65 (by decide) ?_
      refine e_zret dX2_add_66 rfl (by first | rfl | exact b2i_nar _) ?_
      refine ⟨by rw [b2i_t h8], rfl, fun i hi => ?_, fun _ => ⟨?_, ?_, fun k hk => ?_⟩, fun q => absurd h8 q⟩
      · funext k; (repeat (first | rw [if_neg (by omega)] | rw [if_pos (by omega)] | rw [setI_1]))
      · (repeat (first | rw [if_neg (by omega)] | rw [if_pos (by omega)] | rw [setI_1])); exact nI_1 _
      · show R.1 + 1 ≤ 8; omega
      · have hk2 : k < R.1 + 1 := hk
        by_cases e : k = R.1
        · subst e
          refine ⟨?_, ?_, ?_⟩
          · (repeat (first | rw [if_neg (by omega)] | rw [if_pos (by omega)] | rw [setI_1])); exact (if_pos rfl).symm
          · (repeat (first | rw [if_neg (by omega)] | rw [if_pos (by omega)] | rw [setI_1])); exact (if_pos rfl).symm
          · (repeat (first | rw [if_neg (by omega)] | rw [if_pos (by omega)] | rw [setI_1])); exact (if_pos rfl).symm
        · have h3 := hR.2.2 k (by omega)
          refine ⟨?_, ?_, ?_⟩
          · (repeat (first | rw [if_neg (by omega)] | rw [if_pos (by omega)] | rw [setI_1])); rw [h3.1]; exact (if_neg e).symm
          · (repeat (first | rw [if_neg (by omega)] | rw [if_pos (by omega)] | rw [setI_1])); rw [h3.2.1]; exact (if_neg e).symm
          · (repeat (first | rw [if_neg (by omega)] | rw [if_pos (by omega)] | rw [setI_1])); rw [h3.2.2]; exact (if_neg e).symm
    · -- 44 goes on
      obtain rfl : c = 1 := hc.resolve_left c44
      refine e_iconst (v := 1) dX2_add_47 (by decide) ?_
      refine e_goto (tgt := 52) dX2_add_48 (by decide) ?_
      refine cS3v dX2_add_52 mo_X10_put ml_X2_25 (Nat.le_of_ble_eq_true rfl) (by omega) (c_putN (sa_sn_more (by first | assumption | decide)) (by decide) (by first | omega | decide)) ?_
      refine e_aload_n dX2_add_55 rfl ?_
      refine e_dup dX2_add_56 rfl ?_
      refine e_getI dX2_add_57 fl_X2_21 (sh_sn (by first | assumption | decide)) rfl ?_
      rw [show (_ : Mm).1 o 3 = nI R.1 from by (repeat (first | rw [if_neg (by omega)] | rw [if_pos (by omega)] | rw [setI_1])); exact hR.1]
      refine e_iconst (v := 1) dX2_add_60 (by decide) ?_
      refine e_iadd dX2_add_61 ?_
      refine e_putI dX2_add_62 fl_X2_21 (sh_sn (by first | assumption | decide)) rfl rfl rfl ?_
      refine e_iconst (v := 1) dX2_add_65 (by decide) ?_
      refine e_zret dX2_add_66 rfl (by first | rfl | exact b2i_nar _) ?_
      refine ⟨by rw [b2i_t h8], rfl, fun i hi => ?_, fun _ => ⟨?_, ?_, fun k hk => ?_⟩, fun q => absurd h8 q⟩
      · funext k; (repeat (first | rw [if_neg (by omega)] | rw [if_pos (by omega)] | rw [setI_1]))
      · (repeat (first | rw [if_neg (by omega)] | rw [if_pos (by omega)] | rw [setI_1])); exact nI_1 _
      · show R.1 + 1 ≤ 8; omega
      · have hk2 : k < R.1 + 1 := hk
        by_cases e : k = R.1
        · subst e
          refine ⟨?_, ?_, ?_⟩
          · (repeat (first | rw [if_neg (by omega)] | rw [if_pos (by omega)] | rw [setI_1])); exact (if_pos rfl).symm
          · (repeat (first | rw [if_neg (by omega)] | rw [if_pos (by omega)] | rw [setI_1])); exact (if_pos rfl).symm
          · (repeat (first | rw [if_neg (by omega)] | rw [if_pos (by omega)] | rw [setI_1])); exact (if_pos rfl).symm
        · have h3 := hR.2.2 k (by omega)
          refine ⟨?_, ?_, ?_⟩
          · (repeat (first | rw [if_neg (by omega)] | rw [if_pos (by omega)] | rw [setI_1])); rw [h3.1]; exact (if_neg e).symm
          · (repeat (first | rw [if_neg (by omega)] | rw [if_pos (by omega)] | rw [setI_1])); rw [h3.2.1]; exact (if_neg e).symm
          · (repeat (first | rw [if_neg (by omega)] | rw [if_pos (by omega)] | rw [setI_1])); rw [h3.2.2]; exact (if_neg e).symm
  · -- 6 goes on
    rw [hR.1] at c6
    refine e_iconst (v := 0) dX2_add_9 (by decide) ?_
    refine e_zret dX2_add_10 rfl (by first | rfl | exact b2i_nar _) ?_
    have h8 : ¬ R.1 < 8 := by have := ge_of (n := 8) (by omega) (by omega) c6; omega
    exact ⟨by rw [b2i_f h8], rfl, fun _ _ => rfl, fun q => absurd q h8, fun _ => rfl⟩
end XSE
