section XTR
set_option maxHeartbeats 4000000 in
set_option maxRecDepth 20000 in
theorem c_beginTrial {G : Gt} {M : Mm} {E : Gs} {y y' w w' p : Nat} (hX : XJ M E y y' w w' p) : Call G 3 mX10_beginTrial [.ref 0] M (fun r M' => r = none ∧ SC M M' ∧ SX M' 51 E.Y.n E.S) := by
  obtain ⟨⟨hld, hsl, hy, hy', hyy⟩, ⟨hpl, hsp, hw, hw', hww⟩, hY, hW, hS, hV, hK, ⟨hpt, hp16, hun, hu16, hU⟩, ⟨htl, htl2, htc⟩⟩ := id hX
  have h6 := hY.1.2
  have hs5 := hY.2.1.2
  refine Call.intro rfl (Nat.le_of_ble_eq_true rfl) ?_
  show Ev G _ mX10_beginTrial 0 [.ref 0] [] M _
  refine e_aload_n dX10_beginTrial_0 rfl ?_
  refine e_getR dX10_beginTrial_1 fl_X10_43 sh_x rfl ?_
  refine e_aload_n dX10_beginTrial_4 rfl ?_
  refine e_getR dX10_beginTrial_5 fl_X10_39 sh_x rfl ?_
  refine cV1x dX10_beginTrial_8 mo_X3_copyFrom ml_X10_224 (sh_st (by first | assumption | decide)) rfl (Nat.le_of_ble_eq_true rfl) (by omega) (c_copyS (o := 51) (q := 44) (by decide) (by decide) (by omega)) ?_
  rintro r M1 ⟨rfl, h2, hf, hc⟩
  dsimp only [Option.toList, List.cons_append, List.nil_append]
  refine e_vret dX10_beginTrial_11 rfl ?_
  exact ⟨rfl, SC.of h2 (fun i hi => hf i (by unfold scr at hi; omega)), hc _ _ hY.1.2 hS⟩
set_option maxHeartbeats 4000000 in
set_option maxRecDepth 20000 in
theorem c_passTrial {G : Gt} {M : Mm} {E : Gs} {y y' w w' p : Nat} (hX : XJ M E y y' w w' p) {S : Sv} {T : Nat} (hT : SX M 51 E.Y.n S) (hI : SI E.Y S T) (hT2 : T < 2 ^ 31) : Call G 5 mX10_passTrial [.ref 0] M (fun r M' => r = some (.int (popN E.Y S)) ∧ SC M M' ∧ SX M' 51 E.Y.n (nightV E.Y S) ∧ ∀ j, j < E.Y.n → M'.1 57 j = growV E.Y S (frV E.Y S.nights) j * S.crow j) := by
  obtain ⟨⟨hld, hsl, hy, hy', hyy⟩, ⟨hpl, hsp, hw, hw', hww⟩, hY, hW, hS, hV, hK, ⟨hpt, hp16, hun, hu16, hU⟩, ⟨htl, htl2, htc⟩⟩ := id hX
  have h6 := hY.1.2
  have hs5 := hY.2.1.2
  obtain ⟨r0, hr0, hr6, hs0, t, ht, htT⟩ := id hI
  refine Call.intro rfl (Nat.le_of_ble_eq_true rfl) ?_
  show Ev G _ mX10_passTrial 0 [.ref 0] [] M _
  refine e_aload_n dX10_passTrial_0 rfl ?_
  refine e_getR dX10_passTrial_1 fl_X10_43 sh_x rfl ?_
  refine e_aload_n dX10_passTrial_4 rfl ?_
  refine e_getP dX10_passTrial_5 fl_X10_19 sh_x rfl ?_
  first | rw [hld] | (simp only [setI_2, setI_22, setL_22]; rw [hld])
  refine e_aload_n dX10_passTrial_8 rfl ?_
  refine e_getP dX10_passTrial_9 fl_X10_19 sh_x rfl ?_
  first | rw [hld] | (simp only [setI_2, setI_22, setL_22]; rw [hld])
  refine e_aload_n dX10_passTrial_12 rfl ?_
  refine e_getR dX10_passTrial_13 fl_X10_43 sh_x rfl ?_
  refine e_getI dX10_passTrial_16 fl_X10_169 (sh_st (by first | assumption | decide)) rfl ?_
  rw [hT.2.1, ht]
  refine cV1r dX10_passTrial_19 mo_X8_frostOf ml_X10_172 (sh_yd (by first | assumption | decide)) rfl (Nat.le_of_ble_eq_true rfl) (by omega) (c_frostOf (by first | assumption | decide) (by assumption) (by omega)) ?_
  refine cV2x dX10_passTrial_22 mo_X3_pass ml_X10_195 (sh_st (by first | assumption | decide)) rfl (Nat.le_of_ble_eq_true rfl) (by omega) (c_pass (o := 51) (by decide) hy hY hT hI) ?_
  rintro r M1 ⟨rfl, h2, hf, hS1, hcr⟩
  dsimp only [Option.toList, List.cons_append, List.nil_append]
  refine e_iret dX10_passTrial_25 rfl ?_
  exact ⟨by unfold popN; rw [ht], SC.of h2 (fun i hi => hf i (by unfold scr at hi; omega) (by unfold scr at hi; rcases yd_two hy with e | e <;> omega) (by unfold scr at hi; rcases yd_two hy with e | e <;> omega)), by unfold nightV; rw [ht]; exact hS1, hcr⟩
/-- the creak of a shed in the night behind i -/
def crkV (Y : Yv) (S : Sv) (i j : Nat) : Int32 := growV Y (itN Y S i) (frV Y (itN Y S i).nights) j * (itN Y S i).crow j
def trI (M Mc : Mm) (Y : Yv) (S : Sv) (i : Nat) : Prop := SC M Mc ∧ SX Mc 51 Y.n (itN Y S i) ∧ (0 < i → ∀ j, j < Y.n → Mc.1 57 j = crkV Y S (i - 1) j)
theorem trI.next {M Mc M1 : Mm} {Y : Yv} {S : Sv} {i : Nat} (h : trI M Mc Y S i) (h1 : SC Mc M1) (h2 : SX M1 51 Y.n (nightV Y (itN Y S i))) (h3 : ∀ j, j < Y.n → M1.1 57 j = growV Y (itN Y S i) (frV Y (itN Y S i).nights) j * (itN Y S i).crow j) : trI M M1 Y S (i + 1) :=
  ⟨h.1.trans h1, h2, fun _ => h3⟩
set_option maxHeartbeats 4000000 in
set_option maxRecDepth 20000 in
theorem l_tryN {G : Gt} {M : Mm} {E : Gs} {y y' w w' p : Nat} (hX : XJ M E y y' w w' p) {T : Nat} (hI : SI E.Y E.S T) (hT : T < 2 ^ 30) {t : Nat} (ht : t ≤ 100) : ∀ (k : Nat) (i : Nat) (Mc : Mm), (i ≤ t) → (t < i + k) → (trI M Mc E.Y E.S i) → Ev G 6 mX10_tryNights 6 [.ref 0, .int (nI t), .int (nI i)] [] Mc (fun r M' => r = none ∧ trI M M' E.Y E.S t) := by
  intro k
  induction k with
  | zero => intro i Mc hi hk hv; exact absurd hk (by omega)
  | succ k ih =>
    intro i Mc hi hk hv
    obtain ⟨⟨hld, hsl, hy, hy', hyy⟩, ⟨hpl, hsp, hw, hw', hww⟩, hY, hW, hS, hV, hK, ⟨hpt, hp16, hun, hu16, hU⟩, ⟨htl, htl2, htc⟩⟩ := id hX
    have h6 := hY.1.2
    have hs5 := hY.2.1.2
    refine e_iload_n dX10_tryNights_6 rfl ?_
    refine e_iload_n dX10_tryNights_7 rfl ?_
    refine e_icmp_ge (tgt := 22) dX10_tryNights_8 (by decide) (fun c8 => ?_) (fun c8 => ?_)
    · -- 8 jumps
      have hin : i = t := by have := ge_of (by omega) (by omega) c8; omega
      subst hin
      refine e_vret dX10_tryNights_22 rfl ?_
      exact ⟨rfl, hv⟩
    · -- 8 goes on
      have hlt : i < t := lt_of (by omega) (by omega) c8
      refine e_aload_n dX10_tryNights_11 rfl ?_
      refine cV0x dX10_tryNights_12 mo_X10_passTrial ml_X10_252 sh_x rfl (Nat.le_of_ble_eq_true rfl) (by omega) (c_passTrial (hv.1.keep hX) hv.2.1 (hI.it hY.1.2 i) (by omega)) ?_
      rintro r M1 ⟨rfl, h1, h2, h3⟩
      dsimp only [Option.toList, List.cons_append, List.nil_append]
      refine e_pop dX10_tryNights_15 rfl ?_
      refine e_iinc (ls' := [_, _, _]) dX10_tryNights_16 rfl (nI_i1 _) (by decide) rfl ?_
      refine e_goto (tgt := 6) dX10_tryNights_19 (by decide) ?_
      exact ih (i + 1) M1 (by omega) (by omega) (hv.next h1 h2 h3)
set_option maxHeartbeats 4000000 in
set_option maxRecDepth 20000 in
theorem c_tryNights {G : Gt} {M : Mm} {E : Gs} {y y' w w' p : Nat} (hX : XJ M E y y' w w' p) {T : Nat} (hI : SI E.Y E.S T) (hT : T < 2 ^ 30) {t : Nat} (ht : t ≤ 100) : Call G 6 mX10_tryNights [.ref 0, .int (nI t)] M (fun r M' => r = none ∧ trI M M' E.Y E.S t) := by
  refine Call.intro rfl (Nat.le_of_ble_eq_true rfl) ?_
  show Ev G _ mX10_tryNights 0 [.ref 0, .int (nI t), RA] [] M _
  refine e_aload_n dX10_tryNights_0 rfl ?_
  refine cV0x dX10_tryNights_1 mo_X10_beginTrial ml_X10_249 sh_x rfl (Nat.le_of_ble_eq_true rfl) (by omega) (c_beginTrial hX) ?_
  rintro r M0 ⟨rfl, hsc0, hT0⟩
  dsimp only [Option.toList, List.cons_append, List.nil_append]
  have hv0 : trI M M0 E.Y E.S 0 := ⟨hsc0, hT0, fun h => absurd h (by omega)⟩
  refine e_iconst (v := 0) dX10_tryNights_4 (by decide) ?_
  refine e_istore_n (ls' := [_, _, _]) dX10_tryNights_5 (by decide) rfl ?_
  exact l_tryN hX hI hT ht (t + 1) 0 M0 (by omega) (by omega) hv0
abbrev vWi (v a b : Int32) : Prop := ¬ v < a ∧ ¬ b < v
abbrev vSh (E : Gs) (i : Int32) : Prop := ¬ i < 0 ∧ i < nI E.Y.n
abbrev vSt (E : Gs) (i : Int32) : Prop := ¬ i < 0 ∧ i < nI E.Y.ns
theorem wi_of {v : Int32} {a b : Nat} (ha : a < 2 ^ 31) (hb : b < 2 ^ 31) (h : ¬ v < nI a ∧ ¬ nI b < v) : ∃ t, t ≤ b ∧ a ≤ t ∧ v = nI t := by
  have h0 : ¬ v < 0 := by
    intro q
    refine h.1 ?_
    have h1 := Int32.lt_iff_toInt_lt.mp q
    rw [Int32.lt_iff_toInt_lt, nI_toInt ha]
    have : (0 : Int32).toInt = 0 := rfl
    omega
  obtain ⟨t, ht, e⟩ := nI_of h0
  subst e
  exact ⟨t, Nat.not_lt.mp (fun q => h.2 ((nI_ltI hb ht).mpr q)), Nat.not_lt.mp (fun q => h.1 ((nI_ltI ht ha).mpr q)), rfl⟩
def laterQ (E : Gs) (i t : Int32) : Int32 := if vSh E i ∧ vWi t 0 60 then (itN E.Y E.S t.toNatClampNeg).high i.toNatClampNeg else -1
def creakQ (E : Gs) (i t : Int32) : Int32 := if vSh E i ∧ vWi t 1 60 then crkV E.Y E.S (t.toNatClampNeg - 1) i.toNatClampNeg else -1
set_option maxHeartbeats 4000000 in
set_option maxRecDepth 20000 in
theorem c_later {G : Gt} {M : Mm} {E : Gs} {y y' w w' p : Nat} (hX : XJ M E y y' w w' p) {T : Nat} (hI : SI E.Y E.S T) (hT : T < 2 ^ 30) {i t : Int32} : Call G 7 mX10_later [.ref 0, .int i, .int t] M (fun r M' => r = some (.int (laterQ E i t)) ∧ SC M M') := by
  obtain ⟨⟨hld, hsl, hy, hy', hyy⟩, ⟨hpl, hsp, hw, hw', hww⟩, hY, hW, hS, hV, hK, ⟨hpt, hp16, hun, hu16, hU⟩, ⟨htl, htl2, htc⟩⟩ := id hX
  have h6 := hY.1.2
  have hs5 := hY.2.1.2
  refine Call.intro rfl (Nat.le_of_ble_eq_true rfl) ?_
  show Ev G _ mX10_later 0 [.ref 0, .int i, .int t] [] M _
  refine e_aload_n dX10_later_0 rfl ?_
  refine e_iload_n dX10_later_1 rfl ?_
  refine cV1r dX10_later_2 mo_X10_isShed ml_X10_130 sh_x rfl (Nat.le_of_ble_eq_true rfl) (by omega) (c_isShed (by assumption)) ?_
  refine e_if_eq (tgt := 18) dX10_later_5 (by decide) (fun c5 => ?_) (fun c5 => ?_)
  · -- 5 jumps
    refine e_iconst (v := (-1)) dX10_later_18 (by decide) ?_
    refine e_iret dX10_later_19 rfl ?_
    exact ⟨by unfold laterQ; rw [if_neg (fun q => absurd q.1 (b2i_eq0.mp c5))], SC.rfl'⟩
  · -- 5 goes on
    have c5 : vSh E i := by
      by_cases h : (vSh E i)
      · exact h
      · exact absurd (b2i_f h) c5
    have hsh := c5
    refine e_iload_n dX10_later_8 rfl ?_
    refine e_iconst (v := 0) dX10_later_9 (by decide) ?_
    refine e_bipush (v := 60) dX10_later_10 (by decide) ?_
    refine cS3r dX10_later_12 mo_X10_within ml_X10_199 (Nat.le_of_ble_eq_true rfl) (by omega) (c_within) ?_
    refine e_if_ne (tgt := 20) dX10_later_15 (by decide) (fun c15 => ?_) (fun c15 => ?_)
    · -- 15 jumps
      have c15 : vWi t 0 60 := by
        by_cases h : (vWi t 0 60)
        · exact h
        · exact absurd (b2i_f h) c15
      have hwi := c15
      obtain ⟨j, hj, rfl⟩ := shed_of (by omega) hsh
      obtain ⟨t, ht60, hlo, rfl⟩ := wi_of (a := 0) (b := 60) (by decide) (by decide) hwi
      refine e_aload_n dX10_later_20 rfl ?_
      refine e_iload_n dX10_later_21 rfl ?_
      refine cV1x dX10_later_22 mo_X10_tryNights ml_X10_255 sh_x rfl (Nat.le_of_ble_eq_true rfl) (by omega) (c_tryNights hX hI hT (t := t) (by omega)) ?_
      rintro r M1 ⟨rfl, hv⟩
      dsimp only [Option.toList, List.cons_append, List.nil_append]
      refine e_aload_n dX10_later_25 rfl ?_
      refine e_getR dX10_later_26 fl_X10_43 sh_x rfl ?_
      refine e_getR dX10_later_29 fl_X10_147 (sh_st (by first | assumption | decide)) rfl ?_
      refine e_iload_n dX10_later_32 rfl ?_
      refine cS2r dX10_later_33 mo_X10_at ml_X10_137 (Nat.le_of_ble_eq_true rfl) (by omega) (c_atN (sa_st_heights (by first | assumption | decide)) (by decide) (by first | omega | decide)) ?_
      refine e_iret dX10_later_36 rfl ?_
      exact ⟨by unfold laterQ; rw [if_pos ⟨hsh, hwi⟩, nI_clamp (by omega), nI_clamp (by omega)]; rw [(hv.2.1.2.2.2 j hj).2.2.1], hv.1⟩
    · -- 15 goes on
      refine e_iconst (v := (-1)) dX10_later_18 (by decide) ?_
      refine e_iret dX10_later_19 rfl ?_
      exact ⟨by unfold laterQ; rw [if_neg (fun q => absurd q.2 (b2i_eq0.mp c15))], SC.rfl'⟩
set_option maxHeartbeats 4000000 in
set_option maxRecDepth 20000 in
theorem c_creak {G : Gt} {M : Mm} {E : Gs} {y y' w w' p : Nat} (hX : XJ M E y y' w w' p) {T : Nat} (hI : SI E.Y E.S T) (hT : T < 2 ^ 30) {i t : Int32} : Call G 7 mX10_creak [.ref 0, .int i, .int t] M (fun r M' => r = some (.int (creakQ E i t)) ∧ SC M M') := by
  obtain ⟨⟨hld, hsl, hy, hy', hyy⟩, ⟨hpl, hsp, hw, hw', hww⟩, hY, hW, hS, hV, hK, ⟨hpt, hp16, hun, hu16, hU⟩, ⟨htl, htl2, htc⟩⟩ := id hX
  have h6 := hY.1.2
  have hs5 := hY.2.1.2
  refine Call.intro rfl (Nat.le_of_ble_eq_true rfl) ?_
  show Ev G _ mX10_creak 0 [.ref 0, .int i, .int t] [] M _
  refine e_aload_n dX10_creak_0 rfl ?_
  refine e_iload_n dX10_creak_1 rfl ?_
  refine cV1r dX10_creak_2 mo_X10_isShed ml_X10_130 sh_x rfl (Nat.le_of_ble_eq_true rfl) (by omega) (c_isShed (by assumption)) ?_
  refine e_if_eq (tgt := 18) dX10_creak_5 (by decide) (fun c5 => ?_) (fun c5 => ?_)
  · -- 5 jumps
    refine e_iconst (v := (-1)) dX10_creak_18 (by decide) ?_
    refine e_iret dX10_creak_19 rfl ?_
    exact ⟨by unfold creakQ; rw [if_neg (fun q => absurd q.1 (b2i_eq0.mp c5))], SC.rfl'⟩
  · -- 5 goes on
    have c5 : vSh E i := by
      by_cases h : (vSh E i)
      · exact h
      · exact absurd (b2i_f h) c5
    have hsh := c5
    refine e_iload_n dX10_creak_8 rfl ?_
    refine e_iconst (v := 1) dX10_creak_9 (by decide) ?_
    refine e_bipush (v := 60) dX10_creak_10 (by decide) ?_
    refine cS3r dX10_creak_12 mo_X10_within ml_X10_199 (Nat.le_of_ble_eq_true rfl) (by omega) (c_within) ?_
    refine e_if_ne (tgt := 20) dX10_creak_15 (by decide) (fun c15 => ?_) (fun c15 => ?_)
    · -- 15 jumps
      have c15 : vWi t 1 60 := by
        by_cases h : (vWi t 1 60)
        · exact h
        · exact absurd (b2i_f h) c15
      have hwi := c15
      obtain ⟨j, hj, rfl⟩ := shed_of (by omega) hsh
      obtain ⟨t, ht60, hlo, rfl⟩ := wi_of (a := 1) (b := 60) (by decide) (by decide) hwi
      refine e_aload_n dX10_creak_20 rfl ?_
      refine e_iload_n dX10_creak_21 rfl ?_
      refine cV1x dX10_creak_22 mo_X10_tryNights ml_X10_255 sh_x rfl (Nat.le_of_ble_eq_true rfl) (by omega) (c_tryNights hX hI hT (t := t) (by omega)) ?_
      rintro r M1 ⟨rfl, hv⟩
      dsimp only [Option.toList, List.cons_append, List.nil_append]
      refine e_aload_n dX10_creak_25 rfl ?_
      refine e_getR dX10_creak_26 fl_X10_43 sh_x rfl ?_
      refine e_getR dX10_creak_29 fl_X10_258 (sh_st (by first | assumption | decide)) rfl ?_
      refine e_iload_n dX10_creak_32 rfl ?_
      refine cS2r dX10_creak_33 mo_X10_at ml_X10_137 (Nat.le_of_ble_eq_true rfl) (by omega) (c_atN (sa_st_creaks (by first | assumption | decide)) (by decide) (by first | omega | decide)) ?_
      refine e_iret dX10_creak_36 rfl ?_
      exact ⟨by unfold creakQ; rw [if_pos ⟨hsh, hwi⟩, nI_clamp (by omega), nI_clamp (by omega)]; rw [hv.2.2 (by omega) j hj], hv.1⟩
    · -- 15 goes on
      refine e_iconst (v := (-1)) dX10_creak_18 (by decide) ?_
      refine e_iret dX10_creak_19 rfl ?_
      exact ⟨by unfold creakQ; rw [if_neg (fun q => absurd q.2 (b2i_eq0.mp c15))], SC.rfl'⟩
end XTR
