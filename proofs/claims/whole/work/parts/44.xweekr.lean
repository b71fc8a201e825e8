section XWR
def dhX (t : Tv) (x : Xv) : Int32 := if isW t x 11 then 0 else if isW t x 2 then 1 else if isW t x 12 then 2 else if isW t x 13 then 3 else -1
/-- only the tokens and the week at w changed -/
def FK (M M' : Mm) (w : Nat) : Prop := (∀ i, ¬ i = 6 → ¬ (w ≤ i ∧ i ≤ w + 3) → M'.1 i = M.1 i) ∧ (∀ i, ¬ i = 6 → M'.2.1 i = M.2.1 i) ∧ ∀ i, ¬ i = 6 → M'.2.2 i = M.2.2 i
theorem FK.trans {A B C : Mm} {w : Nat} (h : FK A B w) (k : FK B C w) : FK A C w := ⟨fun i a b => (k.1 i a b).trans (h.1 i a b), fun i a => (k.2.1 i a).trans (h.2.1 i a), fun i a => (k.2.2 i a).trans (h.2.2 i a)⟩
theorem FK.rfl' {M : Mm} {w : Nat} : FK M M w := ⟨fun _ _ _ => rfl, fun _ _ => rfl, fun _ _ => rfl⟩
theorem TS.fk {M M' : Mm} {w : Nat} (h : TS M M') : FK M M' w := ⟨fun i a _ => h.1 i a, h.2.1, h.2.2⟩
theorem RX.ts {M M' : Mm} {w c : Nat} {R : Rv} (h : RX M w c R) (hw : 8 ≤ w) (hs : TS M M') : RX M' w c R := by
  unfold RX
  rw [hs.1 w (by omega), hs.1 (w + 1) (by omega), hs.1 (w + 2) (by omega), hs.1 (w + 3) (by omega)]
  exact h
theorem FK.tg {M M' : Mm} {w : Nat} {t : Tv} {x : Xv} (h2 : M'.2 = M.2) (h : ∀ i, ¬ (w ≤ i ∧ i ≤ w + 3) → M'.1 i = M.1 i) (hw : 8 ≤ w) (hG : TG M t x) : TG M' t x := hG.keep (h 6 (by omega)) (h 7 (by omega)) (by rw [h2]) (by rw [h2])
theorem wk_8 {w : Nat} (h : w ∈ wkA) : 8 ≤ w := by
  have : ∀ w, w ∈ wkA → 8 ≤ w := by decide
  exact this w h
set_option maxHeartbeats 4000000 in
set_option maxRecDepth 20000 in
theorem c_wkClear {G : Gt} {M : Mm} {w : Nat} (hw : w ∈ wkA) : Call G 1 mX5_clear [.ref w] M (eqQ none (setI M w 3 0)) := by
  refine Call.intro rfl (Nat.le_of_ble_eq_true rfl) ?_
  show Ev G _ mX5_clear 0 [.ref w] [] M _
  refine e_aload_n dX5_clear_0 rfl ?_
  refine e_iconst (v := 0) dX5_clear_1 (by decide) ?_
  refine e_putI dX5_clear_2 fl_X5_21 (sh_wk (by first | assumption | exact wk2 (by assumption) | exact mk_wk (by assumption) | decide)) rfl rfl rfl ?_
  refine e_vret dX5_clear_5 rfl ?_
  exact ⟨rfl, rfl⟩
set_option maxHeartbeats 4000000 in
set_option maxRecDepth 20000 in
theorem c_wkAdd {G : Gt} {M : Mm} {w : Nat} {R : Rv} {a b c : Int32} (hw : w ∈ wkA) (hR : RX M w 40 R) (h40 : R.1 < 40) : Call G 2 mX5_add [.ref w, .int a, .int b, .int c] M (fun r M' => r = none ∧ M'.2 = M.2 ∧ (∀ i, ¬ (w ≤ i ∧ i ≤ w + 3) → M'.1 i = M.1 i) ∧ RX M' w 40 (addR R a b c)) := by
  have hR40 := hR.2.1
  refine Call.intro rfl (Nat.le_of_ble_eq_true rfl) ?_
  show Ev G _ mX5_add 0 [.ref w, .int a, .int b, .int c] [] M _
  refine e_aload_n dX5_add_0 rfl ?_
  refine e_getI dX5_add_1 fl_X5_21 (sh_wk (by first | assumption | exact wk2 (by assumption) | exact mk_wk (by assumption) | decide)) rfl ?_
  rw [hR.1]
  refine e_bipush (v := 40) dX5_add_4 (by decide) ?_
  refine e_icmp_ge (tgt := 55) dX5_add_6 (by decide) (fun c6 => absurd c6 (fun q => absurd ((nI_ltI (a := R.1) (b := 40) (by omega) (by omega)).mpr h40) q)) (fun c6 => ?_)
  refine e_aload_n dX5_add_9 rfl ?_
  refine e_getR dX5_add_10 fl_X5_9 (sh_wk (by first | assumption | exact wk2 (by assumption) | exact mk_wk (by assumption) | decide)) rfl ?_
  refine e_aload_n dX5_add_13 rfl ?_
  refine e_getI dX5_add_14 fl_X5_21 (sh_wk (by first | assumption | exact wk2 (by assumption) | exact mk_wk (by assumption) | decide)) rfl ?_
  rw [hR.1]
  refine e_iload_n dX5_add_17 rfl ?_
  refine cS3v dX5_add_18 mo_X10_put ml_X5_25 (Nat.le_of_ble_eq_true rfl) (by omega) (c_putN (sa_wk_deeds (by first | assumption | decide)) (by decide) (by first | omega | decide)) ?_
  refine e_aload_n dX5_add_21 rfl ?_
  refine e_getR dX5_add_22 fl_X5_15 (sh_wk (by first | assumption | exact wk2 (by assumption) | exact mk_wk (by assumption) | decide)) rfl ?_
  refine e_aload_n dX5_add_25 rfl ?_
  refine e_getI dX5_add_26 fl_X5_21 (sh_wk (by first | assumption | exact wk2 (by assumption) | exact mk_wk (by assumption) | decide)) rfl ?_
  rw [setI_1, if_neg (by omega), hR.1]
  refine e_iload_n dX5_add_29 rfl ?_
  refine cS3v dX5_add_30 mo_X10_put ml_X5_25 (Nat.le_of_ble_eq_true rfl) (by omega) (c_putN (sa_wk_places (by first | assumption | decide)) (by decide) (by first | omega | decide)) ?_
  refine e_aload_n dX5_add_33 rfl ?_
  refine e_getR dX5_add_34 fl_X5_18 (sh_wk (by first | assumption | exact wk2 (by assumption) | exact mk_wk (by assumption) | decide)) rfl ?_
  refine e_aload_n dX5_add_37 rfl ?_
  refine e_getI dX5_add_38 fl_X5_21 (sh_wk (by first | assumption | exact wk2 (by assumption) | exact mk_wk (by assumption) | decide)) rfl ?_
  rw [setI_1, if_neg (by omega), setI_1, if_neg (by omega), hR.1]
  refine e_iload_n dX5_add_41 rfl ?_
  refine cS3v dX5_add_42 mo_X10_put ml_X5_25 (Nat.le_of_ble_eq_true rfl) (by omega) (c_putN (sa_wk_numbers (by first | assumption | decide)) (by decide) (by first | omega | decide)) ?_
  refine e_aload_n dX5_add_45 rfl ?_
  refine e_dup dX5_add_46 rfl ?_
  refine e_getI dX5_add_47 fl_X5_21 (sh_wk (by first | assumption | exact wk2 (by assumption) | exact mk_wk (by assumption) | decide)) rfl ?_
  rw [setI_1, if_neg (by omega), setI_1, if_neg (by omega), setI_1, if_neg (by omega), hR.1]
  refine e_iconst (v := 1) dX5_add_50 (by decide) ?_
  refine e_iadd dX5_add_51 ?_
  refine e_putI dX5_add_52 fl_X5_21 (sh_wk (by first | assumption | exact wk2 (by assumption) | exact mk_wk (by assumption) | decide)) rfl rfl rfl ?_
  refine e_vret dX5_add_55 rfl ?_
  refine ⟨rfl, rfl, fun i hi => ?_, ?_, h40, fun k hk => ?_⟩
  · funext z; simp only [setI_1]; (repeat (first | rw [if_pos (by first | omega | exact ⟨trivial, rfl⟩)] | rw [if_neg (by omega)] | rw [setI_1]))
  · rw [setI_1, if_pos ⟨rfl, rfl⟩]; exact nI_1 _
  · have hk2 : k < R.1 + 1 := hk
    simp only [setI_1]
    rcases Nat.lt_or_ge k R.1 with q | q
    · obtain ⟨a1, a2, a3⟩ := hR.2.2 k q
      refine ⟨?_, ?_, ?_⟩
      · show _ = (if k = R.1 then _ else _); (repeat (first | rw [if_pos (by first | omega | exact ⟨trivial, rfl⟩)] | rw [if_neg (by omega)] | rw [setI_1])); exact a1
      · show _ = (if k = R.1 then _ else _); (repeat (first | rw [if_pos (by first | omega | exact ⟨trivial, rfl⟩)] | rw [if_neg (by omega)] | rw [setI_1])); exact a2
      · show _ = (if k = R.1 then _ else _); (repeat (first | rw [if_pos (by first | omega | exact ⟨trivial, rfl⟩)] | rw [if_neg (by omega)] | rw [setI_1])); exact a3
    · obtain rfl : k = R.1 := by omega
      refine ⟨?_, ?_, ?_⟩ <;> (show _ = (if R.1 = R.1 then _ else _); (repeat (first | rw [if_pos (by first | omega | exact ⟨trivial, rfl⟩)] | rw [if_neg (by omega)] | rw [setI_1])))
set_option maxHeartbeats 4000000 in
set_option maxRecDepth 20000 in
theorem c_deedHere {G : Gt} {M : Mm} {t : Tv} {x : Xv} (hG : TG M t x) : Call G 2 mX6_deedHere [.ref 6] M (eqQ (some (.int (dhX t x))) M) := by
  refine Call.intro rfl (Nat.le_of_ble_eq_true rfl) ?_
  show Ev G _ mX6_deedHere 0 [.ref 6] [] M _
  refine e_aload_n dX6_deedHere_0 rfl ?_
  refine e_getW (i := 11) dX6_deedHere_1 (by decide) (mem_g 692 (by decide +kernel) rfl) ?_
  refine cV1r dX6_deedHere_4 mo_X4_isWord ml_X6_68 sh_tk rfl (Nat.le_of_ble_eq_true rfl) (by omega) (c_isWord (k := 11) hG (by decide)) ?_
  refine e_if_eq (tgt := 12) dX6_deedHere_7 (by decide) (fun c7 => ?_) (fun c7 => ?_)
  · -- 7 jumps
    refine e_aload_n dX6_deedHere_12 rfl ?_
    refine e_getW (i := 2) dX6_deedHere_13 (by decide) (mem_g 695 (by decide +kernel) rfl) ?_
    refine cV1r dX6_deedHere_16 mo_X4_isWord ml_X6_68 sh_tk rfl (Nat.le_of_ble_eq_true rfl) (by omega) (c_isWord (k := 2) hG (by decide)) ?_
    refine e_if_eq (tgt := 24) dX6_deedHere_19 (by decide) (fun c19 => ?_) (fun c19 => ?_)
    · -- 19 jumps
      refine e_aload_n dX6_deedHere_24 rfl ?_
      refine e_getW (i := 12) dX6_deedHere_25 (by decide) (mem_g 696 (by decide +kernel) rfl) ?_
      refine cV1r dX6_deedHere_28 mo_X4_isWord ml_X6_68 sh_tk rfl (Nat.le_of_ble_eq_true rfl) (by omega) (c_isWord (k := 12) hG (by decide)) ?_
      refine e_if_eq (tgt := 36) dX6_deedHere_31 (by decide) (fun c31 => ?_) (fun c31 => ?_)
      · -- 31 jumps
        refine e_aload_n dX6_deedHere_36 rfl ?_
        refine e_getW (i := 13) dX6_deedHere_37 (by decide) (mem_g 698 (by decide +kernel) rfl) ?_
        refine cV1r dX6_deedHere_40 mo_X4_isWord ml_X6_68 sh_tk rfl (Nat.le_of_ble_eq_true rfl) (by omega) (c_isWord (k := 13) hG (by decide)) ?_
        refine e_if_eq (tgt := 50) dX6_deedHere_43 (by decide) (fun c43 => ?_) (fun c43 => ?_)
        · -- 43 jumps
          refine e_iconst (v := (-1)) dX6_deedHere_50 (by decide) ?_
          refine e_iret dX6_deedHere_51 rfl ?_
          exact ⟨by unfold dhX; rw [if_neg (b2i_eq0.mp c7), if_neg (b2i_eq0.mp c19), if_neg (b2i_eq0.mp c31), if_neg (b2i_eq0.mp c43)], rfl⟩
        · -- 43 goes on
          refine e_iconst (v := 3) dX6_deedHere_46 (by decide) ?_
          refine e_goto (tgt := 51) dX6_deedHere_47 (by decide) ?_
          refine e_iret dX6_deedHere_51 rfl ?_
          exact ⟨by unfold dhX; rw [if_neg (b2i_eq0.mp c7), if_neg (b2i_eq0.mp c19), if_neg (b2i_eq0.mp c31), if_pos (Classical.not_not.mp (fun q => c43 (b2i_f q)))], rfl⟩
      · -- 31 goes on
        refine e_iconst (v := 2) dX6_deedHere_34 (by decide) ?_
        refine e_iret dX6_deedHere_35 rfl ?_
        exact ⟨by unfold dhX; rw [if_neg (b2i_eq0.mp c7), if_neg (b2i_eq0.mp c19), if_pos (Classical.not_not.mp (fun q => c31 (b2i_f q)))], rfl⟩
    · -- 19 goes on
      refine e_iconst (v := 1) dX6_deedHere_22 (by decide) ?_
      refine e_iret dX6_deedHere_23 rfl ?_
      exact ⟨by unfold dhX; rw [if_neg (b2i_eq0.mp c7), if_pos (Classical.not_not.mp (fun q => c19 (b2i_f q)))], rfl⟩
  · -- 7 goes on
    refine e_iconst (v := 0) dX6_deedHere_10 (by decide) ?_
    refine e_iret dX6_deedHere_11 rfl ?_
    exact ⟨by unfold dhX; rw [if_pos (Classical.not_not.mp (fun q => c7 (b2i_f q)))], rfl⟩
end XWR
