section XYO
set_option maxHeartbeats 4000000 in
set_option maxRecDepth 20000 in
theorem c_addStage {G : Gt} {M : Mm} {y : Nat} {P : Pv} {w : Int64} {a b : Int32} (hy : y ∈ ydA) (hP : YP M y P) (hn : P.1.ns < 5) : Call G 2 mX8_addStage [.ref y, .long w, .int a, .int b] M (fun r M' => r = none ∧ FY M M' y ∧ YP M' y (addGP P.1 w a b, P.2) ∧ M'.1 (y + 10) = M.1 (y + 10) ∧ M'.1 (y + 11) = M.1 (y + 11)) := by
  obtain ⟨⟨pn, pn6⟩, ⟨ps, ps5⟩, ⟨pf, pf12⟩, pr, hs, hg, hf⟩ := id hP
  refine Call.intro rfl (Nat.le_of_ble_eq_true rfl) ?_
  show Ev G _ mX8_addStage 0 [.ref y, .long w, RA, .int a, .int b] [] M _
  refine e_aload_n dX8_addStage_0 rfl ?_
  refine e_getI dX8_addStage_1 fl_X8_54 (sh_yd (by first | assumption | decide)) rfl ?_
  rw [ps]
  refine e_iconst (v := 5) dX8_addStage_4 (by decide) ?_
  refine e_icmp_ge (tgt := 55) dX8_addStage_5 (by decide) (fun c5 => absurd c5 (fun q => absurd ((nI_ltI (a := P.1.ns) (b := 5) (by omega) (by omega)).mpr hn) q)) (fun c5 => ?_)
  refine e_aload_n dX8_addStage_8 rfl ?_
  refine e_getR dX8_addStage_9 fl_X8_28 (sh_yd (by first | assumption | decide)) rfl ?_
  refine e_aload_n dX8_addStage_12 rfl ?_
  refine e_getI dX8_addStage_13 fl_X8_54 (sh_yd (by first | assumption | decide)) rfl ?_
  rw [ps]
  refine e_lload_n dX8_addStage_16 rfl ?_
  refine cS3v dX8_addStage_17 mo_X10_put_ ml_X8_70 (Nat.le_of_ble_eq_true rfl) (by omega) (c_putLN (sa_yd_stageNames (by first | assumption | decide)) (by decide) (by first | omega | decide)) ?_
  refine e_aload_n dX8_addStage_20 rfl ?_
  refine e_getR dX8_addStage_21 fl_X8_31 (sh_yd (by first | assumption | decide)) rfl ?_
  refine e_aload_n dX8_addStage_24 rfl ?_
  refine e_getI dX8_addStage_25 fl_X8_54 (sh_yd (by first | assumption | decide)) rfl ?_
  rw [setL_1, ps]
  refine e_iload_n dX8_addStage_28 rfl ?_
  refine cS3v dX8_addStage_29 mo_X10_put ml_X8_74 (Nat.le_of_ble_eq_true rfl) (by omega) (c_putN (sa_yd_lows (by first | assumption | decide)) (by decide) (by first | omega | decide)) ?_
  refine e_aload_n dX8_addStage_32 rfl ?_
  refine e_getR dX8_addStage_33 fl_X8_34 (sh_yd (by first | assumption | decide)) rfl ?_
  refine e_aload_n dX8_addStage_36 rfl ?_
  refine e_getI dX8_addStage_37 fl_X8_54 (sh_yd (by first | assumption | decide)) rfl ?_
  rw [setI_1, if_neg (by omega), setL_1, ps]
  refine e_iload dX8_addStage_40 rfl ?_
  refine cS3v dX8_addStage_42 mo_X10_put ml_X8_74 (Nat.le_of_ble_eq_true rfl) (by omega) (c_putN (sa_yd_highs (by first | assumption | decide)) (by decide) (by first | omega | decide)) ?_
  refine e_aload_n dX8_addStage_45 rfl ?_
  refine e_dup dX8_addStage_46 rfl ?_
  refine e_getI dX8_addStage_47 fl_X8_54 (sh_yd (by first | assumption | decide)) rfl ?_
  rw [setI_1, if_neg (by omega), setI_1, if_neg (by omega), setL_1, ps]
  refine e_iconst (v := 1) dX8_addStage_50 (by decide) ?_
  refine e_iadd dX8_addStage_51 ?_
  refine e_putI dX8_addStage_52 fl_X8_54 (sh_yd (by first | assumption | decide)) rfl rfl rfl ?_
  refine e_vret dX8_addStage_55 rfl ?_
  refine ⟨rfl, ((((FY.rfl').l ⟨by omega, by omega⟩).i ⟨by omega, by omega⟩).i ⟨by omega, by omega⟩).i ⟨by omega, by omega⟩, ⟨⟨?_, pn6⟩, ⟨?_, hn⟩, ⟨?_, pf12⟩, ?_, fun j hj => ?_, fun j hj => ?_, fun j hj => ?_⟩, ?_, ?_⟩
  · simp only [setI_1, setI_2, setL_1, setL_21]; (repeat (first | rw [if_pos (by first | omega | exact ⟨trivial, rfl⟩)] | rw [if_neg (by omega)] | rw [setI_1] | rw [setL_21])); exact pn
  · rw [setI_1, if_pos ⟨rfl, rfl⟩]; exact nI_1 _
  · simp only [setI_1, setI_2, setL_1, setL_21]; (repeat (first | rw [if_pos (by first | omega | exact ⟨trivial, rfl⟩)] | rw [if_neg (by omega)] | rw [setI_1] | rw [setL_21])); exact pf
  · simp only [setI_1, setI_2, setL_1, setL_21]; (repeat (first | rw [if_pos (by first | omega | exact ⟨trivial, rfl⟩)] | rw [if_neg (by omega)] | rw [setI_1] | rw [setL_21])); exact pr
  · obtain ⟨a1, a2, a3, a4, a5⟩ := hs j hj
    simp only [setI_1, setI_2, setL_1, setL_21]
    refine ⟨?_, ?_, ?_, ?_, ?_⟩
    · (repeat (first | rw [if_pos (by first | omega | exact ⟨trivial, rfl⟩)] | rw [if_neg (by omega)] | rw [setI_1] | rw [setL_21])); exact a1
    · (repeat (first | rw [if_pos (by first | omega | exact ⟨trivial, rfl⟩)] | rw [if_neg (by omega)] | rw [setI_1] | rw [setL_21])); exact a2
    · (repeat (first | rw [if_pos (by first | omega | exact ⟨trivial, rfl⟩)] | rw [if_neg (by omega)] | rw [setI_1] | rw [setL_21])); exact a3
    · (repeat (first | rw [if_pos (by first | omega | exact ⟨trivial, rfl⟩)] | rw [if_neg (by omega)] | rw [setI_1] | rw [setL_21])); exact a4
    · (repeat (first | rw [if_pos (by first | omega | exact ⟨trivial, rfl⟩)] | rw [if_neg (by omega)] | rw [setI_1] | rw [setL_21])); exact a5
  · have hj2 : j < P.1.ns + 1 := hj
    simp only [setI_1, setI_2, setL_1, setL_21]
    rcases Nat.lt_or_ge j P.1.ns with q | q
    · obtain ⟨a1, a2, a3⟩ := hg j q
      refine ⟨?_, ?_, ?_⟩
      · rw [show (addGP P.1 w a b).low j = (if j = P.1.ns then a else P.1.low j) from by unfold addGP; simp [Yv.low]]; (repeat (first | rw [if_pos (by first | omega | exact ⟨trivial, rfl⟩)] | rw [if_neg (by omega)] | rw [setI_1] | rw [setL_21])); exact a1
      · rw [show (addGP P.1 w a b).high j = (if j = P.1.ns then b else P.1.high j) from by unfold addGP; simp [Yv.high]]; (repeat (first | rw [if_pos (by first | omega | exact ⟨trivial, rfl⟩)] | rw [if_neg (by omega)] | rw [setI_1] | rw [setL_21])); exact a2
      · rw [show (addGP P.1 w a b).sname j = (if j = P.1.ns then w else P.1.sname j) from by unfold addGP; simp [Yv.sname]]; (repeat (first | rw [if_pos (by first | omega | exact ⟨trivial, rfl⟩)] | rw [if_neg (by omega)] | rw [setI_1] | rw [setL_21])); exact a3
    · obtain rfl : j = P.1.ns := by omega
      refine ⟨?_, ?_, ?_⟩
      · rw [show (addGP P.1 w a b).low P.1.ns = a from by unfold addGP; simp [Yv.low]]; (repeat (first | rw [if_pos (by first | omega | exact ⟨trivial, rfl⟩)] | rw [if_neg (by omega)] | rw [setI_1] | rw [setL_21]))
      · rw [show (addGP P.1 w a b).high P.1.ns = b from by unfold addGP; simp [Yv.high]]; (repeat (first | rw [if_pos (by first | omega | exact ⟨trivial, rfl⟩)] | rw [if_neg (by omega)] | rw [setI_1] | rw [setL_21]))
      · rw [show (addGP P.1 w a b).sname P.1.ns = w from by unfold addGP; simp [Yv.sname]]; (repeat (first | rw [if_pos (by first | omega | exact ⟨trivial, rfl⟩)] | rw [if_neg (by omega)] | rw [setI_1] | rw [setL_21]))
  · simp only [setI_1, setI_2, setL_1, setL_21]; (repeat (first | rw [if_pos (by first | omega | exact ⟨trivial, rfl⟩)] | rw [if_neg (by omega)] | rw [setI_1] | rw [setL_21])); exact hf j hj
  · funext z; simp only [setI_1, setL_1]; (repeat (first | rw [if_pos (by first | omega | exact ⟨trivial, rfl⟩)] | rw [if_neg (by omega)] | rw [setI_1] | rw [setL_21]))
  · funext z; simp only [setI_1, setL_1]; (repeat (first | rw [if_pos (by first | omega | exact ⟨trivial, rfl⟩)] | rw [if_neg (by omega)] | rw [setI_1] | rw [setL_21]))
set_option maxHeartbeats 4000000 in
set_option maxRecDepth 20000 in
theorem c_addNear {G : Gt} {M : Mm} {y a b : Nat} {P : Pv} (hy : y ∈ ydA) (hP : YP M y P) (ha : a < P.1.n) (hb : b < P.1.n) : Call G 2 mX8_addNear [.ref y, .int (nI a), .int (nI b)] M (fun r M' => r = none ∧ FY M M' y ∧ YP M' y (addNP P.1 a b, P.2) ∧ M'.1 (y + 10) = M.1 (y + 10) ∧ M'.1 (y + 11) = M.1 (y + 11)) := by
  obtain ⟨⟨pn, pn6⟩, ⟨ps, ps5⟩, ⟨pf, pf12⟩, pr, hs, hg, hf⟩ := id hP
  have na := (hs a ha).2.2.2.1
  have nb := (hs b hb).2.2.2.1
  refine Call.intro rfl (Nat.le_of_ble_eq_true rfl) ?_
  show Ev G _ mX8_addNear 0 [.ref y, .int (nI a), .int (nI b)] [] M _
  refine e_aload_n dX8_addNear_0 rfl ?_
  refine e_getR dX8_addNear_1 fl_X8_25 (sh_yd (by first | assumption | decide)) rfl ?_
  refine e_iload_n dX8_addNear_4 rfl ?_
  refine e_aload_n dX8_addNear_5 rfl ?_
  refine e_getR dX8_addNear_6 fl_X8_25 (sh_yd (by first | assumption | decide)) rfl ?_
  refine e_iload_n dX8_addNear_9 rfl ?_
  refine cS2r dX8_addNear_10 mo_X10_at ml_X8_77 (Nat.le_of_ble_eq_true rfl) (by omega) (c_atN (sa_yd_near (by first | assumption | decide)) (by decide) (by first | omega | decide)) ?_
  refine e_iconst (v := 1) dX8_addNear_13 (by decide) ?_
  refine e_iload_n dX8_addNear_14 rfl ?_
  refine e_ishl dX8_addNear_15 ?_
  refine e_ior dX8_addNear_16 ?_
  refine cS3v dX8_addNear_17 mo_X10_put ml_X8_74 (Nat.le_of_ble_eq_true rfl) (by omega) (c_putN (sa_yd_near (by first | assumption | decide)) (by decide) (by first | omega | decide)) ?_
  refine e_aload_n dX8_addNear_20 rfl ?_
  refine e_getR dX8_addNear_21 fl_X8_25 (sh_yd (by first | assumption | decide)) rfl ?_
  refine e_iload_n dX8_addNear_24 rfl ?_
  refine e_aload_n dX8_addNear_25 rfl ?_
  refine e_getR dX8_addNear_26 fl_X8_25 (sh_yd (by first | assumption | decide)) rfl ?_
  refine e_iload_n dX8_addNear_29 rfl ?_
  refine cS2r dX8_addNear_30 mo_X10_at ml_X8_77 (Nat.le_of_ble_eq_true rfl) (by omega) (c_atN (sa_yd_near (by first | assumption | decide)) (by decide) (by first | omega | decide)) ?_
  refine e_iconst (v := 1) dX8_addNear_33 (by decide) ?_
  refine e_iload_n dX8_addNear_34 rfl ?_
  refine e_ishl dX8_addNear_35 ?_
  refine e_ior dX8_addNear_36 ?_
  refine cS3v dX8_addNear_37 mo_X10_put ml_X8_74 (Nat.le_of_ble_eq_true rfl) (by omega) (c_putN (sa_yd_near (by first | assumption | decide)) (by decide) (by first | omega | decide)) ?_
  refine e_vret dX8_addNear_40 rfl ?_
  refine ⟨rfl, ((FY.rfl').i ⟨by omega, by omega⟩).i ⟨by omega, by omega⟩, ⟨⟨?_, pn6⟩, ⟨?_, ps5⟩, ⟨?_, pf12⟩, ?_, fun j hj => ?_, fun j hj => ?_, fun j hj => ?_⟩, ?_, ?_⟩
  · simp only [setI_1, setI_2, setL_1, setL_21]; (repeat (first | rw [if_pos (by first | omega | exact ⟨trivial, rfl⟩)] | rw [if_neg (by omega)] | rw [setI_1] | rw [setL_21])); exact pn
  · simp only [setI_1, setI_2, setL_1, setL_21]; (repeat (first | rw [if_pos (by first | omega | exact ⟨trivial, rfl⟩)] | rw [if_neg (by omega)] | rw [setI_1] | rw [setL_21])); exact ps
  · simp only [setI_1, setI_2, setL_1, setL_21]; (repeat (first | rw [if_pos (by first | omega | exact ⟨trivial, rfl⟩)] | rw [if_neg (by omega)] | rw [setI_1] | rw [setL_21])); exact pf
  · simp only [setI_1, setI_2, setL_1, setL_21]; (repeat (first | rw [if_pos (by first | omega | exact ⟨trivial, rfl⟩)] | rw [if_neg (by omega)] | rw [setI_1] | rw [setL_21])); exact pr
  · obtain ⟨a1, a2, a3, a4, a5⟩ := hs j hj
    refine ⟨?_, ?_, ?_, ?_, ?_⟩
    · simp only [setI_1, setI_2, setL_1, setL_21]; (repeat (first | rw [if_pos (by first | omega | exact ⟨trivial, rfl⟩)] | rw [if_neg (by omega)] | rw [setI_1] | rw [setL_21])); exact a1
    · simp only [setI_1, setI_2, setL_1, setL_21]; (repeat (first | rw [if_pos (by first | omega | exact ⟨trivial, rfl⟩)] | rw [if_neg (by omega)] | rw [setI_1] | rw [setL_21])); exact a2
    · simp only [setI_1, setI_2, setL_1, setL_21]; (repeat (first | rw [if_pos (by first | omega | exact ⟨trivial, rfl⟩)] | rw [if_neg (by omega)] | rw [setI_1] | rw [setL_21])); exact a3
    · rw [show (addNP P.1 a b).near j = (if j = b then (if b = a then P.1.near a ||| b1 (nI b) else P.1.near b) ||| b1 (nI a) else if j = a then P.1.near a ||| b1 (nI b) else P.1.near j) from by unfold addNP; simp [Yv.near]]
      simp only [setI_1]
      by_cases e1 : j = b
      · subst e1
        by_cases e2 : j = a
        · subst e2; simp [na]
        · simp [e2, nb]
      · by_cases e2 : j = a
        · subst e2; simp [e1, na]
        · simp [e1, e2, a4]
    · exact a5
  · obtain ⟨a1, a2, a3⟩ := hg j hj
    refine ⟨?_, ?_, ?_⟩
    · simp only [setI_1, setI_2, setL_1, setL_21]; (repeat (first | rw [if_pos (by first | omega | exact ⟨trivial, rfl⟩)] | rw [if_neg (by omega)] | rw [setI_1] | rw [setL_21])); exact a1
    · simp only [setI_1, setI_2, setL_1, setL_21]; (repeat (first | rw [if_pos (by first | omega | exact ⟨trivial, rfl⟩)] | rw [if_neg (by omega)] | rw [setI_1] | rw [setL_21])); exact a2
    · exact a3
  · simp only [setI_1, setI_2, setL_1, setL_21]; (repeat (first | rw [if_pos (by first | omega | exact ⟨trivial, rfl⟩)] | rw [if_neg (by omega)] | rw [setI_1] | rw [setL_21])); exact hf j hj
  · funext z; simp only [setI_1]; (repeat (first | rw [if_pos (by first | omega | exact ⟨trivial, rfl⟩)] | rw [if_neg (by omega)] | rw [setI_1] | rw [setL_21]))
  · funext z; simp only [setI_1]; (repeat (first | rw [if_pos (by first | omega | exact ⟨trivial, rfl⟩)] | rw [if_neg (by omega)] | rw [setI_1] | rw [setL_21]))
set_option maxHeartbeats 4000000 in
set_option maxRecDepth 20000 in
theorem c_addFrost {G : Gt} {M : Mm} {y : Nat} {P : Pv} {v : Int32} (hy : y ∈ ydA) (hP : YP M y P) : Call G 2 mX8_addFrost [.ref y, .int v] M (fun r M' => r = none ∧ FY M M' y ∧ YP M' y (addFP P.1 v, P.2) ∧ M'.1 (y + 10) = M.1 (y + 10) ∧ M'.1 (y + 11) = M.1 (y + 11)) := by
  obtain ⟨⟨pn, pn6⟩, ⟨ps, ps5⟩, ⟨pf, pf12⟩, pr, hs, hg, hf⟩ := id hP
  refine Call.intro rfl (Nat.le_of_ble_eq_true rfl) ?_
  show Ev G _ mX8_addFrost 0 [.ref y, .int v] [] M _
  refine e_aload_n dX8_addFrost_0 rfl ?_
  refine e_getI dX8_addFrost_1 fl_X8_57 (sh_yd (by first | assumption | decide)) rfl ?_
  rw [pf]
  refine e_bipush (v := 12) dX8_addFrost_4 (by decide) ?_
  refine e_icmp_ge (tgt := 31) dX8_addFrost_6 (by decide) (fun c6 => ?_) (fun c6 => ?_)
  · -- 6 jumps
    refine e_vret dX8_addFrost_31 rfl ?_
    rw [show addFP P.1 v = P.1 from if_neg (by have := ge_of (n := 12) (by omega) (by omega) c6; omega)]
    exact ⟨rfl, FY.rfl', hP, rfl, rfl⟩
  · -- 6 goes on
    refine e_aload_n dX8_addFrost_9 rfl ?_
    refine e_getR dX8_addFrost_10 fl_X8_37 (sh_yd (by first | assumption | decide)) rfl ?_
    refine e_aload_n dX8_addFrost_13 rfl ?_
    refine e_getI dX8_addFrost_14 fl_X8_57 (sh_yd (by first | assumption | decide)) rfl ?_
    rw [pf]
    refine e_iload_n dX8_addFrost_17 rfl ?_
    refine cS3v dX8_addFrost_18 mo_X10_put ml_X8_74 (Nat.le_of_ble_eq_true rfl) (by omega) (c_putN (sa_yd_frosts (by first | assumption | decide)) (by decide) (by have := lt_of (n := 12) (by omega) (by omega) c6; omega)) ?_
    refine e_aload_n dX8_addFrost_21 rfl ?_
    refine e_dup dX8_addFrost_22 rfl ?_
    refine e_getI dX8_addFrost_23 fl_X8_57 (sh_yd (by first | assumption | decide)) rfl ?_
    rw [setI_1, if_neg (by omega), pf]
    refine e_iconst (v := 1) dX8_addFrost_26 (by decide) ?_
    refine e_iadd dX8_addFrost_27 ?_
    refine e_putI dX8_addFrost_28 fl_X8_57 (sh_yd (by first | assumption | decide)) rfl rfl rfl ?_
    refine e_vret dX8_addFrost_31 rfl ?_
    have hlt := lt_of (n := 12) (by omega) (by omega) c6
    rw [show addFP P.1 v = _ from if_pos hlt]
    refine ⟨rfl, ((FY.rfl').i ⟨by omega, by omega⟩).i ⟨by omega, by omega⟩, ⟨⟨?_, pn6⟩, ⟨?_, ps5⟩, ⟨?_, hlt⟩, ?_, fun j hj => ?_, fun j hj => ?_, fun j hj => ?_⟩, ?_, ?_⟩
    · simp only [setI_1, setI_2, setL_1, setL_21]; (repeat (first | rw [if_pos (by first | omega | exact ⟨trivial, rfl⟩)] | rw [if_neg (by omega)] | rw [setI_1] | rw [setL_21])); exact pn
    · simp only [setI_1, setI_2, setL_1, setL_21]; (repeat (first | rw [if_pos (by first | omega | exact ⟨trivial, rfl⟩)] | rw [if_neg (by omega)] | rw [setI_1] | rw [setL_21])); exact ps
    · rw [setI_1, if_pos ⟨rfl, rfl⟩]; exact nI_1 _
    · simp only [setI_1, setI_2, setL_1, setL_21]; (repeat (first | rw [if_pos (by first | omega | exact ⟨trivial, rfl⟩)] | rw [if_neg (by omega)] | rw [setI_1] | rw [setL_21])); exact pr
    · obtain ⟨a1, a2, a3, a4, a5⟩ := hs j hj
      refine ⟨?_, ?_, ?_, ?_, ?_⟩
      · simp only [setI_1, setI_2, setL_1, setL_21]; (repeat (first | rw [if_pos (by first | omega | exact ⟨trivial, rfl⟩)] | rw [if_neg (by omega)] | rw [setI_1] | rw [setL_21])); exact a1
      · simp only [setI_1, setI_2, setL_1, setL_21]; (repeat (first | rw [if_pos (by first | omega | exact ⟨trivial, rfl⟩)] | rw [if_neg (by omega)] | rw [setI_1] | rw [setL_21])); exact a2
      · simp only [setI_1, setI_2, setL_1, setL_21]; (repeat (first | rw [if_pos (by first | omega | exact ⟨trivial, rfl⟩)] | rw [if_neg (by omega)] | rw [setI_1] | rw [setL_21])); exact a3
      · simp only [setI_1, setI_2, setL_1, setL_21]; (repeat (first | rw [if_pos (by first | omega | exact ⟨trivial, rfl⟩)] | rw [if_neg (by omega)] | rw [setI_1] | rw [setL_21])); exact a4
      · exact a5
    · obtain ⟨a1, a2, a3⟩ := hg j hj
      refine ⟨?_, ?_, ?_⟩
      · simp only [setI_1, setI_2, setL_1, setL_21]; (repeat (first | rw [if_pos (by first | omega | exact ⟨trivial, rfl⟩)] | rw [if_neg (by omega)] | rw [setI_1] | rw [setL_21])); exact a1
      · simp only [setI_1, setI_2, setL_1, setL_21]; (repeat (first | rw [if_pos (by first | omega | exact ⟨trivial, rfl⟩)] | rw [if_neg (by omega)] | rw [setI_1] | rw [setL_21])); exact a2
      · exact a3
    · have hj2 : j < P.1.nf + 1 := hj
      simp only [setI_1]
      show _ = (if 6 = 6 ∧ j = P.1.nf then v else P.1.frost j)
      rcases Nat.lt_or_ge j P.1.nf with q | q
      · (repeat (first | rw [if_pos (by first | omega | exact ⟨trivial, rfl⟩)] | rw [if_neg (by omega)] | rw [setI_1] | rw [setL_21])); exact hf j q
      · obtain rfl : j = P.1.nf := by omega
        (repeat (first | rw [if_pos (by first | omega | exact ⟨trivial, rfl⟩)] | rw [if_neg (by omega)] | rw [setI_1] | rw [setL_21]))
    · funext z; simp only [setI_1]; (repeat (first | rw [if_pos (by first | omega | exact ⟨trivial, rfl⟩)] | rw [if_neg (by omega)] | rw [setI_1] | rw [setL_21]))
    · funext z; simp only [setI_1]; (repeat (first | rw [if_pos (by first | omega | exact ⟨trivial, rfl⟩)] | rw [if_neg (by omega)] | rw [setI_1] | rw [setL_21]))
/-- only the law at w changed -/
def FW (M M' : Mm) (w : Nat) : Prop := (∀ i, ¬ i = w → ¬ i = w + 1 → M'.1 i = M.1 i) ∧ M'.2 = M.2
theorem FW.rfl' {M : Mm} {w : Nat} : FW M M w := ⟨fun _ _ _ => rfl, rfl⟩
theorem FW.trans {A B C : Mm} {w : Nat} (h : FW A B w) (k : FW B C w) : FW A C w := ⟨fun i a b => (k.1 i a b).trans (h.1 i a b), k.2.trans h.2⟩
theorem FW.fy {M M' : Mm} {y : Nat} (h : FW M M' (y + 10)) : FY M M' y := ⟨fun i a => h.1 i (by omega) (by omega), fun i _ => by rw [h.2], by rw [h.2]⟩
theorem FW.yp {M M' : Mm} {y : Nat} {P : Pv} (h : FW M M' (y + 10)) (hP : YP M y P) : YP M' y P := by
  unfold YP
  rw [h.1 y (by omega) (by omega), h.1 (y + 2) (by omega) (by omega), h.1 (y + 3) (by omega) (by omega), h.1 (y + 4) (by omega) (by omega), h.1 (y + 5) (by omega) (by omega), h.1 (y + 7) (by omega) (by omega), h.1 (y + 8) (by omega) (by omega), h.1 (y + 9) (by omega) (by omega), h.2]
  exact hP
theorem putI_f {M : Mm} {a n : Nat} {i v : Int32} : (∀ q, ¬ q = a → (putI M a n i v).1 q = M.1 q) ∧ (putI M a n i v).2 = M.2 := by
  unfold putI
  split
  · exact ⟨fun q h => by funext z; rw [setI_1, if_neg (fun e => h e.1)], rfl⟩
  · exact ⟨fun _ _ => rfl, rfl⟩
theorem lw_id {w : Nat} (h : w ∈ lwA) : w = 18 ∨ w = 32 := by
  unfold lwA at h
  simpa using h
set_option maxHeartbeats 4000000 in
set_option maxRecDepth 20000 in
theorem c_lwAdd {G : Gt} {M : Mm} {w : Nat} {op : Int32} (hw : w ∈ lwA) : Call G 2 mX0_add [.ref w, .int op] M (fun r M' => r = none ∧ FW M M' w ∧ ∀ c, LX M w c → c.length < 1000 → LX M' w (c ++ [op])) := by
  refine Call.intro rfl (Nat.le_of_ble_eq_true rfl) ?_
  show Ev G _ mX0_add 0 [.ref w, .int op] [] M _
  refine e_aload_n dX0_add_0 rfl ?_
  refine e_getI dX0_add_1 fl_X0_21 (sh_lw (by first | assumption | exact yd_lw (by assumption) | decide)) rfl ?_
  refine e_sipush (v := 1000) dX0_add_4 (by decide) ?_
  refine e_icmp_ge (tgt := 32) dX0_add_7 (by decide) (fun c7 => ?_) (fun c7 => ?_)
  · -- 7 jumps
    refine e_vret dX0_add_32 rfl ?_
    exact ⟨rfl, FW.rfl', fun c h1 h2 => absurd c7 (by rw [h1.1]; exact fun q => q ((nI_ltI (b := 1000) (by omega) (by omega)).mpr h2))⟩
  · -- 7 goes on
    refine e_aload_n dX0_add_10 rfl ?_
    refine e_getR dX0_add_11 fl_X0_9 (sh_lw (by first | assumption | exact yd_lw (by assumption) | decide)) rfl ?_
    refine e_aload_n dX0_add_14 rfl ?_
    refine e_getI dX0_add_15 fl_X0_21 (sh_lw (by first | assumption | exact yd_lw (by assumption) | decide)) rfl ?_
    refine e_iload_n dX0_add_18 rfl ?_
    refine cS3v dX0_add_19 mo_X10_put ml_X0_25 (Nat.le_of_ble_eq_true rfl) (by omega) (c_put (sa_lw_code hw) (by decide)) ?_
    refine e_aload_n dX0_add_22 rfl ?_
    refine e_dup dX0_add_23 rfl ?_
    refine e_getI dX0_add_24 fl_X0_21 (sh_lw (by first | assumption | exact yd_lw (by assumption) | decide)) rfl ?_
    refine e_iconst (v := 1) dX0_add_27 (by decide) ?_
    refine e_iadd dX0_add_28 ?_
    refine e_putI dX0_add_29 fl_X0_21 (sh_lw (by first | assumption | exact yd_lw (by assumption) | decide)) rfl rfl rfl ?_
    refine e_vret dX0_add_32 rfl ?_
    refine ⟨rfl, ⟨fun i a b => ?_, putI_f.2⟩, fun c h1 h2 => ?_⟩
    · funext z; rw [setI_1, if_neg (fun e => a e.1), putI_f.1 i b]
    · rw [h1.1, putI_nI (by decide) h2]
      refine ⟨?_, ?_, fun k hk => ?_⟩
      · rw [setI_1, if_pos ⟨rfl, rfl⟩, setI_1, if_neg (by omega), h1.1, List.length_append]; exact nI_1 _
      · rw [List.length_append]; show c.length + 1 ≤ 1000; omega
      · rw [List.length_append] at hk
        have hk2 : k < c.length + 1 := hk
        rw [setI_1, if_neg (by omega), setI_1]
        rcases Nat.lt_or_ge k c.length with q | q
        · rw [if_neg (by omega), h1.2.2 k q, List.getD_eq_getElem?_getD, List.getD_eq_getElem?_getD, List.getElem?_append_left q]
        · obtain rfl : k = c.length := by omega
          rw [if_pos ⟨rfl, rfl⟩, List.getD_eq_getElem?_getD, List.getElem?_append_right (Nat.le_refl _), Nat.sub_self]; rfl
set_option maxHeartbeats 4000000 in
set_option maxRecDepth 20000 in
theorem c_lwClear {G : Gt} {M : Mm} {w : Nat} (hw : w ∈ lwA) : Call G 1 mX0_clear [.ref w] M (eqQ none (setI M w 1 0)) := by
  refine Call.intro rfl (Nat.le_of_ble_eq_true rfl) ?_
  show Ev G _ mX0_clear 0 [.ref w] [] M _
  refine e_aload_n dX0_clear_0 rfl ?_
  refine e_iconst (v := 0) dX0_clear_1 (by decide) ?_
  refine e_putI dX0_clear_2 fl_X0_21 (sh_lw (by first | assumption | exact yd_lw (by assumption) | decide)) rfl rfl rfl ?_
  refine e_vret dX0_clear_5 rfl ?_
  exact ⟨rfl, rfl⟩
def emY : Yv := (0, 0, 0, 0, fun _ _ => 0, fun _ _ => 0, fun a _ _ _ => a)
def exW : Ex := ([-1], [1], fun fc => fc 0)
def fillP (P : Pv) : Pv := ((if P.1.roof = 0 then setRP P.1 30 else P.1), if P.2.po.length = 0 then exW else P.2)
set_option maxHeartbeats 4000000 in
set_option maxRecDepth 20000 in
theorem c_ydClear {G : Gt} {M : Mm} {y : Nat} (hy : y ∈ ydA) : Call G 2 mX8_clear [.ref y] M (fun r M' => r = none ∧ FY M M' y ∧ YP M' y (emY, exO) ∧ LX M' (y + 10) []) := by
  refine Call.intro rfl (Nat.le_of_ble_eq_true rfl) ?_
  show Ev G _ mX8_clear 0 [.ref y] [] M _
  refine e_aload_n dX8_clear_0 rfl ?_
  refine e_iconst (v := 0) dX8_clear_1 (by decide) ?_
  refine e_putI dX8_clear_2 fl_X8_51 (sh_yd (by first | assumption | decide)) rfl rfl rfl ?_
  refine e_aload_n dX8_clear_5 rfl ?_
  refine e_iconst (v := 0) dX8_clear_6 (by decide) ?_
  refine e_putI dX8_clear_7 fl_X8_54 (sh_yd (by first | assumption | decide)) rfl rfl rfl ?_
  refine e_aload_n dX8_clear_10 rfl ?_
  refine e_iconst (v := 0) dX8_clear_11 (by decide) ?_
  refine e_putI dX8_clear_12 fl_X8_57 (sh_yd (by first | assumption | decide)) rfl rfl rfl ?_
  refine e_aload_n dX8_clear_15 rfl ?_
  refine e_iconst (v := 0) dX8_clear_16 (by decide) ?_
  refine e_putI dX8_clear_17 fl_X8_40 (sh_yd (by first | assumption | decide)) rfl rfl rfl ?_
  refine e_aload_n dX8_clear_20 rfl ?_
  refine e_getR dX8_clear_21 fl_X8_47 (sh_yd (by first | assumption | decide)) rfl ?_
  refine cV0v dX8_clear_24 mo_X0_clear ml_X8_60 (sh_lw (by first | assumption | exact yd_lw (by assumption) | decide)) rfl (Nat.le_of_ble_eq_true rfl) (by omega) (c_lwClear (yd_lw hy)) ?_
  refine e_vret dX8_clear_27 rfl ?_
  refine ⟨rfl, (((((FY.rfl').i ⟨by omega, by omega⟩).i ⟨by omega, by omega⟩).i ⟨by omega, by omega⟩).i ⟨by omega, by omega⟩).i ⟨by omega, by omega⟩, ⟨⟨?_, by decide⟩, ⟨?_, by decide⟩, ⟨?_, by decide⟩, ?_, fun j hj => absurd hj (Nat.not_lt_zero j), fun j hj => absurd hj (Nat.not_lt_zero j), fun j hj => absurd hj (Nat.not_lt_zero j)⟩, ?_, by decide, fun k hk => absurd hk (Nat.not_lt_zero k)⟩
  · simp only [setI_1]; (repeat (first | rw [if_pos (by first | omega | exact ⟨trivial, rfl⟩)] | rw [if_neg (by omega)] | rw [setI_1] | rw [setL_21])); rfl
  · simp only [setI_1]; (repeat (first | rw [if_pos (by first | omega | exact ⟨trivial, rfl⟩)] | rw [if_neg (by omega)] | rw [setI_1] | rw [setL_21])); rfl
  · simp only [setI_1]; (repeat (first | rw [if_pos (by first | omega | exact ⟨trivial, rfl⟩)] | rw [if_neg (by omega)] | rw [setI_1] | rw [setL_21])); rfl
  · simp only [setI_1]; (repeat (first | rw [if_pos (by first | omega | exact ⟨trivial, rfl⟩)] | rw [if_neg (by omega)] | rw [setI_1] | rw [setL_21])); rfl
  · rw [setI_1, if_pos ⟨rfl, rfl⟩]; rfl
set_option maxHeartbeats 4000000 in
set_option maxRecDepth 20000 in
theorem c_fillUp {G : Gt} {M : Mm} {y : Nat} (hy : y ∈ ydA) : Call G 3 mX8_fillUp [.ref y] M (fun r M' => r = none ∧ FY M M' y ∧ ∀ P, YP M y P → LX M (y + 10) P.2.po → YP M' y (fillP P) ∧ LX M' (y + 10) (fillP P).2.po) := by
  refine Call.intro rfl (Nat.le_of_ble_eq_true rfl) ?_
  show Ev G _ mX8_fillUp 0 [.ref y] [] M _
  refine e_aload_n dX8_fillUp_0 rfl ?_
  refine e_getI dX8_fillUp_1 fl_X8_40 (sh_yd (by first | assumption | decide)) rfl ?_
  refine e_if_ne (tgt := 13) dX8_fillUp_4 (by decide) (fun c4 => ?_) (fun c4 => ?_)
  · -- 4 jumps
    refine e_aload_n dX8_fillUp_13 rfl ?_
    refine e_getR dX8_fillUp_14 fl_X8_47 (sh_yd (by first | assumption | decide)) rfl ?_
    refine e_getI dX8_fillUp_17 fl_X8_63 (sh_lw (by first | assumption | exact yd_lw (by assumption) | decide)) rfl ?_
    refine e_if_ne (tgt := 31) dX8_fillUp_20 (by decide) (fun c20 => ?_) (fun c20 => ?_)
    · -- 20 jumps
      refine e_vret dX8_fillUp_31 rfl ?_
      have hFY : FY M M y := FY.rfl'
      refine ⟨rfl, hFY, fun P hP hL => ?_⟩
      have hr : P.1.roof = 0 → False := by rw [← hP.2.2.2.1]; exact c4
      have hY1 : YP M y (P.1, if P.2.po.length = 0 then exW else P.2) := hP
      have e1 : (fillP P).1 = P.1 := if_neg hr
      have hL1 : LX M (y + 10) P.2.po := hL
      have hne : ¬ P.2.po.length = 0 := by
        intro q
        rw [hL1.1, q] at c20
        exact c20 rfl
      have e2 : (fillP P).2 = P.2 := if_neg hne
      rw [if_neg hne] at hY1
      exact ⟨by rw [show fillP P = (P.1, P.2) from Prod.ext e1 e2]; exact hY1, by rw [e2]; exact hL1⟩
    · -- 20 goes on
      refine e_aload_n dX8_fillUp_23 rfl ?_
      refine e_getR dX8_fillUp_24 fl_X8_47 (sh_yd (by first | assumption | decide)) rfl ?_
      refine e_iconst (v := (-1)) dX8_fillUp_27 (by decide) ?_
      refine cV1x dX8_fillUp_28 mo_X0_add ml_X8_66 (sh_lw (by first | assumption | exact yd_lw (by assumption) | decide)) rfl (Nat.le_of_ble_eq_true rfl) (by omega) (c_lwAdd (yd_lw hy)) ?_
      rintro r M1 ⟨rfl, hF, hA⟩
      dsimp only [Option.toList, List.cons_append, List.nil_append]
      refine e_vret dX8_fillUp_31 rfl ?_
      have hFY : FY M M y := FY.rfl'
      have hF2 := hF.fy
      refine ⟨rfl, ⟨fun i a => (hF2.1 i a).trans (hFY.1 i a), fun i a => (hF2.2.1 i a).trans (hFY.2.1 i a), hF2.2.2.trans hFY.2.2⟩, fun P hP hL => ?_⟩
      have hr : P.1.roof = 0 → False := by rw [← hP.2.2.2.1]; exact c4
      have hY1 : YP M y (P.1, if P.2.po.length = 0 then exW else P.2) := hP
      have e1 : (fillP P).1 = P.1 := if_neg hr
      have hL1 : LX M (y + 10) P.2.po := hL
      have hze : P.2.po.length = 0 := by
        rw [hL1.1] at c20
        rcases Nat.eq_zero_or_pos P.2.po.length with q | q
        · exact q
        · have := (nI_ltI (a := 0) (b := P.2.po.length) (by omega) (by have := hL.2.1; omega)).mpr q
          rw [c20] at this
          exact absurd this (by decide)
      have e2 : (fillP P).2 = exW := if_pos hze
      rw [if_pos hze] at hY1
      have hA1 := hA _ hL1 (by omega)
      rw [List.eq_nil_of_length_eq_zero hze] at hA1
      exact ⟨by rw [show fillP P = (P.1, exW) from Prod.ext e1 e2]; exact hF.yp hY1, by rw [e2]; exact hA1⟩
  · -- 4 goes on
    refine e_aload_n dX8_fillUp_7 rfl ?_
    refine e_bipush (v := 30) dX8_fillUp_8 (by decide) ?_
    refine e_putI dX8_fillUp_10 fl_X8_40 (sh_yd (by first | assumption | decide)) rfl rfl rfl ?_
    refine e_aload_n dX8_fillUp_13 rfl ?_
    refine e_getR dX8_fillUp_14 fl_X8_47 (sh_yd (by first | assumption | decide)) rfl ?_
    refine e_getI dX8_fillUp_17 fl_X8_63 (sh_lw (by first | assumption | exact yd_lw (by assumption) | decide)) rfl ?_
    refine e_if_ne (tgt := 31) dX8_fillUp_20 (by decide) (fun c20 => ?_) (fun c20 => ?_)
    · -- 20 jumps
      refine e_vret dX8_fillUp_31 rfl ?_
      have hFY : FY M (setI M y 12 30) y := FY.rfl'.i ⟨by omega, by omega⟩
      refine ⟨rfl, hFY, fun P hP hL => ?_⟩
      have hr : P.1.roof = 0 := by rw [← hP.2.2.2.1]; exact c4
      have e1 : (fillP P).1 = setRP P.1 30 := if_pos hr
      have hY1 : YP (setI M y 12 30) y (setRP P.1 30, if P.2.po.length = 0 then exW else P.2) := by
        obtain ⟨⟨pn, pn6⟩, ⟨ps, ps5⟩, ⟨pf, pf12⟩, pr, hs, hg, hf⟩ := id hP
        refine ⟨⟨?_, pn6⟩, ⟨?_, ps5⟩, ⟨?_, pf12⟩, ?_, fun j hj => ?_, fun j hj => ?_, fun j hj => ?_⟩
        · simp only [setI_1, setI_2, setL_1, setL_21]; (repeat (first | rw [if_pos (by first | omega | exact ⟨trivial, rfl⟩)] | rw [if_neg (by omega)] | rw [setI_1] | rw [setL_21])); exact pn
        · simp only [setI_1, setI_2, setL_1, setL_21]; (repeat (first | rw [if_pos (by first | omega | exact ⟨trivial, rfl⟩)] | rw [if_neg (by omega)] | rw [setI_1] | rw [setL_21])); exact ps
        · simp only [setI_1, setI_2, setL_1, setL_21]; (repeat (first | rw [if_pos (by first | omega | exact ⟨trivial, rfl⟩)] | rw [if_neg (by omega)] | rw [setI_1] | rw [setL_21])); exact pf
        · rw [setI_1, if_pos ⟨rfl, rfl⟩]; rfl
        · obtain ⟨a1, a2, a3, a4, a5⟩ := hs j hj
          refine ⟨?_, ?_, ?_, ?_, a5⟩
          · simp only [setI_1, setI_2, setL_1, setL_21]; (repeat (first | rw [if_pos (by first | omega | exact ⟨trivial, rfl⟩)] | rw [if_neg (by omega)] | rw [setI_1] | rw [setL_21])); exact a1
          · simp only [setI_1, setI_2, setL_1, setL_21]; (repeat (first | rw [if_pos (by first | omega | exact ⟨trivial, rfl⟩)] | rw [if_neg (by omega)] | rw [setI_1] | rw [setL_21])); exact a2
          · simp only [setI_1, setI_2, setL_1, setL_21]; (repeat (first | rw [if_pos (by first | omega | exact ⟨trivial, rfl⟩)] | rw [if_neg (by omega)] | rw [setI_1] | rw [setL_21])); exact a3
          · simp only [setI_1, setI_2, setL_1, setL_21]; (repeat (first | rw [if_pos (by first | omega | exact ⟨trivial, rfl⟩)] | rw [if_neg (by omega)] | rw [setI_1] | rw [setL_21])); exact a4
        · obtain ⟨a1, a2, a3⟩ := hg j hj
          refine ⟨?_, ?_, a3⟩
          · simp only [setI_1, setI_2, setL_1, setL_21]; (repeat (first | rw [if_pos (by first | omega | exact ⟨trivial, rfl⟩)] | rw [if_neg (by omega)] | rw [setI_1] | rw [setL_21])); exact a1
          · simp only [setI_1, setI_2, setL_1, setL_21]; (repeat (first | rw [if_pos (by first | omega | exact ⟨trivial, rfl⟩)] | rw [if_neg (by omega)] | rw [setI_1] | rw [setL_21])); exact a2
        · simp only [setI_1, setI_2, setL_1, setL_21]; (repeat (first | rw [if_pos (by first | omega | exact ⟨trivial, rfl⟩)] | rw [if_neg (by omega)] | rw [setI_1] | rw [setL_21])); exact hf j hj
      have hL1 : LX (setI M y 12 30) (y + 10) P.2.po := FY.lx hL (by funext z; rw [setI_1, if_neg (by omega)]) (by funext z; rw [setI_1, if_neg (by omega)])
      have hne : ¬ P.2.po.length = 0 := by
        intro q
        rw [hL1.1, q] at c20
        exact c20 rfl
      have e2 : (fillP P).2 = P.2 := if_neg hne
      rw [if_neg hne] at hY1
      exact ⟨by rw [show fillP P = (setRP P.1 30, P.2) from Prod.ext e1 e2]; exact hY1, by rw [e2]; exact hL1⟩
    · -- 20 goes on
      refine e_aload_n dX8_fillUp_23 rfl ?_
      refine e_getR dX8_fillUp_24 fl_X8_47 (sh_yd (by first | assumption | decide)) rfl ?_
      refine e_iconst (v := (-1)) dX8_fillUp_27 (by decide) ?_
      refine cV1x dX8_fillUp_28 mo_X0_add ml_X8_66 (sh_lw (by first | assumption | exact yd_lw (by assumption) | decide)) rfl (Nat.le_of_ble_eq_true rfl) (by omega) (c_lwAdd (yd_lw hy)) ?_
      rintro r M1 ⟨rfl, hF, hA⟩
      dsimp only [Option.toList, List.cons_append, List.nil_append]
      refine e_vret dX8_fillUp_31 rfl ?_
      have hFY : FY M (setI M y 12 30) y := FY.rfl'.i ⟨by omega, by omega⟩
      have hF2 := hF.fy
      refine ⟨rfl, ⟨fun i a => (hF2.1 i a).trans (hFY.1 i a), fun i a => (hF2.2.1 i a).trans (hFY.2.1 i a), hF2.2.2.trans hFY.2.2⟩, fun P hP hL => ?_⟩
      have hr : P.1.roof = 0 := by rw [← hP.2.2.2.1]; exact c4
      have e1 : (fillP P).1 = setRP P.1 30 := if_pos hr
      have hY1 : YP (setI M y 12 30) y (setRP P.1 30, if P.2.po.length = 0 then exW else P.2) := by
        obtain ⟨⟨pn, pn6⟩, ⟨ps, ps5⟩, ⟨pf, pf12⟩, pr, hs, hg, hf⟩ := id hP
        refine ⟨⟨?_, pn6⟩, ⟨?_, ps5⟩, ⟨?_, pf12⟩, ?_, fun j hj => ?_, fun j hj => ?_, fun j hj => ?_⟩
        · simp only [setI_1, setI_2, setL_1, setL_21]; (repeat (first | rw [if_pos (by first | omega | exact ⟨trivial, rfl⟩)] | rw [if_neg (by omega)] | rw [setI_1] | rw [setL_21])); exact pn
        · simp only [setI_1, setI_2, setL_1, setL_21]; (repeat (first | rw [if_pos (by first | omega | exact ⟨trivial, rfl⟩)] | rw [if_neg (by omega)] | rw [setI_1] | rw [setL_21])); exact ps
        · simp only [setI_1, setI_2, setL_1, setL_21]; (repeat (first | rw [if_pos (by first | omega | exact ⟨trivial, rfl⟩)] | rw [if_neg (by omega)] | rw [setI_1] | rw [setL_21])); exact pf
        · rw [setI_1, if_pos ⟨rfl, rfl⟩]; rfl
        · obtain ⟨a1, a2, a3, a4, a5⟩ := hs j hj
          refine ⟨?_, ?_, ?_, ?_, a5⟩
          · simp only [setI_1, setI_2, setL_1, setL_21]; (repeat (first | rw [if_pos (by first | omega | exact ⟨trivial, rfl⟩)] | rw [if_neg (by omega)] | rw [setI_1] | rw [setL_21])); exact a1
          · simp only [setI_1, setI_2, setL_1, setL_21]; (repeat (first | rw [if_pos (by first | omega | exact ⟨trivial, rfl⟩)] | rw [if_neg (by omega)] | rw [setI_1] | rw [setL_21])); exact a2
          · simp only [setI_1, setI_2, setL_1, setL_21]; (repeat (first | rw [if_pos (by first | omega | exact ⟨trivial, rfl⟩)] | rw [if_neg (by omega)] | rw [setI_1] | rw [setL_21])); exact a3
          · simp only [setI_1, setI_2, setL_1, setL_21]; (repeat (first | rw [if_pos (by first | omega | exact ⟨trivial, rfl⟩)] | rw [if_neg (by omega)] | rw [setI_1] | rw [setL_21])); exact a4
        · obtain ⟨a1, a2, a3⟩ := hg j hj
          refine ⟨?_, ?_, a3⟩
          · simp only [setI_1, setI_2, setL_1, setL_21]; (repeat (first | rw [if_pos (by first | omega | exact ⟨trivial, rfl⟩)] | rw [if_neg (by omega)] | rw [setI_1] | rw [setL_21])); exact a1
          · simp only [setI_1, setI_2, setL_1, setL_21]; (repeat (first | rw [if_pos (by first | omega | exact ⟨trivial, rfl⟩)] | rw [if_neg (by omega)] | rw [setI_1] | rw [setL_21])); exact a2
        · simp only [setI_1, setI_2, setL_1, setL_21]; (repeat (first | rw [if_pos (by first | omega | exact ⟨trivial, rfl⟩)] | rw [if_neg (by omega)] | rw [setI_1] | rw [setL_21])); exact hf j hj
      have hL1 : LX (setI M y 12 30) (y + 10) P.2.po := FY.lx hL (by funext z; rw [setI_1, if_neg (by omega)]) (by funext z; rw [setI_1, if_neg (by omega)])
      have hze : P.2.po.length = 0 := by
        rw [hL1.1] at c20
        rcases Nat.eq_zero_or_pos P.2.po.length with q | q
        · exact q
        · have := (nI_ltI (a := 0) (b := P.2.po.length) (by omega) (by have := hL.2.1; omega)).mpr q
          rw [c20] at this
          exact absurd this (by decide)
      have e2 : (fillP P).2 = exW := if_pos hze
      rw [if_pos hze] at hY1
      have hA1 := hA _ hL1 (by omega)
      rw [List.eq_nil_of_length_eq_zero hze] at hA1
      exact ⟨by rw [show fillP P = (setRP P.1 30, exW) from Prod.ext e1 e2]; exact hF.yp hY1, by rw [e2]; exact hA1⟩
end XYO
