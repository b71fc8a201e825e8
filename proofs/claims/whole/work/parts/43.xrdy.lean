section XRY
def rdL (b : Nat) (t : Tv) (x : Xv) (P : Pv) : Xv × Pv := ((pN t b 0 0 (advX t (if 0 < P.2.po.length then failX t 3 x else x))).1, (P.1, (pN t b 0 0 (advX t (if 0 < P.2.po.length then failX t 3 x else x))).2))
theorem rdL_1 (b : Nat) (t : Tv) (x : Xv) (P : Pv) : (rdL b t x P).1 = (pN t b 0 0 (advX t (if 0 < P.2.po.length then failX t 3 x else x))).1 := by unfold rdL; rfl
theorem rdL_2 (b : Nat) (t : Tv) (x : Xv) (P : Pv) : (rdL b t x P).2 = (P.1, (pN t b 0 0 (advX t (if 0 < P.2.po.length then failX t 3 x else x))).2) := by unfold rdL; rfl
theorem fst_mk {α β : Type} (a : α) (b : β) : (a, b).1 = a := rfl
theorem snd_mk {α β : Type} (a : α) (b : β) : (a, b).2 = b := rfl
theorem rdS_1 (t : Tv) (x : Xv) (P : Pv) : (rdS t x P).1 = rs7 t x P := by unfold rdS; exact fst_mk _ _
theorem rdS_2 (t : Tv) (x : Xv) (P : Pv) : (rdS t x P).2 = (addSP P.1 (wdX t (rs1 t x P)) (kindX t (rs2 t x P)) (nmX t (rs4 t x P)) (nmX t (rs6 t x P)), P.2) := by unfold rdS; exact snd_mk _ _
theorem rdNr_1 (t : Tv) (x : Xv) (P : Pv) : (rdNr t x P).1 = rn6 t x P := by unfold rdNr; exact fst_mk _ _
theorem rdNr_2 (t : Tv) (x : Xv) (P : Pv) : (rdNr t x P).2 = (addNP P.1 (rnA t x P) (rnB t x P), P.2) := by unfold rdNr; exact snd_mk _ _
theorem rdG_1 (t : Tv) (x : Xv) (P : Pv) : (rdG t x P).1 = rg6 t x P := by unfold rdG; exact fst_mk _ _
theorem rdG_2 (t : Tv) (x : Xv) (P : Pv) : (rdG t x P).2 = (addGP P.1 (wdX t (rg1 t x P)) (nmX t (rg3 t x P)) (nmX t (rg5 t x P)), P.2) := by unfold rdG; exact snd_mk _ _
theorem rdF_1 (t : Tv) (x : Xv) (P : Pv) : (rdF t x P).1 = (frL t 12 (tkN t (rf1 t x P) 0 9, addFP P.1 (nmX t (rf1 t x P)))).1 := by unfold rdF; rfl
theorem rdF_2 (t : Tv) (x : Xv) (P : Pv) : (rdF t x P).2 = ((frL t 12 (tkN t (rf1 t x P) 0 9, addFP P.1 (nmX t (rf1 t x P)))).2, P.2) := by unfold rdF; rfl
theorem rdR_1 (t : Tv) (x : Xv) (P : Pv) : (rdR t x P).1 = tkN t (rr1 t x P) 5 60 := by unfold rdR; exact fst_mk _ _
theorem rdR_2 (t : Tv) (x : Xv) (P : Pv) : (rdR t x P).2 = (setRP P.1 (nmX t (rr1 t x P)), P.2) := by unfold rdR; exact snd_mk _ _
def rdLine (b : Nat) (t : Tv) (r : Xv × Pv) : Xv × Pv := if isW t r.1 1 then rdS t r.1 r.2 else if isW t r.1 4 then rdNr t r.1 r.2 else if isW t r.1 5 then rdG t r.1 r.2 else if isW t r.1 8 then rdF t r.1 r.2 else if isW t r.1 9 then rdR t r.1 r.2 else if isW t r.1 10 then rdL b t r.1 r.2 else (failX t 1 r.1, r.2)
def rdB (b : Nat) (t : Tv) : Nat → Xv × Pv → Xv × Pv
  | 0, r => r
  | n + 1, r => if goX t r.1 then rdB b t n (tkS t (rdLine b t r).1 59, (rdLine b t r).2) else r
/-- the tape read as a yard -/
def rdY (b : Nat) (t : Tv) : Xv × Pv := rdB b t 1000 ((0, 0), (emY, exO))
theorem FLw.fr {M M' : Mm} {y : Nat} (h : FLw M M' (y + 10)) : FR M M' y := ⟨fun i a b => h.1 i a (by omega) (by omega), fun i a _ => h.2.1 i a, h.2.2⟩
theorem FLw.yp {M M' : Mm} {y : Nat} {P : Pv} {e : Ex} (h : FLw M M' (y + 10)) (hy : y ∈ ydA) (hP : YP M y P) : YP M' y (P.1, e) := by
  have h8 := yd_le hy
  unfold YP
  rw [h.1 y (by omega) (by omega) (by omega), h.1 (y + 2) (by omega) (by omega) (by omega), h.1 (y + 3) (by omega) (by omega) (by omega), h.1 (y + 4) (by omega) (by omega) (by omega), h.1 (y + 5) (by omega) (by omega) (by omega), h.1 (y + 7) (by omega) (by omega) (by omega), h.1 (y + 8) (by omega) (by omega) (by omega), h.1 (y + 9) (by omega) (by omega) (by omega), h.2.1 (y + 1) (by omega), h.2.1 (y + 6) (by omega)]
  exact hP
theorem LX.fy {M M' : Mm} {y : Nat} {c : List Int32} (h : LX M (y + 10) c) (h1 : M'.1 (y + 10) = M.1 (y + 10)) (h2 : M'.1 (y + 11) = M.1 (y + 11)) : LX M' (y + 10) c := FY.lx (M := M) (M' := M') (y := y) h h1 h2
set_option maxHeartbeats 4000000 in
set_option maxRecDepth 20000 in
theorem c_tkBegin {G : Gt} {M : Mm} {t : Tv} (hI : TI t) (hT : TX M t) : Call G 9 mX4_begin [.ref 6] M (fun r M' => r = none ∧ TS M M' ∧ TG M' t (0, 0)) := by
  refine Call.intro rfl (Nat.le_of_ble_eq_true rfl) ?_
  show Ev G _ mX4_begin 0 [.ref 6] [] M _
  refine e_aload_n dX4_begin_0 rfl ?_
  refine e_iconst (v := 0) dX4_begin_1 (by decide) ?_
  refine e_putI dX4_begin_2 fl_X4_36 sh_tk rfl rfl rfl ?_
  refine e_aload_n dX4_begin_5 rfl ?_
  refine e_iconst (v := 0) dX4_begin_6 (by decide) ?_
  refine e_putI dX4_begin_7 fl_X4_39 sh_tk rfl rfl rfl ?_
  refine e_aload_n dX4_begin_10 rfl ?_
  refine cV0x dX4_begin_11 mo_X4_advance ml_X4_42 sh_tk rfl (Nat.le_of_ble_eq_true rfl) (by omega) (c_adv (i := 0) hI (Nat.zero_le _) (M := setI (setI M 6 2 0) 6 9 0) ⟨by rw [setI_1, if_neg (by decide), setI_1, if_neg (by decide)]; exact hT.1, hT.2.1, fun k hk => by rw [setI_1, if_neg (by omega), setI_1, if_neg (by omega)]; exact hT.2.2 k hk⟩ (by rw [setI_1, if_neg (by decide), setI_1, if_pos ⟨rfl, rfl⟩]; rfl) (by rw [setI_1, if_pos ⟨rfl, rfl⟩])) ?_
  rintro r M1 ⟨rfl, hs1, hP1⟩
  dsimp only [Option.toList, List.cons_append, List.nil_append]
  refine e_vret dX4_begin_14 rfl ?_
  exact ⟨rfl, ((TS.rfl'.i _ _).i _ _).trans hs1, Nat.zero_le _, hI, fun _ => hP1, fun q => absurd rfl q⟩
set_option maxHeartbeats 4000000 in
set_option maxRecDepth 20000 in
theorem l_rd161 {G : Gt} {M : Mm} {t : Tv} {x : Xv} {y i : Nat} {Q : Option Value → Mm → Prop} (hy : y ∈ ydA) (hG : TG M t x) (hK : ∀ M', TS M M' → TG M' t (tkS t x 59) → Ev G 100 mX9_read 10 [.ref 6, .ref y, .int (nI (i + 1))] [] M' Q) : ∀ (k : Nat) , (0 < k) → Ev G 100 mX9_read 161 [.ref 6, .ref y, .int (nI i)] [] M (Q) := by
  intro k
  induction k with
  | zero => intro  hk; exact absurd hk (by omega)
  | succ k ih =>
    intro  hk
    refine e_aload_n dX9_read_161 rfl ?_
    refine e_bipush (v := 59) dX9_read_162 (by decide) ?_
    refine cV1x dX9_read_164 mo_X4_takeSign ml_X9_87 sh_tk rfl (Nat.le_of_ble_eq_true rfl) (by omega) (c_takeSign (s := 59) hG) ?_
    rintro r M1 ⟨rfl, hs1, hG1⟩
    dsimp only [Option.toList, List.cons_append, List.nil_append]
    refine e_iinc (ls' := [_, _, _]) dX9_read_167 rfl (nI_i1 _) (by decide) rfl ?_
    refine e_goto (tgt := 10) dX9_read_170 (by decide) ?_
    exact hK M1 hs1 hG1
set_option maxHeartbeats 4000000 in
set_option maxRecDepth 20000 in
theorem l_rd {G : Gt} {M : Mm} {t : Tv} {y b : Nat} (hb : 35 ≤ b ∧ b ≤ 40) (hy : y ∈ ydA) (hI : TI t) : ∀ (k : Nat) (i : Nat) (r : Xv × Pv) (Mc : Mm), (i ≤ 1000) → (1000 < i + k) → (rdY b t = rdB b t (1000 - i) r) → (FR M Mc y ∧ TG Mc t r.1 ∧ (∃ P', YP Mc y P' ∧ (r.1.1 = 0 → P' = r.2)) ∧ (r.1.1 = 0 → LX Mc (y + 10) r.2.2.po)) → Ev G 100 mX9_read 10 [.ref 6, .ref y, .int (nI i)] [] Mc (fun r M' => r = some (.int (rdY b t).1.1) ∧ FR M M' y ∧ TG M' t (rdY b t).1 ∧ ((rdY b t).1.1 = 0 → YP M' y (fillP (rdY b t).2) ∧ LX M' (y + 10) (fillP (rdY b t).2).2.po)) := by
  intro k
  induction k with
  | zero => intro i r Mc hi hk hr hv; exact absurd hk (by omega)
  | succ k ih =>
    intro i r Mc hi hk hr hv
    refine e_iload_n dX9_read_10 rfl ?_
    refine e_sipush (v := 1000) dX9_read_11 (by decide) ?_
    refine e_icmp_ge (tgt := 173) dX9_read_14 (by decide) (fun c14 => ?_) (fun c14 => ?_)
    · -- 14 jumps
      have hin : i = 1000 := by have := ge_of (n := 1000) (by omega) (by omega) c14; omega
      subst hin
      have hres : rdY b t = r := hr
      refine e_aload_n dX9_read_173 rfl ?_
      refine cV0x dX9_read_174 mo_X8_fillUp ml_X9_90 (sh_yd (by first | assumption | decide)) rfl (Nat.le_of_ble_eq_true rfl) (by omega) (c_fillUp hy) ?_
      rintro q M9 ⟨rfl, hF9, hP9⟩
      dsimp only [Option.toList, List.cons_append, List.nil_append]
      have hG9 := hF9.tg hy hv.2.1
      refine e_aload_n dX9_read_177 rfl ?_
      refine e_getI dX9_read_178 fl_X9_93 sh_tk rfl ?_
      rw [hG9.f9]
      refine e_iret dX9_read_181 rfl ?_
      rw [hres]
      refine ⟨rfl, hv.1.trans hF9.fr, hG9, fun q => ?_⟩
      obtain ⟨P2, hP2, e2⟩ := hv.2.2.1
      rw [e2 q] at hP2
      exact hP9 _ hP2 (hv.2.2.2 q)
    · -- 14 goes on
      refine e_aload_n dX9_read_17 rfl ?_
      refine cV0r dX9_read_18 mo_X4_goesOn ml_X9_19 sh_tk rfl (Nat.le_of_ble_eq_true rfl) (by omega) (c_goesOn hv.2.1) ?_
      refine e_if_eq (tgt := 173) dX9_read_21 (by decide) (fun c21 => ?_) (fun c21 => ?_)
      · -- 21 jumps
        have hlt : i < 1000 := lt_of (n := 1000) (by omega) (by omega) c14
        have hres : rdY b t = r := by
          rw [hr, show 1000 - i = (1000 - (i + 1)) + 1 by omega, rdB, if_neg (b2i_eq0.mp c21)]
        refine e_aload_n dX9_read_173 rfl ?_
        refine cV0x dX9_read_174 mo_X8_fillUp ml_X9_90 (sh_yd (by first | assumption | decide)) rfl (Nat.le_of_ble_eq_true rfl) (by omega) (c_fillUp hy) ?_
        rintro q M9 ⟨rfl, hF9, hP9⟩
        dsimp only [Option.toList, List.cons_append, List.nil_append]
        have hG9 := hF9.tg hy hv.2.1
        refine e_aload_n dX9_read_177 rfl ?_
        refine e_getI dX9_read_178 fl_X9_93 sh_tk rfl ?_
        rw [hG9.f9]
        refine e_iret dX9_read_181 rfl ?_
        rw [hres]
        refine ⟨rfl, hv.1.trans hF9.fr, hG9, fun q => ?_⟩
        obtain ⟨P2, hP2, e2⟩ := hv.2.2.1
        rw [e2 q] at hP2
        exact hP9 _ hP2 (hv.2.2.2 q)
      · -- 21 goes on
        have hlt : i < 1000 := lt_of (n := 1000) (by omega) (by omega) c14
        have h0 : r.1.1 = 0 := (Classical.not_not.mp (fun q => c21 (b2i_f q))).1
        obtain ⟨P0, hYP, eP0⟩ := hv.2.2.1
        rw [eP0 h0] at hYP
        have hLX := hv.2.2.2 h0
        have hlen := hLX.2.1
        refine e_aload_n dX9_read_24 rfl ?_
        refine e_getW (i := 1) dX9_read_25 (by decide) (mem_g 483 (by decide +kernel) rfl) ?_
        refine cV1r dX9_read_28 mo_X4_isWord ml_X9_29 sh_tk rfl (Nat.le_of_ble_eq_true rfl) (by omega) (c_isWord (k := 1) hv.2.1 (by decide)) ?_
        refine e_if_eq (tgt := 42) dX9_read_31 (by decide) (fun c31 => ?_) (fun c31 => ?_)
        · -- 31 jumps
          refine e_aload_n dX9_read_42 rfl ?_
          refine e_getW (i := 4) dX9_read_43 (by decide) (mem_g 553 (by decide +kernel) rfl) ?_
          refine cV1r dX9_read_46 mo_X4_isWord ml_X9_29 sh_tk rfl (Nat.le_of_ble_eq_true rfl) (by omega) (c_isWord (k := 4) hv.2.1 (by decide)) ?_
          refine e_if_eq (tgt := 60) dX9_read_49 (by decide) (fun c49 => ?_) (fun c49 => ?_)
          · -- 49 jumps
            refine e_aload_n dX9_read_60 rfl ?_
            refine e_getW (i := 5) dX9_read_61 (by decide) (mem_g 571 (by decide +kernel) rfl) ?_
            refine cV1r dX9_read_64 mo_X4_isWord ml_X9_29 sh_tk rfl (Nat.le_of_ble_eq_true rfl) (by omega) (c_isWord (k := 5) hv.2.1 (by decide)) ?_
            refine e_if_eq (tgt := 78) dX9_read_67 (by decide) (fun c67 => ?_) (fun c67 => ?_)
            · -- 67 jumps
              refine e_aload_n dX9_read_78 rfl ?_
              refine e_getW (i := 8) dX9_read_79 (by decide) (mem_g 584 (by decide +kernel) rfl) ?_
              refine cV1r dX9_read_82 mo_X4_isWord ml_X9_29 sh_tk rfl (Nat.le_of_ble_eq_true rfl) (by omega) (c_isWord (k := 8) hv.2.1 (by decide)) ?_
              refine e_if_eq (tgt := 96) dX9_read_85 (by decide) (fun c85 => ?_) (fun c85 => ?_)
              · -- 85 jumps
                refine e_aload_n dX9_read_96 rfl ?_
                refine e_getW (i := 9) dX9_read_97 (by decide) (mem_g 595 (by decide +kernel) rfl) ?_
                refine cV1r dX9_read_100 mo_X4_isWord ml_X9_29 sh_tk rfl (Nat.le_of_ble_eq_true rfl) (by omega) (c_isWord (k := 9) hv.2.1 (by decide)) ?_
                refine e_if_eq (tgt := 114) dX9_read_103 (by decide) (fun c103 => ?_) (fun c103 => ?_)
                · -- 103 jumps
                  refine e_aload_n dX9_read_114 rfl ?_
                  refine e_getW (i := 10) dX9_read_115 (by decide) (mem_g 600 (by decide +kernel) rfl) ?_
                  refine cV1r dX9_read_118 mo_X4_isWord ml_X9_29 sh_tk rfl (Nat.le_of_ble_eq_true rfl) (by omega) (c_isWord (k := 10) hv.2.1 (by decide)) ?_
                  refine e_if_eq (tgt := 156) dX9_read_121 (by decide) (fun c121 => ?_) (fun c121 => ?_)
                  · -- 121 jumps
                    refine e_aload_n dX9_read_156 rfl ?_
                    refine e_iconst (v := 1) dX9_read_157 (by decide) ?_
                    refine cV1x dX9_read_158 mo_X4_fail ml_X9_76 sh_tk rfl (Nat.le_of_ble_eq_true rfl) (by omega) (c_fail (k := 1) hv.2.1 (by decide)) ?_
                    rintro q M1 ⟨rfl, hs1, hG1⟩
                    dsimp only [Option.toList, List.cons_append, List.nil_append]
                    have hL : rdLine b t r = (failX t 1 r.1, r.2) := by
                      unfold rdLine
                      rw [if_neg (b2i_eq0.mp c31), if_neg (b2i_eq0.mp c49), if_neg (b2i_eq0.mp c67), if_neg (b2i_eq0.mp c85), if_neg (b2i_eq0.mp c103), if_neg (b2i_eq0.mp c121)]
                    have hGa : TG M1 t (rdLine b t r).1 := by rw [hL]; exact hG1
                    have hFa : FR M M1 y := hv.1.trans hs1.fr
                    have hne : ¬ (rdLine b t r).1.1 = 0 := by rw [hL]; exact fail_nz (k := 1) (by decide) hv.2.1.1 hI
                    have hPa : ∃ P', YP M1 y P' ∧ ((rdLine b t r).1.1 = 0 → P' = (rdLine b t r).2) := ⟨r.2, hYP.ts hy hs1, fun q => absurd q hne⟩
                    have hLa : (rdLine b t r).1.1 = 0 → LX M1 (y + 10) (rdLine b t r).2.2.po := fun q => absurd q hne
                    refine l_rd161 hy hGa (fun M9 hs9 hG9 => ?_) 1 (by omega)
                    refine ih (i + 1) (tkS t (rdLine b t r).1 59, (rdLine b t r).2) M9 (by omega) (by omega) ?_ ⟨hFa.trans hs9.fr, hG9, ?_, fun q => ?_⟩
                    · rw [hr, show 1000 - i = (1000 - (i + 1)) + 1 by omega, rdB, if_pos (Classical.not_not.mp (fun q => c21 (b2i_f q)))]
                    · obtain ⟨P9, hP9, e9⟩ := hPa
                      exact ⟨P9, hP9.ts hy hs9, fun q => e9 (tkS_0 q hGa.1 hI).1⟩
                    · exact LX.ts (hLa (tkS_0 q hGa.1 hI).1) (by have := yd_le hy; omega) hs9
                  · -- 121 goes on
                    refine e_aload_n dX9_read_124 rfl ?_
                    refine e_getR dX9_read_125 fl_X9_66 (sh_yd (by first | assumption | decide)) rfl ?_
                    refine e_getI dX9_read_128 fl_X9_70 (sh_lw (by first | assumption | exact yd_lw (by assumption) | decide)) rfl ?_
                    rw [hLX.1]
                    refine e_if_le (tgt := 139) dX9_read_131 (by decide) (fun c131 => ?_) (fun c131 => ?_)
                    · -- 131 jumps
                      have hpo : ¬ 0 < r.2.2.po.length := fun q => c131 ((nI_ltI (a := 0) (b := r.2.2.po.length) (by omega) (by omega)).mpr q)
                      refine e_aload_n dX9_read_139 rfl ?_
                      refine cV0x dX9_read_140 mo_X4_advance ml_X9_80 sh_tk rfl (Nat.le_of_ble_eq_true rfl) (by omega) (c_advX (x := (if 0 < r.2.2.po.length then failX t 3 r.1 else r.1)) (by rw [if_neg hpo]; exact hv.2.1)) ?_
                      rintro q M2 ⟨rfl, hsA, hG2⟩
                      dsimp only [Option.toList, List.cons_append, List.nil_append]
                      have hsz : TS Mc M2 := hsA
                      refine e_aload_n dX9_read_143 rfl ?_
                      refine e_aload_n dX9_read_144 rfl ?_
                      refine e_getR dX9_read_145 fl_X9_66 (sh_yd (by first | assumption | decide)) rfl ?_
                      refine e_iconst (v := 0) dX9_read_148 (by decide) ?_
                      refine e_iconst (v := 0) dX9_read_149 (by decide) ?_
                      refine cS4x dX9_read_150 mo_X9_readLaw ml_X9_83 (Nat.le_of_ble_eq_true rfl) (by omega) ((c_rl (yd_lw hy) hI b).2 0 0 M2 _ hG2 (by decide) (by decide) (by unfold need; omega)) ?_
                      rintro q M3 ⟨rfl, hF3, hG3, hA3⟩
                      dsimp only [Option.toList, List.cons_append, List.nil_append]
                      refine e_goto (tgt := 161) dX9_read_153 (by decide) ?_
                      have hL : rdLine b t r = rdL b t r.1 r.2 := by
                        unfold rdLine
                        rw [if_neg (b2i_eq0.mp c31), if_neg (b2i_eq0.mp c49), if_neg (b2i_eq0.mp c67), if_neg (b2i_eq0.mp c85), if_neg (b2i_eq0.mp c103), if_pos (Classical.not_not.mp (fun q => c121 (b2i_f q)))]
                      have hGa : TG M3 t (rdLine b t r).1 := by rw [hL, rdL_1]; exact hG3
                      have hFa : FR M M3 y := hv.1.trans (hsz.fr.trans hF3.fr)
                      have hPa : ∃ P', YP M3 y P' ∧ ((rdLine b t r).1.1 = 0 → P' = (rdLine b t r).2) := ⟨_, hF3.yp (e := (pN t b 0 0 (advX t (if 0 < r.2.2.po.length then failX t 3 r.1 else r.1))).2) hy (hYP.ts hy hsz), fun _ => by rw [hL, rdL_2]⟩
                      
                      have hLa : (rdLine b t r).1.1 = 0 → LX M3 (y + 10) (rdLine b t r).2.2.po := by
                        intro q
                        rw [hL, rdL_1] at q
                        rw [hL, rdL_2]
                        show LX M3 (y + 10) (pN t b 0 0 (advX t (if 0 < r.2.2.po.length then failX t 3 r.1 else r.1))).2.po
                        have hz := ((pN_ln hI b 0 0 (by decide) (by decide) (by unfold need; omega) (advX t (if 0 < r.2.2.po.length then failX t 3 r.1 else r.1)) hG2.1).2.2 q).1
                        have hnil : r.2.2.po = [] := List.eq_nil_of_length_eq_zero (by omega)
                        have h1 : LX M2 (y + 10) [] := by
                          have := LX.ts hLX (by have := yd_le hy; omega) hsz
                          rw [hnil] at this
                          exact this
                        have h9 := hA3 [] h1 (Nat.zero_le _) q
                        rw [List.nil_append] at h9
                        exact h9
                      refine l_rd161 hy hGa (fun M9 hs9 hG9 => ?_) 1 (by omega)
                      refine ih (i + 1) (tkS t (rdLine b t r).1 59, (rdLine b t r).2) M9 (by omega) (by omega) ?_ ⟨hFa.trans hs9.fr, hG9, ?_, fun q => ?_⟩
                      · rw [hr, show 1000 - i = (1000 - (i + 1)) + 1 by omega, rdB, if_pos (Classical.not_not.mp (fun q => c21 (b2i_f q)))]
                      · obtain ⟨P9, hP9, e9⟩ := hPa
                        exact ⟨P9, hP9.ts hy hs9, fun q => e9 (tkS_0 q hGa.1 hI).1⟩
                      · exact LX.ts (hLa (tkS_0 q hGa.1 hI).1) (by have := yd_le hy; omega) hs9
                    · -- 131 goes on
                      have hpo : 0 < r.2.2.po.length := (nI_ltI (a := 0) (b := r.2.2.po.length) (by omega) (by omega)).mp c131
                      refine e_aload_n dX9_read_134 rfl ?_
                      refine e_iconst (v := 3) dX9_read_135 (by decide) ?_
                      refine cV1x dX9_read_136 mo_X4_fail ml_X9_76 sh_tk rfl (Nat.le_of_ble_eq_true rfl) (by omega) (c_fail (k := 3) hv.2.1 (by decide)) ?_
                      rintro q M1 ⟨rfl, hsF, hGF⟩
                      dsimp only [Option.toList, List.cons_append, List.nil_append]
                      refine e_aload_n dX9_read_139 rfl ?_
                      refine cV0x dX9_read_140 mo_X4_advance ml_X9_80 sh_tk rfl (Nat.le_of_ble_eq_true rfl) (by omega) (c_advX (x := (if 0 < r.2.2.po.length then failX t 3 r.1 else r.1)) (by rw [if_pos hpo]; exact hGF)) ?_
                      rintro q M2 ⟨rfl, hsA, hG2⟩
                      dsimp only [Option.toList, List.cons_append, List.nil_append]
                      have hsz : TS Mc M2 := hsF.trans hsA
                      refine e_aload_n dX9_read_143 rfl ?_
                      refine e_aload_n dX9_read_144 rfl ?_
                      refine e_getR dX9_read_145 fl_X9_66 (sh_yd (by first | assumption | decide)) rfl ?_
                      refine e_iconst (v := 0) dX9_read_148 (by decide) ?_
                      refine e_iconst (v := 0) dX9_read_149 (by decide) ?_
                      refine cS4x dX9_read_150 mo_X9_readLaw ml_X9_83 (Nat.le_of_ble_eq_true rfl) (by omega) ((c_rl (yd_lw hy) hI b).2 0 0 M2 _ hG2 (by decide) (by decide) (by unfold need; omega)) ?_
                      rintro q M3 ⟨rfl, hF3, hG3, hA3⟩
                      dsimp only [Option.toList, List.cons_append, List.nil_append]
                      refine e_goto (tgt := 161) dX9_read_153 (by decide) ?_
                      have hL : rdLine b t r = rdL b t r.1 r.2 := by
                        unfold rdLine
                        rw [if_neg (b2i_eq0.mp c31), if_neg (b2i_eq0.mp c49), if_neg (b2i_eq0.mp c67), if_neg (b2i_eq0.mp c85), if_neg (b2i_eq0.mp c103), if_pos (Classical.not_not.mp (fun q => c121 (b2i_f q)))]
                      have hGa : TG M3 t (rdLine b t r).1 := by rw [hL, rdL_1]; exact hG3
                      have hFa : FR M M3 y := hv.1.trans (hsz.fr.trans hF3.fr)
                      have hPa : ∃ P', YP M3 y P' ∧ ((rdLine b t r).1.1 = 0 → P' = (rdLine b t r).2) := ⟨_, hF3.yp (e := (pN t b 0 0 (advX t (if 0 < r.2.2.po.length then failX t 3 r.1 else r.1))).2) hy (hYP.ts hy hsz), fun _ => by rw [hL, rdL_2]⟩
                      
                      have hLa : (rdLine b t r).1.1 = 0 → LX M3 (y + 10) (rdLine b t r).2.2.po := by
                        intro q
                        rw [hL, rdL_1] at q
                        rw [hL, rdL_2]
                        show LX M3 (y + 10) (pN t b 0 0 (advX t (if 0 < r.2.2.po.length then failX t 3 r.1 else r.1))).2.po
                        have hz := ((pN_ln hI b 0 0 (by decide) (by decide) (by unfold need; omega) (advX t (if 0 < r.2.2.po.length then failX t 3 r.1 else r.1)) hG2.1).2.2 q).1
                        have h5 := adv_1.symm.trans hz
                        rw [if_pos hpo] at h5
                        exact absurd h5 (fail_nz (k := 3) (by decide) hv.2.1.1 hI)
                      refine l_rd161 hy hGa (fun M9 hs9 hG9 => ?_) 1 (by omega)
                      refine ih (i + 1) (tkS t (rdLine b t r).1 59, (rdLine b t r).2) M9 (by omega) (by omega) ?_ ⟨hFa.trans hs9.fr, hG9, ?_, fun q => ?_⟩
                      · rw [hr, show 1000 - i = (1000 - (i + 1)) + 1 by omega, rdB, if_pos (Classical.not_not.mp (fun q => c21 (b2i_f q)))]
                      · obtain ⟨P9, hP9, e9⟩ := hPa
                        exact ⟨P9, hP9.ts hy hs9, fun q => e9 (tkS_0 q hGa.1 hI).1⟩
                      · exact LX.ts (hLa (tkS_0 q hGa.1 hI).1) (by have := yd_le hy; omega) hs9
                · -- 103 goes on
                  refine e_aload_n dX9_read_106 rfl ?_
                  refine e_aload_n dX9_read_107 rfl ?_
                  refine cS2x dX9_read_108 mo_X9_readRoof ml_X9_60 (Nat.le_of_ble_eq_true rfl) (by omega) (c_rdR hy hv.2.1 hYP) ?_
                  rintro q M1 ⟨rfl, hF1, hG1, ⟨P1, hP1, e1⟩, hz1, hl1, hk1⟩
                  dsimp only [Option.toList, List.cons_append, List.nil_append]
                  refine e_goto (tgt := 161) dX9_read_111 (by decide) ?_
                  have hL : rdLine b t r = rdR t r.1 r.2 := by
                    unfold rdLine
                    rw [if_neg (b2i_eq0.mp c31), if_neg (b2i_eq0.mp c49), if_neg (b2i_eq0.mp c67), if_neg (b2i_eq0.mp c85), if_pos (Classical.not_not.mp (fun q => c103 (b2i_f q)))]
                  have hGa : TG M1 t (rdLine b t r).1 := by rw [hL, rdR_1]; exact hG1
                  have hFa : FR M M1 y := hv.1.trans hF1
                  have hPa : ∃ P', YP M1 y P' ∧ ((rdLine b t r).1.1 = 0 → P' = (rdLine b t r).2) := ⟨P1, hP1, by rw [hL, rdR_1, rdR_2]; exact e1⟩
                  have hLa : (rdLine b t r).1.1 = 0 → LX M1 (y + 10) (rdLine b t r).2.2.po := by
                    intro q
                    rw [hL, rdR_2]
                    exact LX.fy hLX hl1 hk1
                  refine l_rd161 hy hGa (fun M9 hs9 hG9 => ?_) 1 (by omega)
                  refine ih (i + 1) (tkS t (rdLine b t r).1 59, (rdLine b t r).2) M9 (by omega) (by omega) ?_ ⟨hFa.trans hs9.fr, hG9, ?_, fun q => ?_⟩
                  · rw [hr, show 1000 - i = (1000 - (i + 1)) + 1 by omega, rdB, if_pos (Classical.not_not.mp (fun q => c21 (b2i_f q)))]
                  · obtain ⟨P9, hP9, e9⟩ := hPa
                    exact ⟨P9, hP9.ts hy hs9, fun q => e9 (tkS_0 q hGa.1 hI).1⟩
                  · exact LX.ts (hLa (tkS_0 q hGa.1 hI).1) (by have := yd_le hy; omega) hs9
              · -- 85 goes on
                refine e_aload_n dX9_read_88 rfl ?_
                refine e_aload_n dX9_read_89 rfl ?_
                refine cS2x dX9_read_90 mo_X9_readFrost ml_X9_54 (Nat.le_of_ble_eq_true rfl) (by omega) (c_rdF hy hv.2.1 hYP) ?_
                rintro q M1 ⟨rfl, hF1, hG1, ⟨P1, hP1, e1⟩, hz1, hl1, hk1⟩
                dsimp only [Option.toList, List.cons_append, List.nil_append]
                refine e_goto (tgt := 161) dX9_read_93 (by decide) ?_
                have hL : rdLine b t r = rdF t r.1 r.2 := by
                  unfold rdLine
                  rw [if_neg (b2i_eq0.mp c31), if_neg (b2i_eq0.mp c49), if_neg (b2i_eq0.mp c67), if_pos (Classical.not_not.mp (fun q => c85 (b2i_f q)))]
                have hGa : TG M1 t (rdLine b t r).1 := by rw [hL, rdF_1]; exact hG1
                have hFa : FR M M1 y := hv.1.trans hF1
                have hPa : ∃ P', YP M1 y P' ∧ ((rdLine b t r).1.1 = 0 → P' = (rdLine b t r).2) := ⟨P1, hP1, by rw [hL, rdF_1, rdF_2]; exact e1⟩
                have hLa : (rdLine b t r).1.1 = 0 → LX M1 (y + 10) (rdLine b t r).2.2.po := by
                  intro q
                  rw [hL, rdF_2]
                  exact LX.fy hLX hl1 hk1
                refine l_rd161 hy hGa (fun M9 hs9 hG9 => ?_) 1 (by omega)
                refine ih (i + 1) (tkS t (rdLine b t r).1 59, (rdLine b t r).2) M9 (by omega) (by omega) ?_ ⟨hFa.trans hs9.fr, hG9, ?_, fun q => ?_⟩
                · rw [hr, show 1000 - i = (1000 - (i + 1)) + 1 by omega, rdB, if_pos (Classical.not_not.mp (fun q => c21 (b2i_f q)))]
                · obtain ⟨P9, hP9, e9⟩ := hPa
                  exact ⟨P9, hP9.ts hy hs9, fun q => e9 (tkS_0 q hGa.1 hI).1⟩
                · exact LX.ts (hLa (tkS_0 q hGa.1 hI).1) (by have := yd_le hy; omega) hs9
            · -- 67 goes on
              refine e_aload_n dX9_read_70 rfl ?_
              refine e_aload_n dX9_read_71 rfl ?_
              refine cS2x dX9_read_72 mo_X9_readStage ml_X9_48 (Nat.le_of_ble_eq_true rfl) (by omega) (c_rdG hy hv.2.1 hYP) ?_
              rintro q M1 ⟨rfl, hF1, hG1, ⟨P1, hP1, e1⟩, hz1, hl1, hk1⟩
              dsimp only [Option.toList, List.cons_append, List.nil_append]
              refine e_goto (tgt := 161) dX9_read_75 (by decide) ?_
              have hL : rdLine b t r = rdG t r.1 r.2 := by
                unfold rdLine
                rw [if_neg (b2i_eq0.mp c31), if_neg (b2i_eq0.mp c49), if_pos (Classical.not_not.mp (fun q => c67 (b2i_f q)))]
              have hGa : TG M1 t (rdLine b t r).1 := by rw [hL, rdG_1]; exact hG1
              have hFa : FR M M1 y := hv.1.trans hF1
              have hPa : ∃ P', YP M1 y P' ∧ ((rdLine b t r).1.1 = 0 → P' = (rdLine b t r).2) := ⟨P1, hP1, by rw [hL, rdG_1, rdG_2]; exact e1⟩
              have hLa : (rdLine b t r).1.1 = 0 → LX M1 (y + 10) (rdLine b t r).2.2.po := by
                intro q
                rw [hL, rdG_2]
                exact LX.fy hLX hl1 hk1
              refine l_rd161 hy hGa (fun M9 hs9 hG9 => ?_) 1 (by omega)
              refine ih (i + 1) (tkS t (rdLine b t r).1 59, (rdLine b t r).2) M9 (by omega) (by omega) ?_ ⟨hFa.trans hs9.fr, hG9, ?_, fun q => ?_⟩
              · rw [hr, show 1000 - i = (1000 - (i + 1)) + 1 by omega, rdB, if_pos (Classical.not_not.mp (fun q => c21 (b2i_f q)))]
              · obtain ⟨P9, hP9, e9⟩ := hPa
                exact ⟨P9, hP9.ts hy hs9, fun q => e9 (tkS_0 q hGa.1 hI).1⟩
              · exact LX.ts (hLa (tkS_0 q hGa.1 hI).1) (by have := yd_le hy; omega) hs9
          · -- 49 goes on
            refine e_aload_n dX9_read_52 rfl ?_
            refine e_aload_n dX9_read_53 rfl ?_
            refine cS2x dX9_read_54 mo_X9_readNear ml_X9_42 (Nat.le_of_ble_eq_true rfl) (by omega) (c_rdN hy hv.2.1 hYP) ?_
            rintro q M1 ⟨rfl, hF1, hG1, ⟨P1, hP1, e1⟩, hz1, hl1, hk1⟩
            dsimp only [Option.toList, List.cons_append, List.nil_append]
            refine e_goto (tgt := 161) dX9_read_57 (by decide) ?_
            have hL : rdLine b t r = rdNr t r.1 r.2 := by
              unfold rdLine
              rw [if_neg (b2i_eq0.mp c31), if_pos (Classical.not_not.mp (fun q => c49 (b2i_f q)))]
            have hGa : TG M1 t (rdLine b t r).1 := by rw [hL, rdNr_1]; exact hG1
            have hFa : FR M M1 y := hv.1.trans hF1
            have hPa : ∃ P', YP M1 y P' ∧ ((rdLine b t r).1.1 = 0 → P' = (rdLine b t r).2) := ⟨P1, hP1, by rw [hL, rdNr_1, rdNr_2]; exact e1⟩
            have hLa : (rdLine b t r).1.1 = 0 → LX M1 (y + 10) (rdLine b t r).2.2.po := by
              intro q
              rw [hL, rdNr_2]
              exact LX.fy hLX hl1 hk1
            refine l_rd161 hy hGa (fun M9 hs9 hG9 => ?_) 1 (by omega)
            refine ih (i + 1) (tkS t (rdLine b t r).1 59, (rdLine b t r).2) M9 (by omega) (by omega) ?_ ⟨hFa.trans hs9.fr, hG9, ?_, fun q => ?_⟩
            · rw [hr, show 1000 - i = (1000 - (i + 1)) + 1 by omega, rdB, if_pos (Classical.not_not.mp (fun q => c21 (b2i_f q)))]
            · obtain ⟨P9, hP9, e9⟩ := hPa
              exact ⟨P9, hP9.ts hy hs9, fun q => e9 (tkS_0 q hGa.1 hI).1⟩
            · exact LX.ts (hLa (tkS_0 q hGa.1 hI).1) (by have := yd_le hy; omega) hs9
        · -- 31 goes on
          refine e_aload_n dX9_read_34 rfl ?_
          refine e_aload_n dX9_read_35 rfl ?_
          refine cS2x dX9_read_36 mo_X9_readShed ml_X9_33 (Nat.le_of_ble_eq_true rfl) (by omega) (c_rdS hy hv.2.1 hYP) ?_
          rintro q M1 ⟨rfl, hF1, hG1, ⟨P1, hP1, e1⟩, hz1, hl1, hk1⟩
          dsimp only [Option.toList, List.cons_append, List.nil_append]
          refine e_goto (tgt := 161) dX9_read_39 (by decide) ?_
          have hL : rdLine b t r = rdS t r.1 r.2 := by
            unfold rdLine
            rw [if_pos (Classical.not_not.mp (fun q => c31 (b2i_f q)))]
          have hGa : TG M1 t (rdLine b t r).1 := by rw [hL, rdS_1]; exact hG1
          have hFa : FR M M1 y := hv.1.trans hF1
          have hPa : ∃ P', YP M1 y P' ∧ ((rdLine b t r).1.1 = 0 → P' = (rdLine b t r).2) := ⟨P1, hP1, by rw [hL, rdS_1, rdS_2]; exact e1⟩
          have hLa : (rdLine b t r).1.1 = 0 → LX M1 (y + 10) (rdLine b t r).2.2.po := by
            intro q
            rw [hL, rdS_2]
            exact LX.fy hLX hl1 hk1
          refine l_rd161 hy hGa (fun M9 hs9 hG9 => ?_) 1 (by omega)
          refine ih (i + 1) (tkS t (rdLine b t r).1 59, (rdLine b t r).2) M9 (by omega) (by omega) ?_ ⟨hFa.trans hs9.fr, hG9, ?_, fun q => ?_⟩
          · rw [hr, show 1000 - i = (1000 - (i + 1)) + 1 by omega, rdB, if_pos (Classical.not_not.mp (fun q => c21 (b2i_f q)))]
          · obtain ⟨P9, hP9, e9⟩ := hPa
            exact ⟨P9, hP9.ts hy hs9, fun q => e9 (tkS_0 q hGa.1 hI).1⟩
          · exact LX.ts (hLa (tkS_0 q hGa.1 hI).1) (by have := yd_le hy; omega) hs9
set_option maxHeartbeats 4000000 in
set_option maxRecDepth 20000 in
theorem c_read {G : Gt} {M : Mm} {t : Tv} {y b : Nat} (hb : 35 ≤ b ∧ b ≤ 40) (hy : y ∈ ydA) (hI : TI t) (hT : TX M t) : Call G 100 mX9_read [.ref 6, .ref y] M (fun r M' => r = some (.int (rdY b t).1.1) ∧ FR M M' y ∧ TG M' t (rdY b t).1 ∧ ((rdY b t).1.1 = 0 → YP M' y (fillP (rdY b t).2) ∧ LX M' (y + 10) (fillP (rdY b t).2).2.po)) := by
  have h8 := yd_le hy
  refine Call.intro rfl (Nat.le_of_ble_eq_true rfl) ?_
  show Ev G _ mX9_read 0 [.ref 6, .ref y, RA] [] M _
  refine e_aload_n dX9_read_0 rfl ?_
  refine cV0x dX9_read_1 mo_X8_clear ml_X9_9 (sh_yd (by first | assumption | decide)) rfl (Nat.le_of_ble_eq_true rfl) (by omega) (c_ydClear hy) ?_
  rintro r M1 ⟨rfl, hF1, hP1, hL1⟩
  dsimp only [Option.toList, List.cons_append, List.nil_append]
  refine e_aload_n dX9_read_4 rfl ?_
  refine cV0x dX9_read_5 mo_X4_begin ml_X9_14 sh_tk rfl (Nat.le_of_ble_eq_true rfl) (by omega) (c_tkBegin (M := M1) hI ⟨by rw [hF1.1 6 (by omega)]; exact hT.1, hT.2.1, fun k hk => by rw [hF1.1 7 (by omega)]; exact hT.2.2 k hk⟩) ?_
  rintro r M2 ⟨rfl, hs2, hG2⟩
  dsimp only [Option.toList, List.cons_append, List.nil_append]
  refine e_iconst (v := 0) dX9_read_8 (by decide) ?_
  refine e_istore_n (ls' := [_, _, _]) dX9_read_9 (by decide) rfl ?_
  exact l_rd (M := M) hb hy hI 1001 0 ((0, 0), (emY, exO)) M2 (by omega) (by omega) rfl ⟨hF1.fr.trans hs2.fr, hG2, ⟨_, hP1.ts hy hs2, fun _ => rfl⟩, fun _ => hL1.ts (by omega) hs2⟩
end XRY
