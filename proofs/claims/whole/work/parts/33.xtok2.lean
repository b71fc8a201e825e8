section XT2
/-- the tokens, with the token at p looked at, no fault -/
def TP (M : Mm) (t : Tv) (p : Nat) : Prop := TX M t ∧ M.1 6 2 = nI (enP t p) ∧ M.1 6 3 = kdP t p ∧ M.1 6 4 = nI p ∧ M.1 6 9 = 0 ∧ (kdP t p = 4 → M.1 6 5 = t.2 p) ∧ (kdP t p = 3 → M.1 6 6 = nmP t p) ∧ (kdP t p = 2 → M.2.1 6 7 = wdP t p ∧ M.2.2 6 8 = 2000 + wI (wdP t p))
theorem TP.keep {M M' : Mm} {t : Tv} {p : Nat} (h : TP M t p) (h6 : M'.1 6 = M.1 6) (h7 : M'.1 7 = M.1 7) (hl : M'.2.1 6 = M.2.1 6) (hp : M'.2.2 6 = M.2.2 6) : TP M' t p := by
  obtain ⟨⟨a, b, c⟩, d, e, g, k, l, m, n⟩ := h
  unfold TP TX
  rw [h6, h7, hl, hp]
  exact ⟨⟨a, b, c⟩, d, e, g, k, l, m, n⟩
set_option maxHeartbeats 4000000 in
set_option maxRecDepth 20000 in
theorem l_ad106 {G : Gt} {M : Mm} {t : Tv} {p : Nat} (hI : TI t) (hp : p < t.1) (hT : TX M t) (h2 : M.1 6 2 = nI p) (h4 : M.1 6 4 = nI p) (h9 : M.1 6 9 = 0) (h5 : M.1 6 5 = t.2 p) : ∀ (k : Nat) , (0 < k) → Ev G 8 mX4_advance 106 [.ref 6] [] M (fun r M' => r = none ∧ TS M M' ∧ TP M' t p) := by
  intro k
  induction k with
  | zero => intro  hk; exact absurd hk (by omega)
  | succ k ih =>
    intro  hk
    have ht1 := hT.2.1
    obtain ⟨m, hm, em⟩ := hI.2 p hp
    refine e_aload_n dX4_advance_106 rfl ?_
    refine e_getI dX4_advance_107 fl_X4_52 sh_tk rfl ?_
    rw [h5]
    refine e_bipush (v := 97) dX4_advance_110 (by decide) ?_
    refine e_bipush (v := 122) dX4_advance_112 (by decide) ?_
    refine cS3r dX4_advance_114 mo_X10_within ml_X4_24 (Nat.le_of_ble_eq_true rfl) (by omega) (c_within) ?_
    refine e_if_eq (tgt := 127) dX4_advance_117 (by decide) (fun c117 => ?_) (fun c117 => ?_)
    · -- 117 jumps
      have c117 := b2i_eq0.mp c117
      refine e_aload_n dX4_advance_127 rfl ?_
      refine e_getI dX4_advance_128 fl_X4_52 sh_tk rfl ?_
      rw [h5]
      refine e_bipush (v := 48) dX4_advance_131 (by decide) ?_
      refine e_bipush (v := 57) dX4_advance_133 (by decide) ?_
      refine cS3r dX4_advance_135 mo_X10_within ml_X4_24 (Nat.le_of_ble_eq_true rfl) (by omega) (c_within) ?_
      refine e_if_eq (tgt := 148) dX4_advance_138 (by decide) (fun c138 => ?_) (fun c138 => ?_)
      · -- 138 jumps
        have c138 := b2i_eq0.mp c138
        refine e_aload_n dX4_advance_148 rfl ?_
        refine e_ldcS dX4_advance_149 rfl ?_
        refine e_aload_n dX4_advance_151 rfl ?_
        refine e_getI dX4_advance_152 fl_X4_52 sh_tk rfl ?_
        rw [h5]
        refine e_i2c dX4_advance_155 ?_
        rw [em, i2c_n m hm]
        refine cT1x dX4_advance_156 mo_J0_indexOf_0f7a4 ml_X4_66 rfl (Nat.le_of_ble_eq_true rfl) (by omega) (c_ix1 hm) ?_
        rintro r M1 ⟨rfl, v, rfl, hvs⟩
        dsimp only [Option.toList, List.cons_append, List.nil_append]
        refine e_if_lt (tgt := 166) dX4_advance_159 (by decide) (fun c159 => ?_) (fun c159 => ?_)
        · -- 159 jumps
          refine e_iconst (v := 1) dX4_advance_166 (by decide) ?_
          refine e_putI dX4_advance_167 fl_X4_55 sh_tk rfl rfl rfl ?_
          refine e_aload_n dX4_advance_170 rfl ?_
          refine e_dup dX4_advance_171 rfl ?_
          refine e_getI dX4_advance_172 fl_X4_36 sh_tk rfl ?_
          rw [setI_1, if_neg (by decide), h2]
          refine e_iconst (v := 1) dX4_advance_175 (by decide) ?_
          refine e_iadd dX4_advance_176 ?_
          refine e_putI dX4_advance_177 fl_X4_36 sh_tk rfl rfl rfl ?_
          refine e_vret dX4_advance_180 rfl ?_
          have hsg : ¬ t.2 p ∈ sgL := by rw [em]; exact hvs.mp c159
          refine ⟨rfl, (TS.rfl'.i _ _).i _ _, ⟨by rw [setI_1, if_neg (by decide), setI_1, if_neg (by decide)]; exact hT.1, hT.2.1, fun k hk => by rw [setI_1, if_neg (by omega), setI_1, if_neg (by omega)]; exact hT.2.2 k hk⟩, ?_, ?_, by rw [setI_1, if_neg (by decide), setI_1, if_neg (by decide)]; exact h4, by rw [setI_1, if_neg (by decide), setI_1, if_neg (by decide)]; exact h9, fun q => by rw [setI_1, if_neg (by decide), setI_1, if_neg (by decide)]; exact h5, fun q => ?_, fun q => ?_⟩
          · rw [show enP t p = p + 1 from (if_pos hp).trans ((if_neg c117).trans (if_neg c138)), setI_1, if_pos ⟨rfl, rfl⟩]
            exact nI_1 p
          · rw [setI_1, if_neg (by decide), setI_1, if_pos ⟨rfl, rfl⟩]; exact (show kdP t p = 1 from (if_pos hp).trans ((if_neg c117).trans ((if_neg c138).trans (if_neg hsg)))).symm
          · rw [show kdP t p = 1 from (if_pos hp).trans ((if_neg c117).trans ((if_neg c138).trans (if_neg hsg)))] at q; exact absurd q (by decide)
          · rw [show kdP t p = 1 from (if_pos hp).trans ((if_neg c117).trans ((if_neg c138).trans (if_neg hsg)))] at q; exact absurd q (by decide)
        · -- 159 goes on
          refine e_iconst (v := 4) dX4_advance_162 (by decide) ?_
          refine e_goto (tgt := 167) dX4_advance_163 (by decide) ?_
          refine e_putI dX4_advance_167 fl_X4_55 sh_tk rfl rfl rfl ?_
          refine e_aload_n dX4_advance_170 rfl ?_
          refine e_dup dX4_advance_171 rfl ?_
          refine e_getI dX4_advance_172 fl_X4_36 sh_tk rfl ?_
          rw [setI_1, if_neg (by decide), h2]
          refine e_iconst (v := 1) dX4_advance_175 (by decide) ?_
          refine e_iadd dX4_advance_176 ?_
          refine e_putI dX4_advance_177 fl_X4_36 sh_tk rfl rfl rfl ?_
          refine e_vret dX4_advance_180 rfl ?_
          have hsg : t.2 p ∈ sgL := by rw [em]; exact Classical.not_not.mp (fun q => c159 (hvs.mpr q))
          refine ⟨rfl, (TS.rfl'.i _ _).i _ _, ⟨by rw [setI_1, if_neg (by decide), setI_1, if_neg (by decide)]; exact hT.1, hT.2.1, fun k hk => by rw [setI_1, if_neg (by omega), setI_1, if_neg (by omega)]; exact hT.2.2 k hk⟩, ?_, ?_, by rw [setI_1, if_neg (by decide), setI_1, if_neg (by decide)]; exact h4, by rw [setI_1, if_neg (by decide), setI_1, if_neg (by decide)]; exact h9, fun q => by rw [setI_1, if_neg (by decide), setI_1, if_neg (by decide)]; exact h5, fun q => ?_, fun q => ?_⟩
          · rw [show enP t p = p + 1 from (if_pos hp).trans ((if_neg c117).trans (if_neg c138)), setI_1, if_pos ⟨rfl, rfl⟩]
            exact nI_1 p
          · rw [setI_1, if_neg (by decide), setI_1, if_pos ⟨rfl, rfl⟩]; exact (show kdP t p = 4 from (if_pos hp).trans ((if_neg c117).trans ((if_neg c138).trans (if_pos hsg)))).symm
          · rw [show kdP t p = 4 from (if_pos hp).trans ((if_neg c117).trans ((if_neg c138).trans (if_pos hsg)))] at q; exact absurd q (by decide)
          · rw [show kdP t p = 4 from (if_pos hp).trans ((if_neg c117).trans ((if_neg c138).trans (if_pos hsg)))] at q; exact absurd q (by decide)
      · -- 138 goes on
        have c138 : vWi (t.2 p) 48 57 := by
          by_cases h : (vWi (t.2 p) 48 57)
          · exact h
          · exact absurd (b2i_f h) c138
        refine e_aload_n dX4_advance_141 rfl ?_
        refine cV0x dX4_advance_142 mo_X4_readNumber ml_X4_61 sh_tk rfl (Nat.le_of_ble_eq_true rfl) (by omega) (c_readNumber hp c138 h4 hT h2) ?_
        rintro r M1 ⟨rfl, hV, h3, h6⟩
        dsimp only [Option.toList, List.cons_append, List.nil_append]
        refine e_goto (tgt := 180) dX4_advance_145 (by decide) ?_
        refine e_vret dX4_advance_180 rfl ?_
        refine ⟨rfl, hV.1, hV.2.1, ?_, ?_, hV.2.2.2.1.trans h4, hV.2.2.2.2.trans h9, fun q => ?_, fun q => h6, fun q => ?_⟩
        · rw [show enP t p = _ from (if_pos hp).trans ((if_neg c117).trans (if_pos c138))]; exact hV.2.2.1
        · rw [show kdP t p = _ from (if_pos hp).trans ((if_neg c117).trans (if_pos c138))]; exact h3
        · rw [show kdP t p = _ from (if_pos hp).trans ((if_neg c117).trans (if_pos c138))] at q; exact absurd q (by split <;> decide)
        · rw [show kdP t p = _ from (if_pos hp).trans ((if_neg c117).trans (if_pos c138))] at q; exact absurd q (by split <;> decide)
    · -- 117 goes on
      have c117 : vWi (t.2 p) 97 122 := by
        by_cases h : (vWi (t.2 p) 97 122)
        · exact h
        · exact absurd (b2i_f h) c117
      refine e_aload_n dX4_advance_120 rfl ?_
      refine cV0x dX4_advance_121 mo_X4_readWord ml_X4_58 sh_tk rfl (Nat.le_of_ble_eq_true rfl) (by omega) (c_readWord hp c117 h4 hT h2) ?_
      rintro r M1 ⟨rfl, hV, h3, h27, h28⟩
      dsimp only [Option.toList, List.cons_append, List.nil_append]
      refine e_goto (tgt := 180) dX4_advance_124 (by decide) ?_
      refine e_vret dX4_advance_180 rfl ?_
      refine ⟨rfl, hV.1, hV.2.1, ?_, ?_, hV.2.2.2.1.trans h4, hV.2.2.2.2.trans h9, fun q => ?_, fun q => ?_, fun q => ⟨h27, h28⟩⟩
      · rw [show enP t p = _ from (if_pos hp).trans (if_pos c117)]; exact hV.2.2.1
      · rw [show kdP t p = _ from (if_pos hp).trans (if_pos c117)]; exact h3
      · rw [show kdP t p = _ from (if_pos hp).trans (if_pos c117)] at q; exact absurd q (by split <;> decide)
      · rw [show kdP t p = _ from (if_pos hp).trans (if_pos c117)] at q; exact absurd q (by split <;> decide)
set_option maxHeartbeats 4000000 in
set_option maxRecDepth 20000 in
theorem l_ad64 {G : Gt} {M : Mm} {t : Tv} {p : Nat} (hI : TI t) (hp : p ≤ t.1) (hT : TX M t) (h2 : M.1 6 2 = nI p) (h9 : M.1 6 9 = 0) : ∀ (k : Nat) , (0 < k) → Ev G 8 mX4_advance 64 [.ref 6] [] M (fun r M' => r = none ∧ TS M M' ∧ TP M' t p) := by
  intro k
  induction k with
  | zero => intro  hk; exact absurd hk (by omega)
  | succ k ih =>
    intro  hk
    have ht1 := hT.2.1
    refine e_aload_n dX4_advance_64 rfl ?_
    refine e_aload_n dX4_advance_65 rfl ?_
    refine e_getI dX4_advance_66 fl_X4_36 sh_tk rfl ?_
    rw [h2]
    refine e_putI dX4_advance_69 fl_X4_49 sh_tk rfl rfl rfl ?_
    refine e_aload_n dX4_advance_72 rfl ?_
    refine e_aload_n dX4_advance_73 rfl ?_
    refine e_getR dX4_advance_74 fl_X4_9 sh_tk rfl ?_
    refine e_aload_n dX4_advance_77 rfl ?_
    refine e_getI dX4_advance_78 fl_X4_36 sh_tk rfl ?_
    rw [setI_1, if_neg (by decide), h2]
    refine cS2r dX4_advance_81 mo_X10_at ml_X4_45 (Nat.le_of_ble_eq_true rfl) (by omega) (c_at sa_tk_signs (by decide)) ?_
    refine e_putI dX4_advance_84 fl_X4_52 sh_tk rfl rfl rfl ?_
    refine e_aload_n dX4_advance_87 rfl ?_
    refine e_getI dX4_advance_88 fl_X4_36 sh_tk rfl ?_
    rw [setI_1, if_neg (by decide), setI_1, if_neg (by decide)]; rw [h2]
    refine e_aload_n dX4_advance_91 rfl ?_
    refine e_getI dX4_advance_92 fl_X4_28 sh_tk rfl ?_
    rw [setI_1, if_neg (by decide), setI_1, if_neg (by decide)]; rw [hT.1]
    refine e_icmp_lt (tgt := 106) dX4_advance_95 (by decide) (fun c95 => ?_) (fun c95 => ?_)
    · -- 95 jumps
      have hpn : p < t.1 := lt_of (by omega) (by omega) c95
      refine (l_ad106 hI hpn ?_ ?_ ?_ ?_ ?_ 1 (by omega)).weaken (fun r M' h => ⟨h.1, ((TS.rfl'.i _ _).i _ _).trans h.2.1, h.2.2⟩)
      · exact ⟨by rw [setI_1, if_neg (by decide), setI_1, if_neg (by decide)]; exact hT.1, hT.2.1, fun k hk => by rw [setI_1, if_neg (by omega), setI_1, if_neg (by omega)]; exact hT.2.2 k hk⟩
      · rw [setI_1, if_neg (by decide), setI_1, if_neg (by decide)]; exact h2
      · rw [setI_1, if_neg (by decide), setI_1, if_pos ⟨rfl, rfl⟩]
      · rw [setI_1, if_neg (by decide), setI_1, if_neg (by decide)]; exact h9
      · rw [setI_1, if_pos ⟨rfl, rfl⟩, atI_nI (by decide) (by omega), setI_1, if_neg (by omega)]; exact hT.2.2 p hpn
    · -- 95 goes on
      refine e_aload_n dX4_advance_98 rfl ?_
      refine e_iconst (v := 0) dX4_advance_99 (by decide) ?_
      refine e_putI dX4_advance_100 fl_X4_55 sh_tk rfl rfl rfl ?_
      refine e_goto (tgt := 180) dX4_advance_103 (by decide) ?_
      refine e_vret dX4_advance_180 rfl ?_
      have hpn : p = t.1 := by have := ge_of (by omega) (by omega) c95; omega
      have hk0 : kdP t p = 0 := if_neg (by omega)
      have he0 : enP t p = p := if_neg (by omega)
      refine ⟨rfl, ((TS.rfl'.i _ _).i _ _).i _ _, ⟨by rw [setI_1, if_neg (by decide), setI_1, if_neg (by decide), setI_1, if_neg (by decide)]; exact hT.1, hT.2.1, fun k hk => by rw [setI_1, if_neg (by omega), setI_1, if_neg (by omega), setI_1, if_neg (by omega)]; exact hT.2.2 k hk⟩, by rw [he0]; rw [setI_1, if_neg (by decide), setI_1, if_neg (by decide), setI_1, if_neg (by decide)]; exact h2, by rw [hk0, setI_1, if_pos ⟨rfl, rfl⟩], by rw [setI_1, if_neg (by decide), setI_1, if_neg (by decide)]; rw [setI_1, if_pos ⟨rfl, rfl⟩], by rw [setI_1, if_neg (by decide), setI_1, if_neg (by decide), setI_1, if_neg (by decide)]; exact h9, fun q => absurd (hk0.symm.trans q) (by decide), fun q => absurd (hk0.symm.trans q) (by decide), fun q => absurd (hk0.symm.trans q) (by decide)⟩
set_option maxHeartbeats 4000000 in
set_option maxRecDepth 20000 in
theorem l_ad8 {G : Gt} {M : Mm} {t : Tv} {p : Nat} (hI : TI t) : ∀ (k : Nat) (i : Nat) (Mc : Mm), (i ≤ t.1) → (t.1 < i + k) → (p = pl t i) → (TS M Mc ∧ TX Mc t ∧ Mc.1 6 2 = nI i ∧ Mc.1 6 9 = 0) → Ev G 8 mX4_advance 8 [.ref 6] [] Mc (fun r M' => r = none ∧ TS M M' ∧ TP M' t p) := by
  intro k
  induction k with
  | zero => intro i Mc hi hk hr hv; exact absurd hk (by omega)
  | succ k ih =>
    intro i Mc hi hk hr hv
    have ht1 := hv.2.1.2.1
    refine e_aload_n dX4_advance_8 rfl ?_
    refine e_getI dX4_advance_9 fl_X4_36 sh_tk rfl ?_
    rw [hv.2.2.1]
    refine e_aload_n dX4_advance_12 rfl ?_
    refine e_getI dX4_advance_13 fl_X4_28 sh_tk rfl ?_
    rw [hv.2.1.1]
    refine e_icmp_ge (tgt := 64) dX4_advance_16 (by decide) (fun c16 => ?_) (fun c16 => ?_)
    · -- 16 jumps
      have hin : i = t.1 := by have := ge_of (by omega) (by omega) c16; omega
      have he : p = i := hr.trans (pl_n (by omega))
      subst he
      exact (l_ad64 hI hi hv.2.1 hv.2.2.1 hv.2.2.2 1 (by omega)).weaken (fun r M' h => ⟨h.1, hv.1.trans h.2.1, h.2.2⟩)
    · -- 16 goes on
      have hlt : i < t.1 := lt_of (by omega) (by omega) c16
      refine e_aload_n dX4_advance_19 rfl ?_
      refine e_getR dX4_advance_20 fl_X4_9 sh_tk rfl ?_
      refine e_aload_n dX4_advance_23 rfl ?_
      refine e_getI dX4_advance_24 fl_X4_36 sh_tk rfl ?_
      rw [hv.2.2.1]
      refine cS2r dX4_advance_27 mo_X10_at ml_X4_45 (Nat.le_of_ble_eq_true rfl) (by omega) (c_atN (sa_tk_signs) (by decide) (by first | omega | decide)) ?_
      rw [hv.2.1.2.2 i hlt]
      refine e_bipush (v := 32) dX4_advance_30 (by decide) ?_
      refine e_icmp_eq (tgt := 51) dX4_advance_32 (by decide) (fun c32 => ?_) (fun c32 => ?_)
      · -- 32 jumps
        refine e_aload_n dX4_advance_51 rfl ?_
        refine e_dup dX4_advance_52 rfl ?_
        refine e_getI dX4_advance_53 fl_X4_36 sh_tk rfl ?_
        rw [hv.2.2.1]
        refine e_iconst (v := 1) dX4_advance_56 (by decide) ?_
        refine e_iadd dX4_advance_57 ?_
        refine e_putI dX4_advance_58 fl_X4_36 sh_tk rfl rfl rfl ?_
        refine e_goto (tgt := 8) dX4_advance_61 (by decide) ?_
        refine ih (i + 1) _ (by omega) (by omega) (hr.trans (pl_s hlt (Or.inl c32))) ⟨hv.1.i _ _, ⟨by rw [setI_1, if_neg (by decide)]; exact hv.2.1.1, hv.2.1.2.1, fun k hk => by rw [setI_1, if_neg (by omega)]; exact hv.2.1.2.2 k hk⟩, by rw [setI_1, if_pos ⟨rfl, rfl⟩]; exact nI_1 i, by rw [setI_1, if_neg (by decide)]; exact hv.2.2.2⟩
      · -- 32 goes on
        refine e_aload_n dX4_advance_35 rfl ?_
        refine e_getR dX4_advance_36 fl_X4_9 sh_tk rfl ?_
        refine e_aload_n dX4_advance_39 rfl ?_
        refine e_getI dX4_advance_40 fl_X4_36 sh_tk rfl ?_
        rw [hv.2.2.1]
        refine cS2r dX4_advance_43 mo_X10_at ml_X4_45 (Nat.le_of_ble_eq_true rfl) (by omega) (c_atN (sa_tk_signs) (by decide) (by first | omega | decide)) ?_
        rw [hv.2.1.2.2 i hlt]
        refine e_bipush (v := 10) dX4_advance_46 (by decide) ?_
        refine e_icmp_ne (tgt := 64) dX4_advance_48 (by decide) (fun c48 => ?_) (fun c48 => ?_)
        · -- 48 jumps
          have he : p = i := hr.trans (pl_e hlt (by rintro (q | q) <;> first | exact c32 q | exact c48 q))
          subst he
          exact (l_ad64 hI hi hv.2.1 hv.2.2.1 hv.2.2.2 1 (by omega)).weaken (fun r M' h => ⟨h.1, hv.1.trans h.2.1, h.2.2⟩)
        · -- 48 goes on
          refine e_aload_n dX4_advance_51 rfl ?_
          refine e_dup dX4_advance_52 rfl ?_
          refine e_getI dX4_advance_53 fl_X4_36 sh_tk rfl ?_
          rw [hv.2.2.1]
          refine e_iconst (v := 1) dX4_advance_56 (by decide) ?_
          refine e_iadd dX4_advance_57 ?_
          refine e_putI dX4_advance_58 fl_X4_36 sh_tk rfl rfl rfl ?_
          refine e_goto (tgt := 8) dX4_advance_61 (by decide) ?_
          refine ih (i + 1) _ (by omega) (by omega) (hr.trans (pl_s hlt (Or.inr c48))) ⟨hv.1.i _ _, ⟨by rw [setI_1, if_neg (by decide)]; exact hv.2.1.1, hv.2.1.2.1, fun k hk => by rw [setI_1, if_neg (by omega)]; exact hv.2.1.2.2 k hk⟩, by rw [setI_1, if_pos ⟨rfl, rfl⟩]; exact nI_1 i, by rw [setI_1, if_neg (by decide)]; exact hv.2.2.2⟩
set_option maxHeartbeats 4000000 in
set_option maxRecDepth 20000 in
theorem c_adv {G : Gt} {M : Mm} {t : Tv} {i : Nat} (hI : TI t) (hi : i ≤ t.1) (hT : TX M t) (h2 : M.1 6 2 = nI i) (h9 : M.1 6 9 = 0) : Call G 8 mX4_advance [.ref 6] M (fun r M' => r = none ∧ TS M M' ∧ TP M' t (pl t i)) := by
  refine Call.intro rfl (Nat.le_of_ble_eq_true rfl) ?_
  show Ev G _ mX4_advance 0 [.ref 6] [] M _
  refine e_aload_n dX4_advance_0 rfl ?_
  refine e_getI dX4_advance_1 fl_X4_39 sh_tk rfl ?_
  refine e_if_eq (tgt := 8) dX4_advance_4 (by decide) (fun c4 => ?_) (fun c4 => absurd c4 (fun q => q h9))
  exact l_ad8 hI (t.1 + 1) i M hi (by omega) rfl ⟨TS.rfl', hT, h2, h9⟩
set_option maxHeartbeats 4000000 in
set_option maxRecDepth 20000 in
theorem c_advF {G : Gt} {M : Mm} (h9 : ¬ M.1 6 9 = 0) : Call G 8 mX4_advance [.ref 6] M (eqQ none M) := by
  refine Call.intro rfl (Nat.le_of_ble_eq_true rfl) ?_
  show Ev G _ mX4_advance 0 [.ref 6] [] M _
  refine e_aload_n dX4_advance_0 rfl ?_
  refine e_getI dX4_advance_1 fl_X4_39 sh_tk rfl ?_
  refine e_if_eq (tgt := 8) dX4_advance_4 (by decide) (fun c4 => absurd c4 h9) (fun c4 => ?_)
  refine e_vret dX4_advance_7 rfl ?_
  exact ⟨rfl, rfl⟩
end XT2
