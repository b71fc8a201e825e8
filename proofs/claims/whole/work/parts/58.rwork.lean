section RWK
/-- a law worked out: its rows 255 .. 263 and the facts' row 264 -/
def WD (M M' : Mm) : Prop := M'.2 = M.2 ∧ ∀ i, ¬ (255 ≤ i ∧ i ≤ 264) → M'.1 i = M.1 i
def WE (M M' : Mm) : Prop := M'.2 = M.2 ∧ ∀ i, ¬ (255 ≤ i ∧ i ≤ 263) → M'.1 i = M.1 i
theorem WE.rfl' {M : Mm} : WE M M := ⟨rfl, fun _ _ => rfl⟩
theorem WE.trans {A B C : Mm} (h : WE A B) (k : WE B C) : WE A C := ⟨k.1.trans h.1, fun i q => (k.2 i q).trans (h.2 i q)⟩
theorem WE.i {M Mc : Mm} (h : WE M Mc) (c k : Nat) (v : Int32) (hc : 255 ≤ c ∧ c ≤ 263) : WE M (setI Mc c k v) := ⟨h.1, fun i q => by rw [← h.2 i q]; funext z; rw [setI_1, if_neg (fun x => q (by rw [x.1]; exact hc))]⟩
def opM (M : Mm) (d : Nat) : Mm := setI (setI (setI (setI (setI M 256 d 0) 258 d 0) 259 d 0) 260 d 20) 262 d 0
/-- a sum, a test, a law so far -/
def pnd (M : Mm) (d : Nat) : Int32 := if M.1 260 d = 21 then M.1 259 d - M.1 261 d else M.1 259 d + M.1 261 d
def tvl (M : Mm) (d : Nat) : Int32 := if M.1 258 d = 25 then b2i (M.1 257 d = pnd M d) else if M.1 258 d = 24 then b2i (M.1 257 d < pnd M d) else pnd M d
def avl (M : Mm) (d : Nat) : Int32 := if M.1 256 d = 27 then b2i (¬ M.1 255 d = 0 ∨ ¬ tvl M d = 0) else if M.1 256 d = 26 then b2i (¬ M.1 255 d = 0 ∧ ¬ tvl M d = 0) else tvl M d
def smM (M : Mm) (d : Nat) : Mm := setI (setI M 259 d (pnd M d)) 262 d 0
def teM (M : Mm) (d : Nat) : Mm := setI (setI (setI (setI (smM M d) 255 d (avl M d)) 258 d 0) 259 d 0) 260 d 20
theorem WE.op {M Mc : Mm} (h : WE M Mc) (d : Nat) : WE M (opM Mc d) := ((((h.i 256 d 0 (by decide)).i 258 d 0 (by decide)).i 259 d 0 (by decide)).i 260 d 20 (by decide)).i 262 d 0 (by decide)
theorem WE.sm {M Mc : Mm} (h : WE M Mc) (d : Nat) : WE M (smM Mc d) := (h.i 259 d _ (by decide)).i 262 d 0 (by decide)
theorem WE.te {M Mc : Mm} (h : WE M Mc) (d : Nat) : WE M (teM Mc d) := ((((h.sm d).i 255 d _ (by decide)).i 258 d 0 (by decide)).i 259 d 0 (by decide)).i 260 d 20 (by decide)
set_option maxHeartbeats 4000000 in
set_option maxRecDepth 20000 in
theorem r_opens {G : Gt} {M : Mm} {d : Nat} (hd : d < 7) : Call G 1 mX11_opens [.ref 238, .int (nI d)] M (eqQ none (opM M d)) := by
  refine Call.intro rfl (Nat.le_of_ble_eq_true rfl) ?_
  show Ev G _ mX11_opens 0 [.ref 238, .int (nI d)] [] M _
  refine e_aload_n dX11_opens_0 rfl ?_
  refine e_getR dX11_opens_1 fl_X11_63 sh_m rfl ?_
  refine e_iload_n dX11_opens_4 rfl ?_
  refine e_iconst (v := 0) dX11_opens_5 (by decide) ?_
  refine e_iastN (j := d) dX11_opens_6 (sa_m_keptBy) (by decide) (by omega) ?_
  refine e_aload_n dX11_opens_7 rfl ?_
  refine e_getR dX11_opens_8 fl_X11_69 sh_m rfl ?_
  refine e_iload_n dX11_opens_11 rfl ?_
  refine e_iconst (v := 0) dX11_opens_12 (by decide) ?_
  refine e_iastN (j := d) dX11_opens_13 (sa_m_against) (by decide) (by omega) ?_
  refine e_aload_n dX11_opens_14 rfl ?_
  refine e_getR dX11_opens_15 fl_X11_72 sh_m rfl ?_
  refine e_iload_n dX11_opens_18 rfl ?_
  refine e_iconst (v := 0) dX11_opens_19 (by decide) ?_
  refine e_iastN (j := d) dX11_opens_20 (sa_m_sum) (by decide) (by omega) ?_
  refine e_aload_n dX11_opens_21 rfl ?_
  refine e_getR dX11_opens_22 fl_X11_75 sh_m rfl ?_
  refine e_iload_n dX11_opens_25 rfl ?_
  refine e_bipush (v := 20) dX11_opens_26 (by decide) ?_
  refine e_iastN (j := d) dX11_opens_28 (sa_m_sumBy) (by decide) (by omega) ?_
  refine e_aload_n dX11_opens_29 rfl ?_
  refine e_getR dX11_opens_30 fl_X11_81 sh_m rfl ?_
  refine e_iload_n dX11_opens_33 rfl ?_
  refine e_iconst (v := 0) dX11_opens_34 (by decide) ?_
  refine e_iastN (j := d) dX11_opens_35 (sa_m_termBy) (by decide) (by omega) ?_
  refine e_vret dX11_opens_36 rfl ?_
  exact ⟨rfl, rfl⟩
set_option maxHeartbeats 4000000 in
set_option maxRecDepth 20000 in
theorem r_sums {G : Gt} {M : Mm} {d : Nat} (hd : d < 7) : Call G 1 mX11_sums [.ref 238, .int (nI d)] M (eqQ none (smM M d)) := by
  refine Call.intro rfl (Nat.le_of_ble_eq_true rfl) ?_
  show Ev G _ mX11_sums 0 [.ref 238, .int (nI d)] [] M _
  refine e_aload_n dX11_sums_0 rfl ?_
  refine e_getR dX11_sums_1 fl_X11_72 sh_m rfl ?_
  refine e_iload_n dX11_sums_4 rfl ?_
  refine e_aload_n dX11_sums_5 rfl ?_
  refine e_getR dX11_sums_6 fl_X11_75 sh_m rfl ?_
  refine e_iload_n dX11_sums_9 rfl ?_
  refine e_ialdN (j := d) dX11_sums_10 (sa_m_sumBy) (by decide) (by omega) ?_
  refine e_bipush (v := 21) dX11_sums_11 (by decide) ?_
  refine e_icmp_ne (tgt := 32) dX11_sums_13 (by decide) (fun c13 => ?_) (fun c13 => ?_)
  · -- 13 jumps
    refine e_aload_n dX11_sums_32 rfl ?_
    refine e_getR dX11_sums_33 fl_X11_72 sh_m rfl ?_
    refine e_iload_n dX11_sums_36 rfl ?_
    refine e_ialdN (j := d) dX11_sums_37 (sa_m_sum) (by decide) (by omega) ?_
    refine e_aload_n dX11_sums_38 rfl ?_
    refine e_getR dX11_sums_39 fl_X11_78 sh_m rfl ?_
    refine e_iload_n dX11_sums_42 rfl ?_
    refine e_ialdN (j := d) dX11_sums_43 (sa_m_term) (by decide) (by omega) ?_
    refine e_iadd dX11_sums_44 ?_
    refine e_iastN (j := d) dX11_sums_45 (sa_m_sum) (by decide) (by omega) ?_
    refine e_aload_n dX11_sums_46 rfl ?_
    refine e_getR dX11_sums_47 fl_X11_81 sh_m rfl ?_
    refine e_iload_n dX11_sums_50 rfl ?_
    refine e_iconst (v := 0) dX11_sums_51 (by decide) ?_
    refine e_iastN (j := d) dX11_sums_52 (sa_m_termBy) (by decide) (by omega) ?_
    refine e_vret dX11_sums_53 rfl ?_
    exact ⟨rfl, by unfold smM pnd; rw [if_neg c13]⟩
  · -- 13 goes on
    refine e_aload_n dX11_sums_16 rfl ?_
    refine e_getR dX11_sums_17 fl_X11_72 sh_m rfl ?_
    refine e_iload_n dX11_sums_20 rfl ?_
    refine e_ialdN (j := d) dX11_sums_21 (sa_m_sum) (by decide) (by omega) ?_
    refine e_aload_n dX11_sums_22 rfl ?_
    refine e_getR dX11_sums_23 fl_X11_78 sh_m rfl ?_
    refine e_iload_n dX11_sums_26 rfl ?_
    refine e_ialdN (j := d) dX11_sums_27 (sa_m_term) (by decide) (by omega) ?_
    refine e_isub dX11_sums_28 ?_
    refine e_goto (tgt := 45) dX11_sums_29 (by decide) ?_
    refine e_iastN (j := d) dX11_sums_45 (sa_m_sum) (by decide) (by omega) ?_
    refine e_aload_n dX11_sums_46 rfl ?_
    refine e_getR dX11_sums_47 fl_X11_81 sh_m rfl ?_
    refine e_iload_n dX11_sums_50 rfl ?_
    refine e_iconst (v := 0) dX11_sums_51 (by decide) ?_
    refine e_iastN (j := d) dX11_sums_52 (sa_m_termBy) (by decide) (by omega) ?_
    refine e_vret dX11_sums_53 rfl ?_
    exact ⟨rfl, by unfold smM pnd; rw [if_pos c13]⟩
theorem teM_k {M : Mm} {d : Nat} : (teM M d).1 255 d = avl M d := by
  unfold teM
  rw [setI_1, if_neg (fun x => absurd x.1 (by decide)), setI_1, if_neg (fun x => absurd x.1 (by decide)), setI_1, if_neg (fun x => absurd x.1 (by decide)), setI_1, if_pos ⟨rfl, rfl⟩]
theorem smM_1 {M : Mm} {d q : Nat} (h : ¬ q = 259) (h2 : ¬ q = 262) (k : Nat) : (smM M d).1 q k = M.1 q k := by
  unfold smM; rw [setI_1, if_neg (fun x => h2 x.1), setI_1, if_neg (fun x => h x.1)]
theorem smM_s {M : Mm} {d : Nat} : (smM M d).1 259 d = pnd M d := by
  unfold smM; rw [setI_1, if_neg (fun x => absurd x.1 (by decide)), setI_1, if_pos ⟨rfl, rfl⟩]
set_option maxHeartbeats 4000000 in
set_option maxRecDepth 20000 in
theorem t_136 {G : Gt} {M0 : Mm} {d : Nat} {v : Int32} (hd : d < 7) : Ev G 2 mX11_tests 136 [.ref 238, .int (nI d), .int v] [] (smM M0 d) (fun r M' => r = none ∧ M' = setI (setI (setI (setI (smM M0 d) 255 d (v)) 258 d 0) 259 d 0) 260 d 20) := by
  refine e_aload_n dX11_tests_136 rfl ?_
  refine e_getR dX11_tests_137 fl_X11_60 sh_m rfl ?_
  refine e_iload_n dX11_tests_140 rfl ?_
  refine e_iload_n dX11_tests_141 rfl ?_
  refine e_iastN (j := d) dX11_tests_142 (sa_m_kept) (by decide) (by omega) ?_
  refine e_aload_n dX11_tests_143 rfl ?_
  refine e_getR dX11_tests_144 fl_X11_69 sh_m rfl ?_
  refine e_iload_n dX11_tests_147 rfl ?_
  refine e_iconst (v := 0) dX11_tests_148 (by decide) ?_
  refine e_iastN (j := d) dX11_tests_149 (sa_m_against) (by decide) (by omega) ?_
  refine e_aload_n dX11_tests_150 rfl ?_
  refine e_getR dX11_tests_151 fl_X11_72 sh_m rfl ?_
  refine e_iload_n dX11_tests_154 rfl ?_
  refine e_iconst (v := 0) dX11_tests_155 (by decide) ?_
  refine e_iastN (j := d) dX11_tests_156 (sa_m_sum) (by decide) (by omega) ?_
  refine e_aload_n dX11_tests_157 rfl ?_
  refine e_getR dX11_tests_158 fl_X11_75 sh_m rfl ?_
  refine e_iload_n dX11_tests_161 rfl ?_
  refine e_bipush (v := 20) dX11_tests_162 (by decide) ?_
  refine e_iastN (j := d) dX11_tests_164 (sa_m_sumBy) (by decide) (by omega) ?_
  refine e_vret dX11_tests_165 rfl ?_
  exact ⟨rfl, rfl⟩
set_option maxHeartbeats 4000000 in
set_option maxRecDepth 20000 in
theorem t_106 {G : Gt} {M0 : Mm} {d : Nat} {v : Int32} (hd : d < 7) : Ev G 2 mX11_tests 106 [.ref 238, .int (nI d), .int v] [] (smM M0 d) (fun r M' => r = none ∧ M' = setI (setI (setI (setI (smM M0 d) 255 d ((if M0.1 256 d = 27 then b2i (¬ M0.1 255 d = 0 ∨ ¬ v = 0) else v))) 258 d 0) 259 d 0) 260 d 20) := by
  refine e_aload_n dX11_tests_106 rfl ?_
  refine e_getR dX11_tests_107 fl_X11_63 sh_m rfl ?_
  refine e_iload_n dX11_tests_110 rfl ?_
  refine e_ialdN (j := d) dX11_tests_111 (sa_m_keptBy) (by decide) (by omega) ?_
  rw [smM_1 (by decide) (by decide)]
  refine e_bipush (v := 27) dX11_tests_112 (by decide) ?_
  refine e_icmp_ne (tgt := 136) dX11_tests_114 (by decide) (fun c114 => ?_) (fun c114 => ?_)
  · -- 114 jumps
    rw [if_neg c114]
    exact t_136 hd
  · -- 114 goes on
    refine e_aload_n dX11_tests_117 rfl ?_
    refine e_getR dX11_tests_118 fl_X11_60 sh_m rfl ?_
    refine e_iload_n dX11_tests_121 rfl ?_
    refine e_ialdN (j := d) dX11_tests_122 (sa_m_kept) (by decide) (by omega) ?_
    rw [smM_1 (by decide) (by decide)]
    refine e_if_ne (tgt := 130) dX11_tests_123 (by decide) (fun c123 => ?_) (fun c123 => ?_)
    · -- 123 jumps
      refine e_iconst (v := 1) dX11_tests_130 (by decide) ?_
      refine e_goto (tgt := 135) dX11_tests_131 (by decide) ?_
      refine e_istore_n (ls' := [_, _, _]) dX11_tests_135 (by decide) rfl ?_
      rw [if_pos c114, b2i_t (Or.inl c123)]
      exact t_136 hd
    · -- 123 goes on
      refine e_iload_n dX11_tests_126 rfl ?_
      refine e_if_eq (tgt := 134) dX11_tests_127 (by decide) (fun c127 => ?_) (fun c127 => ?_)
      · -- 127 jumps
        refine e_iconst (v := 0) dX11_tests_134 (by decide) ?_
        refine e_istore_n (ls' := [_, _, _]) dX11_tests_135 (by decide) rfl ?_
        rw [if_pos c114, b2i_f (fun q => q.elim (fun z => z c123) (fun z => z c127))]
        exact t_136 hd
      · -- 127 goes on
        refine e_iconst (v := 1) dX11_tests_130 (by decide) ?_
        refine e_goto (tgt := 135) dX11_tests_131 (by decide) ?_
        refine e_istore_n (ls' := [_, _, _]) dX11_tests_135 (by decide) rfl ?_
        rw [if_pos c114, b2i_t (Or.inr c127)]
        exact t_136 hd
set_option maxHeartbeats 4000000 in
set_option maxRecDepth 20000 in
theorem t_76 {G : Gt} {M0 : Mm} {d : Nat} {v : Int32} (hd : d < 7) : Ev G 2 mX11_tests 76 [.ref 238, .int (nI d), .int v] [] (smM M0 d) (fun r M' => r = none ∧ M' = setI (setI (setI (setI (smM M0 d) 255 d ((if M0.1 256 d = 27 then b2i (¬ M0.1 255 d = 0 ∨ ¬ v = 0) else if M0.1 256 d = 26 then b2i (¬ M0.1 255 d = 0 ∧ ¬ v = 0) else v))) 258 d 0) 259 d 0) 260 d 20) := by
  refine e_aload_n dX11_tests_76 rfl ?_
  refine e_getR dX11_tests_77 fl_X11_63 sh_m rfl ?_
  refine e_iload_n dX11_tests_80 rfl ?_
  refine e_ialdN (j := d) dX11_tests_81 (sa_m_keptBy) (by decide) (by omega) ?_
  rw [smM_1 (by decide) (by decide)]
  refine e_bipush (v := 26) dX11_tests_82 (by decide) ?_
  refine e_icmp_ne (tgt := 106) dX11_tests_84 (by decide) (fun c84 => ?_) (fun c84 => ?_)
  · -- 84 jumps
    rw [if_neg c84]
    exact t_106 hd
  · -- 84 goes on
    refine e_aload_n dX11_tests_87 rfl ?_
    refine e_getR dX11_tests_88 fl_X11_60 sh_m rfl ?_
    refine e_iload_n dX11_tests_91 rfl ?_
    refine e_ialdN (j := d) dX11_tests_92 (sa_m_kept) (by decide) (by omega) ?_
    rw [smM_1 (by decide) (by decide)]
    refine e_if_eq (tgt := 104) dX11_tests_93 (by decide) (fun c93 => ?_) (fun c93 => ?_)
    · -- 93 jumps
      refine e_iconst (v := 0) dX11_tests_104 (by decide) ?_
      refine e_istore_n (ls' := [_, _, _]) dX11_tests_105 (by decide) rfl ?_
      rw [if_neg (fun q => absurd (c84.symm.trans q) (by decide)), if_pos c84]
      rw [b2i_f (fun q => q.1 c93)]
      have h := t_106 (G := G) (M0 := M0) (d := d) (v := 0) hd
      rw [if_neg (fun q => absurd (c84.symm.trans q) (by decide))] at h
      exact h
    · -- 93 goes on
      refine e_iload_n dX11_tests_96 rfl ?_
      refine e_if_eq (tgt := 104) dX11_tests_97 (by decide) (fun c97 => ?_) (fun c97 => ?_)
      · -- 97 jumps
        refine e_iconst (v := 0) dX11_tests_104 (by decide) ?_
        refine e_istore_n (ls' := [_, _, _]) dX11_tests_105 (by decide) rfl ?_
        rw [if_neg (fun q => absurd (c84.symm.trans q) (by decide)), if_pos c84]
        rw [b2i_f (fun q => q.2 c97)]
        have h := t_106 (G := G) (M0 := M0) (d := d) (v := 0) hd
        rw [if_neg (fun q => absurd (c84.symm.trans q) (by decide))] at h
        exact h
      · -- 97 goes on
        refine e_iconst (v := 1) dX11_tests_100 (by decide) ?_
        refine e_goto (tgt := 105) dX11_tests_101 (by decide) ?_
        refine e_istore_n (ls' := [_, _, _]) dX11_tests_105 (by decide) rfl ?_
        rw [if_neg (fun q => absurd (c84.symm.trans q) (by decide)), if_pos c84]
        rw [b2i_t ⟨c93, c97⟩]
        have h := t_106 (G := G) (M0 := M0) (d := d) (v := 1) hd
        rw [if_neg (fun q => absurd (c84.symm.trans q) (by decide))] at h
        exact h
set_option maxHeartbeats 4000000 in
set_option maxRecDepth 20000 in
theorem t_44 {G : Gt} {M0 : Mm} {d : Nat} {v : Int32} (hd : d < 7) : Ev G 2 mX11_tests 44 [.ref 238, .int (nI d), .int v] [] (smM M0 d) (fun r M' => r = none ∧ M' = setI (setI (setI (setI (smM M0 d) 255 d ((if M0.1 256 d = 27 then b2i (¬ M0.1 255 d = 0 ∨ ¬ (if M0.1 258 d = 25 then b2i (M0.1 257 d = pnd M0 d) else v) = 0) else if M0.1 256 d = 26 then b2i (¬ M0.1 255 d = 0 ∧ ¬ (if M0.1 258 d = 25 then b2i (M0.1 257 d = pnd M0 d) else v) = 0) else (if M0.1 258 d = 25 then b2i (M0.1 257 d = pnd M0 d) else v)))) 258 d 0) 259 d 0) 260 d 20) := by
  refine e_aload_n dX11_tests_44 rfl ?_
  refine e_getR dX11_tests_45 fl_X11_69 sh_m rfl ?_
  refine e_iload_n dX11_tests_48 rfl ?_
  refine e_ialdN (j := d) dX11_tests_49 (sa_m_against) (by decide) (by omega) ?_
  rw [smM_1 (by decide) (by decide)]
  refine e_bipush (v := 25) dX11_tests_50 (by decide) ?_
  refine e_icmp_ne (tgt := 76) dX11_tests_52 (by decide) (fun c52 => ?_) (fun c52 => ?_)
  · -- 52 jumps
    rw [if_neg c52]
    exact t_76 hd
  · -- 52 goes on
    refine e_aload_n dX11_tests_55 rfl ?_
    refine e_getR dX11_tests_56 fl_X11_66 sh_m rfl ?_
    refine e_iload_n dX11_tests_59 rfl ?_
    refine e_ialdN (j := d) dX11_tests_60 (sa_m_ahead) (by decide) (by omega) ?_
    rw [smM_1 (by decide) (by decide)]
    refine e_aload_n dX11_tests_61 rfl ?_
    refine e_getR dX11_tests_62 fl_X11_72 sh_m rfl ?_
    refine e_iload_n dX11_tests_65 rfl ?_
    refine e_ialdN (j := d) dX11_tests_66 (sa_m_sum) (by decide) (by omega) ?_
    rw [smM_s]
    refine e_icmp_ne (tgt := 74) dX11_tests_67 (by decide) (fun c67 => ?_) (fun c67 => ?_)
    · -- 67 jumps
      refine e_iconst (v := 0) dX11_tests_74 (by decide) ?_
      refine e_istore_n (ls' := [_, _, _]) dX11_tests_75 (by decide) rfl ?_
      rw [if_pos c52, b2i_f c67]
      exact t_76 hd
    · -- 67 goes on
      refine e_iconst (v := 1) dX11_tests_70 (by decide) ?_
      refine e_goto (tgt := 75) dX11_tests_71 (by decide) ?_
      refine e_istore_n (ls' := [_, _, _]) dX11_tests_75 (by decide) rfl ?_
      rw [if_pos c52, b2i_t c67]
      exact t_76 hd
set_option maxHeartbeats 4000000 in
set_option maxRecDepth 20000 in
theorem r_tests {G : Gt} {M : Mm} {d : Nat} (hd : d < 7) : Call G 2 mX11_tests [.ref 238, .int (nI d)] M (eqQ none (teM M d)) := by
  refine Call.intro rfl (Nat.le_of_ble_eq_true rfl) ?_
  show Ev G _ mX11_tests 0 [.ref 238, .int (nI d), RA] [] M _
  refine e_aload_n dX11_tests_0 rfl ?_
  refine e_iload_n dX11_tests_1 rfl ?_
  refine cV1v dX11_tests_2 mo_X11_sums ml_X11_231 sh_m rfl (Nat.le_of_ble_eq_true rfl) (by omega) (r_sums (by omega)) ?_
  refine e_aload_n dX11_tests_5 rfl ?_
  refine e_getR dX11_tests_6 fl_X11_72 sh_m rfl ?_
  refine e_iload_n dX11_tests_9 rfl ?_
  refine e_ialdN (j := d) dX11_tests_10 (sa_m_sum) (by decide) (by omega) ?_
  rw [smM_s]
  refine e_istore_n (ls' := [_, _, _]) dX11_tests_11 (by decide) rfl ?_
  refine e_aload_n dX11_tests_12 rfl ?_
  refine e_getR dX11_tests_13 fl_X11_69 sh_m rfl ?_
  refine e_iload_n dX11_tests_16 rfl ?_
  refine e_ialdN (j := d) dX11_tests_17 (sa_m_against) (by decide) (by omega) ?_
  rw [smM_1 (by decide) (by decide)]
  refine e_bipush (v := 24) dX11_tests_18 (by decide) ?_
  refine e_icmp_ne (tgt := 44) dX11_tests_20 (by decide) (fun c20 => ?_) (fun c20 => ?_)
  · -- 20 jumps
    have h := t_44 (G := G) (M0 := M) (d := d) (v := pnd M d) hd
    unfold teM avl tvl
    rw [if_neg c20]
    exact h
  · -- 20 goes on
    refine e_aload_n dX11_tests_23 rfl ?_
    refine e_getR dX11_tests_24 fl_X11_66 sh_m rfl ?_
    refine e_iload_n dX11_tests_27 rfl ?_
    refine e_ialdN (j := d) dX11_tests_28 (sa_m_ahead) (by decide) (by omega) ?_
    rw [smM_1 (by decide) (by decide)]
    refine e_aload_n dX11_tests_29 rfl ?_
    refine e_getR dX11_tests_30 fl_X11_72 sh_m rfl ?_
    refine e_iload_n dX11_tests_33 rfl ?_
    refine e_ialdN (j := d) dX11_tests_34 (sa_m_sum) (by decide) (by omega) ?_
    rw [smM_s]
    refine e_icmp_ge (tgt := 42) dX11_tests_35 (by decide) (fun c35 => ?_) (fun c35 => ?_)
    · -- 35 jumps
      refine e_iconst (v := 0) dX11_tests_42 (by decide) ?_
      refine e_istore_n (ls' := [_, _, _]) dX11_tests_43 (by decide) rfl ?_
      have h := t_44 (G := G) (M0 := M) (d := d) (v := 0) hd
      unfold teM avl tvl
      rw [if_pos c20, b2i_f c35]
      exact h
    · -- 35 goes on
      refine e_iconst (v := 1) dX11_tests_38 (by decide) ?_
      refine e_goto (tgt := 43) dX11_tests_39 (by decide) ?_
      refine e_istore_n (ls' := [_, _, _]) dX11_tests_43 (by decide) rfl ?_
      have h := t_44 (G := G) (M0 := M) (d := d) (v := 1) hd
      unfold teM avl tvl
      rw [if_pos c20, b2i_t c35]
      exact h
end RWK
