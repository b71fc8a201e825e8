section RDR
/-- nights by a set of colds -/
theorem nI_or10 {q : Nat} (hq : q ≤ 10) : (10 : Int32) - nI q = nI (10 - q) := nI_subN (a := 10) hq
set_option maxHeartbeats 4000000 in
set_option maxRecDepth 20000 in
theorem l_rch2 {G : Gt} {M : Mm} {E : Gs} (hJ : RJ M E) {T : Nat} (hI : SI E.Y E.S T) (hTT : T < 2 ^ 30) (hN : NS E.Y) {Q : Option Value → Mm → Prop} {j t q w : Nat} {a b : Int64} (ht : t ≤ 6) (hq : q ≤ 10) (hw : w < 64) (hK : ∀ (Mc : Mm) (u v : Value), TB 275 M Mc E.Y.n (itF E.Y E.S w t) → Ev G 6 mX11_chance 160 [.ref 238, .int (nI j), .int (nI t), .int (nI q), .long a, RA, .long b, RA, .int (nI w), .long (lN (wtN q w t)), RA, u, v] [] Mc Q) : ∀ (k : Nat) (i : Nat) (Mc : Mm) (v : Value), (i ≤ t) → (t < i + k) → (TB 275 M Mc E.Y.n (itF E.Y E.S w i)) → Ev G 6 mX11_chance 94 [.ref 238, .int (nI j), .int (nI t), .int (nI q), .long a, RA, .long b, RA, .int (nI w), .long (lN (wtN q w i)), RA, .int (nI i), v] [] Mc (Q) := by
  intro k
  induction k with
  | zero => intro i Mc v hi hk hT; exact absurd hk (by omega)
  | succ k ih =>
    intro i Mc v hi hk hT
    have hY := hJ.1
    have h6 := hY.1.2
    have hs5 := hY.2.1.2
    have hL := hJ.2.1
    have hS := hJ.2.2.1
    have hYc := hT.1.ry hY
    have hLc := hT.1.rl hL
    have hSc := hT.2.2
    refine e_iload dX11_chance_94 rfl ?_
    refine e_iload_n dX11_chance_96 rfl ?_
    refine e_icmp_ge (tgt := 160) dX11_chance_97 (by decide) (fun c97 => ?_) (fun c97 => ?_)
    · -- 97 jumps
      have hin : i = t := by have := ge_of (i := i) (n := t) (by omega) (by omega) c97; omega
      subst hin
      exact hK Mc _ _ hT
    · -- 97 goes on
      have hlt : i < t := lt_of (i := i) (n := t) (by omega) (by omega) c97
      refine e_iload dX11_chance_100 rfl ?_
      refine e_iload dX11_chance_102 rfl ?_
      refine e_ishr dX11_chance_104 ?_
      refine e_iconst (v := 1) dX11_chance_105 (by decide) ?_
      refine e_iand dX11_chance_106 ?_
      refine e_iconst (v := 1) dX11_chance_107 (by decide) ?_
      refine e_icmp_ne (tgt := 115) dX11_chance_108 (by decide) (fun c108 => ?_) (fun c108 => ?_)
      · -- 108 jumps
        refine e_iconst (v := 0) dX11_chance_115 (by decide) ?_
        refine e_istore (ls' := [_, _, _, _, _, _, _, _, _, _, _, _, _]) dX11_chance_116 (by decide) rfl ?_
        refine e_lload dX11_chance_118 rfl ?_
        refine e_iload dX11_chance_120 rfl ?_
        refine e_if_eq (tgt := 130) dX11_chance_122 (by decide) (fun c122 => ?_) (fun c122 => absurd c122 (by decide))
        refine e_bipush (v := 10) dX11_chance_130 (by decide) ?_
        refine e_iload_n dX11_chance_132 rfl ?_
        refine e_isub dX11_chance_133 ?_
        refine e_i2l dX11_chance_134 ?_
        refine e_lmul dX11_chance_135 ?_
        refine e_lstore (ls' := [_, _, _, _, _, _, _, _, _, _, _, _, _]) dX11_chance_136 (by decide) rfl ?_
        refine e_aload_n dX11_chance_138 rfl ?_
        refine e_iload dX11_chance_139 rfl ?_
        refine e_if_eq (tgt := 149) dX11_chance_141 (by decide) (fun c141 => ?_) (fun c141 => absurd c141 (by decide))
        refine e_iconst (v := 0) dX11_chance_149 (by decide) ?_
        refine cV1x dX11_chance_150 mo_X11_passes ml_X11_391 sh_m rfl (Nat.le_of_ble_eq_true rfl) (by omega) (r_passes hYc hSc hLc hN) ?_
        rintro r M2 ⟨rfl, hp1, hp2, hp3⟩
        dsimp only [Option.toList, List.cons_append, List.nil_append]
        refine e_pop dX11_chance_153 rfl ?_
        refine e_iinc (ls' := [_, _, _, _, _, _, _, _, _, _, _, _, _]) dX11_chance_154 rfl (nI_i1 _) (by decide) rfl ?_
        refine e_goto (tgt := 94) dX11_chance_157 (by decide) ?_
        have hcb : coldB w i = false := decide_eq_false c108
        have e1 : itF E.Y E.S w (i + 1) = passV E.Y (itF E.Y E.S w i) 0 := by rw [itF, hcb]; rfl
        have e2 : wtN q w (i + 1) = wtN q w i * (10 - q) := by rw [wtN, hcb]; rfl
        rw [nI_or10 hq, nI_l (by omega), lN_mul, ← e2]
        exact ih (i + 1) M2 _ (by omega) (by omega) (by rw [e1]; exact hT.pf tx5 hp1 hp2)
      · -- 108 goes on
        refine e_iconst (v := 1) dX11_chance_111 (by decide) ?_
        refine e_goto (tgt := 116) dX11_chance_112 (by decide) ?_
        refine e_istore (ls' := [_, _, _, _, _, _, _, _, _, _, _, _, _]) dX11_chance_116 (by decide) rfl ?_
        refine e_lload dX11_chance_118 rfl ?_
        refine e_iload dX11_chance_120 rfl ?_
        refine e_if_eq (tgt := 130) dX11_chance_122 (by decide) (fun c122 => absurd c122 (by decide)) (fun c122 => ?_)
        refine e_iload_n dX11_chance_125 rfl ?_
        refine e_i2l dX11_chance_126 ?_
        refine e_goto (tgt := 135) dX11_chance_127 (by decide) ?_
        refine e_lmul dX11_chance_135 ?_
        refine e_lstore (ls' := [_, _, _, _, _, _, _, _, _, _, _, _, _]) dX11_chance_136 (by decide) rfl ?_
        refine e_aload_n dX11_chance_138 rfl ?_
        refine e_iload dX11_chance_139 rfl ?_
        refine e_if_eq (tgt := 149) dX11_chance_141 (by decide) (fun c141 => absurd c141 (by decide)) (fun c141 => ?_)
        refine e_bipush (v := 9) dX11_chance_144 (by decide) ?_
        refine e_goto (tgt := 150) dX11_chance_146 (by decide) ?_
        refine cV1x dX11_chance_150 mo_X11_passes ml_X11_391 sh_m rfl (Nat.le_of_ble_eq_true rfl) (by omega) (r_passes hYc hSc hLc hN) ?_
        rintro r M2 ⟨rfl, hp1, hp2, hp3⟩
        dsimp only [Option.toList, List.cons_append, List.nil_append]
        refine e_pop dX11_chance_153 rfl ?_
        refine e_iinc (ls' := [_, _, _, _, _, _, _, _, _, _, _, _, _]) dX11_chance_154 rfl (nI_i1 _) (by decide) rfl ?_
        refine e_goto (tgt := 94) dX11_chance_157 (by decide) ?_
        have hcb : coldB w i = true := decide_eq_true c108
        have e1 : itF E.Y E.S w (i + 1) = passV E.Y (itF E.Y E.S w i) 9 := by rw [itF, hcb]; rfl
        have e2 : wtN q w (i + 1) = wtN q w i * q := by rw [wtN, hcb]; rfl
        rw [nI_l (by omega), lN_mul, ← e2]
        exact ih (i + 1) M2 _ (by omega) (by omega) (by rw [e1]; exact hT.pf tx5 hp1 hp2)
set_option maxHeartbeats 4000000 in
set_option maxRecDepth 20000 in
theorem s_ch160 {G : Gt} {M Mc : Mm} {E : Gs} (hJ : RJ M E) {S : Sv} {Q : Option Value → Mm → Prop} {j t q w A W : Nat} {b : Int64} {u v : Value} (hT : TB 275 M Mc E.Y.n S) (hj : j < E.Y.n) (hK : ∀ (Mc : Mm) (x : Value), TB 275 M Mc E.Y.n E.S → RC M Mc → Ev G 6 mX11_chance 80 [.ref 238, .int (nI j), .int (nI t), .int (nI q), .long (lN (A + if S.high j = E.Y.roof then W else 0)), RA, .long b, RA, .int (nI (w + 1)), x, RA, u, v] [] Mc Q) : Ev G 6 mX11_chance 160 [.ref 238, .int (nI j), .int (nI t), .int (nI q), .long (lN A), RA, .long b, RA, .int (nI w), .long (lN W), RA, u, v] [] Mc (Q) := by
  have hY := hJ.1
  have h6 := hY.1.2
  have hs5 := hY.2.1.2
  have hL := hJ.2.1
  have hS := hJ.2.2.1
  have hYc := hT.1.ry hY
  refine e_aload_n dX11_chance_160 rfl ?_
  refine e_getR dX11_chance_161 fl_X11_114 sh_m rfl ?_
  refine e_bipush (v := 14) dX11_chance_164 (by decide) ?_
  refine e_iload_n dX11_chance_166 rfl ?_
  refine e_iaddN (a := 14) (b := j) dX11_chance_167 ?_
  refine e_ialdN (j := (14 + j)) dX11_chance_168 (sa_m_s) (by decide) (by omega) ?_
  rw [hT.2.2.hi hj]
  refine e_aload_n dX11_chance_169 rfl ?_
  refine e_getR dX11_chance_170 fl_X11_13 sh_m rfl ?_
  refine e_iconst (v := 3) dX11_chance_173 (by decide) ?_
  refine e_ialdN (j := 3) dX11_chance_174 (sa_m_yard) (by decide) (by omega) ?_
  rw [hYc.2.2.2.1]
  refine e_icmp_ne (tgt := 185) dX11_chance_175 (by decide) (fun c175 => ?_) (fun c175 => ?_)
  · -- 175 jumps
    refine e_aload_n dX11_chance_185 rfl ?_
    refine e_getR dX11_chance_186 fl_X11_120 sh_m rfl ?_
    refine e_iconst (v := 0) dX11_chance_189 (by decide) ?_
    refine e_aload_n dX11_chance_190 rfl ?_
    refine e_getR dX11_chance_191 fl_X11_114 sh_m rfl ?_
    refine e_iconst (v := 0) dX11_chance_194 (by decide) ?_
    refine cS4v dX11_chance_195 mo_X11_copies ml_X11_403 (Nat.le_of_ble_eq_true rfl) (by omega) (r_copies (p := 0) (b := 0) (sa_m_before) (sa_m_s) (by omega) (by omega) (by decide) (by decide) (by decide)) ?_
    refine e_iinc (ls' := [_, _, _, _, _, _, _, _, _, _, _, _, _]) dX11_chance_198 rfl (nI_i1 _) (by decide) rfl ?_
    refine e_goto (tgt := 80) dX11_chance_201 (by decide) ?_
    rw [if_neg c175, Nat.add_zero] at hK
    exact hK _ _ (hT.again tx5 h6 hS) hT.back
  · -- 175 goes on
    refine e_lload dX11_chance_178 rfl ?_
    refine e_lload dX11_chance_180 rfl ?_
    refine e_ladd dX11_chance_182 ?_
    rw [lN_add]
    refine e_lstore (ls' := [_, _, _, _, _, _, _, _, _, _, _, _, _]) dX11_chance_183 (by decide) rfl ?_
    refine e_aload_n dX11_chance_185 rfl ?_
    refine e_getR dX11_chance_186 fl_X11_120 sh_m rfl ?_
    refine e_iconst (v := 0) dX11_chance_189 (by decide) ?_
    refine e_aload_n dX11_chance_190 rfl ?_
    refine e_getR dX11_chance_191 fl_X11_114 sh_m rfl ?_
    refine e_iconst (v := 0) dX11_chance_194 (by decide) ?_
    refine cS4v dX11_chance_195 mo_X11_copies ml_X11_403 (Nat.le_of_ble_eq_true rfl) (by omega) (r_copies (p := 0) (b := 0) (sa_m_before) (sa_m_s) (by omega) (by omega) (by decide) (by decide) (by decide)) ?_
    refine e_iinc (ls' := [_, _, _, _, _, _, _, _, _, _, _, _, _]) dX11_chance_198 rfl (nI_i1 _) (by decide) rfl ?_
    refine e_goto (tgt := 80) dX11_chance_201 (by decide) ?_
    rw [if_pos c175] at hK
    exact hK _ _ (hT.again tx5 h6 hS) hT.back
set_option maxHeartbeats 4000000 in
set_option maxRecDepth 20000 in
theorem s_ch204 {G : Gt} {Mc : Mm} {A B : Nat} {a b c d e f g h i : Value} (hA : A ≤ 64000000) (hB0 : 0 < B) (hB : B ≤ 1000000) : Ev G 6 mX11_chance 204 [a, b, c, d, .long (lN A), RA, .long (lN B), RA, e, f, g, h, i] [] Mc (eqQ (some (.int (nI (A * 1000000 / B)))) Mc) := by
  refine e_lload dX11_chance_204 rfl ?_
  refine e_ldc2 dX11_chance_206 kl_X11_470 ?_
  refine e_lmul dX11_chance_209 ?_
  rw [show lN A * 1000000 = lN (A * 1000000) from lN_mul A 1000000]
  refine e_lload dX11_chance_210 rfl ?_
  refine e_ldiv dX11_chance_212 (by intro e; have e2 := congrArg Int64.toInt e; rw [pk_lT (by omega)] at e2; have e3 : ((B : Nat) : Int) = 0 := e2; omega) ?_
  rw [pk_lDiv (by omega) hB0 (by omega)]
  refine e_l2i dX11_chance_213 ?_
  rw [lN_i]
  refine e_iret dX11_chance_214 rfl ?_
  exact ⟨rfl, rfl⟩
set_option maxHeartbeats 4000000 in
set_option maxRecDepth 20000 in
theorem l_rch0 {G : Gt} {M : Mm} {Q : Option Value → Mm → Prop} {j t q : Nat} {b : Int64} {x y z v : Value} (ht : t ≤ 6) (hK : ∀ u, Ev G 6 mX11_chance 64 [.ref 238, .int (nI j), .int (nI t), .int (nI q), .long b, RA, .long (lN (10 ^ t)), RA, u, x, y, z, v] [] M Q) : ∀ (k : Nat) (i : Nat), (i ≤ t) → (t < i + k) → Ev G 6 mX11_chance 44 [.ref 238, .int (nI j), .int (nI t), .int (nI q), .long b, RA, .long (lN (10 ^ i)), RA, .int (nI i), x, y, z, v] [] M (Q) := by
  intro k
  induction k with
  | zero => intro i hi hk; exact absurd hk (by omega)
  | succ k ih =>
    intro i hi hk
    refine e_iload dX11_chance_44 rfl ?_
    refine e_iload_n dX11_chance_46 rfl ?_
    refine e_icmp_ge (tgt := 64) dX11_chance_47 (by decide) (fun c47 => ?_) (fun c47 => ?_)
    · -- 47 jumps
      have hin : i = t := by have := ge_of (i := i) (n := t) (by omega) (by omega) c47; omega
      subst hin
      exact hK _
    · -- 47 goes on
      have hlt : i < t := lt_of (i := i) (n := t) (by omega) (by omega) c47
      refine e_lload dX11_chance_50 rfl ?_
      refine e_ldc2 dX11_chance_52 kl_X11_468 ?_
      refine e_lmul dX11_chance_55 ?_
      refine e_lstore (ls' := [_, _, _, _, _, _, _, _, _, _, _, _, _]) dX11_chance_56 (by decide) rfl ?_
      refine e_iinc (ls' := [_, _, _, _, _, _, _, _, _, _, _, _, _]) dX11_chance_58 rfl (nI_i1 _) (by decide) rfl ?_
      refine e_goto (tgt := 44) dX11_chance_61 (by decide) ?_
      rw [show lN (10 ^ i) * 10 = lN (10 ^ (i + 1)) from (lN_mul (10 ^ i) 10).trans (by rw [Nat.pow_succ])]
      exact ih (i + 1) (by omega) (by omega)
theorem ch_end {A t : Nat} (ht : t ≤ 6) : A * 1000000 / 10 ^ t = A * 10 ^ (6 - t) := by
  have e : 10 ^ (6 - t) * 10 ^ t = 1000000 := by rw [← Nat.pow_add, show 6 - t + t = 6 by omega]
  rw [← e, ← Nat.mul_assoc, Nat.mul_div_cancel _ (Nat.pow_pos (by decide))]
set_option maxHeartbeats 4000000 in
set_option maxRecDepth 20000 in
theorem l_rch1 {G : Gt} {M : Mm} {E : Gs} (hJ : RJ M E) {T : Nat} (hI : SI E.Y E.S T) (hTT : T < 2 ^ 30) (hN : NS E.Y) {j t q : Nat} (hj : j < E.Y.n) (ht : t ≤ 6) (hq : q ≤ 10) : ∀ (k : Nat) (w : Nat) (Mc : Mm) (x u v : Value), (w ≤ 2 ^ t) → (2 ^ t < w + k) → (TB 275 M Mc E.Y.n E.S) → (RC M Mc) → Ev G 6 mX11_chance 80 [.ref 238, .int (nI j), .int (nI t), .int (nI q), .long (lN (chN E.Y E.S j t q w)), RA, .long (lN (10 ^ t)), RA, .int (nI w), x, RA, u, v] [] Mc (fun r M' => r = some (.int (nI (chN E.Y E.S j t q (2 ^ t) * 10 ^ (6 - t)))) ∧ RC M M') := by
  intro k
  induction k with
  | zero => intro w Mc x u v hi hk hT hRC; exact absurd hk (by omega)
  | succ k ih =>
    intro w Mc x u v hi hk hT hRC
    have hY := hJ.1
    have h6 := hY.1.2
    have hs5 := hY.2.1.2
    have hL := hJ.2.1
    have hS := hJ.2.2.1
    obtain ⟨hp1, hp2, hp3⟩ := pow6 ht
    refine e_iload dX11_chance_80 rfl ?_
    refine e_iconst (v := 1) dX11_chance_82 (by decide) ?_
    refine e_iload_n dX11_chance_83 rfl ?_
    refine e_ishl dX11_chance_84 ?_
    rw [hp1]
    refine e_icmp_ge (tgt := 204) dX11_chance_85 (by decide) (fun c85 => ?_) (fun c85 => ?_)
    · -- 85 jumps
      have hin : w = 2 ^ t := by have := ge_of (i := w) (n := 2 ^ t) (by omega) (by omega) c85; omega
      subst hin
      have hA := ch_le (Y := E.Y) (S := E.S) (j := j) (t := t) hq (2 ^ t)
      have hB := Nat.pow_le_pow_right (n := 10) (by decide) ht
      have hA2 : chN E.Y E.S j t q (2 ^ t) ≤ 64 * 10 ^ 6 := Nat.le_trans hA (Nat.mul_le_mul hp3 hB)
      rw [← ch_end ht]
      exact (s_ch204 (by omega) (Nat.pow_pos (by decide)) (by omega)).weaken (fun r M3 h => ⟨h.1, by rw [h.2]; exact hRC⟩)
    · -- 85 goes on
      have hlt : w < 2 ^ t := lt_of (i := w) (n := 2 ^ t) (by omega) (by omega) c85
      refine e_lconst (v := 1) dX11_chance_88 rfl ?_
      refine e_lstore (ls' := [_, _, _, _, _, _, _, _, _, _, _, _, _]) dX11_chance_89 (by decide) rfl ?_
      refine e_iconst (v := 0) dX11_chance_91 (by decide) ?_
      refine e_istore (ls' := [_, _, _, _, _, _, _, _, _, _, _, _, _]) dX11_chance_92 (by decide) rfl ?_
      refine l_rch2 hJ hI hTT hN ht hq (w := w) (by omega) (fun M3 u3 v3 hT3 => ?_) (t + 1) 0 Mc _ (by omega) (by omega) hT
      exact s_ch160 hJ hT3 hj (fun M4 x4 hT4 hR4 => ih (w + 1) M4 x4 u3 v3 (by omega) (by omega) hT4 hR4)
set_option maxHeartbeats 4000000 in
set_option maxRecDepth 20000 in
theorem r_chance {G : Gt} {M : Mm} {E : Gs} (hJ : RJ M E) {T : Nat} (hI : SI E.Y E.S T) (hTT : T < 2 ^ 30) (hN : NS E.Y) {i t v : Int32} : Call G 6 mX11_chance [.ref 238, .int i, .int t, .int v] M (fun r M' => r = some (.int (chanceQ E i t v)) ∧ RC M M') := by
  refine Call.intro rfl (Nat.le_of_ble_eq_true rfl) ?_
  show Ev G _ mX11_chance 0 [.ref 238, .int i, .int t, .int v, RA, RA, RA, RA, RA, RA, RA, RA, RA] [] M _
  refine e_aload_n dX11_chance_0 rfl ?_
  refine e_iconst (v := 0) dX11_chance_1 (by decide) ?_
  refine e_putI dX11_chance_2 fl_X11_153 sh_m rfl rfl rfl ?_
  refine th0 (fun M1 hC1 => ?_)
  have hJ := hC1.keep hJ
  have hY := hJ.1
  have h6 := hY.1.2
  have hs5 := hY.2.1.2
  have hL := hJ.2.1
  have hS := hJ.2.2.1
  refine e_aload_n dX11_chance_5 rfl ?_
  refine e_iload_n dX11_chance_6 rfl ?_
  refine cV1r dX11_chance_7 mo_X11_isShed ml_X11_397 sh_m rfl (Nat.le_of_ble_eq_true rfl) (by omega) (r_isShed (by assumption)) ?_
  refine e_if_eq (tgt := 33) dX11_chance_10 (by decide) (fun c10 => ?_) (fun c10 => ?_)
  · -- 10 jumps
    refine e_iconst (v := (-1)) dX11_chance_33 (by decide) ?_
    refine e_iret dX11_chance_34 rfl ?_
    exact ⟨by unfold chanceQ; rw [if_neg (fun q => absurd q.1 (b2i_eq0.mp c10))], hC1⟩
  · -- 10 goes on
    have c10 : vSh E i := by
      by_cases h : (vSh E i)
      · exact h
      · exact absurd (b2i_f h) c10
    have hsh := c10
    refine e_iload_n dX11_chance_13 rfl ?_
    refine e_iconst (v := 1) dX11_chance_14 (by decide) ?_
    refine e_bipush (v := 6) dX11_chance_15 (by decide) ?_
    refine cS3r dX11_chance_17 mo_X11_within ml_X11_274 (Nat.le_of_ble_eq_true rfl) (by omega) (r_within) ?_
    refine e_if_eq (tgt := 33) dX11_chance_20 (by decide) (fun c20 => ?_) (fun c20 => ?_)
    · -- 20 jumps
      refine e_iconst (v := (-1)) dX11_chance_33 (by decide) ?_
      refine e_iret dX11_chance_34 rfl ?_
      exact ⟨by unfold chanceQ; rw [if_neg (fun q => absurd q.2.1 (b2i_eq0.mp c20))], hC1⟩
    · -- 20 goes on
      have c20 : vWi t 1 6 := by
        by_cases h : (vWi t 1 6)
        · exact h
        · exact absurd (b2i_f h) c20
      have hwt := c20
      refine e_iload_n dX11_chance_23 rfl ?_
      refine e_iconst (v := 0) dX11_chance_24 (by decide) ?_
      refine e_bipush (v := 10) dX11_chance_25 (by decide) ?_
      refine cS3r dX11_chance_27 mo_X11_within ml_X11_274 (Nat.le_of_ble_eq_true rfl) (by omega) (r_within) ?_
      refine e_if_ne (tgt := 35) dX11_chance_30 (by decide) (fun c30 => ?_) (fun c30 => ?_)
      · -- 30 jumps
        have c30 : vWi v 0 10 := by
          by_cases h : (vWi v 0 10)
          · exact h
          · exact absurd (b2i_f h) c30
        have hwv := c30
        obtain ⟨j, hj, rfl⟩ := shed_of (by omega) hsh
        obtain ⟨t, ht6, -, rfl⟩ := wi_of (a := 1) (b := 6) (by decide) (by decide) hwt
        obtain ⟨q, hq10, -, rfl⟩ := wi_of (a := 0) (b := 10) (by decide) (by decide) hwv
        refine e_lconst (v := 0) dX11_chance_35 rfl ?_
        refine e_lstore (ls' := [_, _, _, _, _, _, _, _, _, _, _, _, _]) dX11_chance_36 (by decide) rfl ?_
        refine e_lconst (v := 1) dX11_chance_38 rfl ?_
        refine e_lstore (ls' := [_, _, _, _, _, _, _, _, _, _, _, _, _]) dX11_chance_39 (by decide) rfl ?_
        refine e_iconst (v := 0) dX11_chance_41 (by decide) ?_
        refine e_istore (ls' := [_, _, _, _, _, _, _, _, _, _, _, _, _]) dX11_chance_42 (by decide) rfl ?_
        unfold chanceQ
        rw [if_pos ⟨hsh, hwt, hwv⟩, nI_clamp (by omega), nI_clamp (by omega), nI_clamp (by omega)]
        refine l_rch0 ht6 (fun u => ?_) (t + 1) 0 (by omega) (by omega)
        refine e_aload_n dX11_chance_64 rfl ?_
        refine e_getR dX11_chance_65 fl_X11_114 sh_m rfl ?_
        refine e_iconst (v := 0) dX11_chance_68 (by decide) ?_
        refine e_aload_n dX11_chance_69 rfl ?_
        refine e_getR dX11_chance_70 fl_X11_120 sh_m rfl ?_
        refine e_iconst (v := 0) dX11_chance_73 (by decide) ?_
        refine cS4v dX11_chance_74 mo_X11_copies ml_X11_403 (Nat.le_of_ble_eq_true rfl) (by omega) (r_copies (p := 0) (b := 0) (sa_m_s) (sa_m_before) (by omega) (by omega) (by decide) (by decide) (by decide)) ?_
        refine e_iconst (v := 0) dX11_chance_77 (by decide) ?_
        refine e_istore (ls' := [_, _, _, _, _, _, _, _, _, _, _, _, _]) dX11_chance_78 (by decide) rfl ?_
        exact (l_rch1 hJ hI hTT hN hj ht6 hq10 (2 ^ t + 1) 0 _ _ _ _ (Nat.zero_le _) (by omega) (TB.start tx5 h6 hS) (RC.rfl'.cp ⟨by unfold rsd; omega, by omega, by omega⟩)).weaken (fun r M2 h => ⟨h.1, hC1.trans h.2⟩)
      · -- 30 goes on
        refine e_iconst (v := (-1)) dX11_chance_33 (by decide) ?_
        refine e_iret dX11_chance_34 rfl ?_
        exact ⟨by unfold chanceQ; rw [if_neg (fun q => absurd q.2.2 (b2i_eq0.mp c30))], hC1⟩
theorem TB.li {x n : Nat} {M Mc : Mm} {S : Sv} (h6 : n ≤ 6) (h : TB x M Mc n S) (v : Int64) : TB x M (setL Mc 238 62 v) n S := ⟨h.1.l, h.2.1, h.2.2⟩
set_option maxHeartbeats 4000000 in
set_option maxRecDepth 20000 in
theorem r_draws {G : Gt} {M : Mm} {g m : Nat} (hg : M.2.1 238 62 = lN g) (hg2 : g < 2147483648) (hm : 0 < m) (hm2 : m < 2 ^ 31) : Call G 1 mX11_draws [.ref 238, .int (nI m)] M (eqQ (some (.int (nI (drV g m)))) (setL M 238 62 (lN (drG g)))) := by
  refine Call.intro rfl (Nat.le_of_ble_eq_true rfl) ?_
  show Ev G _ mX11_draws 0 [.ref 238, .int (nI m)] [] M _
  refine e_aload_n dX11_draws_0 rfl ?_
  refine e_aload_n dX11_draws_1 rfl ?_
  refine e_getL dX11_draws_2 fl_X11_476 sh_m rfl ?_
  rw [hg]
  refine e_ldc2 dX11_draws_5 kl_X11_479 ?_
  refine e_lmul dX11_draws_8 ?_
  refine e_ldc2 dX11_draws_9 kl_X11_481 ?_
  refine e_ladd dX11_draws_12 ?_
  refine e_ldc2 dX11_draws_13 kl_X11_483 ?_
  refine e_lrem dX11_draws_16 (by decide) ?_
  rw [drg_eq hg2]
  refine e_putL dX11_draws_17 fl_X11_476 sh_m rfl rfl rfl ?_
  refine e_aload_n dX11_draws_20 rfl ?_
  refine e_getL dX11_draws_21 fl_X11_476 sh_m rfl ?_
  rw [setL_21, if_pos ⟨rfl, rfl⟩]
  refine e_ldc2 dX11_draws_24 kl_X11_485 ?_
  refine e_ldiv dX11_draws_27 (by decide) ?_
  refine e_iload_n dX11_draws_28 rfl ?_
  refine e_i2l dX11_draws_29 ?_
  rw [nI_l hm2]
  refine e_lrem dX11_draws_30 (by intro e; exact absurd (congrArg Int64.toInt e) (by rw [lN_toInt hm2]; show ¬ (m : Int) = 0; omega)) ?_
  refine e_l2i dX11_draws_31 ?_
  refine e_iret dX11_draws_32 rfl ?_
  exact ⟨congrArg (fun v => some (Value.int v)) (drv_eq (drG_lt g) hm hm2), rfl⟩
end RDR
