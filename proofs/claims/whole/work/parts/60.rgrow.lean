section RGR
/-- the reference's law -/
def RLw (M : Mm) (E : Int32 → Int32 → Int32 → Int32 → Int32) : Prop := ∃ w t, M.1 250 0 = nI w ∧ M.1 251 0 = nI t ∧ w ≤ 1000 ∧ t ≤ 1000 ∧ ((t ≤ w ∧ ∀ a b c d, E a b c d = a) ∨ (w < t ∧ ∃ b nf va, wfX b 0 0 nf va ∧ w + nf.length = t ∧ sgm (M.1 252) w nf ∧ ∀ a b c d, E a b c d = va (fc4 a b c d)))
theorem RLw.congr {M M' : Mm} {E : Int32 → Int32 → Int32 → Int32 → Int32} (h : RLw M E) (h1 : ∀ i, 250 ≤ i → i ≤ 252 → M'.1 i = M.1 i) : RLw M' E := by
  unfold RLw
  rw [h1 250 (by omega) (by omega), h1 251 (by omega) (by omega), h1 252 (by omega) (by omega)]
  exact h
theorem WD.rfl' {M : Mm} : WD M M := ⟨rfl, fun _ _ => rfl⟩
theorem WD.trans {A B C : Mm} (h : WD A B) (k : WD B C) : WD A C := ⟨k.1.trans h.1, fun i q => (k.2 i q).trans (h.2 i q)⟩
theorem WE.wd {A B : Mm} (h : WE A B) : WD A B := ⟨h.1, fun i q => h.2 i (by omega)⟩
theorem WD.ry {M M' : Mm} {Y : Yv} (h : WD M M') (hY : RY M Y) : RY M' Y := hY.congr (fun i a b => h.2 i (by omega)) (fun i _ => by rw [h.1])
theorem WD.rw' {M M' : Mm} {n : Nat} {S : Sv} (h : WD M M') (h6 : n ≤ 6) (hS : RW M 273 0 n S) : RW M' 273 0 n S := hS.congr h6 (fun k _ => by rw [h.2 273 (by omega)])
def v4 (M : Mm) (a b c d : Int32) : Mm := setI (setI (setI (setI M 264 1 a) 264 2 b) 264 3 c) 264 4 d
theorem v4_ne {M : Mm} {a b c d : Int32} {i : Nat} (h : ¬ i = 264) : (v4 M a b c d).1 i = M.1 i := by
  funext k; simp [v4, setI_1, h]
theorem v4_wd {M : Mm} {a b c d : Int32} : WD M (v4 M a b c d) := ⟨rfl, fun i q => v4_ne (by omega)⟩
theorem v4_eb {M : Mm} {a b c d : Int32} {t : Nat} (ht : t ≤ 1000) (h : M.1 251 0 = nI t) : EB (v4 M a b c d) (fc4 a b c d) t := by
  refine ⟨ht, by rw [v4_ne (by decide)]; exact h, fun q hq => ?_⟩
  rcases (show q = 0 ∨ q = 1 ∨ q = 2 ∨ q = 3 by omega) with rfl | rfl | rfl | rfl <;> simp [v4, setI_1, fc4]
def w3 (Y : Yv) (S : Sv) (j : Nat) (v : Int32) : Int32 := if Y.kind j = 3 then v + gnear Y.n (Y.near j) S.crow j else v
def w2 (Y : Yv) (S : Sv) (j : Nat) (v : Int32) : Int32 := if Y.kind j = 2 ∧ ¬ Y.near j &&& S.lit = 0 then w3 Y S j (v / 2) else w3 Y S j v
def w1 (Y : Yv) (S : Sv) (j : Nat) (v : Int32) : Int32 := if Y.kind j = 1 ∧ S.high j < 10 then w2 Y S j (v + 1) else w2 Y S j v
theorem w1_eq (Y : Yv) (S : Sv) (j : Nat) (v : Int32) : w1 Y S j v = growW Y S j v := by
  by_cases h1 : Y.kind j = 1
  · have n2 : ¬ Y.kind j = 2 := fun q => absurd (h1.symm.trans q) (by decide)
    have n3 : ¬ Y.kind j = 3 := fun q => absurd (h1.symm.trans q) (by decide)
    by_cases h2 : S.high j < 10
    · unfold w1 w2 w3; rw [if_pos ⟨h1, h2⟩, if_neg (fun q => n2 q.1), if_neg n3, gW1 h1 h2]
    · unfold w1 w2 w3; rw [if_neg (fun q => h2 q.2), if_neg (fun q => n2 q.1), if_neg n3, gW0 (fun q => h2 q.2) (fun q => n2 q.1) n3]
  · unfold w1; rw [if_neg (fun q => h1 q.1)]; unfold w2
    by_cases h2 : Y.kind j = 2 ∧ ¬ Y.near j &&& S.lit = 0
    · rw [if_pos h2, gW2 h2.1 h2.2]; unfold w3; rw [if_neg (fun q => absurd (h2.1.symm.trans q) (by decide))]
    · rw [if_neg h2]; unfold w3
      by_cases h3 : Y.kind j = 3
      · rw [if_pos h3, gW3 h3]
      · rw [if_neg h3, gW0 (fun q => h1 q.1) h2 h3]
theorem btw (v : Int32) : (if v < 0 then 0 else if 9 < v then 9 else v) = mx 0 (mn 9 v) := by
  have e0 : (0 : Int32).toInt = 0 := rfl
  have e9 : (9 : Int32).toInt = 9 := rfl
  unfold mx mn
  simp only [Int32.lt_iff_toInt_lt, e0, e9]
  by_cases h1 : v.toInt < 9
  · rw [if_pos h1]
    by_cases h0 : v.toInt < 0
    · rw [if_pos h0, if_neg (by omega)]
    · rw [if_neg h0, if_neg (by omega)]
      by_cases hz : 0 < v.toInt
      · rw [if_pos hz]
      · rw [if_neg hz]; exact Int32.toInt_inj.mp (by rw [e0]; omega)
  · rw [if_neg h1, if_neg (by omega), e9, if_pos (show (0 : Int) < 9 by decide)]
    by_cases hz : 9 < v.toInt
    · rw [if_pos hz]
    · rw [if_neg hz]; exact Int32.toInt_inj.mp (by rw [e9]; omega)
set_option maxHeartbeats 4000000 in
set_option maxRecDepth 20000 in
theorem g_190 {G : Gt} {M : Mm} {fr v : Int32} {Y : Yv} {S : Sv} {j : Nat} (hY : RY M Y) (hS : RW M 273 0 Y.n S) (hj : j < Y.n) : Ev G 4 mX11_growth 190 [.ref 238, .int (nI j), .int fr, .int v] [] M (eqQ (some (.int (mn (v) (Y.roof - S.high j)))) M) := by
  have h6 := hY.1.2
  have hs5 := hY.2.1.2
  refine e_iload_n dX11_growth_190 rfl ?_
  refine e_aload_n dX11_growth_191 rfl ?_
  refine e_getR dX11_growth_192 fl_X11_13 sh_m rfl ?_
  refine e_iconst (v := 3) dX11_growth_195 (by decide) ?_
  refine e_ialdN (j := 3) dX11_growth_196 (sa_m_yard) (by decide) (by omega) ?_
  rw [hY.2.2.2.1]
  refine e_aload_n dX11_growth_197 rfl ?_
  refine e_getR dX11_growth_198 fl_X11_114 sh_m rfl ?_
  refine e_bipush (v := 14) dX11_growth_201 (by decide) ?_
  refine e_iload_n dX11_growth_203 rfl ?_
  refine e_iaddN (a := 14) (b := j) dX11_growth_204 ?_
  refine e_ialdN (j := (14 + j)) dX11_growth_205 (sa_m_s) (by decide) (by omega) ?_
  rw [hS.hi hj]
  refine e_isub dX11_growth_206 ?_
  refine e_min dX11_growth_207 (mem_g 1531 (by decide +kernel) rfl) (mem_g 425 (by decide +kernel) rfl) (mem_g 15 (by decide +kernel) rfl) (mem_g 426 (by decide +kernel) rfl) (Nat.le_of_ble_eq_true rfl) (by omega) ?_
  refine e_iret dX11_growth_210 rfl ?_
  exact ⟨rfl, rfl⟩
set_option maxHeartbeats 4000000 in
set_option maxRecDepth 20000 in
theorem g_172 {G : Gt} {M : Mm} {fr v : Int32} {Y : Yv} {S : Sv} {j : Nat} (hY : RY M Y) (hS : RW M 273 0 Y.n S) (hj : j < Y.n) : Ev G 4 mX11_growth 172 [.ref 238, .int (nI j), .int fr, .int v] [] M (eqQ (some (.int (mn (w3 Y S j v) (Y.roof - S.high j)))) M) := by
  have h6 := hY.1.2
  have hs5 := hY.2.1.2
  refine e_aload_n dX11_growth_172 rfl ?_
  refine e_getR dX11_growth_173 fl_X11_23 sh_m rfl ?_
  refine e_iload_n dX11_growth_176 rfl ?_
  refine e_ialdN (j := j) dX11_growth_177 (sa_m_kind) (by decide) (by omega) ?_
  rw [(hY.2.2.2.2.1 j hj).1]
  refine e_iconst (v := 3) dX11_growth_178 (by decide) ?_
  refine e_icmp_ne (tgt := 190) dX11_growth_179 (by decide) (fun c179 => ?_) (fun c179 => ?_)
  · -- 179 jumps
    unfold w3; rw [if_neg c179]
    exact g_190 hY hS hj
  · -- 179 goes on
    refine e_iload_n dX11_growth_182 rfl ?_
    refine e_aload_n dX11_growth_183 rfl ?_
    refine e_iload_n dX11_growth_184 rfl ?_
    refine cV1r dX11_growth_185 mo_X11_moreNear ml_X11_379 sh_m rfl (Nat.le_of_ble_eq_true rfl) (by omega) (r_moreNear (by assumption) (by assumption) (by assumption)) ?_
    refine e_iadd dX11_growth_188 ?_
    refine e_istore_n (ls' := [_, _, _, _]) dX11_growth_189 (by decide) rfl ?_
    unfold w3; rw [if_pos c179]
    exact g_190 hY hS hj
set_option maxHeartbeats 4000000 in
set_option maxRecDepth 20000 in
theorem g_142 {G : Gt} {M : Mm} {fr v : Int32} {Y : Yv} {S : Sv} {j : Nat} (hY : RY M Y) (hS : RW M 273 0 Y.n S) (hj : j < Y.n) : Ev G 4 mX11_growth 142 [.ref 238, .int (nI j), .int fr, .int v] [] M (eqQ (some (.int (mn (w2 Y S j v) (Y.roof - S.high j)))) M) := by
  have h6 := hY.1.2
  have hs5 := hY.2.1.2
  refine e_aload_n dX11_growth_142 rfl ?_
  refine e_getR dX11_growth_143 fl_X11_23 sh_m rfl ?_
  refine e_iload_n dX11_growth_146 rfl ?_
  refine e_ialdN (j := j) dX11_growth_147 (sa_m_kind) (by decide) (by omega) ?_
  rw [(hY.2.2.2.2.1 j hj).1]
  refine e_iconst (v := 2) dX11_growth_148 (by decide) ?_
  refine e_icmp_ne (tgt := 172) dX11_growth_149 (by decide) (fun c149 => ?_) (fun c149 => ?_)
  · -- 149 jumps
    unfold w2; rw [if_neg (fun q => c149 q.1)]
    exact g_172 hY hS hj
  · -- 149 goes on
    refine e_aload_n dX11_growth_152 rfl ?_
    refine e_getR dX11_growth_153 fl_X11_32 sh_m rfl ?_
    refine e_iload_n dX11_growth_156 rfl ?_
    refine e_ialdN (j := j) dX11_growth_157 (sa_m_near) (by decide) (by omega) ?_
    rw [(hY.2.2.2.2.1 j hj).2.2.2.1]
    refine e_aload_n dX11_growth_158 rfl ?_
    refine e_getR dX11_growth_159 fl_X11_114 sh_m rfl ?_
    refine e_iconst (v := 1) dX11_growth_162 (by decide) ?_
    refine e_ialdN (j := 1) dX11_growth_163 (sa_m_s) (by decide) (by omega) ?_
    rw [hS.li]
    refine e_iand dX11_growth_164 ?_
    refine e_if_eq (tgt := 172) dX11_growth_165 (by decide) (fun c165 => ?_) (fun c165 => ?_)
    · -- 165 jumps
      unfold w2; rw [if_neg (fun q => q.2 c165)]
      exact g_172 hY hS hj
    · -- 165 goes on
      refine e_iload_n dX11_growth_168 rfl ?_
      refine e_iconst (v := 2) dX11_growth_169 (by decide) ?_
      refine e_idiv dX11_growth_170 (by decide) ?_
      refine e_istore_n (ls' := [_, _, _, _]) dX11_growth_171 (by decide) rfl ?_
      unfold w2; rw [if_pos ⟨c149, c165⟩]
      exact g_172 hY hS hj
set_option maxHeartbeats 4000000 in
set_option maxRecDepth 20000 in
theorem g_107 {G : Gt} {M : Mm} {fr v : Int32} {Y : Yv} {S : Sv} {j : Nat} (hY : RY M Y) (hS : RW M 273 0 Y.n S) (hj : j < Y.n) : Ev G 4 mX11_growth 107 [.ref 238, .int (nI j), .int fr, .int v] [] M (eqQ (some (.int (mn (growW Y S j (mx 0 (mn 9 v))) (Y.roof - S.high j)))) M) := by
  have h6 := hY.1.2
  have hs5 := hY.2.1.2
  rw [← w1_eq]
  refine e_iload_n dX11_growth_107 rfl ?_
  refine e_iconst (v := 0) dX11_growth_108 (by decide) ?_
  refine e_bipush (v := 9) dX11_growth_109 (by decide) ?_
  refine cS3r dX11_growth_111 mo_X11_between ml_X11_375 (Nat.le_of_ble_eq_true rfl) (by omega) (r_between) ?_
  rw [btw]
  refine e_istore_n (ls' := [_, _, _, _]) dX11_growth_114 (by decide) rfl ?_
  refine e_aload_n dX11_growth_115 rfl ?_
  refine e_getR dX11_growth_116 fl_X11_23 sh_m rfl ?_
  refine e_iload_n dX11_growth_119 rfl ?_
  refine e_ialdN (j := j) dX11_growth_120 (sa_m_kind) (by decide) (by omega) ?_
  rw [(hY.2.2.2.2.1 j hj).1]
  refine e_iconst (v := 1) dX11_growth_121 (by decide) ?_
  refine e_icmp_ne (tgt := 142) dX11_growth_122 (by decide) (fun c122 => ?_) (fun c122 => ?_)
  · -- 122 jumps
    unfold w1; rw [if_neg (fun q => c122 q.1)]
    exact g_142 hY hS hj
  · -- 122 goes on
    refine e_aload_n dX11_growth_125 rfl ?_
    refine e_getR dX11_growth_126 fl_X11_114 sh_m rfl ?_
    refine e_bipush (v := 14) dX11_growth_129 (by decide) ?_
    refine e_iload_n dX11_growth_131 rfl ?_
    refine e_iaddN (a := 14) (b := j) dX11_growth_132 ?_
    refine e_ialdN (j := (14 + j)) dX11_growth_133 (sa_m_s) (by decide) (by omega) ?_
    rw [hS.hi hj]
    refine e_bipush (v := 10) dX11_growth_134 (by decide) ?_
    refine e_icmp_ge (tgt := 142) dX11_growth_136 (by decide) (fun c136 => ?_) (fun c136 => ?_)
    · -- 136 jumps
      unfold w1; rw [if_neg (fun q => c136 q.2)]
      exact g_142 hY hS hj
    · -- 136 goes on
      refine e_iinc (ls' := [_, _, _, _]) dX11_growth_139 rfl (i_inc1 _) (by decide) rfl ?_
      unfold w1; rw [if_pos ⟨c122, c136⟩]
      exact g_142 hY hS hj
set_option maxHeartbeats 4000000 in
set_option maxRecDepth 20000 in
theorem r_growth {G : Gt} {M : Mm} {fr : Int32} {Y : Yv} {S : Sv} {j : Nat} (hY : RY M Y) (hS : RW M 273 0 Y.n S) (hj : j < Y.n) (hL : RLw M Y.gE) : Call G 4 mX11_growth [.ref 238, .int (nI j), .int fr] M (fun r M' => r = some (.int (growV Y S fr j)) ∧ WD M M') := by
  have h6 := hY.1.2
  have hs5 := hY.2.1.2
  obtain ⟨w, t, h250, h251, hw, ht, hL⟩ := hL
  refine Call.intro rfl (Nat.le_of_ble_eq_true rfl) ?_
  show Ev G _ mX11_growth 0 [.ref 238, .int (nI j), .int fr, RA] [] M _
  refine e_aload_n dX11_growth_0 rfl ?_
  refine e_iload_n dX11_growth_1 rfl ?_
  refine cV1r dX11_growth_2 mo_X11_isLit ml_X11_363 sh_m rfl (Nat.le_of_ble_eq_true rfl) (by omega) (r_isLit (by assumption)) ?_
  refine e_if_ne (tgt := 20) dX11_growth_5 (by decide) (fun c5 => ?_) (fun c5 => ?_)
  · -- 5 jumps
    refine e_iconst (v := 0) dX11_growth_20 (by decide) ?_
    refine e_iret dX11_growth_21 rfl ?_
    exact ⟨by
        unfold growV
        by_cases q : S.crow j = 0
        · rw [if_pos q]
        · rw [if_neg q, if_pos (Classical.not_not.mp (fun z => c5 (b2i_f z)))], WD.rfl'⟩
  · -- 5 goes on
    refine e_aload_n dX11_growth_8 rfl ?_
    refine e_getR dX11_growth_9 fl_X11_114 sh_m rfl ?_
    refine e_bipush (v := 8) dX11_growth_12 (by decide) ?_
    refine e_iload_n dX11_growth_14 rfl ?_
    refine e_iaddN (a := 8) (b := j) dX11_growth_15 ?_
    refine e_ialdN (j := (8 + j)) dX11_growth_16 (sa_m_s) (by decide) (by omega) ?_
    rw [hS.cr hj]
    refine e_if_ne (tgt := 22) dX11_growth_17 (by decide) (fun c17 => ?_) (fun c17 => ?_)
    · -- 17 jumps
      refine e_iconst (v := 0) dX11_growth_22 (by decide) ?_
      refine e_aload_n dX11_growth_23 rfl ?_
      refine e_getR dX11_growth_24 fl_X11_114 sh_m rfl ?_
      refine e_iconst (v := 2) dX11_growth_27 (by decide) ?_
      refine e_iload_n dX11_growth_28 rfl ?_
      refine e_iaddN (a := 2) (b := j) dX11_growth_29 ?_
      refine e_ialdN (j := (2 + j)) dX11_growth_30 (sa_m_s) (by decide) (by omega) ?_
      rw [hS.ht hj]
      refine e_iload_n dX11_growth_31 rfl ?_
      refine e_isub dX11_growth_32 ?_
      refine e_max dX11_growth_33 (mem_g 1571 (by decide +kernel) rfl) (mem_g 422 (by decide +kernel) rfl) (mem_g 15 (by decide +kernel) rfl) (mem_g 423 (by decide +kernel) rfl) (Nat.le_of_ble_eq_true rfl) (by omega) ?_
      refine e_istore_n (ls' := [_, _, _, _]) dX11_growth_36 (by decide) rfl ?_
      refine e_aload_n dX11_growth_37 rfl ?_
      refine e_getR dX11_growth_38 fl_X11_47 sh_m rfl ?_
      refine e_iconst (v := 0) dX11_growth_41 (by decide) ?_
      refine e_ialdN (j := 0) dX11_growth_42 (sa_m_lineTo) (by decide) (by omega) ?_
      rw [h251]
      refine e_aload_n dX11_growth_43 rfl ?_
      refine e_getR dX11_growth_44 fl_X11_44 sh_m rfl ?_
      refine e_iconst (v := 0) dX11_growth_47 (by decide) ?_
      refine e_ialdN (j := 0) dX11_growth_48 (sa_m_lineFrom) (by decide) (by omega) ?_
      rw [h250]
      refine e_icmp_le (tgt := 107) dX11_growth_49 (by decide) (fun c49 => ?_) (fun c49 => ?_)
      · -- 49 jumps
        have hwt : ¬ w < t := fun q => c49 ((nI_ltI (by omega) (by omega)).mpr q)
        have hva : ∀ a b c d, Y.gE a b c d = a := by
          rcases hL with ⟨-, q⟩ | ⟨q, -⟩
          · exact q
          · omega
        have c5 := b2i_eq0.mp c5
        rw [growV_eq c17 c5, hva]
        refine (g_107 (M := M) hY hS hj).weaken (fun r M2 h => ⟨h.1, by rw [h.2]; exact WD.rfl'⟩)
      · -- 49 goes on
        have hwt : w < t := (nI_ltI (by omega) (by omega)).mp c49
        obtain ⟨b, nf, va, hwf, hlen, hsg, hva⟩ : ∃ b nf va, wfX b 0 0 nf va ∧ w + nf.length = t ∧ sgm (M.1 252) w nf ∧ ∀ a b c d, Y.gE a b c d = va (fc4 a b c d) := by
          rcases hL with ⟨q, -⟩ | ⟨-, q⟩
          · omega
          · exact q
        refine e_aload_n dX11_growth_52 rfl ?_
        refine e_getR dX11_growth_53 fl_X11_87 sh_m rfl ?_
        refine e_iconst (v := 1) dX11_growth_56 (by decide) ?_
        refine e_iload_n dX11_growth_57 rfl ?_
        refine e_iastN (j := 1) dX11_growth_58 (sa_m_valueOf) (by decide) (by omega) ?_
        refine e_aload_n dX11_growth_59 rfl ?_
        refine e_getR dX11_growth_60 fl_X11_87 sh_m rfl ?_
        refine e_iconst (v := 2) dX11_growth_63 (by decide) ?_
        refine e_aload_n dX11_growth_64 rfl ?_
        refine e_getR dX11_growth_65 fl_X11_114 sh_m rfl ?_
        refine e_bipush (v := 14) dX11_growth_68 (by decide) ?_
        refine e_iload_n dX11_growth_70 rfl ?_
        refine e_iaddN (a := 14) (b := j) dX11_growth_71 ?_
        refine e_ialdN (j := (14 + j)) dX11_growth_72 (sa_m_s) (by decide) (by omega) ?_
        rw [setI_n (by decide), hS.hi hj]
        refine e_iastN (j := 2) dX11_growth_73 (sa_m_valueOf) (by decide) (by omega) ?_
        refine e_aload_n dX11_growth_74 rfl ?_
        refine e_getR dX11_growth_75 fl_X11_87 sh_m rfl ?_
        refine e_iconst (v := 3) dX11_growth_78 (by decide) ?_
        refine e_aload_n dX11_growth_79 rfl ?_
        refine e_getR dX11_growth_80 fl_X11_114 sh_m rfl ?_
        refine e_bipush (v := 8) dX11_growth_83 (by decide) ?_
        refine e_iload_n dX11_growth_85 rfl ?_
        refine e_iaddN (a := 8) (b := j) dX11_growth_86 ?_
        refine e_ialdN (j := (8 + j)) dX11_growth_87 (sa_m_s) (by decide) (by omega) ?_
        rw [setI_n (by decide), setI_n (by decide), hS.cr hj]
        refine e_iastN (j := 3) dX11_growth_88 (sa_m_valueOf) (by decide) (by omega) ?_
        refine e_aload_n dX11_growth_89 rfl ?_
        refine e_getR dX11_growth_90 fl_X11_87 sh_m rfl ?_
        refine e_iconst (v := 4) dX11_growth_93 (by decide) ?_
        refine e_aload_n dX11_growth_94 rfl ?_
        refine e_getR dX11_growth_95 fl_X11_114 sh_m rfl ?_
        refine e_iconst (v := 0) dX11_growth_98 (by decide) ?_
        refine e_ialdN (j := 0) dX11_growth_99 (sa_m_s) (by decide) (by omega) ?_
        rw [setI_n (by decide), setI_n (by decide), setI_n (by decide), hS.ni]
        refine e_iastN (j := 4) dX11_growth_100 (sa_m_valueOf) (by decide) (by omega) ?_
        change Ev _ _ _ _ _ _ (v4 M _ _ _ _) _
        refine e_aload_n dX11_growth_101 rfl ?_
        refine e_iconst (v := 0) dX11_growth_102 (by decide) ?_
        refine cV1x dX11_growth_103 mo_X11_worked ml_X11_372 sh_m rfl (Nat.le_of_ble_eq_true rfl) (by omega) (r_worked hwf ((congrFun (v4_ne (by decide)) 0).trans h250) (v4_eb ht h251) hlen (by rw [v4_ne (by decide)]; exact hsg)) ?_
        rintro r M1 ⟨rfl, hE⟩
        dsimp only [Option.toList, List.cons_append, List.nil_append]
        refine e_istore_n (ls' := [_, _, _, _]) dX11_growth_106 (by decide) rfl ?_
        have c5 := b2i_eq0.mp c5
        rw [growV_eq c17 c5, hva]
        have hD : WD M M1 := v4_wd.trans hE.wd
        refine (g_107 (M := M1) (hD.ry hY) (hD.rw' h6 hS) hj).weaken (fun r M2 h => ⟨h.1, by rw [h.2]; exact hD⟩)
    · -- 17 goes on
      refine e_iconst (v := 0) dX11_growth_20 (by decide) ?_
      refine e_iret dX11_growth_21 rfl ?_
      exact ⟨by unfold growV; rw [if_pos c17], WD.rfl'⟩
end RGR
