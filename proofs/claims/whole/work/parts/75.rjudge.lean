section RJU
theorem RLi.z {M : Mm} {W : Rv} (h : RLi M 0 W) {k : Nat} (hk : k < W.1) : M.1 266 k = W.2.1 k ∧ (¬ W.2.1 k = 0 → M.1 267 k = W.2.2.1 k) ∧ (W.2.1 k = 1 ∨ W.2.1 k = 3 → M.1 268 k = W.2.2.2 k) := by
  have := h.2.2 k hk
  rwa [Nat.mul_zero, Nat.zero_add] at this
def m1R (x : Int32) : Prop := x = -1 ∨ ∃ m, m < 2 ^ 31 ∧ x = nI m
theorem m1R.neg {x : Int32} (h : m1R x) : x < 0 ↔ x = -1 := by
  rcases h with e | ⟨m, hm, e⟩
  · rw [e]; exact ⟨fun _ => rfl, fun _ => by decide⟩
  · rw [e]
    constructor
    · intro q
      have q2 : nI m < nI 0 := q
      exact absurd ((nI_ltI hm (by omega)).mp q2) (by omega)
    · intro q
      have : nI m < 0 := by rw [q]; decide
      have q2 : nI m < nI 0 := this
      exact absurd ((nI_ltI hm (by omega)).mp q2) (by omega)
theorem m1R.i {x : Int32} {k : Nat} {c : Prop} [Decidable c] (h : m1R x) (hk : k < 2 ^ 31) : m1R (if c then nI k else x) := by
  split
  · exact Or.inr ⟨k, hk, rfl⟩
  · exact h
theorem jd_m1 {Y : Yv} {W : Rv} {S : Sv} : ∀ k, k ≤ 40 → m1R (jdN Y W S k).2.1 ∧ m1R (jdN Y W S k).2.2 := by
  intro k
  induction k with
  | zero => intro _; exact ⟨Or.inl rfl, Or.inl rfl⟩
  | succ k ih =>
    intro h
    obtain ⟨a, b⟩ := ih (by omega)
    exact ⟨a.i (by omega), b.i (by omega)⟩
theorem pop_pos {Y : Yv} {S : Sv} (h6 : Y.n ≤ 6) : (0 < popN Y S ↔ ¬ popN Y S = 0) ∧ ¬ popN Y S = -1 := by
  obtain ⟨s, hs, e⟩ := popn_nat (Y := Y) (S := S) h6
  rw [e]
  have key : ∀ s, s < 64 → (0 < nI s ↔ ¬ nI s = 0) ∧ ¬ nI s = (-1 : Int32) := by decide +kernel
  exact key s hs
set_option maxHeartbeats 4000000 in
set_option maxRecDepth 20000 in
theorem s_jd197 {G : Gt} {Mc : Mm} {Q : Option Value → Mm → Prop} {v x y f : Int32} {k : Nat} {u : Int32} (hx : m1R x) (hK : ∀ (u w : Int32), Ev G 7 mX11_judged 41 [.ref 238, .int v, .int (if f = 0 ∧ x = -1 then nI k else x), .int y, .int (nI (k + 1)), .int u, .int w] [] Mc Q) : Ev G 7 mX11_judged 197 [.ref 238, .int v, .int x, .int y, .int (nI k), .int u, .int f] [] Mc (Q) := by
  refine e_iload dX11_judged_197 rfl ?_
  refine e_if_ne (tgt := 209) dX11_judged_199 (by decide) (fun c199 => ?_) (fun c199 => ?_)
  · -- 199 jumps
    refine e_iinc (ls' := [_, _, _, _, _, _, _]) dX11_judged_209 rfl (nI_i1 _) (by decide) rfl ?_
    refine e_goto (tgt := 41) dX11_judged_212 (by decide) ?_
    rw [if_neg (fun q => c199 q.1)] at hK
    exact hK _ _
  · -- 199 goes on
    refine e_iload_n dX11_judged_202 rfl ?_
    refine e_if_ge (tgt := 209) dX11_judged_203 (by decide) (fun c203 => ?_) (fun c203 => ?_)
    · -- 203 jumps
      refine e_iinc (ls' := [_, _, _, _, _, _, _]) dX11_judged_209 rfl (nI_i1 _) (by decide) rfl ?_
      refine e_goto (tgt := 41) dX11_judged_212 (by decide) ?_
      rw [if_neg (fun q => c203 (hx.neg.mpr q.2))] at hK
      exact hK _ _
    · -- 203 goes on
      refine e_iload dX11_judged_206 rfl ?_
      refine e_istore_n (ls' := [_, _, _, _, _, _, _]) dX11_judged_208 (by decide) rfl ?_
      refine e_iinc (ls' := [_, _, _, _, _, _, _]) dX11_judged_209 rfl (nI_i1 _) (by decide) rfl ?_
      refine e_goto (tgt := 41) dX11_judged_212 (by decide) ?_
      rw [if_pos ⟨c199, hx.neg.mp c203⟩] at hK
      exact hK _ _
set_option maxHeartbeats 4000000 in
set_option maxRecDepth 20000 in
theorem s_jd0 {G : Gt} {M Mc : Mm} {Y : Yv} {S : Sv} {Q : Option Value → Mm → Prop} {v x y : Int32} {k : Nat} {u w : Value} (hk : k < 40) (hYc : RY Mc Y) (hT : TB 274 M Mc Y.n S) (hx : m1R x) (hw : Mc.1 266 k = 0) (hy : m1R y) (hL : RLw Mc Y.gE) (hN : NS Y) {T : Nat} (hI : SI Y S T) (hTT : T < 2 ^ 31) (hK : ∀ (M2 : Mm) (u w : Int32), TB 274 M M2 Y.n (nightV Y S) → Ev G 7 mX11_judged 41 [.ref 238, .int v, .int (x), .int (if 0 < popN Y S ∧ y = -1 then nI k else y), .int (nI (k + 1)), .int u, .int w] [] M2 Q) : Ev G 7 mX11_judged 52 [.ref 238, .int v, .int x, .int y, .int (nI k), u, w] [] Mc (Q) := by
  have h6 := hYc.1.2
  obtain ⟨r0, -, -, -, t, ht, htT⟩ := id hI
  refine e_aload_n dX11_judged_52 rfl ?_
  refine e_getR dX11_judged_53 fl_X11_96 sh_m rfl ?_
  refine e_iload dX11_judged_56 rfl ?_
  refine e_ialdN (j := k) dX11_judged_58 (sa_m_lineA) (by decide) (by omega) ?_
  refine e_istore (ls' := [_, _, _, _, _, _, _]) dX11_judged_59 (by decide) rfl ?_
  refine e_iconst (v := 1) dX11_judged_61 (by decide) ?_
  refine e_istore (ls' := [_, _, _, _, _, _, _]) dX11_judged_62 (by decide) rfl ?_
  refine e_aload_n dX11_judged_64 rfl ?_
  refine e_getR dX11_judged_65 fl_X11_93 sh_m rfl ?_
  refine e_iload dX11_judged_68 rfl ?_
  refine e_ialdN (j := k) dX11_judged_70 (sa_m_lineWhat) (by decide) (by omega) ?_
  rw [hw]
  refine e_if_ne (tgt := 91) dX11_judged_71 (by decide) (fun c71 => absurd c71 (by decide)) (fun c71 => ?_)
  refine e_aload_n dX11_judged_74 rfl ?_
  refine cV0x dX11_judged_75 mo_X11_passesAsTold ml_X11_410 sh_m rfl (Nat.le_of_ble_eq_true rfl) (by omega) (r_passesAsTold hYc hT.2.2 hL hN ht (by omega)) ?_
  rintro r M2 ⟨rfl, hp1, hp2, hp3⟩
  dsimp only [Option.toList, List.cons_append, List.nil_append]
  refine e_if_eq (tgt := 197) dX11_judged_78 (by decide) (fun c78 => ?_) (fun c78 => ?_)
  · -- 78 jumps
    refine s_jd197 hx (fun u2 w2 => ?_)
    rw [if_neg (fun q => absurd q.1 (by decide))]
    rw [if_neg (fun q => (pop_pos h6).1.mp q.1 c78)] at hK
    exact hK M2 _ _ (hT.pf tx4 hp1 hp2)
  · -- 78 goes on
    refine e_iload_n dX11_judged_81 rfl ?_
    refine e_if_ge (tgt := 197) dX11_judged_82 (by decide) (fun c82 => ?_) (fun c82 => ?_)
    · -- 82 jumps
      refine s_jd197 hx (fun u2 w2 => ?_)
      rw [if_neg (fun q => absurd q.1 (by decide))]
      rw [if_neg (fun q => c82 (hy.neg.mpr q.2))] at hK
      exact hK M2 _ _ (hT.pf tx4 hp1 hp2)
    · -- 82 goes on
      refine e_iload dX11_judged_85 rfl ?_
      refine e_istore_n (ls' := [_, _, _, _, _, _, _]) dX11_judged_87 (by decide) rfl ?_
      refine e_goto (tgt := 197) dX11_judged_88 (by decide) ?_
      refine s_jd197 hx (fun u2 w2 => ?_)
      rw [if_neg (fun q => absurd q.1 (by decide))]
      rw [if_pos ⟨(pop_pos h6).1.mpr c78, hy.neg.mp c82⟩] at hK
      exact hK M2 _ _ (hT.pf tx4 hp1 hp2)
set_option maxHeartbeats 4000000 in
set_option maxRecDepth 20000 in
theorem s_jd1 {G : Gt} {M Mc : Mm} {Y : Yv} {S : Sv} {Q : Option Value → Mm → Prop} {v x y : Int32} {k : Nat} {u w : Value} (hk : k < 40) (hYc : RY Mc Y) (hT : TB 274 M Mc Y.n S) (hx : m1R x) (hw : Mc.1 266 k = 1) {j : Nat} {z : Int32} (hj : j < Y.n) (hA : Mc.1 267 k = nI j) (hB : Mc.1 268 k = z) (hK : ∀ (M2 : Mm) (u w : Int32), TB 274 M M2 Y.n (heatV S j z) → Ev G 7 mX11_judged 41 [.ref 238, .int v, .int (x), .int (y), .int (nI (k + 1)), .int u, .int w] [] M2 Q) : Ev G 7 mX11_judged 52 [.ref 238, .int v, .int x, .int y, .int (nI k), u, w] [] Mc (Q) := by
  have h6 := hYc.1.2
  refine e_aload_n dX11_judged_52 rfl ?_
  refine e_getR dX11_judged_53 fl_X11_96 sh_m rfl ?_
  refine e_iload dX11_judged_56 rfl ?_
  refine e_ialdN (j := k) dX11_judged_58 (sa_m_lineA) (by decide) (by omega) ?_
  rw [hA]
  refine e_istore (ls' := [_, _, _, _, _, _, _]) dX11_judged_59 (by decide) rfl ?_
  refine e_iconst (v := 1) dX11_judged_61 (by decide) ?_
  refine e_istore (ls' := [_, _, _, _, _, _, _]) dX11_judged_62 (by decide) rfl ?_
  refine e_aload_n dX11_judged_64 rfl ?_
  refine e_getR dX11_judged_65 fl_X11_93 sh_m rfl ?_
  refine e_iload dX11_judged_68 rfl ?_
  refine e_ialdN (j := k) dX11_judged_70 (sa_m_lineWhat) (by decide) (by omega) ?_
  rw [hw]
  refine e_if_ne (tgt := 91) dX11_judged_71 (by decide) (fun c71 => ?_) (fun c71 => absurd c71 (by decide))
  refine e_aload_n dX11_judged_91 rfl ?_
  refine e_getR dX11_judged_92 fl_X11_93 sh_m rfl ?_
  refine e_iload dX11_judged_95 rfl ?_
  refine e_ialdN (j := k) dX11_judged_97 (sa_m_lineWhat) (by decide) (by omega) ?_
  rw [hw]
  refine e_iconst (v := 1) dX11_judged_98 (by decide) ?_
  refine e_icmp_ne (tgt := 121) dX11_judged_99 (by decide) (fun c99 => absurd c99 (by decide)) (fun c99 => ?_)
  refine e_aload_n dX11_judged_102 rfl ?_
  refine e_getR dX11_judged_103 fl_X11_114 sh_m rfl ?_
  refine e_iconst (v := 2) dX11_judged_106 (by decide) ?_
  refine e_iload dX11_judged_107 rfl ?_
  refine e_iaddN (a := 2) (b := j) dX11_judged_109 ?_
  refine e_aload_n dX11_judged_110 rfl ?_
  refine e_getR dX11_judged_111 fl_X11_99 sh_m rfl ?_
  refine e_iload dX11_judged_114 rfl ?_
  refine e_ialdN (j := k) dX11_judged_116 (sa_m_lineB) (by decide) (by omega) ?_
  rw [hB]
  refine e_iastN (j := (2 + j)) dX11_judged_117 (sa_m_s) (by decide) (by omega) ?_
  refine e_goto (tgt := 197) dX11_judged_118 (by decide) ?_
  refine s_jd197 hx (fun u2 w2 => ?_)
  rw [if_neg (fun q => absurd q.1 (by decide))]
  exact hK _ _ _ (hT.o3 tx4 (O3.rfl'.i _ _) (hT.2.2.heat hj h6))
set_option maxHeartbeats 4000000 in
set_option maxRecDepth 20000 in
theorem s_jd2 {G : Gt} {M Mc : Mm} {Y : Yv} {S : Sv} {Q : Option Value → Mm → Prop} {v x y : Int32} {k : Nat} {u w : Value} (hk : k < 40) (hYc : RY Mc Y) (hT : TB 274 M Mc Y.n S) (hx : m1R x) (hw : Mc.1 266 k = 2) {j : Nat} (hj : j < Y.n) (hA : Mc.1 267 k = nI j) (hK : ∀ (M2 : Mm) (u w : Int32), TB 274 M M2 Y.n (litV S (nI j)) → Ev G 7 mX11_judged 41 [.ref 238, .int v, .int (if bitI S.lit (nI j) ∧ x = -1 then nI k else x), .int (y), .int (nI (k + 1)), .int u, .int w] [] M2 Q) : Ev G 7 mX11_judged 52 [.ref 238, .int v, .int x, .int y, .int (nI k), u, w] [] Mc (Q) := by
  have h6 := hYc.1.2
  refine e_aload_n dX11_judged_52 rfl ?_
  refine e_getR dX11_judged_53 fl_X11_96 sh_m rfl ?_
  refine e_iload dX11_judged_56 rfl ?_
  refine e_ialdN (j := k) dX11_judged_58 (sa_m_lineA) (by decide) (by omega) ?_
  rw [hA]
  refine e_istore (ls' := [_, _, _, _, _, _, _]) dX11_judged_59 (by decide) rfl ?_
  refine e_iconst (v := 1) dX11_judged_61 (by decide) ?_
  refine e_istore (ls' := [_, _, _, _, _, _, _]) dX11_judged_62 (by decide) rfl ?_
  refine e_aload_n dX11_judged_64 rfl ?_
  refine e_getR dX11_judged_65 fl_X11_93 sh_m rfl ?_
  refine e_iload dX11_judged_68 rfl ?_
  refine e_ialdN (j := k) dX11_judged_70 (sa_m_lineWhat) (by decide) (by omega) ?_
  rw [hw]
  refine e_if_ne (tgt := 91) dX11_judged_71 (by decide) (fun c71 => ?_) (fun c71 => absurd c71 (by decide))
  refine e_aload_n dX11_judged_91 rfl ?_
  refine e_getR dX11_judged_92 fl_X11_93 sh_m rfl ?_
  refine e_iload dX11_judged_95 rfl ?_
  refine e_ialdN (j := k) dX11_judged_97 (sa_m_lineWhat) (by decide) (by omega) ?_
  rw [hw]
  refine e_iconst (v := 1) dX11_judged_98 (by decide) ?_
  refine e_icmp_ne (tgt := 121) dX11_judged_99 (by decide) (fun c99 => ?_) (fun c99 => absurd c99 (by decide))
  refine e_aload_n dX11_judged_121 rfl ?_
  refine e_getR dX11_judged_122 fl_X11_93 sh_m rfl ?_
  refine e_iload dX11_judged_125 rfl ?_
  refine e_ialdN (j := k) dX11_judged_127 (sa_m_lineWhat) (by decide) (by omega) ?_
  rw [hw]
  refine e_iconst (v := 2) dX11_judged_128 (by decide) ?_
  refine e_icmp_ne (tgt := 164) dX11_judged_129 (by decide) (fun c129 => absurd c129 (by decide)) (fun c129 => ?_)
  refine e_aload_n dX11_judged_132 rfl ?_
  refine e_iload dX11_judged_133 rfl ?_
  refine cV1r dX11_judged_135 mo_X11_isLit ml_X11_363 sh_m rfl (Nat.le_of_ble_eq_true rfl) (by omega) (r_isLit hT.2.2) ?_
  refine e_if_ne (tgt := 145) dX11_judged_138 (by decide) (fun c138 => ?_) (fun c138 => ?_)
  · -- 138 jumps
    refine e_iconst (v := 0) dX11_judged_145 (by decide) ?_
    refine e_istore (ls' := [_, _, _, _, _, _, _]) dX11_judged_146 (by decide) rfl ?_
    refine e_aload_n dX11_judged_148 rfl ?_
    refine e_getR dX11_judged_149 fl_X11_114 sh_m rfl ?_
    refine e_iconst (v := 1) dX11_judged_152 (by decide) ?_
    refine e_dup2 dX11_judged_153 rfl rfl ?_
    refine e_ialdN (j := 1) dX11_judged_154 (sa_m_s) (by decide) (by omega) ?_
    rw [hT.2.2.li]
    refine e_iconst (v := 1) dX11_judged_155 (by decide) ?_
    refine e_iload dX11_judged_156 rfl ?_
    refine e_ishl dX11_judged_158 ?_
    refine e_ior dX11_judged_159 ?_
    refine e_iastN (j := 1) dX11_judged_160 (sa_m_s) (by decide) (by omega) ?_
    refine e_goto (tgt := 197) dX11_judged_161 (by decide) ?_
    refine s_jd197 hx (fun u2 w2 => ?_)
    have hb : bitI S.lit (nI j) := Classical.not_not.mp (fun q => c138 (b2i_f q))
    rw [show ((if (0 : Int32) = 0 ∧ x = -1 then nI k else x) : Int32) = (if bitI S.lit (nI j) ∧ x = -1 then nI k else x) from by by_cases e : x = -1; rw [if_pos ⟨rfl, e⟩, if_pos ⟨hb, e⟩]; rw [if_neg (fun q => e q.2), if_neg (fun q => e q.2)]]
    exact hK _ _ _ (hT.o3 tx4 (O3.rfl'.i _ _) (hT.2.2.lit h6))
  · -- 138 goes on
    refine e_iconst (v := 1) dX11_judged_141 (by decide) ?_
    refine e_goto (tgt := 146) dX11_judged_142 (by decide) ?_
    refine e_istore (ls' := [_, _, _, _, _, _, _]) dX11_judged_146 (by decide) rfl ?_
    refine e_aload_n dX11_judged_148 rfl ?_
    refine e_getR dX11_judged_149 fl_X11_114 sh_m rfl ?_
    refine e_iconst (v := 1) dX11_judged_152 (by decide) ?_
    refine e_dup2 dX11_judged_153 rfl rfl ?_
    refine e_ialdN (j := 1) dX11_judged_154 (sa_m_s) (by decide) (by omega) ?_
    rw [hT.2.2.li]
    refine e_iconst (v := 1) dX11_judged_155 (by decide) ?_
    refine e_iload dX11_judged_156 rfl ?_
    refine e_ishl dX11_judged_158 ?_
    refine e_ior dX11_judged_159 ?_
    refine e_iastN (j := 1) dX11_judged_160 (sa_m_s) (by decide) (by omega) ?_
    refine e_goto (tgt := 197) dX11_judged_161 (by decide) ?_
    refine s_jd197 hx (fun u2 w2 => ?_)
    have hb := b2i_eq0.mp c138
    rw [if_neg (fun q => absurd q.1 (by decide))]
    rw [if_neg (fun q => hb q.1)] at hK
    exact hK _ _ _ (hT.o3 tx4 (O3.rfl'.i _ _) (hT.2.2.lit h6))
set_option maxHeartbeats 4000000 in
set_option maxRecDepth 20000 in
theorem s_jd3 {G : Gt} {M Mc : Mm} {Y : Yv} {S : Sv} {Q : Option Value → Mm → Prop} {v x y : Int32} {k : Nat} {u w : Value} (hk : k < 40) (hYc : RY Mc Y) (hT : TB 274 M Mc Y.n S) (hx : m1R x) (hw : Mc.1 266 k = 3) {j : Nat} {z : Int32} (hj : j < Y.n) (hA : Mc.1 267 k = nI j) (hB : Mc.1 268 k = z) (hK : ∀ (M2 : Mm) (u w : Int32), TB 274 M M2 Y.n (if canB S j z = true then loseV S j z else S) → Ev G 7 mX11_judged 41 [.ref 238, .int v, .int (if canB S j z = false ∧ x = -1 then nI k else x), .int (y), .int (nI (k + 1)), .int u, .int w] [] M2 Q) : Ev G 7 mX11_judged 52 [.ref 238, .int v, .int x, .int y, .int (nI k), u, w] [] Mc (Q) := by
  have h6 := hYc.1.2
  refine e_aload_n dX11_judged_52 rfl ?_
  refine e_getR dX11_judged_53 fl_X11_96 sh_m rfl ?_
  refine e_iload dX11_judged_56 rfl ?_
  refine e_ialdN (j := k) dX11_judged_58 (sa_m_lineA) (by decide) (by omega) ?_
  rw [hA]
  refine e_istore (ls' := [_, _, _, _, _, _, _]) dX11_judged_59 (by decide) rfl ?_
  refine e_iconst (v := 1) dX11_judged_61 (by decide) ?_
  refine e_istore (ls' := [_, _, _, _, _, _, _]) dX11_judged_62 (by decide) rfl ?_
  refine e_aload_n dX11_judged_64 rfl ?_
  refine e_getR dX11_judged_65 fl_X11_93 sh_m rfl ?_
  refine e_iload dX11_judged_68 rfl ?_
  refine e_ialdN (j := k) dX11_judged_70 (sa_m_lineWhat) (by decide) (by omega) ?_
  rw [hw]
  refine e_if_ne (tgt := 91) dX11_judged_71 (by decide) (fun c71 => ?_) (fun c71 => absurd c71 (by decide))
  refine e_aload_n dX11_judged_91 rfl ?_
  refine e_getR dX11_judged_92 fl_X11_93 sh_m rfl ?_
  refine e_iload dX11_judged_95 rfl ?_
  refine e_ialdN (j := k) dX11_judged_97 (sa_m_lineWhat) (by decide) (by omega) ?_
  rw [hw]
  refine e_iconst (v := 1) dX11_judged_98 (by decide) ?_
  refine e_icmp_ne (tgt := 121) dX11_judged_99 (by decide) (fun c99 => ?_) (fun c99 => absurd c99 (by decide))
  refine e_aload_n dX11_judged_121 rfl ?_
  refine e_getR dX11_judged_122 fl_X11_93 sh_m rfl ?_
  refine e_iload dX11_judged_125 rfl ?_
  refine e_ialdN (j := k) dX11_judged_127 (sa_m_lineWhat) (by decide) (by omega) ?_
  rw [hw]
  refine e_iconst (v := 2) dX11_judged_128 (by decide) ?_
  refine e_icmp_ne (tgt := 164) dX11_judged_129 (by decide) (fun c129 => ?_) (fun c129 => absurd c129 (by decide))
  refine e_aload_n dX11_judged_164 rfl ?_
  refine e_iload dX11_judged_165 rfl ?_
  refine e_aload_n dX11_judged_167 rfl ?_
  refine e_getR dX11_judged_168 fl_X11_99 sh_m rfl ?_
  refine e_iload dX11_judged_171 rfl ?_
  refine e_ialdN (j := k) dX11_judged_173 (sa_m_lineB) (by decide) (by omega) ?_
  rw [hB]
  refine cV2r dX11_judged_174 mo_X11_canPull ml_X11_413 sh_m rfl (Nat.le_of_ble_eq_true rfl) (by omega) (r_canPull hT.2.2 hj h6) ?_
  refine e_istore (ls' := [_, _, _, _, _, _, _]) dX11_judged_177 (by decide) rfl ?_
  refine e_iload dX11_judged_179 rfl ?_
  refine e_if_eq (tgt := 197) dX11_judged_181 (by decide) (fun c181 => ?_) (fun c181 => ?_)
  · -- 181 jumps
    have hb := b2i_eq0.mp c181
    refine s_jd197 hx (fun u2 w2 => ?_)
    rw [b2i_f hb]
    rw [if_neg hb] at hK
    have hb2 : canB S j z = false := Bool.eq_false_iff.mpr hb
    rw [show ((if (0 : Int32) = 0 ∧ x = -1 then nI k else x) : Int32) = (if canB S j z = false ∧ x = -1 then nI k else x) from by by_cases e : x = -1; rw [if_pos ⟨rfl, e⟩, if_pos ⟨hb2, e⟩]; rw [if_neg (fun q => e q.2), if_neg (fun q => e q.2)]]
    exact hK _ _ _ hT
  · -- 181 goes on
    refine e_aload_n dX11_judged_184 rfl ?_
    refine e_iload dX11_judged_185 rfl ?_
    refine e_aload_n dX11_judged_187 rfl ?_
    refine e_getR dX11_judged_188 fl_X11_99 sh_m rfl ?_
    refine e_iload dX11_judged_191 rfl ?_
    refine e_ialdN (j := k) dX11_judged_193 (sa_m_lineB) (by decide) (by omega) ?_
    rw [hB]
    refine cV2x dX11_judged_194 mo_X11_pulls ml_X11_416 sh_m rfl (Nat.le_of_ble_eq_true rfl) (by omega) (r_pulls hT.2.2 hj h6) ?_
    rintro r M2 ⟨rfl, hO, hR⟩
    dsimp only [Option.toList, List.cons_append, List.nil_append]
    have hb : canB S j z = true := Classical.not_not.mp (fun q => c181 (b2i_f q))
    refine s_jd197 hx (fun u2 w2 => ?_)
    rw [b2i_t hb, if_neg (fun q => absurd q.1 (by decide))]
    rw [if_pos hb, if_neg (fun q => by rw [hb] at q; cases q.1)] at hK
    exact hK _ _ _ (hT.o3 tx4 hO hR)
set_option maxHeartbeats 4000000 in
set_option maxRecDepth 20000 in
theorem l_rjudge {G : Gt} {M : Mm} {E : Gs} (hJ : RJ M E) {T : Nat} (hI : SI E.Y (begV E.Y) T) (hTT : T < 2 ^ 30) (hN : NS E.Y) (hWI : WI E.Y.n E.W) {v : Int32} : ∀ (k : Nat) (i : Nat) (Mc : Mm) (u w : Value), (i ≤ E.W.1) → (E.W.1 < i + k) → (TB 274 M Mc E.Y.n (jdN E.Y E.W (begV E.Y) i).1) → Ev G 7 mX11_judged 41 [.ref 238, .int v, .int (jdN E.Y E.W (begV E.Y) i).2.1, .int (jdN E.Y E.W (begV E.Y) i).2.2, .int (nI i), u, w] [] Mc (fun r M' => r = some (.int (if v = 0 then (jdN E.Y E.W (begV E.Y) E.W.1).2.1 else if v = 1 then (jdN E.Y E.W (begV E.Y) E.W.1).2.2 else sumI (jdN E.Y E.W (begV E.Y) E.W.1).1.crow E.Y.n)) ∧ RC M M') := by
  intro k
  induction k with
  | zero => intro i Mc u w hi hk hT; exact absurd hk (by omega)
  | succ k ih =>
    intro i Mc u w hi hk hT
    have hY := hJ.1
    have h6 := hY.1.2
    have hs5 := hY.2.1.2
    have hL := hJ.2.1
    have hS := hJ.2.2.1
    have hYc := hT.1.ry hY
    have hLc := hT.1.rl hL
    have hW := hJ.2.2.2.1
    have hW40 := hW.2.1
    have hWc : RLi Mc 0 E.W := hW.congr (fun z a b => hT.1.2.2.1 z (by unfold rsd; omega))
    obtain ⟨hm1, hm2⟩ := jd_m1 (Y := E.Y) (W := E.W) (S := begV E.Y) i (by omega)
    have hIi := hI.jd h6 hWI i hi
    refine e_iload dX11_judged_41 rfl ?_
    refine e_aload_n dX11_judged_43 rfl ?_
    refine e_getR dX11_judged_44 fl_X11_90 sh_m rfl ?_
    refine e_iconst (v := 0) dX11_judged_47 (by decide) ?_
    refine e_ialdN (j := 0) dX11_judged_48 (sa_m_lines) (by decide) (by omega) ?_
    rw [hWc.1]
    refine e_icmp_ge (tgt := 215) dX11_judged_49 (by decide) (fun c49 => ?_) (fun c49 => ?_)
    · -- 49 jumps
      have hin : i = E.W.1 := by have := ge_of (i := i) (n := E.W.1) (by omega) (by omega) c49; omega
      subst hin
      refine e_aload_n dX11_judged_215 rfl ?_
      refine cV0r dX11_judged_216 mo_X11_allCrowns ml_X11_419 sh_m rfl (Nat.le_of_ble_eq_true rfl) (by omega) (r_allCrowns hT.2.2 h6) ?_
      refine e_istore (ls' := [_, _, _, _, _, _, _]) dX11_judged_219 (by decide) rfl ?_
      refine e_aload_n dX11_judged_221 rfl ?_
      refine e_getR dX11_judged_222 fl_X11_117 sh_m rfl ?_
      refine e_iconst (v := 0) dX11_judged_225 (by decide) ?_
      refine e_aload_n dX11_judged_226 rfl ?_
      refine e_getR dX11_judged_227 fl_X11_114 sh_m rfl ?_
      refine e_iconst (v := 0) dX11_judged_230 (by decide) ?_
      refine cS4v dX11_judged_231 mo_X11_copies ml_X11_403 (Nat.le_of_ble_eq_true rfl) (by omega) (r_copies (p := 0) (b := 0) (sa_m_aside) (sa_m_s) (by omega) (by omega) (by decide) (by decide) (by decide)) ?_
      refine e_iload_n dX11_judged_234 rfl ?_
      refine e_if_ne (tgt := 242) dX11_judged_235 (by decide) (fun c235 => ?_) (fun c235 => ?_)
      · -- 235 jumps
        refine e_iload_n dX11_judged_242 rfl ?_
        refine e_iconst (v := 1) dX11_judged_243 (by decide) ?_
        refine e_icmp_ne (tgt := 251) dX11_judged_244 (by decide) (fun c244 => ?_) (fun c244 => ?_)
        · -- 244 jumps
          refine e_iload dX11_judged_251 rfl ?_
          refine e_iret dX11_judged_253 rfl ?_
          exact ⟨by rw [if_neg c235, if_neg c244], hT.back⟩
        · -- 244 goes on
          refine e_iload_n dX11_judged_247 rfl ?_
          refine e_goto (tgt := 253) dX11_judged_248 (by decide) ?_
          refine e_iret dX11_judged_253 rfl ?_
          exact ⟨by rw [if_neg c235, if_pos c244], hT.back⟩
      · -- 235 goes on
        refine e_iload_n dX11_judged_238 rfl ?_
        refine e_goto (tgt := 253) dX11_judged_239 (by decide) ?_
        refine e_iret dX11_judged_253 rfl ?_
        exact ⟨by rw [if_pos c235], hT.back⟩
    · -- 49 goes on
      have hlt : i < E.W.1 := lt_of (i := i) (n := E.W.1) (by omega) (by omega) c49
      obtain ⟨z1, z2, z3⟩ := hWc.z hlt
      obtain ⟨hw1, hw2⟩ := hWI i hlt
      rcases hw1 with hd0 | ⟨hd, j, hj, ej⟩
      · refine s_jd0 (by omega) hYc hT hm1 (z1.trans hd0) hm2 hLc hN hIi (by omega) (fun M2 u2 w2 hT2 => ?_)
        have hh := ih (i + 1) M2 (.int u2) (.int w2) (by omega) (by omega)
        have e : crV E.Y (jdN E.Y E.W (begV E.Y) i).1 (E.W.2.1 i) (E.W.2.2.1 i) (E.W.2.2.2 i) = (nightV E.Y (jdN E.Y E.W (begV E.Y) i).1, popN E.Y (jdN E.Y E.W (begV E.Y) i).1) := by unfold crV; exact if_pos hd0
        simp only [jdN, e] at hh
        rw [if_neg (fun q => (pop_pos h6).2 q.1)] at hh
        exact hh hT2
      · have hd0 : ¬ E.W.2.1 i = 0 := by rcases hd with q | q | q <;> rw [q] <;> decide
        have hA : Mc.1 267 i = nI j := (z2 hd0).trans ej
        rcases hd with hd | hd | hd
        · refine s_jd1 (by omega) hYc hT hm1 (z1.trans hd) hj hA (z3 (Or.inl hd)) (fun M2 u2 w2 hT2 => ?_)
          have hh := ih (i + 1) M2 (.int u2) (.int w2) (by omega) (by omega)
          have e : crV E.Y (jdN E.Y E.W (begV E.Y) i).1 (E.W.2.1 i) (E.W.2.2.1 i) (E.W.2.2.2 i) = (heatV (jdN E.Y E.W (begV E.Y) i).1 j (E.W.2.2.2 i), 0) := by unfold crV; rw [if_neg hd0, if_pos hd, ej, nI_clamp (by omega)]
          simp only [jdN, e] at hh
          rw [if_neg (fun q => absurd q.1 (by decide)), if_neg (fun q => absurd q.1 (by decide))] at hh
          exact hh hT2
        · refine s_jd2 (by omega) hYc hT hm1 (z1.trans hd) hj hA (fun M2 u2 w2 hT2 => ?_)
          have hh := ih (i + 1) M2 (.int u2) (.int w2) (by omega) (by omega)
          have e : crV E.Y (jdN E.Y E.W (begV E.Y) i).1 (E.W.2.1 i) (E.W.2.2.1 i) (E.W.2.2.2 i) = (litV (jdN E.Y E.W (begV E.Y) i).1 (nI j), if bitI (jdN E.Y E.W (begV E.Y) i).1.lit (nI j) then -1 else 0) := by unfold crV; rw [if_neg hd0, if_neg (fun q => absurd (hd.symm.trans q) (by decide)), if_pos hd, ej]
          simp only [jdN, e] at hh
          by_cases hb : bitI (jdN E.Y E.W (begV E.Y) i).1.lit (nI j)
          · have hz : ¬ (0 < (-1 : Int32) ∧ (jdN E.Y E.W (begV E.Y) i).2.2 = -1) := fun q => absurd q.1 (by decide)
            rw [if_pos hb, if_neg hz] at hh
            rw [show ((if bitI (jdN E.Y E.W (begV E.Y) i).1.lit (nI j) ∧ (jdN E.Y E.W (begV E.Y) i).2.1 = -1 then nI i else (jdN E.Y E.W (begV E.Y) i).2.1) : Int32) = (if (-1 : Int32) = -1 ∧ (jdN E.Y E.W (begV E.Y) i).2.1 = -1 then nI i else (jdN E.Y E.W (begV E.Y) i).2.1) from by by_cases e2 : (jdN E.Y E.W (begV E.Y) i).2.1 = -1; rw [if_pos ⟨hb, e2⟩, if_pos ⟨rfl, e2⟩]; rw [if_neg (fun q => e2 q.2), if_neg (fun q => e2 q.2)]]
            exact hh hT2
          · rw [if_neg hb, if_neg (fun q => absurd q.1 (by decide)), if_neg (fun q => absurd q.1 (by decide))] at hh
            rw [if_neg (fun q => hb q.1)]
            exact hh hT2
        · refine s_jd3 (by omega) hYc hT hm1 (z1.trans hd) hj hA (z3 (Or.inr hd)) (fun M2 u2 w2 hT2 => ?_)
          have hh := ih (i + 1) M2 (.int u2) (.int w2) (by omega) (by omega)
          have e : crV E.Y (jdN E.Y E.W (begV E.Y) i).1 (E.W.2.1 i) (E.W.2.2.1 i) (E.W.2.2.2 i) = if canB (jdN E.Y E.W (begV E.Y) i).1 j (E.W.2.2.2 i) = true then (loseV (jdN E.Y E.W (begV E.Y) i).1 j (E.W.2.2.2 i), 0) else ((jdN E.Y E.W (begV E.Y) i).1, -1) := by unfold crV; rw [if_neg hd0, if_neg (fun q => absurd (hd.symm.trans q) (by decide)), if_neg (fun q => absurd (hd.symm.trans q) (by decide)), ej, nI_clamp (by omega)]
          by_cases hb : canB (jdN E.Y E.W (begV E.Y) i).1 j (E.W.2.2.2 i) = true
          · rw [if_pos hb] at e hT2
            simp only [jdN, e] at hh
            rw [if_neg (fun q => absurd q.1 (by decide)), if_neg (fun q => absurd q.1 (by decide))] at hh
            rw [if_neg (fun q => by rw [hb] at q; cases q.1)]
            exact hh hT2
          · rw [if_neg hb] at e hT2
            simp only [jdN, e] at hh
            have hb2 : canB (jdN E.Y E.W (begV E.Y) i).1 j (E.W.2.2.2 i) = false := Bool.eq_false_iff.mpr hb
            have hz : ¬ (0 < (-1 : Int32) ∧ (jdN E.Y E.W (begV E.Y) i).2.2 = -1) := fun q => absurd q.1 (by decide)
            rw [if_neg hz] at hh
            rw [show ((if canB (jdN E.Y E.W (begV E.Y) i).1 j (E.W.2.2.2 i) = false ∧ (jdN E.Y E.W (begV E.Y) i).2.1 = -1 then nI i else (jdN E.Y E.W (begV E.Y) i).2.1) : Int32) = (if True ∧ (jdN E.Y E.W (begV E.Y) i).2.1 = -1 then nI i else (jdN E.Y E.W (begV E.Y) i).2.1) from by by_cases e2 : (jdN E.Y E.W (begV E.Y) i).2.1 = -1; rw [if_pos ⟨hb2, e2⟩, if_pos ⟨trivial, e2⟩]; rw [if_neg (fun q => e2 q.2), if_neg (fun q => e2 q.2)]]
            exact hh hT2
set_option maxHeartbeats 4000000 in
set_option maxRecDepth 20000 in
theorem r_judged {G : Gt} {M : Mm} {E : Gs} (hJ : RJ M E) {T : Nat} (hI : SI E.Y (begV E.Y) T) (hTT : T < 2 ^ 30) (hN : NS E.Y) (hWI : WI E.Y.n E.W) {v : Int32} : Call G 7 mX11_judged [.ref 238, .int v] M (fun r M' => r = some (.int (judgedQ E v)) ∧ RC M M') := by
  refine Call.intro rfl (Nat.le_of_ble_eq_true rfl) ?_
  show Ev G _ mX11_judged 0 [.ref 238, .int v, RA, RA, RA, RA, RA] [] M _
  refine e_aload_n dX11_judged_0 rfl ?_
  refine e_iconst (v := 0) dX11_judged_1 (by decide) ?_
  refine e_putI dX11_judged_2 fl_X11_153 sh_m rfl rfl rfl ?_
  refine th0 (fun M1 hC1 => ?_)
  have hJ := hC1.keep hJ
  have hY := hJ.1
  have h6 := hY.1.2
  have hs5 := hY.2.1.2
  have hL := hJ.2.1
  have hS := hJ.2.2.1
  refine e_iload_n dX11_judged_5 rfl ?_
  refine e_iconst (v := 0) dX11_judged_6 (by decide) ?_
  refine e_iconst (v := 2) dX11_judged_7 (by decide) ?_
  refine cS3r dX11_judged_8 mo_X11_within ml_X11_274 (Nat.le_of_ble_eq_true rfl) (by omega) (r_within) ?_
  refine e_if_ne (tgt := 17) dX11_judged_11 (by decide) (fun c11 => ?_) (fun c11 => ?_)
  · -- 11 jumps
    have c11 : vWi v 0 2 := by
      by_cases h : (vWi v 0 2)
      · exact h
      · exact absurd (b2i_f h) c11
    refine e_aload_n dX11_judged_17 rfl ?_
    refine e_getR dX11_judged_18 fl_X11_114 sh_m rfl ?_
    refine e_iconst (v := 0) dX11_judged_21 (by decide) ?_
    refine e_aload_n dX11_judged_22 rfl ?_
    refine e_getR dX11_judged_23 fl_X11_117 sh_m rfl ?_
    refine e_iconst (v := 0) dX11_judged_26 (by decide) ?_
    refine cS4v dX11_judged_27 mo_X11_copies ml_X11_403 (Nat.le_of_ble_eq_true rfl) (by omega) (r_copies (p := 0) (b := 0) (sa_m_s) (sa_m_aside) (by omega) (by omega) (by decide) (by decide) (by decide)) ?_
    have hT0 := TB.start tx4 h6 hS
    have hY0 := hT0.1.ry hY
    refine e_aload_n dX11_judged_30 rfl ?_
    refine cV0x dX11_judged_31 mo_X11_fresh0 ml_X11_150 sh_m rfl (Nat.le_of_ble_eq_true rfl) (by omega) (r_fresh0 hY0) ?_
    rintro r M2 ⟨rfl, hO, hR⟩
    dsimp only [Option.toList, List.cons_append, List.nil_append]
    refine e_iconst (v := (-1)) dX11_judged_34 (by decide) ?_
    refine e_istore_n (ls' := [_, _, _, _, _, _, _]) dX11_judged_35 (by decide) rfl ?_
    refine e_iconst (v := (-1)) dX11_judged_36 (by decide) ?_
    refine e_istore_n (ls' := [_, _, _, _, _, _, _]) dX11_judged_37 (by decide) rfl ?_
    refine e_iconst (v := 0) dX11_judged_38 (by decide) ?_
    refine e_istore (ls' := [_, _, _, _, _, _, _]) dX11_judged_39 (by decide) rfl ?_
    unfold judgedQ
    rw [if_pos c11]
    exact (l_rjudge hJ hI hTT hN hWI (E.W.1 + 1) 0 M2 _ _ (by omega) (by omega) (hT0.o3 tx4 hO hR)).weaken (fun r M2 h => ⟨h.1, hC1.trans h.2⟩)
  · -- 11 goes on
    refine e_bipush (v := (-2)) dX11_judged_14 (by decide) ?_
    refine e_iret dX11_judged_16 rfl ?_
    exact ⟨by unfold judgedQ; rw [if_neg (b2i_eq0.mp c11)], hC1⟩
end RJU
