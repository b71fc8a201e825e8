section RLN
/-- what a week's reading touches -/
def WKF (M M' : Mm) : Prop := M'.2.2 = M.2.2 ∧ (∀ i, ¬ i = 238 → M'.2.1 i = M.2.1 i) ∧ (∀ i, ¬ i = 238 → ¬ (265 ≤ i ∧ i ≤ 268) → M'.1 i = M.1 i) ∧ (∀ k, ¬ k = 5 → M'.1 265 k = M.1 265 k) ∧ (∀ c k, 266 ≤ c → c ≤ 268 → k < 200 → M'.1 c k = M.1 c k) ∧ ∀ k, k = 1 ∨ k = 3 ∨ k = 54 → M'.1 238 k = M.1 238 k
theorem WKF.rfl' {M : Mm} : WKF M M := ⟨rfl, fun _ _ => rfl, fun _ _ _ => rfl, fun _ _ => rfl, fun _ _ _ _ _ => rfl, fun _ _ => rfl⟩
theorem WKF.trans {A B C : Mm} (h : WKF A B) (k : WKF B C) : WKF A C := ⟨k.1.trans h.1, fun i a => (k.2.1 i a).trans (h.2.1 i a), fun i a b => (k.2.2.1 i a b).trans (h.2.2.1 i a b), fun i a => (k.2.2.2.1 i a).trans (h.2.2.2.1 i a), fun c i a b d => (k.2.2.2.2.1 c i a b d).trans (h.2.2.2.2.1 c i a b d), fun i a => (k.2.2.2.2.2 i a).trans (h.2.2.2.2.2 i a)⟩
theorem OF.wk {A B : Mm} (h : OF A B) : WKF A B := ⟨h.2.2.1, h.2.1, fun i a _ => h.1 i a, fun k _ => by rw [h.1 265 (by decide)], fun c k a b _ => by rw [h.1 c (by omega)], fun k q => h.2.2.2 k (by omega)⟩
theorem WKF.s {A B : Mm} (h : WKF A B) {c k : Nat} {v : Int32} (hc : 266 ≤ c ∧ c ≤ 268) (hk : 200 ≤ k) : WKF A (setI B c k v) := ⟨h.1, h.2.1, fun i a b => by rw [← h.2.2.1 i a b]; funext z; rw [setI_n (by omega)], fun z a => by rw [setI_n (by omega)]; exact h.2.2.2.1 z a, fun d z a b e => by rw [setI_1, if_neg (by omega)]; exact h.2.2.2.2.1 d z a b e, fun z a => by rw [setI_n (by omega)]; exact h.2.2.2.2.2 z a⟩
theorem WKF.s5 {A B : Mm} (h : WKF A B) {v : Int32} : WKF A (setI B 265 5 v) := ⟨h.1, h.2.1, fun i a b => by rw [← h.2.2.1 i a b]; funext z; rw [setI_n (by omega)], fun z a => by rw [setI_1, if_neg (fun x => a x.2)]; exact h.2.2.2.1 z a, fun d z a b e => by rw [setI_n (by omega)]; exact h.2.2.2.2.1 d z a b e, fun z a => by rw [setI_n (by omega)]; exact h.2.2.2.2.2 z a⟩
theorem WKF.nm {A B : Mm} {Y : Yv} (h : WKF A B) (hn : NMs A 0 Y) : NMs B 0 Y := ⟨by rw [h.2.2.1 240 (by omega) (by omega)]; exact hn.1, hn.2.1, fun j hj => by rw [h.2.1 241 (by omega)]; exact hn.2.2 j hj⟩
/-- a line being laid -/
def WB (M Mc : Mm) (W : Rv) (fw fa fb : Option Int32) : Prop := WKF M Mc ∧ RLi Mc 5 W ∧ (∀ v, fw = some v → Mc.1 266 (200 + W.1) = v) ∧ (∀ v, fa = some v → Mc.1 267 (200 + W.1) = v) ∧ ∀ v, fb = some v → Mc.1 268 (200 + W.1) = v
theorem nosome {P : Int32 → Prop} : ∀ v, (none : Option Int32) = some v → P v := fun v q => absurd q (by simp)
theorem WB.st {M : Mm} {W : Rv} (h : RLi M 5 W) : WB M M W none none none := ⟨WKF.rfl', h, nosome, nosome, nosome⟩
theorem WB.of {M Mc M1 : Mm} {W : Rv} {fw fa fb : Option Int32} (h : WB M Mc W fw fa fb) (hO : OF Mc M1) : WB M M1 W fw fa fb := ⟨h.1.trans hO.wk, h.2.1.congr (fun i a b => hO.1 i (by omega)), fun v q => by rw [hO.1 266 (by decide)]; exact h.2.2.1 v q, fun v q => by rw [hO.1 267 (by decide)]; exact h.2.2.2.1 v q, fun v q => by rw [hO.1 268 (by decide)]; exact h.2.2.2.2 v q⟩
theorem RLi.bey {M : Mm} {W : Rv} {c : Nat} {v : Int32} (h : RLi M 5 W) (hc : 266 ≤ c ∧ c ≤ 268) : RLi (setI M c (200 + W.1) v) 5 W := ⟨by rw [setI_n (by omega)]; exact h.1, h.2.1, fun k hk => by rw [setI_1, if_neg (by omega), setI_1, if_neg (by omega), setI_1, if_neg (by omega)]; exact h.2.2 k hk⟩
theorem WB.w {M Mc : Mm} {W : Rv} {fw fa fb : Option Int32} {v : Int32} (h : WB M Mc W fw fa fb) : WB M (setI Mc 266 (200 + W.1) v) W (some v) fa fb := ⟨h.1.s (by omega) (by omega), h.2.1.bey (by omega), fun z q => by rw [setI_p]; exact Option.some.inj q, fun z q => by rw [setI_n (by decide)]; exact h.2.2.2.1 z q, fun z q => by rw [setI_n (by decide)]; exact h.2.2.2.2 z q⟩
theorem WB.a {M Mc : Mm} {W : Rv} {fw fa fb : Option Int32} {v : Int32} (h : WB M Mc W fw fa fb) : WB M (setI Mc 267 (200 + W.1) v) W fw (some v) fb := ⟨h.1.s (by omega) (by omega), h.2.1.bey (by omega), fun z q => by rw [setI_n (by decide)]; exact h.2.2.1 z q, fun z q => by rw [setI_p]; exact Option.some.inj q, fun z q => by rw [setI_n (by decide)]; exact h.2.2.2.2 z q⟩
theorem WB.b {M Mc : Mm} {W : Rv} {fw fa fb : Option Int32} {v : Int32} (h : WB M Mc W fw fa fb) : WB M (setI Mc 268 (200 + W.1) v) W fw fa (some v) := ⟨h.1.s (by omega) (by omega), h.2.1.bey (by omega), fun z q => by rw [setI_n (by decide)]; exact h.2.2.1 z q, fun z q => by rw [setI_n (by decide)]; exact h.2.2.2.1 z q, fun z q => by rw [setI_p]; exact Option.some.inj q⟩
theorem WB.fin {M Mc : Mm} {W : Rv} {d a b : Int32} {fa fb : Option Int32} (h : WB M Mc W (some d) fa fb) (ha : ¬ d = 0 → fa = some a) (hb : d = 1 ∨ d = 3 → fb = some b) (hl : W.1 < 40) : WKF M (setI Mc 265 5 (nI (W.1 + 1))) ∧ RLi (setI Mc 265 5 (nI (W.1 + 1))) 5 (addR W d a b) := by
  refine ⟨h.1.s5, by rw [setI_p]; rfl, by show W.1 + 1 ≤ 40; omega, fun k hk => ?_⟩
  have hk2 : k < W.1 + 1 := hk
  rw [setI_n (by decide), setI_n (by decide), setI_n (by decide)]
  show Mc.1 266 (200 + k) = (if k = W.1 then d else W.2.1 k) ∧ (¬ (if k = W.1 then d else W.2.1 k) = 0 → Mc.1 267 (200 + k) = if k = W.1 then a else W.2.2.1 k) ∧ ((if k = W.1 then d else W.2.1 k) = 1 ∨ (if k = W.1 then d else W.2.1 k) = 3 → Mc.1 268 (200 + k) = if k = W.1 then b else W.2.2.2 k)
  by_cases e : k = W.1
  · rw [if_pos e, if_pos e, if_pos e, e]
    exact ⟨h.2.2.1 d rfl, fun q => h.2.2.2.1 a (ha q), fun q => h.2.2.2.2 b (hb q)⟩
  · rw [if_neg e, if_neg e, if_neg e]
    exact h.2.1.2.2 k (by omega)
/-- a line's end -/
def LnP (M M' : Mm) (t : Tv) (x' : Xv) (W1 : Rv) (r : Option Value) : Prop := WKF M M' ∧ RA1 M' t x' r ∧ (x'.1 = 0 → RLi M' 5 W1)
theorem RA1.nz {M' : Mm} {t : Tv} {x' x'' : Xv} {r : Option Value} (h : RA1 M' t x' r) (hz : ¬ x'.1 = 0) (e : x'' = x') : RA1 M' t x'' r := by rw [e]; exact h
theorem GX.s {M : Mm} {t : Tv} {x : Xv} {c k : Nat} {v : Int32} (h : GX M t x) (hc : ¬ c = 238 ∧ ¬ c = 239) : GX (setI M c k v) t x := by
  obtain ⟨a, b, e, ⟨z1, z2, z3⟩, e1, e2, e3, e4, e5⟩ := h
  exact ⟨a, b, e, ⟨by rw [setI_n (fun q => hc.1 q.symm)]; exact z1, z2, fun k hk => by rw [setI_n (fun q => hc.2 q.symm)]; exact z3 k hk⟩, by rw [setI_n (fun q => hc.1 q.symm)]; exact e1, by rw [setI_n (fun q => hc.1 q.symm)]; exact e2, by rw [setI_n (fun q => hc.1 q.symm)]; exact e3, e4, fun q => by rw [setI_n (fun q => hc.1 q.symm)]; exact e5 q⟩
theorem GX.sl {M : Mm} {t : Tv} {x : Xv} {c k : Nat} {v : Int64} (h : GX M t x) (hc : ¬ c = 238) : GX (setL M c k v) t x := by
  obtain ⟨a, b, e, z, e1, e2, e3, e4, e5⟩ := h
  exact ⟨a, b, e, z, e1, e2, e3, fun q => by rw [setL_21, if_neg (fun y => hc y.1.symm)]; exact e4 q, e5⟩
/-- an answer of a reading, told apart -/
theorem RA1.two {M' : Mm} {t : Tv} {x' : Xv} {r : Option Value} (h : RA1 M' t x' r) : (x'.1 = 0 ∧ r = some (.int 1) ∧ GX M' t x') ∨ (¬ x'.1 = 0 ∧ r = some (.int 0) ∧ M'.1 238 9 = x'.1) := h
set_option maxHeartbeats 4000000 in
set_option maxRecDepth 20000 in
theorem s_ln186 {G : Gt} {M Mc : Mm} {t : Tv} {x' : Xv} {W : Rv} {d a b : Int32} {fa fb : Option Int32} {u : Value} (hG : GX Mc t x') (hB : WB M Mc W (some d) fa fb) (ha : ¬ d = 0 → fa = some a) (hb : d = 1 ∨ d = 3 → fb = some b) (hl : W.1 < 40) : Ev G 4 mX11_readsLine 186 [.ref 238, .int d, u] [] Mc (fun r M' => LnP M M' t (tkS t x' 59) (addR W d a b) r) := by
  refine e_aload_n dX11_readsLine_186 rfl ?_
  refine e_getR dX11_readsLine_187 fl_X11_90 sh_m rfl ?_
  refine e_iconst (v := 5) dX11_readsLine_190 (by decide) ?_
  refine e_dup2 dX11_readsLine_191 rfl rfl ?_
  refine e_ialdN (j := 5) dX11_readsLine_192 (sa_m_lines) (by decide) (by omega) ?_
  rw [hB.2.1.1]
  refine e_iconst (v := 1) dX11_readsLine_193 (by decide) ?_
  refine e_iaddN (a := W.1) (b := 1) dX11_readsLine_194 ?_
  refine e_iastN (j := 5) dX11_readsLine_195 (sa_m_lines) (by decide) (by omega) ?_
  refine e_aload_n dX11_readsLine_196 rfl ?_
  refine cV0x dX11_readsLine_197 mo_X11_closes ml_X11_305 sh_m rfl (Nat.le_of_ble_eq_true rfl) (by omega) (r_closes (x := x') (hG.s (by omega))) ?_
  rintro r M2 ⟨hO2, hA2⟩
  obtain ⟨q1, q2⟩ := hB.fin ha hb hl
  have hfin : LnP M M2 t (tkS t x' 59) (addR W d a b) r := ⟨q1.trans hO2.wk, hA2, fun _ => q2.congr (fun i x y => hO2.1 i (by omega))⟩
  rcases hA2 with ⟨z1, rfl, z2⟩ | ⟨z1, rfl, z2⟩
  all_goals dsimp only [Option.toList, List.cons_append, List.nil_append]
  all_goals refine e_zret dX11_readsLine_200 rfl rfl ?_
  all_goals exact hfin
set_option maxHeartbeats 4000000 in
set_option maxRecDepth 20000 in
theorem s_ln0 {G : Gt} {M : Mm} {t : Tv} {x : Xv} {W : Rv} {Y : Yv} (hG : GX M t x) (hW : RLi M 5 W) (hn : NMs M 0 Y) (hl : W.1 < 40) {u : Value} : Ev G 4 mX11_readsLine 85 [.ref 238, .int 0, u] [] M (fun r M' => LnP M M' t (tkS t (advX t x) 59) (addR W 0 (-1) (0)) r) := by
  obtain ⟨hx0, hx2, hI, hZ, g4, g5, g6, g7, g8⟩ := id hG
  have ht := hZ.2.1
  have hW40 := hW.2.1
  refine e_aload_n dX11_readsLine_85 rfl ?_
  refine cV0x dX11_readsLine_86 mo_X11_nextToken ml_X11_224 sh_m rfl (Nat.le_of_ble_eq_true rfl) (by omega) (c_nt hG OF.rfl' rfl) ?_
  rintro r M2 ⟨rfl, hN, hG2⟩
  dsimp only [Option.toList, List.cons_append, List.nil_append]
  have hB2 := (WB.st hW).of hN.of
  refine e_sipush (v := 200) dX11_readsLine_89 (by decide) ?_
  refine e_aload_n dX11_readsLine_92 rfl ?_
  refine e_getR dX11_readsLine_93 fl_X11_90 sh_m rfl ?_
  refine e_iconst (v := 5) dX11_readsLine_96 (by decide) ?_
  refine e_ialdN (j := 5) dX11_readsLine_97 (sa_m_lines) (by decide) (by omega) ?_
  rw [hB2.2.1.1]
  refine e_iaddN (a := 200) (b := W.1) dX11_readsLine_98 ?_
  refine e_istore_n (ls' := [_, _, _]) dX11_readsLine_99 (by decide) rfl ?_
  refine e_aload_n dX11_readsLine_100 rfl ?_
  refine e_getR dX11_readsLine_101 fl_X11_93 sh_m rfl ?_
  refine e_iload_n dX11_readsLine_104 rfl ?_
  refine e_iload_n dX11_readsLine_105 rfl ?_
  refine e_iastN (j := (200 + W.1)) dX11_readsLine_106 (sa_m_lineWhat) (by decide) (by omega) ?_
  have hB3 := hB2.w (v := 0)
  refine e_iload_n dX11_readsLine_107 rfl ?_
  refine e_if_eq (tgt := 135) dX11_readsLine_108 (by decide) (fun c108 => ?_) (fun c108 => absurd c108 (by decide))
  refine e_iload_n dX11_readsLine_135 rfl ?_
  refine e_iconst (v := 1) dX11_readsLine_136 (by decide) ?_
  refine e_icmp_eq (tgt := 145) dX11_readsLine_137 (by decide) (fun c137 => absurd c137 (by decide)) (fun c137 => ?_)
  refine e_iload_n dX11_readsLine_140 rfl ?_
  refine e_iconst (v := 3) dX11_readsLine_141 (by decide) ?_
  refine e_icmp_ne (tgt := 186) dX11_readsLine_142 (by decide) (fun c142 => ?_) (fun c142 => absurd c142 (by decide))
  exact s_ln186 (a := -1) (b := 0) (hG2.s (by omega)) hB3 (fun q => absurd rfl q) (fun q => by rcases q with q | q <;> exact absurd q (by decide)) hl
set_option maxHeartbeats 4000000 in
set_option maxRecDepth 20000 in
theorem s_ln1 {G : Gt} {M : Mm} {t : Tv} {x : Xv} {W : Rv} {Y : Yv} (hG : GX M t x) (hW : RLi M 5 W) (hn : NMs M 0 Y) (hl : W.1 < 40) {u : Value} : Ev G 4 mX11_readsLine 85 [.ref 238, .int 1, u] [] M (fun r M' => LnP M M' t (tkS t (tkN t (advX t (shH t (advX t x) Y)) 0 9) 59) (addR W 1 (nI ((fnd Y.name Y.n (wdX t (advX t x))).getD 0)) (nmX t (advX t (shH t (advX t x) Y)))) r) := by
  obtain ⟨hx0, hx2, hI, hZ, g4, g5, g6, g7, g8⟩ := id hG
  have ht := hZ.2.1
  have hW40 := hW.2.1
  refine e_aload_n dX11_readsLine_85 rfl ?_
  refine cV0x dX11_readsLine_86 mo_X11_nextToken ml_X11_224 sh_m rfl (Nat.le_of_ble_eq_true rfl) (by omega) (c_nt hG OF.rfl' rfl) ?_
  rintro r M2 ⟨rfl, hN, hG2⟩
  dsimp only [Option.toList, List.cons_append, List.nil_append]
  have hB2 := (WB.st hW).of hN.of
  refine e_sipush (v := 200) dX11_readsLine_89 (by decide) ?_
  refine e_aload_n dX11_readsLine_92 rfl ?_
  refine e_getR dX11_readsLine_93 fl_X11_90 sh_m rfl ?_
  refine e_iconst (v := 5) dX11_readsLine_96 (by decide) ?_
  refine e_ialdN (j := 5) dX11_readsLine_97 (sa_m_lines) (by decide) (by omega) ?_
  rw [hB2.2.1.1]
  refine e_iaddN (a := 200) (b := W.1) dX11_readsLine_98 ?_
  refine e_istore_n (ls' := [_, _, _]) dX11_readsLine_99 (by decide) rfl ?_
  refine e_aload_n dX11_readsLine_100 rfl ?_
  refine e_getR dX11_readsLine_101 fl_X11_93 sh_m rfl ?_
  refine e_iload_n dX11_readsLine_104 rfl ?_
  refine e_iload_n dX11_readsLine_105 rfl ?_
  refine e_iastN (j := (200 + W.1)) dX11_readsLine_106 (sa_m_lineWhat) (by decide) (by omega) ?_
  have hB3 := hB2.w (v := 1)
  refine e_iload_n dX11_readsLine_107 rfl ?_
  refine e_if_eq (tgt := 135) dX11_readsLine_108 (by decide) (fun c108 => absurd c108 (by decide)) (fun c108 => ?_)
  refine e_aload_n dX11_readsLine_111 rfl ?_
  refine e_iconst (v := 0) dX11_readsLine_112 (by decide) ?_
  refine cV1x dX11_readsLine_113 mo_X11_needsShed ml_X11_308 sh_m rfl (Nat.le_of_ble_eq_true rfl) (by omega) (r_needsShed (q := 0) (hG2.s (by omega)) (by decide) (hB3.1.nm hn)) ?_
  rintro r M4 ⟨hO4, hA4, hF4⟩
  have hB4 := hB3.of hO4
  rcases hA4 with ⟨z1, rfl, z2⟩ | ⟨z1, rfl, z2⟩
  · -- ok at 113
    dsimp only [Option.toList, List.cons_append, List.nil_append]
    obtain ⟨j, hj, hj2, hj3⟩ := hF4 z1
    have esh : shH t (advX t x) Y = advX t x := (shH_0 z1 hG2.2.1 hI).2.2
    have hG4 := z2
    refine e_if_ne (tgt := 121) dX11_readsLine_116 (by decide) (fun c116 => ?_) (fun c116 => absurd c116 (by decide))
    refine e_aload_n dX11_readsLine_121 rfl ?_
    refine e_getR dX11_readsLine_122 fl_X11_96 sh_m rfl ?_
    refine e_iload_n dX11_readsLine_125 rfl ?_
    refine e_aload_n dX11_readsLine_126 rfl ?_
    refine e_getI dX11_readsLine_127 fl_X11_278 sh_m rfl ?_
    rw [hj3]
    refine e_iastN (j := (200 + W.1)) dX11_readsLine_130 (sa_m_lineA) (by decide) (by omega) ?_
    have hB5 := hB4.a (v := nI j)
    refine e_aload_n dX11_readsLine_131 rfl ?_
    refine cV0x dX11_readsLine_132 mo_X11_nextToken ml_X11_224 sh_m rfl (Nat.le_of_ble_eq_true rfl) (by omega) (c_nt (hG4.s (by omega)) OF.rfl' rfl) ?_
    rintro r M5 ⟨rfl, hN5, hG5⟩
    dsimp only [Option.toList, List.cons_append, List.nil_append]
    have hB6 := hB5.of hN5.of
    refine e_iload_n dX11_readsLine_135 rfl ?_
    refine e_iconst (v := 1) dX11_readsLine_136 (by decide) ?_
    refine e_icmp_eq (tgt := 145) dX11_readsLine_137 (by decide) (fun c137 => ?_) (fun c137 => absurd c137 (by decide))
    refine e_aload_n dX11_readsLine_145 rfl ?_
    refine e_iload_n dX11_readsLine_146 rfl ?_
    refine e_iconst (v := 1) dX11_readsLine_147 (by decide) ?_
    refine e_icmp_ne (tgt := 155) dX11_readsLine_148 (by decide) (fun c148 => absurd c148 (by decide)) (fun c148 => ?_)
    refine e_iconst (v := 0) dX11_readsLine_151 (by decide) ?_
    refine e_goto (tgt := 156) dX11_readsLine_152 (by decide) ?_
    refine e_iload_n dX11_readsLine_156 rfl ?_
    refine e_iconst (v := 1) dX11_readsLine_157 (by decide) ?_
    refine e_icmp_ne (tgt := 166) dX11_readsLine_158 (by decide) (fun c158 => absurd c158 (by decide)) (fun c158 => ?_)
    refine e_bipush (v := 9) dX11_readsLine_161 (by decide) ?_
    refine e_goto (tgt := 168) dX11_readsLine_163 (by decide) ?_
    refine cV2x dX11_readsLine_168 mo_X11_needsNumber ml_X11_281 sh_m rfl (Nat.le_of_ble_eq_true rfl) (by omega) (r_needsNumber hG5) ?_
    rintro r M7 ⟨hO7, hA7, hF7, -⟩
    have hB7 := hB6.of hO7
    rcases hA7 with ⟨z1, rfl, z2⟩ | ⟨z1, rfl, z2⟩
    · -- ok at 168
      dsimp only [Option.toList, List.cons_append, List.nil_append]
      refine e_if_ne (tgt := 176) dX11_readsLine_171 (by decide) (fun c171 => ?_) (fun c171 => absurd c171 (by decide))
      refine e_aload_n dX11_readsLine_176 rfl ?_
      refine e_getR dX11_readsLine_177 fl_X11_99 sh_m rfl ?_
      refine e_iload_n dX11_readsLine_180 rfl ?_
      refine e_aload_n dX11_readsLine_181 rfl ?_
      refine e_getI dX11_readsLine_182 fl_X11_278 sh_m rfl ?_
      rw [hF7 z1]
      refine e_iastN (j := (200 + W.1)) dX11_readsLine_185 (sa_m_lineB) (by decide) (by omega) ?_
      have hB8 := hB7.b (v := nmX t (advX t (shH t (advX t x) Y)))
      have hG7 := z2
      exact s_ln186 (hG7.s (by omega)) hB8 (fun _ => by rw [hj2]; rfl) (fun _ => rfl) hl
    · -- no at 168
      dsimp only [Option.toList, List.cons_append, List.nil_append]
      refine e_if_ne (tgt := 176) dX11_readsLine_171 (by decide) (fun c171 => absurd c171 (by decide)) (fun c171 => ?_)
      refine e_iconst (v := 0) dX11_readsLine_174 (by decide) ?_
      refine e_zret dX11_readsLine_175 rfl (by first | rfl | exact b2i_nar _) ?_
      have e : tkS t (tkN t (advX t (shH t (advX t x) Y)) 0 9) 59 = tkN t (advX t (shH t (advX t x) Y)) 0 9 := st_S z1
      exact ⟨hB7.1, Or.inr ⟨by rw [e]; exact z1, rfl, by rw [e]; exact z2⟩, fun q => absurd (by rw [← e]; exact q) z1⟩
  · -- no at 113
    dsimp only [Option.toList, List.cons_append, List.nil_append]
    refine e_if_ne (tgt := 121) dX11_readsLine_116 (by decide) (fun c116 => absurd c116 (by decide)) (fun c116 => ?_)
    refine e_iconst (v := 0) dX11_readsLine_119 (by decide) ?_
    refine e_zret dX11_readsLine_120 rfl (by first | rfl | exact b2i_nar _) ?_
    have e : tkS t (tkN t (advX t (shH t (advX t x) Y)) 0 9) 59 = shH t (advX t x) Y := by rw [adv_f z1, st_N z1]; exact st_S z1
    exact ⟨hB4.1, Or.inr ⟨by rw [e]; exact z1, rfl, by rw [e]; exact z2⟩, fun q => absurd (by rw [← e]; exact q) z1⟩
set_option maxHeartbeats 4000000 in
set_option maxRecDepth 20000 in
theorem s_ln2 {G : Gt} {M : Mm} {t : Tv} {x : Xv} {W : Rv} {Y : Yv} (hG : GX M t x) (hW : RLi M 5 W) (hn : NMs M 0 Y) (hl : W.1 < 40) {u : Value} : Ev G 4 mX11_readsLine 85 [.ref 238, .int 2, u] [] M (fun r M' => LnP M M' t (tkS t (advX t (shH t (advX t x) Y)) 59) (addR W 2 (nI ((fnd Y.name Y.n (wdX t (advX t x))).getD 0)) (0)) r) := by
  obtain ⟨hx0, hx2, hI, hZ, g4, g5, g6, g7, g8⟩ := id hG
  have ht := hZ.2.1
  have hW40 := hW.2.1
  refine e_aload_n dX11_readsLine_85 rfl ?_
  refine cV0x dX11_readsLine_86 mo_X11_nextToken ml_X11_224 sh_m rfl (Nat.le_of_ble_eq_true rfl) (by omega) (c_nt hG OF.rfl' rfl) ?_
  rintro r M2 ⟨rfl, hN, hG2⟩
  dsimp only [Option.toList, List.cons_append, List.nil_append]
  have hB2 := (WB.st hW).of hN.of
  refine e_sipush (v := 200) dX11_readsLine_89 (by decide) ?_
  refine e_aload_n dX11_readsLine_92 rfl ?_
  refine e_getR dX11_readsLine_93 fl_X11_90 sh_m rfl ?_
  refine e_iconst (v := 5) dX11_readsLine_96 (by decide) ?_
  refine e_ialdN (j := 5) dX11_readsLine_97 (sa_m_lines) (by decide) (by omega) ?_
  rw [hB2.2.1.1]
  refine e_iaddN (a := 200) (b := W.1) dX11_readsLine_98 ?_
  refine e_istore_n (ls' := [_, _, _]) dX11_readsLine_99 (by decide) rfl ?_
  refine e_aload_n dX11_readsLine_100 rfl ?_
  refine e_getR dX11_readsLine_101 fl_X11_93 sh_m rfl ?_
  refine e_iload_n dX11_readsLine_104 rfl ?_
  refine e_iload_n dX11_readsLine_105 rfl ?_
  refine e_iastN (j := (200 + W.1)) dX11_readsLine_106 (sa_m_lineWhat) (by decide) (by omega) ?_
  have hB3 := hB2.w (v := 2)
  refine e_iload_n dX11_readsLine_107 rfl ?_
  refine e_if_eq (tgt := 135) dX11_readsLine_108 (by decide) (fun c108 => absurd c108 (by decide)) (fun c108 => ?_)
  refine e_aload_n dX11_readsLine_111 rfl ?_
  refine e_iconst (v := 0) dX11_readsLine_112 (by decide) ?_
  refine cV1x dX11_readsLine_113 mo_X11_needsShed ml_X11_308 sh_m rfl (Nat.le_of_ble_eq_true rfl) (by omega) (r_needsShed (q := 0) (hG2.s (by omega)) (by decide) (hB3.1.nm hn)) ?_
  rintro r M4 ⟨hO4, hA4, hF4⟩
  have hB4 := hB3.of hO4
  rcases hA4 with ⟨z1, rfl, z2⟩ | ⟨z1, rfl, z2⟩
  · -- ok at 113
    dsimp only [Option.toList, List.cons_append, List.nil_append]
    obtain ⟨j, hj, hj2, hj3⟩ := hF4 z1
    have esh : shH t (advX t x) Y = advX t x := (shH_0 z1 hG2.2.1 hI).2.2
    have hG4 := z2
    refine e_if_ne (tgt := 121) dX11_readsLine_116 (by decide) (fun c116 => ?_) (fun c116 => absurd c116 (by decide))
    refine e_aload_n dX11_readsLine_121 rfl ?_
    refine e_getR dX11_readsLine_122 fl_X11_96 sh_m rfl ?_
    refine e_iload_n dX11_readsLine_125 rfl ?_
    refine e_aload_n dX11_readsLine_126 rfl ?_
    refine e_getI dX11_readsLine_127 fl_X11_278 sh_m rfl ?_
    rw [hj3]
    refine e_iastN (j := (200 + W.1)) dX11_readsLine_130 (sa_m_lineA) (by decide) (by omega) ?_
    have hB5 := hB4.a (v := nI j)
    refine e_aload_n dX11_readsLine_131 rfl ?_
    refine cV0x dX11_readsLine_132 mo_X11_nextToken ml_X11_224 sh_m rfl (Nat.le_of_ble_eq_true rfl) (by omega) (c_nt (hG4.s (by omega)) OF.rfl' rfl) ?_
    rintro r M5 ⟨rfl, hN5, hG5⟩
    dsimp only [Option.toList, List.cons_append, List.nil_append]
    have hB6 := hB5.of hN5.of
    refine e_iload_n dX11_readsLine_135 rfl ?_
    refine e_iconst (v := 1) dX11_readsLine_136 (by decide) ?_
    refine e_icmp_eq (tgt := 145) dX11_readsLine_137 (by decide) (fun c137 => absurd c137 (by decide)) (fun c137 => ?_)
    refine e_iload_n dX11_readsLine_140 rfl ?_
    refine e_iconst (v := 3) dX11_readsLine_141 (by decide) ?_
    refine e_icmp_ne (tgt := 186) dX11_readsLine_142 (by decide) (fun c142 => ?_) (fun c142 => absurd c142 (by decide))
    exact s_ln186 (b := 0) hG5 hB6 (fun _ => by rw [hj2]; rfl) (fun q => by rcases q with q | q <;> exact absurd q (by decide)) hl
  · -- no at 113
    dsimp only [Option.toList, List.cons_append, List.nil_append]
    refine e_if_ne (tgt := 121) dX11_readsLine_116 (by decide) (fun c116 => absurd c116 (by decide)) (fun c116 => ?_)
    refine e_iconst (v := 0) dX11_readsLine_119 (by decide) ?_
    refine e_zret dX11_readsLine_120 rfl (by first | rfl | exact b2i_nar _) ?_
    have e : tkS t (advX t (shH t (advX t x) Y)) 59 = shH t (advX t x) Y := by rw [adv_f z1]; exact st_S z1
    exact ⟨hB4.1, Or.inr ⟨by rw [e]; exact z1, rfl, by rw [e]; exact z2⟩, fun q => absurd (by rw [← e]; exact q) z1⟩
set_option maxHeartbeats 4000000 in
set_option maxRecDepth 20000 in
theorem s_ln3 {G : Gt} {M : Mm} {t : Tv} {x : Xv} {W : Rv} {Y : Yv} (hG : GX M t x) (hW : RLi M 5 W) (hn : NMs M 0 Y) (hl : W.1 < 40) {u : Value} : Ev G 4 mX11_readsLine 85 [.ref 238, .int 3, u] [] M (fun r M' => LnP M M' t (tkS t (tkN t (advX t (shH t (advX t x) Y)) 1 20) 59) (addR W 3 (nI ((fnd Y.name Y.n (wdX t (advX t x))).getD 0)) (nmX t (advX t (shH t (advX t x) Y)))) r) := by
  obtain ⟨hx0, hx2, hI, hZ, g4, g5, g6, g7, g8⟩ := id hG
  have ht := hZ.2.1
  have hW40 := hW.2.1
  refine e_aload_n dX11_readsLine_85 rfl ?_
  refine cV0x dX11_readsLine_86 mo_X11_nextToken ml_X11_224 sh_m rfl (Nat.le_of_ble_eq_true rfl) (by omega) (c_nt hG OF.rfl' rfl) ?_
  rintro r M2 ⟨rfl, hN, hG2⟩
  dsimp only [Option.toList, List.cons_append, List.nil_append]
  have hB2 := (WB.st hW).of hN.of
  refine e_sipush (v := 200) dX11_readsLine_89 (by decide) ?_
  refine e_aload_n dX11_readsLine_92 rfl ?_
  refine e_getR dX11_readsLine_93 fl_X11_90 sh_m rfl ?_
  refine e_iconst (v := 5) dX11_readsLine_96 (by decide) ?_
  refine e_ialdN (j := 5) dX11_readsLine_97 (sa_m_lines) (by decide) (by omega) ?_
  rw [hB2.2.1.1]
  refine e_iaddN (a := 200) (b := W.1) dX11_readsLine_98 ?_
  refine e_istore_n (ls' := [_, _, _]) dX11_readsLine_99 (by decide) rfl ?_
  refine e_aload_n dX11_readsLine_100 rfl ?_
  refine e_getR dX11_readsLine_101 fl_X11_93 sh_m rfl ?_
  refine e_iload_n dX11_readsLine_104 rfl ?_
  refine e_iload_n dX11_readsLine_105 rfl ?_
  refine e_iastN (j := (200 + W.1)) dX11_readsLine_106 (sa_m_lineWhat) (by decide) (by omega) ?_
  have hB3 := hB2.w (v := 3)
  refine e_iload_n dX11_readsLine_107 rfl ?_
  refine e_if_eq (tgt := 135) dX11_readsLine_108 (by decide) (fun c108 => absurd c108 (by decide)) (fun c108 => ?_)
  refine e_aload_n dX11_readsLine_111 rfl ?_
  refine e_iconst (v := 0) dX11_readsLine_112 (by decide) ?_
  refine cV1x dX11_readsLine_113 mo_X11_needsShed ml_X11_308 sh_m rfl (Nat.le_of_ble_eq_true rfl) (by omega) (r_needsShed (q := 0) (hG2.s (by omega)) (by decide) (hB3.1.nm hn)) ?_
  rintro r M4 ⟨hO4, hA4, hF4⟩
  have hB4 := hB3.of hO4
  rcases hA4 with ⟨z1, rfl, z2⟩ | ⟨z1, rfl, z2⟩
  · -- ok at 113
    dsimp only [Option.toList, List.cons_append, List.nil_append]
    obtain ⟨j, hj, hj2, hj3⟩ := hF4 z1
    have esh : shH t (advX t x) Y = advX t x := (shH_0 z1 hG2.2.1 hI).2.2
    have hG4 := z2
    refine e_if_ne (tgt := 121) dX11_readsLine_116 (by decide) (fun c116 => ?_) (fun c116 => absurd c116 (by decide))
    refine e_aload_n dX11_readsLine_121 rfl ?_
    refine e_getR dX11_readsLine_122 fl_X11_96 sh_m rfl ?_
    refine e_iload_n dX11_readsLine_125 rfl ?_
    refine e_aload_n dX11_readsLine_126 rfl ?_
    refine e_getI dX11_readsLine_127 fl_X11_278 sh_m rfl ?_
    rw [hj3]
    refine e_iastN (j := (200 + W.1)) dX11_readsLine_130 (sa_m_lineA) (by decide) (by omega) ?_
    have hB5 := hB4.a (v := nI j)
    refine e_aload_n dX11_readsLine_131 rfl ?_
    refine cV0x dX11_readsLine_132 mo_X11_nextToken ml_X11_224 sh_m rfl (Nat.le_of_ble_eq_true rfl) (by omega) (c_nt (hG4.s (by omega)) OF.rfl' rfl) ?_
    rintro r M5 ⟨rfl, hN5, hG5⟩
    dsimp only [Option.toList, List.cons_append, List.nil_append]
    have hB6 := hB5.of hN5.of
    refine e_iload_n dX11_readsLine_135 rfl ?_
    refine e_iconst (v := 1) dX11_readsLine_136 (by decide) ?_
    refine e_icmp_eq (tgt := 145) dX11_readsLine_137 (by decide) (fun c137 => absurd c137 (by decide)) (fun c137 => ?_)
    refine e_iload_n dX11_readsLine_140 rfl ?_
    refine e_iconst (v := 3) dX11_readsLine_141 (by decide) ?_
    refine e_icmp_ne (tgt := 186) dX11_readsLine_142 (by decide) (fun c142 => absurd c142 (by decide)) (fun c142 => ?_)
    refine e_aload_n dX11_readsLine_145 rfl ?_
    refine e_iload_n dX11_readsLine_146 rfl ?_
    refine e_iconst (v := 1) dX11_readsLine_147 (by decide) ?_
    refine e_icmp_ne (tgt := 155) dX11_readsLine_148 (by decide) (fun c148 => ?_) (fun c148 => absurd c148 (by decide))
    refine e_iconst (v := 1) dX11_readsLine_155 (by decide) ?_
    refine e_iload_n dX11_readsLine_156 rfl ?_
    refine e_iconst (v := 1) dX11_readsLine_157 (by decide) ?_
    refine e_icmp_ne (tgt := 166) dX11_readsLine_158 (by decide) (fun c158 => ?_) (fun c158 => absurd c158 (by decide))
    refine e_bipush (v := 20) dX11_readsLine_166 (by decide) ?_
    refine cV2x dX11_readsLine_168 mo_X11_needsNumber ml_X11_281 sh_m rfl (Nat.le_of_ble_eq_true rfl) (by omega) (r_needsNumber hG5) ?_
    rintro r M7 ⟨hO7, hA7, hF7, -⟩
    have hB7 := hB6.of hO7
    rcases hA7 with ⟨z1, rfl, z2⟩ | ⟨z1, rfl, z2⟩
    · -- ok at 168
      dsimp only [Option.toList, List.cons_append, List.nil_append]
      refine e_if_ne (tgt := 176) dX11_readsLine_171 (by decide) (fun c171 => ?_) (fun c171 => absurd c171 (by decide))
      refine e_aload_n dX11_readsLine_176 rfl ?_
      refine e_getR dX11_readsLine_177 fl_X11_99 sh_m rfl ?_
      refine e_iload_n dX11_readsLine_180 rfl ?_
      refine e_aload_n dX11_readsLine_181 rfl ?_
      refine e_getI dX11_readsLine_182 fl_X11_278 sh_m rfl ?_
      rw [hF7 z1]
      refine e_iastN (j := (200 + W.1)) dX11_readsLine_185 (sa_m_lineB) (by decide) (by omega) ?_
      have hB8 := hB7.b (v := nmX t (advX t (shH t (advX t x) Y)))
      have hG7 := z2
      exact s_ln186 (hG7.s (by omega)) hB8 (fun _ => by rw [hj2]; rfl) (fun _ => rfl) hl
    · -- no at 168
      dsimp only [Option.toList, List.cons_append, List.nil_append]
      refine e_if_ne (tgt := 176) dX11_readsLine_171 (by decide) (fun c171 => absurd c171 (by decide)) (fun c171 => ?_)
      refine e_iconst (v := 0) dX11_readsLine_174 (by decide) ?_
      refine e_zret dX11_readsLine_175 rfl (by first | rfl | exact b2i_nar _) ?_
      have e : tkS t (tkN t (advX t (shH t (advX t x) Y)) 1 20) 59 = tkN t (advX t (shH t (advX t x) Y)) 1 20 := st_S z1
      exact ⟨hB7.1, Or.inr ⟨by rw [e]; exact z1, rfl, by rw [e]; exact z2⟩, fun q => absurd (by rw [← e]; exact q) z1⟩
  · -- no at 113
    dsimp only [Option.toList, List.cons_append, List.nil_append]
    refine e_if_ne (tgt := 121) dX11_readsLine_116 (by decide) (fun c116 => absurd c116 (by decide)) (fun c116 => ?_)
    refine e_iconst (v := 0) dX11_readsLine_119 (by decide) ?_
    refine e_zret dX11_readsLine_120 rfl (by first | rfl | exact b2i_nar _) ?_
    have e : tkS t (tkN t (advX t (shH t (advX t x) Y)) 1 20) 59 = shH t (advX t x) Y := by rw [adv_f z1, st_N z1]; exact st_S z1
    exact ⟨hB4.1, Or.inr ⟨by rw [e]; exact z1, rfl, by rw [e]; exact z2⟩, fun q => absurd (by rw [← e]; exact q) z1⟩
theorem dh_4 (t : Tv) (x : Xv) : dhX t x = -1 ∨ dhX t x = 0 ∨ dhX t x = 1 ∨ dhX t x = 2 ∨ dhX t x = 3 := by
  unfold dhX
  repeat' split
  · exact Or.inr (Or.inl rfl)
  · exact Or.inr (Or.inr (Or.inl rfl))
  · exact Or.inr (Or.inr (Or.inr (Or.inl rfl)))
  · exact Or.inr (Or.inr (Or.inr (Or.inr rfl)))
  · exact Or.inl rfl
set_option maxHeartbeats 4000000 in
set_option maxRecDepth 20000 in
theorem s_ln57 {G : Gt} {M : Mm} {t : Tv} {x : Xv} {W : Rv} {Y : Yv} (hG : GX M t x) (hW : RLi M 5 W) (hn : NMs M 0 Y) {d : Int32} (hd0 : dhX t x = d) {u v : Value} : Ev G 4 mX11_readsLine 57 [.ref 238, u, v] [.int d] M (fun r M' => LnP M M' t (tkS t (wl3 t x W Y) 59) (addR W (dhX t x) (wlA t x W Y) (wlB t x W Y)) r) := by
  obtain ⟨hx0, hx2, hI, hZ, g4, g5, g6, g7, g8⟩ := id hG
  have ht := hZ.2.1
  have hW40 := hW.2.1
  subst hd0
  have hdc := dh_4 t x
  refine e_istore_n (ls' := [_, _, _]) dX11_readsLine_57 (by decide) rfl ?_
  refine e_iload_n dX11_readsLine_58 rfl ?_
  refine e_if_ge (tgt := 68) dX11_readsLine_59 (by decide) (fun c59 => ?_) (fun c59 => ?_)
  · -- 59 jumps
    refine e_aload_n dX11_readsLine_68 rfl ?_
    refine e_getR dX11_readsLine_69 fl_X11_90 sh_m rfl ?_
    refine e_iconst (v := 5) dX11_readsLine_72 (by decide) ?_
    refine e_ialdN (j := 5) dX11_readsLine_73 (sa_m_lines) (by decide) (by omega) ?_
    rw [hW.1]
    refine e_bipush (v := 40) dX11_readsLine_74 (by decide) ?_
    refine e_icmp_ne (tgt := 85) dX11_readsLine_76 (by decide) (fun c76 => ?_) (fun c76 => ?_)
    · -- 76 jumps
      have hl : W.1 < 40 := by have : ¬ W.1 = 40 := fun e => c76 (by rw [e]; rfl); omega
      rcases hdc with hd | hd | hd | hd | hd
      · exact absurd (by rw [hd]; decide : dhX t x < 0) c59
      · have hw0 : wl0 t x W = x := by show (if dhX t x = -1 then _ else if W.1 < 40 then _ else _) = x; rw [hd, if_neg (by decide), if_pos hl]
        have ew1 : wl1 t x W = advX t x := by show advX t (wl0 t x W) = _; rw [hw0]
        have e2 : wl3 t x W Y = advX t x := by show (if dhX t x = 1 then _ else if dhX t x = 3 then _ else if dhX t x = 0 then wl1 t x W else _) = _; rw [hd, if_neg (by decide), if_neg (by decide), if_pos rfl, ew1]
        have eA : wlA t x W Y = -1 := by unfold wlA; rw [if_pos hd]
        have eB : wlB t x W Y = 0 := by unfold wlB; rw [hd, if_neg (by decide)]
        rw [e2, eA, eB, hd]
        exact s_ln0 hG hW hn hl
      · have hw0 : wl0 t x W = x := by show (if dhX t x = -1 then _ else if W.1 < 40 then _ else _) = x; rw [hd, if_neg (by decide), if_pos hl]
        have ew1 : wl1 t x W = advX t x := by show advX t (wl0 t x W) = _; rw [hw0]
        have ew2 : wl2 t x W Y = advX t (shH t (advX t x) Y) := by show (if dhX t x = 0 then _ else advX t (shH t (wl1 t x W) Y)) = _; rw [hd, if_neg (by decide), ew1]
        have e2 : wl3 t x W Y = tkN t (advX t (shH t (advX t x) Y)) 0 9 := by show (if dhX t x = 1 then tkN t (wl2 t x W Y) 0 9 else _) = _; rw [hd, if_pos rfl, ew2]
        have eB : wlB t x W Y = nmX t (advX t (shH t (advX t x) Y)) := by unfold wlB; rw [hd, if_pos (by decide), ew2]
        have eA : wlA t x W Y = nI ((fnd Y.name Y.n (wdX t (advX t x))).getD 0) := by unfold wlA; rw [if_neg (by rw [hd]; decide), ew1]
        rw [e2, eA, eB, hd]
        exact s_ln1 hG hW hn hl
      · have hw0 : wl0 t x W = x := by show (if dhX t x = -1 then _ else if W.1 < 40 then _ else _) = x; rw [hd, if_neg (by decide), if_pos hl]
        have ew1 : wl1 t x W = advX t x := by show advX t (wl0 t x W) = _; rw [hw0]
        have ew2 : wl2 t x W Y = advX t (shH t (advX t x) Y) := by show (if dhX t x = 0 then _ else advX t (shH t (wl1 t x W) Y)) = _; rw [hd, if_neg (by decide), ew1]
        have e2 : wl3 t x W Y = advX t (shH t (advX t x) Y) := by show (if dhX t x = 1 then _ else if dhX t x = 3 then _ else wl2 t x W Y) = _; rw [hd, if_neg (by decide), if_neg (by decide), ew2]
        have eB : wlB t x W Y = 0 := by unfold wlB; rw [hd, if_neg (by decide)]
        have eA : wlA t x W Y = nI ((fnd Y.name Y.n (wdX t (advX t x))).getD 0) := by unfold wlA; rw [if_neg (by rw [hd]; decide), ew1]
        rw [e2, eA, eB, hd]
        exact s_ln2 hG hW hn hl
      · have hw0 : wl0 t x W = x := by show (if dhX t x = -1 then _ else if W.1 < 40 then _ else _) = x; rw [hd, if_neg (by decide), if_pos hl]
        have ew1 : wl1 t x W = advX t x := by show advX t (wl0 t x W) = _; rw [hw0]
        have ew2 : wl2 t x W Y = advX t (shH t (advX t x) Y) := by show (if dhX t x = 0 then _ else advX t (shH t (wl1 t x W) Y)) = _; rw [hd, if_neg (by decide), ew1]
        have e2 : wl3 t x W Y = tkN t (advX t (shH t (advX t x) Y)) 1 20 := by show (if dhX t x = 1 then _ else if dhX t x = 3 then tkN t (wl2 t x W Y) 1 20 else _) = _; rw [hd, if_neg (by decide), if_pos rfl, ew2]
        have eB : wlB t x W Y = nmX t (advX t (shH t (advX t x) Y)) := by unfold wlB; rw [hd, if_pos (by decide), ew2]
        have eA : wlA t x W Y = nI ((fnd Y.name Y.n (wdX t (advX t x))).getD 0) := by unfold wlA; rw [if_neg (by rw [hd]; decide), ew1]
        rw [e2, eA, eB, hd]
        exact s_ln3 hG hW hn hl
    · -- 76 goes on
      refine e_aload_n dX11_readsLine_79 rfl ?_
      refine e_iconst (v := 5) dX11_readsLine_80 (by decide) ?_
      refine cV1r dX11_readsLine_81 mo_X11_fails ml_X11_217 sh_m rfl (Nat.le_of_ble_eq_true rfl) (by omega) (r_fails (k := 5) g5) ?_
      refine e_zret dX11_readsLine_84 rfl (by first | rfl | exact b2i_nar _) ?_
      have hd : ¬ dhX t x = -1 := fun q => c59 (by rw [q]; decide)
      have h40 : W.1 = 40 := nI_injN (b := 40) (by omega) (by omega) c76
      have e0 : wl0 t x W = failX t (nI 5) x := by show (if dhX t x = -1 then _ else if W.1 < 40 then _ else _) = _; rw [if_neg hd, if_neg (by omega)]; rfl
      have k1 : (1 : Nat) ≤ 5 ∧ 5 ≤ 5 := by decide
      have hz := fail_nz k1 hx2 hI
      have e1 : wl1 t x W = wl0 t x W := by show advX t (wl0 t x W) = _; rw [e0, adv_f hz]
      have hz1 : ¬ (wl1 t x W).1 = 0 := by rw [e1, e0]; exact hz
      have e2 : wl2 t x W Y = wl1 t x W := by show (if dhX t x = 0 then wl1 t x W else advX t (shH t (wl1 t x W) Y)) = _; by_cases q : dhX t x = 0; rw [if_pos q]; rw [if_neg q, st_H hz1, adv_f hz1]
      have e3 : wl3 t x W Y = wl1 t x W := by show (if dhX t x = 1 then tkN t (wl2 t x W Y) 0 9 else if dhX t x = 3 then tkN t (wl2 t x W Y) 1 20 else wl2 t x W Y) = _; rw [e2, st_N hz1, st_N hz1]; by_cases q : dhX t x = 1; rw [if_pos q]; by_cases q2 : dhX t x = 3; rw [if_neg q, if_pos q2]; rw [if_neg q, if_neg q2]
      have e : tkS t (wl3 t x W Y) 59 = wl0 t x W := by rw [e3, st_S hz1, e1]
      have hA := RA1.f hG k1 (e.trans e0)
      exact ⟨of9.wk, hA, fun q => absurd q (by rw [e, e0]; exact hz)⟩
  · -- 59 goes on
    refine e_aload_n dX11_readsLine_62 rfl ?_
    refine e_iconst (v := 1) dX11_readsLine_63 (by decide) ?_
    refine cV1r dX11_readsLine_64 mo_X11_fails ml_X11_217 sh_m rfl (Nat.le_of_ble_eq_true rfl) (by omega) (r_fails (k := 1) g5) ?_
    refine e_zret dX11_readsLine_67 rfl (by first | rfl | exact b2i_nar _) ?_
    have hd : dhX t x = -1 := by rcases hdc with hd | hd | hd | hd | hd <;> first | exact hd | (exfalso; rw [hd] at c59; exact absurd c59 (by decide))
    have e0 : wl0 t x W = failX t (nI 1) x := by show (if dhX t x = -1 then _ else _) = _; rw [if_pos hd]; rfl
    have k1 : (1 : Nat) ≤ 1 ∧ 1 ≤ 5 := by decide
    have hz := fail_nz k1 hx2 hI
    have e1 : wl1 t x W = wl0 t x W := by show advX t (wl0 t x W) = _; rw [e0, adv_f hz]
    have hz1 : ¬ (wl1 t x W).1 = 0 := by rw [e1, e0]; exact hz
    have e2 : wl2 t x W Y = wl1 t x W := by show (if dhX t x = 0 then wl1 t x W else advX t (shH t (wl1 t x W) Y)) = _; by_cases q : dhX t x = 0; rw [if_pos q]; rw [if_neg q, st_H hz1, adv_f hz1]
    have e3 : wl3 t x W Y = wl1 t x W := by show (if dhX t x = 1 then tkN t (wl2 t x W Y) 0 9 else if dhX t x = 3 then tkN t (wl2 t x W Y) 1 20 else wl2 t x W Y) = _; rw [e2, st_N hz1, st_N hz1]; by_cases q : dhX t x = 1; rw [if_pos q]; by_cases q2 : dhX t x = 3; rw [if_neg q, if_pos q2]; rw [if_neg q, if_neg q2]
    have e : tkS t (wl3 t x W Y) 59 = wl0 t x W := by rw [e3, st_S hz1, e1]
    have hA := RA1.f hG k1 (e.trans e0)
    exact ⟨of9.wk, hA, fun q => absurd q (by rw [e, e0]; exact hz)⟩
set_option maxHeartbeats 4000000 in
set_option maxRecDepth 20000 in
theorem r_readsLine {G : Gt} {M : Mm} {t : Tv} {x : Xv} {W : Rv} {Y : Yv} (hG : GX M t x) (hW : RLi M 5 W) (hn : NMs M 0 Y) : Call G 4 mX11_readsLine [.ref 238] M (fun r M' => LnP M M' t (tkS t (wl3 t x W Y) 59) (addR W (dhX t x) (wlA t x W Y) (wlB t x W Y)) r) := by
  obtain ⟨hx0, hx2, hI, hZ, g4, g5, g6, g7, g8⟩ := id hG
  have ht := hZ.2.1
  have hW40 := hW.2.1
  refine Call.intro rfl (Nat.le_of_ble_eq_true rfl) ?_
  show Ev G _ mX11_readsLine 0 [.ref 238, RA, RA] [] M _
  refine e_aload_n dX11_readsLine_0 rfl ?_
  refine e_ldc2 dX11_readsLine_1 kl_X11_260 ?_
  refine cV1r dX11_readsLine_4 mo_X11_isWord ml_X11_209 sh_m rfl (Nat.le_of_ble_eq_true rfl) (by omega) (r_isWord (k := 11) hG (by decide)) ?_
  refine e_if_eq (tgt := 14) dX11_readsLine_7 (by decide) (fun c7 => ?_) (fun c7 => ?_)
  · -- 7 jumps
    refine e_aload_n dX11_readsLine_14 rfl ?_
    refine e_ldc2 dX11_readsLine_15 kl_X11_242 ?_
    refine cV1r dX11_readsLine_18 mo_X11_isWord ml_X11_209 sh_m rfl (Nat.le_of_ble_eq_true rfl) (by omega) (r_isWord (k := 2) hG (by decide)) ?_
    refine e_if_eq (tgt := 28) dX11_readsLine_21 (by decide) (fun c21 => ?_) (fun c21 => ?_)
    · -- 21 jumps
      refine e_aload_n dX11_readsLine_28 rfl ?_
      refine e_ldc2 dX11_readsLine_29 kl_X11_262 ?_
      refine cV1r dX11_readsLine_32 mo_X11_isWord ml_X11_209 sh_m rfl (Nat.le_of_ble_eq_true rfl) (by omega) (r_isWord (k := 12) hG (by decide)) ?_
      refine e_if_eq (tgt := 42) dX11_readsLine_35 (by decide) (fun c35 => ?_) (fun c35 => ?_)
      · -- 35 jumps
        refine e_aload_n dX11_readsLine_42 rfl ?_
        refine e_ldc2 dX11_readsLine_43 kl_X11_264 ?_
        refine cV1r dX11_readsLine_46 mo_X11_isWord ml_X11_209 sh_m rfl (Nat.le_of_ble_eq_true rfl) (by omega) (r_isWord (k := 13) hG (by decide)) ?_
        refine e_if_eq (tgt := 56) dX11_readsLine_49 (by decide) (fun c49 => ?_) (fun c49 => ?_)
        · -- 49 jumps
          refine e_iconst (v := (-1)) dX11_readsLine_56 (by decide) ?_
          exact s_ln57 hG hW hn (by unfold dhX; rw [if_neg (b2i_eq0.mp c7), if_neg (b2i_eq0.mp c21), if_neg (b2i_eq0.mp c35), if_neg (b2i_eq0.mp c49)])
        · -- 49 goes on
          refine e_iconst (v := 3) dX11_readsLine_52 (by decide) ?_
          refine e_goto (tgt := 57) dX11_readsLine_53 (by decide) ?_
          have w49 : isW t x 13 := Classical.not_not.mp (fun q => c49 (b2i_f q))
          exact s_ln57 hG hW hn (by unfold dhX; rw [if_neg (b2i_eq0.mp c7), if_neg (b2i_eq0.mp c21), if_neg (b2i_eq0.mp c35), if_pos w49])
      · -- 35 goes on
        refine e_iconst (v := 2) dX11_readsLine_38 (by decide) ?_
        refine e_goto (tgt := 57) dX11_readsLine_39 (by decide) ?_
        have w35 : isW t x 12 := Classical.not_not.mp (fun q => c35 (b2i_f q))
        exact s_ln57 hG hW hn (by unfold dhX; rw [if_neg (b2i_eq0.mp c7), if_neg (b2i_eq0.mp c21), if_pos w35])
    · -- 21 goes on
      refine e_iconst (v := 1) dX11_readsLine_24 (by decide) ?_
      refine e_goto (tgt := 57) dX11_readsLine_25 (by decide) ?_
      have w21 : isW t x 2 := Classical.not_not.mp (fun q => c21 (b2i_f q))
      exact s_ln57 hG hW hn (by unfold dhX; rw [if_neg (b2i_eq0.mp c7), if_pos w21])
  · -- 7 goes on
    refine e_iconst (v := 0) dX11_readsLine_10 (by decide) ?_
    refine e_goto (tgt := 57) dX11_readsLine_11 (by decide) ?_
    have w7 : isW t x 11 := Classical.not_not.mp (fun q => c7 (b2i_f q))
    exact s_ln57 hG hW hn (by unfold dhX; rw [if_pos w7])
end RLN
