section RYL
/-- what a yard's line touches, but a law -/
def okY (c k : Nat) : Prop := (c = 240 ∧ 4 ≤ k) ∨ (243 ≤ c ∧ c ≤ 246 ∧ 6 ≤ k) ∨ ((c = 247 ∨ c = 248) ∧ 5 ≤ k) ∨ (c = 249 ∧ 12 ≤ k)
def okL (c k : Nat) : Prop := (c = 241 ∧ 6 ≤ k) ∨ (c = 242 ∧ 5 ≤ k)
def YG (M M' : Mm) : Prop := M'.2.2 = M.2.2 ∧ (∀ c k, ¬ c = 238 → ¬ okL c k → M'.2.1 c k = M.2.1 c k) ∧ (∀ c k, ¬ c = 238 → ¬ okY c k → M'.1 c k = M.1 c k) ∧ ∀ k, k = 1 ∨ k = 3 ∨ k = 23 ∨ k = 54 → M'.1 238 k = M.1 238 k
theorem YG.rfl' {M : Mm} : YG M M := ⟨rfl, fun _ _ _ _ => rfl, fun _ _ _ _ => rfl, fun _ _ => rfl⟩
theorem YG.trans {A B C : Mm} (h : YG A B) (k : YG B C) : YG A C := ⟨k.1.trans h.1, fun c q a b => (k.2.1 c q a b).trans (h.2.1 c q a b), fun c q a b => (k.2.2.1 c q a b).trans (h.2.2.1 c q a b), fun q a => (k.2.2.2 q a).trans (h.2.2.2 q a)⟩
theorem OF.yg {A B : Mm} (h : OF A B) : YG A B := ⟨h.2.2.1, fun c k a _ => by rw [h.2.1 c a], fun c k a _ => by rw [h.1 c a], fun k q => h.2.2.2 k (by omega)⟩
theorem YG.s {A B : Mm} (h : YG A B) {c k : Nat} {v : Int32} (hc : okY c k) : YG A (setI B c k v) := ⟨h.1, h.2.1, fun d z a b => by rw [setI_1, if_neg (fun x => b (by rw [x.1, x.2]; exact hc))]; exact h.2.2.1 d z a b, fun z a => by rw [setI_n (by unfold okY at hc; omega)]; exact h.2.2.2 z a⟩
theorem YG.sl {A B : Mm} (h : YG A B) {c k : Nat} {v : Int64} (hc : okL c k) : YG A (setL B c k v) := ⟨h.1, fun d z a b => by rw [setL_21, if_neg (fun x => b (by rw [x.1, x.2]; exact hc))]; exact h.2.1 d z a b, h.2.2.1, h.2.2.2⟩
theorem YG.f24 {A B : Mm} (h : YG A B) {v : Int32} : YG A (setI B 238 24 v) := ⟨h.1, h.2.1, fun d z a b => by rw [setI_n a]; exact h.2.2.1 d z a b, fun z a => by rw [setI_1, if_neg (by omega)]; exact h.2.2.2 z a⟩
/-- the yard being read, its second halves -/
def RPy (M : Mm) (Y : Yv) : Prop :=
  (M.1 240 4 = nI Y.n ∧ Y.n ≤ 6) ∧ (M.1 240 5 = nI Y.ns ∧ Y.ns ≤ 5) ∧ (M.1 240 6 = nI Y.nf ∧ Y.nf ≤ 12) ∧ (M.1 240 7 = (if Y.roof = 0 then 30 else Y.roof) ∧ M.1 238 24 = if Y.roof = 0 then 0 else 1) ∧
  (∀ j, j < Y.n → M.1 243 (6 + j) = Y.kind j ∧ M.1 244 (6 + j) = Y.heat j ∧ M.1 245 (6 + j) = Y.crow j ∧ M.1 246 (6 + j) = Y.near j ∧ M.2.1 241 (6 + j) = Y.name j) ∧
  (∀ j, j < Y.ns → M.1 247 (5 + j) = Y.low j ∧ M.1 248 (5 + j) = Y.high j ∧ M.2.1 242 (5 + j) = Y.sname j) ∧
  (∀ j, j < Y.nf → M.1 249 (12 + j) = Y.frost j)
theorem RPy.of {M M' : Mm} {Y : Yv} (h : RPy M Y) (hO : OF M M') : RPy M' Y := by
  unfold RPy
  rw [hO.1 240 (by decide), hO.1 243 (by decide), hO.1 244 (by decide), hO.1 245 (by decide), hO.1 246 (by decide), hO.1 247 (by decide), hO.1 248 (by decide), hO.1 249 (by decide), hO.2.1 241 (by decide), hO.2.1 242 (by decide), hO.2.2.2 24 (by omega)]
  exact h
theorem RPy.nm {M : Mm} {Y : Yv} (h : RPy M Y) : NMs M 1 Y := ⟨h.1.1, h.1.2, fun j hj => (h.2.2.2.2.1 j hj).2.2.2.2⟩
theorem RPy.sm {M : Mm} {Y : Yv} (h : RPy M Y) : SMs M Y := ⟨h.2.1.1, h.2.1.2, fun j hj => (h.2.2.2.2.2.1 j hj).2.2⟩
/-- behind what was told -/
theorem RPy.bey {M : Mm} {Y : Yv} {c k : Nat} {v : Int32} (h : RPy M Y) (hc : (243 ≤ c ∧ c ≤ 246 ∧ k = 6 + Y.n) ∨ ((c = 247 ∨ c = 248) ∧ k = 5 + Y.ns) ∨ (c = 249 ∧ k = 12 + Y.nf)) : RPy (setI M c k v) Y := by
  obtain ⟨h1, h2, h3, h4, h5, h6, h7⟩ := h
  refine ⟨⟨by rw [setI_n (by omega)]; exact h1.1, h1.2⟩, ⟨by rw [setI_n (by omega)]; exact h2.1, h2.2⟩, ⟨by rw [setI_n (by omega)]; exact h3.1, h3.2⟩, ⟨by rw [setI_n (by omega)]; exact h4.1, by rw [setI_n (by omega)]; exact h4.2⟩, fun j hj => ?_, fun j hj => ?_, fun j hj => ?_⟩
  · rw [setI_1, if_neg (by omega), setI_1, if_neg (by omega), setI_1, if_neg (by omega), setI_1, if_neg (by omega)]; exact h5 j hj
  · rw [setI_1, if_neg (by omega), setI_1, if_neg (by omega)]; exact h6 j hj
  · rw [setI_1, if_neg (by omega)]; exact h7 j hj
theorem RPy.beyl {M : Mm} {Y : Yv} {c k : Nat} {v : Int64} (h : RPy M Y) (hc : (c = 241 ∧ k = 6 + Y.n) ∨ (c = 242 ∧ k = 5 + Y.ns)) : RPy (setL M c k v) Y := by
  obtain ⟨h1, h2, h3, h4, h5, h6, h7⟩ := h
  refine ⟨h1, h2, h3, h4, fun j hj => ?_, fun j hj => ?_, h7⟩
  · rw [setL_21, if_neg (by omega)]; exact h5 j hj
  · rw [setL_21, if_neg (by omega)]; exact h6 j hj
/-- a shed being told -/
def SBd (M Mc : Mm) (Y : Yv) (fk fh fc fz : Option Int32) (fn : Option Int64) : Prop := YG M Mc ∧ RPy Mc Y ∧ (∀ v, fk = some v → Mc.1 243 (6 + Y.n) = v) ∧ (∀ v, fh = some v → Mc.1 244 (6 + Y.n) = v) ∧ (∀ v, fc = some v → Mc.1 245 (6 + Y.n) = v) ∧ (∀ v, fz = some v → Mc.1 246 (6 + Y.n) = v) ∧ ∀ v, fn = some v → Mc.2.1 241 (6 + Y.n) = v
section
variable {M Mc M1 : Mm} {Y : Yv} {fk fh fc fz : Option Int32} {fn : Option Int64} {v : Int32} {w : Int64}
theorem SBd.st (h : RPy M Y) : SBd M M Y none none none none none := ⟨YG.rfl', h, nosome, nosome, nosome, nosome, fun v q => absurd q (by simp)⟩
theorem SBd.of (h : SBd M Mc Y fk fh fc fz fn) (hO : OF Mc M1) : SBd M M1 Y fk fh fc fz fn := ⟨h.1.trans hO.yg, h.2.1.of hO, fun v q => by rw [hO.1 243 (by decide)]; exact h.2.2.1 v q, fun v q => by rw [hO.1 244 (by decide)]; exact h.2.2.2.1 v q, fun v q => by rw [hO.1 245 (by decide)]; exact h.2.2.2.2.1 v q, fun v q => by rw [hO.1 246 (by decide)]; exact h.2.2.2.2.2.1 v q, fun v q => by rw [hO.2.1 241 (by decide)]; exact h.2.2.2.2.2.2 v q⟩
theorem SBd.k (h : SBd M Mc Y fk fh fc fz fn) : SBd M (setI Mc 243 (6 + Y.n) v) Y (some v) fh fc fz fn := ⟨h.1.s (by unfold okY; omega), h.2.1.bey (by omega), fun z q => by rw [setI_p]; exact Option.some.inj q, fun z q => by rw [setI_n (by decide)]; exact h.2.2.2.1 z q, fun z q => by rw [setI_n (by decide)]; exact h.2.2.2.2.1 z q, fun z q => by rw [setI_n (by decide)]; exact h.2.2.2.2.2.1 z q, h.2.2.2.2.2.2⟩
theorem SBd.h (h : SBd M Mc Y fk fh fc fz fn) : SBd M (setI Mc 244 (6 + Y.n) v) Y fk (some v) fc fz fn := ⟨h.1.s (by unfold okY; omega), h.2.1.bey (by omega), fun z q => by rw [setI_n (by decide)]; exact h.2.2.1 z q, fun z q => by rw [setI_p]; exact Option.some.inj q, fun z q => by rw [setI_n (by decide)]; exact h.2.2.2.2.1 z q, fun z q => by rw [setI_n (by decide)]; exact h.2.2.2.2.2.1 z q, h.2.2.2.2.2.2⟩
theorem SBd.c (h : SBd M Mc Y fk fh fc fz fn) : SBd M (setI Mc 245 (6 + Y.n) v) Y fk fh (some v) fz fn := ⟨h.1.s (by unfold okY; omega), h.2.1.bey (by omega), fun z q => by rw [setI_n (by decide)]; exact h.2.2.1 z q, fun z q => by rw [setI_n (by decide)]; exact h.2.2.2.1 z q, fun z q => by rw [setI_p]; exact Option.some.inj q, fun z q => by rw [setI_n (by decide)]; exact h.2.2.2.2.2.1 z q, h.2.2.2.2.2.2⟩
theorem SBd.z (h : SBd M Mc Y fk fh fc fz fn) : SBd M (setI Mc 246 (6 + Y.n) v) Y fk fh fc (some v) fn := ⟨h.1.s (by unfold okY; omega), h.2.1.bey (by omega), fun z q => by rw [setI_n (by decide)]; exact h.2.2.1 z q, fun z q => by rw [setI_n (by decide)]; exact h.2.2.2.1 z q, fun z q => by rw [setI_n (by decide)]; exact h.2.2.2.2.1 z q, fun z q => by rw [setI_p]; exact Option.some.inj q, h.2.2.2.2.2.2⟩
theorem SBd.n (h : SBd M Mc Y fk fh fc fz fn) : SBd M (setL Mc 241 (6 + Y.n) w) Y fk fh fc fz (some w) := ⟨h.1.sl (by unfold okL; omega), h.2.1.beyl (by omega), h.2.2.1, h.2.2.2.1, h.2.2.2.2.1, h.2.2.2.2.2.1, fun z q => by rw [setL_21, if_pos ⟨rfl, rfl⟩]; exact Option.some.inj q⟩
theorem SBd.fin {k h0 c : Int32} (h : SBd M Mc Y (some k) (some h0) (some c) (some 0) (some w)) (hl : Y.n < 6) : YG M (setI Mc 240 4 (nI (Y.n + 1))) ∧ RPy (setI Mc 240 4 (nI (Y.n + 1))) (addSP Y w k h0 c) := by
  obtain ⟨hF, ⟨h1, h2, h3, h4, h5, h6, h7⟩, a, b, d, e, g⟩ := h
  refine ⟨hF.s (by unfold okY; omega), ⟨by rw [setI_p]; rfl, by show Y.n + 1 ≤ 6; omega⟩, ⟨by rw [setI_1, if_neg (by omega)]; exact h2.1, h2.2⟩, ⟨by rw [setI_1, if_neg (by omega)]; exact h3.1, h3.2⟩, ⟨by rw [setI_1, if_neg (by omega)]; exact h4.1, by rw [setI_n (by decide)]; exact h4.2⟩, fun j hj => ?_, fun j hj => ?_, fun j hj => ?_⟩
  · have hj2 : j < Y.n + 1 := hj
    rw [setI_n (by decide), setI_n (by decide), setI_n (by decide), setI_n (by decide)]
    by_cases q : j = Y.n
    · rw [q, a k rfl, b h0 rfl, d c rfl, e 0 rfl]
      refine ⟨?_, ?_, ?_, ?_, ?_⟩
      · simp [addSP, Yv.n, Yv.kind, Yv.heat, Yv.crow, Yv.near, Yv.name, Yv.low, Yv.high, Yv.frost, Yv.sname]
      · simp [addSP, Yv.n, Yv.kind, Yv.heat, Yv.crow, Yv.near, Yv.name, Yv.low, Yv.high, Yv.frost, Yv.sname]
      · simp [addSP, Yv.n, Yv.kind, Yv.heat, Yv.crow, Yv.near, Yv.name, Yv.low, Yv.high, Yv.frost, Yv.sname]
      · simp [addSP, Yv.n, Yv.kind, Yv.heat, Yv.crow, Yv.near, Yv.name, Yv.low, Yv.high, Yv.frost, Yv.sname]
      · rw [show (setI Mc 240 4 (nI (Y.n + 1))).2.1 241 (6 + Y.n) = Mc.2.1 241 (6 + Y.n) from rfl, g w rfl]; simp [addSP, Yv.n, Yv.kind, Yv.heat, Yv.crow, Yv.near, Yv.name, Yv.low, Yv.high, Yv.frost, Yv.sname]
    · obtain ⟨z1, z2, z3, z4, z5⟩ := h5 j (by omega)
      rw [z1, z2, z3, z4]
      refine ⟨?_, ?_, ?_, ?_, ?_⟩
      · simp [addSP, Yv.n, Yv.kind, Yv.heat, Yv.crow, Yv.near, Yv.name, Yv.low, Yv.high, Yv.frost, Yv.sname, show ¬ j = Y.1 from q]
      · simp [addSP, Yv.n, Yv.kind, Yv.heat, Yv.crow, Yv.near, Yv.name, Yv.low, Yv.high, Yv.frost, Yv.sname, show ¬ j = Y.1 from q]
      · simp [addSP, Yv.n, Yv.kind, Yv.heat, Yv.crow, Yv.near, Yv.name, Yv.low, Yv.high, Yv.frost, Yv.sname, show ¬ j = Y.1 from q]
      · simp [addSP, Yv.n, Yv.kind, Yv.heat, Yv.crow, Yv.near, Yv.name, Yv.low, Yv.high, Yv.frost, Yv.sname, show ¬ j = Y.1 from q]
      · rw [show (setI Mc 240 4 (nI (Y.n + 1))).2.1 241 (6 + j) = Mc.2.1 241 (6 + j) from rfl, z5]; simp [addSP, Yv.n, Yv.kind, Yv.heat, Yv.crow, Yv.near, Yv.name, Yv.low, Yv.high, Yv.frost, Yv.sname, show ¬ j = Y.1 from q]
  · rw [setI_n (by decide), setI_n (by decide)]
    obtain ⟨z1, z2, z3⟩ := h6 j hj
    exact ⟨by rw [z1]; simp [addSP, Yv.n, Yv.kind, Yv.heat, Yv.crow, Yv.near, Yv.name, Yv.low, Yv.high, Yv.frost, Yv.sname], by rw [z2]; simp [addSP, Yv.n, Yv.kind, Yv.heat, Yv.crow, Yv.near, Yv.name, Yv.low, Yv.high, Yv.frost, Yv.sname], by rw [show (setI Mc 240 4 (nI (Y.n + 1))).2.1 242 (5 + j) = Mc.2.1 242 (5 + j) from rfl, z3]; simp [addSP, Yv.n, Yv.kind, Yv.heat, Yv.crow, Yv.near, Yv.name, Yv.low, Yv.high, Yv.frost, Yv.sname]⟩
  · rw [setI_n (by decide), h7 j hj]; simp [addSP, Yv.n, Yv.kind, Yv.heat, Yv.crow, Yv.near, Yv.name, Yv.low, Yv.high, Yv.frost, Yv.sname]
end
/-- a line's answer -/
def LnY (M M' : Mm) (t : Tv) (x' : Xv) (Y' : Yv) (r : Option Value) : Prop := YG M M' ∧ RA1 M' t x' r ∧ (x'.1 = 0 → RPy M' Y')
theorem kX_5 (t : Tv) (x : Xv) : (kindX t x = -1 ∧ ¬ (isW t x 14 ∨ isW t x 15 ∨ isW t x 16 ∨ isW t x 17)) ∨ (¬ kindX t x < 0 ∧ (isW t x 14 ∨ isW t x 15 ∨ isW t x 16 ∨ isW t x 17)) := by
  unfold kindX
  by_cases a : isW t x 14
  · rw [if_pos a]; exact Or.inr ⟨by decide, Or.inl a⟩
  · by_cases b : isW t x 15
    · rw [if_neg a, if_pos b]; exact Or.inr ⟨by decide, Or.inr (Or.inl b)⟩
    · by_cases c : isW t x 16
      · rw [if_neg a, if_neg b, if_pos c]; exact Or.inr ⟨by decide, Or.inr (Or.inr (Or.inl c))⟩
      · by_cases d : isW t x 17
        · rw [if_neg a, if_neg b, if_neg c, if_pos d]; exact Or.inr ⟨by decide, Or.inr (Or.inr (Or.inr d))⟩
        · rw [if_neg a, if_neg b, if_neg c, if_neg d]; exact Or.inl ⟨rfl, fun q => by rcases q with q | q | q | q; exact a q; exact b q; exact c q; exact d q⟩
set_option maxHeartbeats 4000000 in
set_option maxRecDepth 20000 in
theorem s_rs97 {G : Gt} {M Mc : Mm} {t : Tv} {x : Xv} {Y : Yv} {w : Int64} {v : Int32} (hG : GX Mc t x) (hB : SBd M Mc Y none none none none none) (hl : Y.n < 6) (hw : Mc.2.1 238 38 = w) (hv : kindX t x = v) : Ev G 5 mX11_readsShed 97 [.ref 238, .int (nI (6 + Y.n))] [.int v, .int (nI (6 + Y.n)), .ref 243] Mc (fun r M' => LnY M M' t (tkS t (tkN t (tkW t (tkN t (tkW t (tkK t x) 2) 0 9) 3) 1 20) 59) (addSP Y w (kindX t x) (nmX t (tkW t (tkK t x) 2)) (nmX t (tkW t (tkN t (tkW t (tkK t x) 2) 0 9) 3))) r) := by
  obtain ⟨hx0, hx2, hI, hZ, g4, g5, g6, g7, g8⟩ := id hG
  have ht := hZ.2.1
  subst hv
  refine e_iastN (j := (6 + Y.n)) dX11_readsShed_97 (sa_m_kind) (by decide) (by omega) ?_
  have hB1 := hB.k (v := kindX t x)
  refine e_aload_n dX11_readsShed_98 rfl ?_
  refine e_getR dX11_readsShed_99 fl_X11_23 sh_m rfl ?_
  refine e_iload_n dX11_readsShed_102 rfl ?_
  refine e_ialdN (j := (6 + Y.n)) dX11_readsShed_103 (sa_m_kind) (by decide) (by omega) ?_
  rw [setI_p]
  refine e_if_ge (tgt := 113) dX11_readsShed_104 (by decide) (fun c104 => ?_) (fun c104 => ?_)
  · -- 104 jumps
    refine e_aload_n dX11_readsShed_113 rfl ?_
    refine cV0x dX11_readsShed_114 mo_X11_nextToken ml_X11_224 sh_m rfl (Nat.le_of_ble_eq_true rfl) (by omega) (c_nt (hG.s (by omega)) OF.rfl' rfl) ?_
    rintro r M2 ⟨rfl, hN2, hG2⟩
    dsimp only [Option.toList, List.cons_append, List.nil_append]
    have hkk := ((kX_5 t x).resolve_left (fun q => c104 (by rw [q.1]; decide))).2
    have e3 : tkK t x = advX t x := by unfold tkK; rw [if_pos hkk]
    rw [← e3] at hG2
    have hB2 := hB1.of hN2.of
    refine e_aload_n dX11_readsShed_117 rfl ?_
    refine e_ldc2 dX11_readsShed_118 kl_X11_242 ?_
    refine e_iconst (v := 0) dX11_readsShed_121 (by decide) ?_
    refine e_bipush (v := 9) dX11_readsShed_122 (by decide) ?_
    refine cV3x dX11_readsShed_124 mo_X11_needsBoth ml_X11_301 sh_m rfl (Nat.le_of_ble_eq_true rfl) (by omega) (r_needsBoth (k := 2) hG2 (by decide)) ?_
    rintro r M3 ⟨hO3, hA3, hF3, hf3⟩
    have hB3 := hB2.of hO3
    rcases hA3 with ⟨z1, rfl, z2⟩ | ⟨z1, rfl, z2⟩
    · -- ok at 124
      dsimp only [Option.toList, List.cons_append, List.nil_append]
      have hG3 := z2
      refine e_if_ne (tgt := 132) dX11_readsShed_127 (by decide) (fun c127 => ?_) (fun c127 => absurd c127 (by decide))
      refine e_aload_n dX11_readsShed_132 rfl ?_
      refine e_getR dX11_readsShed_133 fl_X11_26 sh_m rfl ?_
      refine e_iload_n dX11_readsShed_136 rfl ?_
      refine e_aload_n dX11_readsShed_137 rfl ?_
      refine e_getI dX11_readsShed_138 fl_X11_278 sh_m rfl ?_
      rw [hF3 z1]
      refine e_iastN (j := (6 + Y.n)) dX11_readsShed_141 (sa_m_heatTold) (by decide) (by omega) ?_
      have hB4 := hB3.h (v := nmX t (tkW t (tkK t x) 2))
      refine e_aload_n dX11_readsShed_142 rfl ?_
      refine e_ldc2 dX11_readsShed_143 kl_X11_244 ?_
      refine e_iconst (v := 1) dX11_readsShed_146 (by decide) ?_
      refine e_bipush (v := 20) dX11_readsShed_147 (by decide) ?_
      refine cV3x dX11_readsShed_149 mo_X11_needsBoth ml_X11_301 sh_m rfl (Nat.le_of_ble_eq_true rfl) (by omega) (r_needsBoth (k := 3) (hG3.s (by omega)) (by decide)) ?_
      rintro r M5 ⟨hO5, hA5, hF5, hf5⟩
      have hB5 := hB4.of hO5
      rcases hA5 with ⟨z1, rfl, z2⟩ | ⟨z1, rfl, z2⟩
      · -- ok at 149
        dsimp only [Option.toList, List.cons_append, List.nil_append]
        have hG5 := z2
        refine e_if_ne (tgt := 157) dX11_readsShed_152 (by decide) (fun c152 => ?_) (fun c152 => absurd c152 (by decide))
        refine e_aload_n dX11_readsShed_157 rfl ?_
        refine e_getR dX11_readsShed_158 fl_X11_29 sh_m rfl ?_
        refine e_iload_n dX11_readsShed_161 rfl ?_
        refine e_aload_n dX11_readsShed_162 rfl ?_
        refine e_getI dX11_readsShed_163 fl_X11_278 sh_m rfl ?_
        rw [hF5 z1]
        refine e_iastN (j := (6 + Y.n)) dX11_readsShed_166 (sa_m_crownsTold) (by decide) (by omega) ?_
        refine e_aload_n dX11_readsShed_167 rfl ?_
        refine e_getR dX11_readsShed_168 fl_X11_32 sh_m rfl ?_
        refine e_iload_n dX11_readsShed_171 rfl ?_
        refine e_iconst (v := 0) dX11_readsShed_172 (by decide) ?_
        refine e_iastN (j := (6 + Y.n)) dX11_readsShed_173 (sa_m_near) (by decide) (by omega) ?_
        have hB6 := (hB5.c (v := nmX t (tkW t (tkN t (tkW t (tkK t x) 2) 0 9) 3))).z (v := 0)
        refine e_aload_n dX11_readsShed_174 rfl ?_
        refine e_getR dX11_readsShed_175 fl_X11_16 sh_m rfl ?_
        refine e_iload_n dX11_readsShed_178 rfl ?_
        refine e_aload_n dX11_readsShed_179 rfl ?_
        refine e_getL dX11_readsShed_180 fl_X11_295 sh_m rfl ?_
        rw [show (setI (setI M5 245 (6 + Y.n) _) 246 (6 + Y.n) 0).2.1 238 38 = w from hf5.trans ((show (setI M3 244 (6 + Y.n) _).2.1 238 38 = M3.2.1 238 38 from rfl).trans (hf3.trans ((hN2.2.2.2.2 38 (by decide)).trans hw)))]
        refine e_lastN (j := (6 + Y.n)) dX11_readsShed_183 (sa_m_shedName) (by decide) (by omega) ?_
        have hB7 := hB6.n (w := w)
        have hFin := hB7.fin hl
        refine e_aload_n dX11_readsShed_184 rfl ?_
        refine e_getR dX11_readsShed_185 fl_X11_13 sh_m rfl ?_
        refine e_iconst (v := 4) dX11_readsShed_188 (by decide) ?_
        refine e_dup2 dX11_readsShed_189 rfl rfl ?_
        refine e_ialdN (j := 4) dX11_readsShed_190 (sa_m_yard) (by decide) (by omega) ?_
        rw [hB7.2.1.1.1]
        refine e_iconst (v := 1) dX11_readsShed_191 (by decide) ?_
        refine e_iaddN (a := Y.n) (b := 1) dX11_readsShed_192 ?_
        refine e_iastN (j := 4) dX11_readsShed_193 (sa_m_yard) (by decide) (by omega) ?_
        refine e_aload_n dX11_readsShed_194 rfl ?_
        refine cV0x dX11_readsShed_195 mo_X11_closes ml_X11_305 sh_m rfl (Nat.le_of_ble_eq_true rfl) (by omega) (r_closes ((((hG5.s (by omega)).s (by omega)).sl (by omega)).s (by omega))) ?_
        rintro r M8 ⟨hO8, hA8⟩
        rcases hA8 with ⟨z1, rfl, z2⟩ | ⟨z1, rfl, z2⟩
        · -- ok at 195
          dsimp only [Option.toList, List.cons_append, List.nil_append]
          refine e_zret dX11_readsShed_198 rfl (by first | rfl | exact b2i_nar _) ?_
          exact ⟨hFin.1.trans hO8.yg, Or.inl ⟨z1, rfl, z2⟩, fun _ => hFin.2.of hO8⟩
        · -- no at 195
          dsimp only [Option.toList, List.cons_append, List.nil_append]
          refine e_zret dX11_readsShed_198 rfl (by first | rfl | exact b2i_nar _) ?_
          exact ⟨hFin.1.trans hO8.yg, Or.inr ⟨z1, rfl, z2⟩, fun q => absurd q z1⟩
      · -- no at 149
        dsimp only [Option.toList, List.cons_append, List.nil_append]
        refine e_if_ne (tgt := 157) dX11_readsShed_152 (by decide) (fun c152 => absurd c152 (by decide)) (fun c152 => ?_)
        refine e_iconst (v := 0) dX11_readsShed_155 (by decide) ?_
        refine e_zret dX11_readsShed_156 rfl (by first | rfl | exact b2i_nar _) ?_
        have e : tkS t (tkN t (tkW t (tkN t (tkW t (tkK t x) 2) 0 9) 3) 1 20) 59 = (tkN t (tkW t (tkN t (tkW t (tkK t x) 2) 0 9) 3) 1 20) := by rw [st_S z1]
        exact ⟨hB5.1, Or.inr ⟨by rw [e]; exact z1, rfl, by rw [e]; exact z2⟩, fun q => absurd q (by rw [e]; exact z1)⟩
    · -- no at 124
      dsimp only [Option.toList, List.cons_append, List.nil_append]
      refine e_if_ne (tgt := 132) dX11_readsShed_127 (by decide) (fun c127 => absurd c127 (by decide)) (fun c127 => ?_)
      refine e_iconst (v := 0) dX11_readsShed_130 (by decide) ?_
      refine e_zret dX11_readsShed_131 rfl (by first | rfl | exact b2i_nar _) ?_
      have e : tkS t (tkN t (tkW t (tkN t (tkW t (tkK t x) 2) 0 9) 3) 1 20) 59 = (tkN t (tkW t (tkK t x) 2) 0 9) := by rw [st_W z1, st_N z1, st_S z1]
      exact ⟨hB3.1, Or.inr ⟨by rw [e]; exact z1, rfl, by rw [e]; exact z2⟩, fun q => absurd q (by rw [e]; exact z1)⟩
  · -- 104 goes on
    refine e_aload_n dX11_readsShed_107 rfl ?_
    refine e_iconst (v := 1) dX11_readsShed_108 (by decide) ?_
    refine cV1r dX11_readsShed_109 mo_X11_fails ml_X11_217 sh_m rfl (Nat.le_of_ble_eq_true rfl) (by omega) (r_fails (k := 1) (by rw [setI_n (by decide)]; exact g5)) ?_
    refine e_zret dX11_readsShed_112 rfl (by first | rfl | exact b2i_nar _) ?_
    have hkk := (kX_5 t x).resolve_right (fun q => q.1 c104)
    have e3 : tkK t x = failX t (nI 1) x := by unfold tkK; rw [if_neg hkk.2]; exact fl_adv (by decide) hx2 hI
    have hz := fail_nz (t := t) (x := x) (k := 1) (by decide) hx2 hI
    have hz3 : ¬ (tkK t x).1 = 0 := by rw [e3]; exact hz
    have e : tkS t (tkN t (tkW t (tkN t (tkW t (tkK t x) 2) 0 9) 3) 1 20) 59 = tkK t x := by rw [st_W hz3, st_N hz3, st_W hz3, st_N hz3, st_S hz3]
    exact ⟨(hB1.of of9).1, RA1.f (hG.s (by omega)) (k := 1) (by decide) (e.trans e3), fun q => absurd q (by rw [e]; exact hz3)⟩
end RYL
