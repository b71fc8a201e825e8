section RAL
/-- where a reader may stand -/
def PB (s : Nat) (t : Tv) (x : Xv) : Prop := s ≤ x.2 ∧ x.2 ≤ t.1
section
variable {s : Nat} {t : Tv} {x : Xv}
theorem adv_b (h : PB s t x) : PB s t (advX t x) := ⟨Nat.le_trans h.1 (adv_le (t := t) h.2).1, (adv_le (t := t) h.2).2⟩
theorem fail_b {k : Int32} (h : PB s t x) : PB s t (failX t k x) := ⟨by rw [fail_2]; exact h.1, by rw [fail_2]; exact h.2⟩
theorem if_b {c : Prop} [Decidable c] {a b : Xv} (ha : PB s t a) (hb : PB s t b) : PB s t (if c then a else b) := by split <;> assumption
theorem tkW_b {k : Nat} (h : PB s t x) : PB s t (tkW t x k) := adv_b (by split <;> first | exact h | exact fail_b h)
theorem tkN_b {a b : Int32} (h : PB s t x) : PB s t (tkN t x a b) := adv_b (by split <;> first | exact fail_b h | (split <;> first | exact h | exact fail_b h))
theorem tkM_b {Y : Yv} (h : PB s t x) : PB s t (tkM t x Y) := adv_b (by split <;> first | exact fail_b h | (split <;> first | exact h | exact fail_b h))
theorem tkK_b (h : PB s t x) : PB s t (tkK t x) := adv_b (by split <;> first | exact h | exact fail_b h)
theorem shH_b {Y : Yv} (h : PB s t x) : PB s t (shH t x Y) := by
  unfold shH
  split <;> first | exact fail_b h | (split <;> first | exact h | exact fail_b h)
theorem frL_b : ∀ (k : Nat) (r : Xv × Yv), PB s t r.1 → PB s t (frL t k r).1 := by
  intro k
  induction k with
  | zero => intro r h; exact h
  | succ k ih =>
    intro r h
    rw [frL]
    split
    · exact ih _ (tkN_b (if_b (fail_b h) h))
    · exact h
theorem rdLine_b {b : Nat} {r : Xv × Pv} (hb : 35 ≤ b) (hI : TI t) (h : PB s t r.1) : PB s t (rdLine b t r).1 := by
  unfold rdLine
  split
  · rw [rdS_1]; exact tkN_b (tkW_b (tkN_b (tkW_b (tkK_b (tkM_b (adv_b (if_b h (fail_b h))))))))
  · split
    · rw [rdNr_1]
      have h4 : PB s t (rn4 t r.1 r.2) := shH_b (adv_b (shH_b (adv_b h)))
      exact adv_b (if_b (fail_b h4) h4)
    · split
      · rw [rdG_1]; exact tkN_b (tkW_b (tkN_b (tkW_b (tkM_b (adv_b (if_b h (fail_b h)))))))
      · split
        · rw [rdF_1]; exact frL_b 12 _ (tkN_b (adv_b (if_b (fail_b h) h)))
        · split
          · rw [rdR_1]; exact tkN_b (adv_b (if_b (fail_b h) h))
          · split
            · rw [rdL_1]
              have h1 : PB s t (advX t (if 0 < r.2.2.po.length then failX t 3 r.1 else r.1)) := adv_b (if_b (fail_b h) h)
              have h2 := pN_ln hI b 0 0 (by decide) (by decide) (by unfold need; omega) _ h1.2
              exact ⟨Nat.le_trans h1.1 h2.1, h2.2.1⟩
            · exact fail_b h
theorem tkS_go {y : Int32} (h : (tkS t x y).1 = 0) (hx : x.2 ≤ t.1) (hI : TI t) : x.2 < (tkS t x y).2 := by
  unfold tkS at h ⊢
  by_cases c : isS t x y
  · rw [if_pos c]; exact adv_lt hx c.1 (by rw [c.2.1]; decide)
  · rw [if_neg c] at h; exact absurd ((adv_1 (t := t)).symm.trans h) (fail_nz (k := 1) (by decide) hx hI)
theorem rdB_no {b n : Nat} {r : Xv × Pv} (h : ¬ goX t r.1) : rdB b t n r = r := by
  cases n with
  | zero => rfl
  | succ n => rw [rdB, if_neg h]
theorem rdB_go {b n : Nat} {r : Xv × Pv} (h : goX t r.1) : rdB b t (n + 1) r = rdB b t n (tkS t (rdLine b t r).1 59, (rdLine b t r).2) := by rw [rdB, if_pos h]
end
/-- what a yard's reading touches -/
def YA (M M' : Mm) : Prop := M'.2.2 = M.2.2 ∧ (∀ c k, ¬ c = 238 → ¬ okL c k → M'.2.1 c k = M.2.1 c k) ∧ (∀ c k, ¬ c = 238 → ¬ okY c k → ¬ okW c k → M'.1 c k = M.1 c k) ∧ ∀ k, k = 1 ∨ k = 3 ∨ k = 54 → M'.1 238 k = M.1 238 k
theorem YA.rfl' {M : Mm} : YA M M := ⟨rfl, fun _ _ _ _ => rfl, fun _ _ _ _ _ => rfl, fun _ _ => rfl⟩
theorem YA.trans {A B C : Mm} (h : YA A B) (k : YA B C) : YA A C := ⟨k.1.trans h.1, fun c q a b => (k.2.1 c q a b).trans (h.2.1 c q a b), fun c q a b d => (k.2.2.1 c q a b d).trans (h.2.2.1 c q a b d), fun q a => (k.2.2.2 q a).trans (h.2.2.2 q a)⟩
theorem YG.ya {A B : Mm} (h : YG A B) : YA A B := ⟨h.1, h.2.1, fun c k a b _ => h.2.2.1 c k a b, fun k q => h.2.2.2 k (by omega)⟩
theorem WG.ya {A B : Mm} (h : WG A B) : YA A B := ⟨h.1, fun c k a _ => by rw [h.2.1 c a], fun c k a _ b => h.2.2.1 c k a b, fun k q => h.2.2.2 k (by omega)⟩
def ROF (Y : Yv) : Prop := ¬ Y.roof = 0 → 0 < Y.roof
/-- a line of a yard was read -/
def LA (M M' : Mm) (t : Tv) (z : Xv × Pv) (r : Option Value) : Prop := YA M M' ∧ RA1 M' t (tkS t z.1 59) r ∧ ((tkS t z.1 59).1 = 0 → RPy M' z.2.1 ∧ RPl M' z.2.2 ∧ ROF z.2.1)
theorem LnY.la {M M' : Mm} {t : Tv} {X : Xv} {Y' : Yv} {e : Ex} {r : Option Value} {z : Xv × Pv} (h : LnY M M' t (tkS t X 59) Y' r) (hl : RPl M e) (e1 : z.1 = X) (e2 : z.2 = (Y', e)) (hro : (tkS t X 59).1 = 0 → ROF Y') : LA M M' t z r := by
  obtain ⟨h1, h2, h3⟩ := h
  unfold LA
  rw [e1, e2]
  exact ⟨h1.ya, h2, fun q => ⟨h3 q, hl.yg h1, hro q⟩⟩
theorem ro_roof {t : Tv} {x : Xv} {a : Yv} (hx : x.2 ≤ t.1) (hI : TI t) (h : (tkS t (tkN t x 5 60) 59).1 = 0) : ROF (setRP a (nmX t x)) := by
  intro _
  have h1 : (tkN t x 5 60).1 = 0 := Classical.byContradiction (fun q => by rw [tkS_1 q] at h; exact q h)
  have h2 := (tkN_0 h1 hx hI).2.1
  show 0 < nmX t x
  refine Classical.byContradiction (fun q => h2 ?_)
  exact Int32.lt_of_le_of_lt (Int32.not_lt.mp q) (by decide)
theorem ro_frL {t : Tv} : ∀ (k : Nat) (r : Xv × Yv), ROF r.2 → ROF (frL t k r).2 := by
  intro k
  induction k with
  | zero => intro r h; exact h
  | succ k ih =>
    intro r h
    rw [frL]
    split
    · refine ih _ ?_
      show ROF (addFP r.2 _)
      unfold addFP
      split <;> exact h
    · exact h
theorem ro_addF {Y : Yv} {v : Int32} (h : ROF Y) : ROF (addFP Y v) := by
  unfold addFP
  split <;> exact h
set_option maxHeartbeats 500000 in
set_option maxRecDepth 20000 in
theorem l_rall {G : Gt} {M : Mm} {t : Tv} {b : Nat} {R : Xv × Pv} (hb : 35 ≤ b) : ∀ (k : Nat) (n : Nat) (x : Xv) (P : Pv) (Mc : Mm) (u : Int32), (x.2 ≤ t.1) → (t.1 < x.2 + k) → (t.1 ≤ n + x.2) → (GX Mc t x) → (YA M Mc) → (RPy Mc P.1) → (RPl Mc P.2) → (ROF P.1) → (R = rdB b t n (x, P)) → Ev G 6 mX11_readsAll 66 [.ref 238, .int u] [] Mc (fun r M' => YA M M' ∧ ((R.1.1 = 0 ∧ r = some (.int 1) ∧ GX M' t R.1 ∧ RPy M' R.2.1 ∧ RPl M' R.2.2) ∨ (¬ R.1.1 = 0 ∧ r = some (.int 0) ∧ M'.1 238 9 = R.1.1))) := by
  intro k
  induction k with
  | zero => intro n x P Mc u hx hk hn hG hF hP hl hro hr; exact absurd hk (by omega)
  | succ k ih =>
    intro n x P Mc u hx hk hn hG hF hP hl hro hr
    obtain ⟨hx0, hx2, hI, hZ, g4, g5, g6, g7, g8⟩ := id hG
    refine e_aload_n dX11_readsAll_66 rfl ?_
    refine e_getI dX11_readsAll_67 fl_X11_178 sh_m rfl ?_
    rw [g6]
    refine e_if_eq (tgt := 190) dX11_readsAll_70 (by decide) (fun c70 => ?_) (fun c70 => ?_)
    · -- 70 jumps
      refine e_iconst (v := 1) dX11_readsAll_190 (by decide) ?_
      refine e_zret dX11_readsAll_191 rfl (by first | rfl | exact b2i_nar _) ?_
      have hg : ¬ goX t x := fun q => q.2 (kR_0.mp c70)
      have hres : R = (x, P) := hr.trans (rdB_no hg)
      rw [hres]
      exact ⟨hF, Or.inl ⟨hx0, rfl, hG, hP, hl⟩⟩
    · -- 70 goes on
      have hg : goX t x := ⟨hx0, fun q => c70 (kR_0.mpr q)⟩
      have hlt : x.2 < t.1 := by have h1 := adv_lt hx2 hx0 hg.2; have h2 := (adv_le (t := t) hx2).2; omega
      obtain ⟨m, rfl⟩ : ∃ m, n = m + 1 := ⟨n - 1, by omega⟩
      have hr2 : R = rdB b t m (tkS t (rdLine b t (x, P)).1 59, (rdLine b t (x, P)).2) := hr.trans (rdB_go hg)
      refine e_aload_n dX11_readsAll_73 rfl ?_
      refine e_ldc2 dX11_readsAll_74 kl_X11_240 ?_
      refine cV1r dX11_readsAll_77 mo_X11_isWord ml_X11_209 sh_m rfl (Nat.le_of_ble_eq_true rfl) (by omega) (r_isWord (k := 1) hG (by decide)) ?_
      refine e_if_eq (tgt := 90) dX11_readsAll_80 (by decide) (fun c80 => ?_) (fun c80 => ?_)
      · -- 80 jumps
        refine e_aload_n dX11_readsAll_90 rfl ?_
        refine e_ldc2 dX11_readsAll_91 kl_X11_246 ?_
        refine cV1r dX11_readsAll_94 mo_X11_isWord ml_X11_209 sh_m rfl (Nat.le_of_ble_eq_true rfl) (by omega) (r_isWord (k := 4) hG (by decide)) ?_
        refine e_if_eq (tgt := 107) dX11_readsAll_97 (by decide) (fun c97 => ?_) (fun c97 => ?_)
        · -- 97 jumps
          refine e_aload_n dX11_readsAll_107 rfl ?_
          refine e_ldc2 dX11_readsAll_108 kl_X11_248 ?_
          refine cV1r dX11_readsAll_111 mo_X11_isWord ml_X11_209 sh_m rfl (Nat.le_of_ble_eq_true rfl) (by omega) (r_isWord (k := 5) hG (by decide)) ?_
          refine e_if_eq (tgt := 124) dX11_readsAll_114 (by decide) (fun c114 => ?_) (fun c114 => ?_)
          · -- 114 jumps
            refine e_aload_n dX11_readsAll_124 rfl ?_
            refine e_ldc2 dX11_readsAll_125 kl_X11_254 ?_
            refine cV1r dX11_readsAll_128 mo_X11_isWord ml_X11_209 sh_m rfl (Nat.le_of_ble_eq_true rfl) (by omega) (r_isWord (k := 8) hG (by decide)) ?_
            refine e_if_eq (tgt := 141) dX11_readsAll_131 (by decide) (fun c131 => ?_) (fun c131 => ?_)
            · -- 131 jumps
              refine e_aload_n dX11_readsAll_141 rfl ?_
              refine e_ldc2 dX11_readsAll_142 kl_X11_256 ?_
              refine cV1r dX11_readsAll_145 mo_X11_isWord ml_X11_209 sh_m rfl (Nat.le_of_ble_eq_true rfl) (by omega) (r_isWord (k := 9) hG (by decide)) ?_
              refine e_if_eq (tgt := 158) dX11_readsAll_148 (by decide) (fun c148 => ?_) (fun c148 => ?_)
              · -- 148 jumps
                refine e_aload_n dX11_readsAll_158 rfl ?_
                refine e_ldc2 dX11_readsAll_159 kl_X11_258 ?_
                refine cV1r dX11_readsAll_162 mo_X11_isWord ml_X11_209 sh_m rfl (Nat.le_of_ble_eq_true rfl) (by omega) (r_isWord (k := 10) hG (by decide)) ?_
                refine e_if_eq (tgt := 175) dX11_readsAll_165 (by decide) (fun c165 => ?_) (fun c165 => ?_)
                · -- 165 jumps
                  refine e_aload_n dX11_readsAll_175 rfl ?_
                  refine e_iconst (v := 1) dX11_readsAll_176 (by decide) ?_
                  refine cV1r dX11_readsAll_177 mo_X11_fails ml_X11_217 sh_m rfl (Nat.le_of_ble_eq_true rfl) (by omega) (r_fails (k := 1) g5) ?_
                  refine e_istore_n (ls' := [_, _]) dX11_readsAll_180 (by decide) rfl ?_
                  refine e_iload_n dX11_readsAll_181 rfl ?_
                  refine e_if_ne (tgt := 187) dX11_readsAll_182 (by decide) (fun c182 => absurd c182 (by decide)) (fun c182 => ?_)
                  refine e_iconst (v := 0) dX11_readsAll_185 (by decide) ?_
                  refine e_zret dX11_readsAll_186 rfl (by first | rfl | exact b2i_nar _) ?_
                  have hz : rdLine b t (x, P) = (failX t 1 x, P) := by unfold rdLine; rw [if_neg (b2i_eq0.mp c80), if_neg (b2i_eq0.mp c97), if_neg (b2i_eq0.mp c114), if_neg (b2i_eq0.mp c131), if_neg (b2i_eq0.mp c148), if_neg (b2i_eq0.mp c165)]
                  have hzz := fail_nz (t := t) (x := x) (k := 1) (by decide) hx2 hI
                  have e2 : tkS t (rdLine b t (x, P)).1 59 = failX t (nI 1) x := by rw [hz]; exact st_S hzz
                  have hres : R = (tkS t (rdLine b t (x, P)).1 59, (rdLine b t (x, P)).2) := hr2.trans (rdB_no (fun q => by have q1 : (tkS t (rdLine b t (x, P)).1 59).1 = 0 := q.1; rw [e2] at q1; exact hzz q1))
                  rw [hres, e2]
                  exact ⟨hF.trans of9.yg.ya, Or.inr ⟨hzz, rfl, by rw [setI_p, fail0 hx0]; rfl⟩⟩
                · -- 165 goes on
                  refine e_aload_n dX11_readsAll_168 rfl ?_
                  refine cV0x dX11_readsAll_169 mo_X11_readsGrows ml_X11_336 sh_m rfl (Nat.le_of_ble_eq_true rfl) (by omega) (r_readsGrows (P := P) hG hb hl) ?_
                  rintro r M2 ⟨hW2, hA2, hN2a⟩
                  have hz : rdLine b t (x, P) = rdL b t x P := by unfold rdLine; rw [if_neg (b2i_eq0.mp c80), if_neg (b2i_eq0.mp c97), if_neg (b2i_eq0.mp c114), if_neg (b2i_eq0.mp c131), if_neg (b2i_eq0.mp c148), if_pos (Classical.not_not.mp (fun q => c165 (b2i_f q)))]
                  have hLA : LA Mc M2 t (rdLine b t (x, P)) r := by
                    unfold LA
                    rw [hz, rdL_1, rdL_2]
                    exact ⟨hW2.ya, hA2, fun q => ⟨hP.wg hW2, hN2a q, hro⟩⟩
                  clear hA2 hN2a
                  obtain ⟨hY2, hA2, hN2⟩ := hLA
                  rcases hA2 with ⟨z1, rfl, z2⟩ | ⟨z1, rfl, z2⟩
                  · -- ok at 169
                    dsimp only [Option.toList, List.cons_append, List.nil_append]
                    refine e_goto (tgt := 180) dX11_readsAll_172 (by decide) ?_
                    refine e_istore_n (ls' := [_, _]) dX11_readsAll_180 (by decide) rfl ?_
                    refine e_iload_n dX11_readsAll_181 rfl ?_
                    refine e_if_ne (tgt := 187) dX11_readsAll_182 (by decide) (fun c182 => ?_) (fun c182 => absurd c182 (by decide))
                    refine e_goto (tgt := 66) dX11_readsAll_187 (by decide) ?_
                    obtain ⟨q1, q2, q3⟩ := hN2 z1
                    have hb1 := rdLine_b (b := b) (t := t) (s := x.2) (r := (x, P)) hb hI ⟨Nat.le_refl _, hx2⟩
                    have hb2 := tkS_go z1 hb1.2 hI
                    have hb3 := hb1.1
                    exact ih m (tkS t (rdLine b t (x, P)).1 59) (rdLine b t (x, P)).2 M2 _ z2.2.1 (by omega) (by omega) z2 (hF.trans hY2) q1 q2 q3 hr2
                  · -- no at 169
                    dsimp only [Option.toList, List.cons_append, List.nil_append]
                    refine e_goto (tgt := 180) dX11_readsAll_172 (by decide) ?_
                    refine e_istore_n (ls' := [_, _]) dX11_readsAll_180 (by decide) rfl ?_
                    refine e_iload_n dX11_readsAll_181 rfl ?_
                    refine e_if_ne (tgt := 187) dX11_readsAll_182 (by decide) (fun c182 => absurd c182 (by decide)) (fun c182 => ?_)
                    refine e_iconst (v := 0) dX11_readsAll_185 (by decide) ?_
                    refine e_zret dX11_readsAll_186 rfl (by first | rfl | exact b2i_nar _) ?_
                    have hres : R = (tkS t (rdLine b t (x, P)).1 59, (rdLine b t (x, P)).2) := hr2.trans (rdB_no (fun q => z1 q.1))
                    rw [hres]
                    exact ⟨hF.trans hY2, Or.inr ⟨z1, rfl, z2⟩⟩
              · -- 148 goes on
                refine e_aload_n dX11_readsAll_151 rfl ?_
                refine cV0x dX11_readsAll_152 mo_X11_readsRoof ml_X11_333 sh_m rfl (Nat.le_of_ble_eq_true rfl) (by omega) (r_readsRoof hG hP hro) ?_
                rintro r M2 hh
                have hz : rdLine b t (x, P) = rdR t x P := by unfold rdLine; rw [if_neg (b2i_eq0.mp c80), if_neg (b2i_eq0.mp c97), if_neg (b2i_eq0.mp c114), if_neg (b2i_eq0.mp c131), if_pos (Classical.not_not.mp (fun q => c148 (b2i_f q)))]
                have hLA : LA Mc M2 t (rdLine b t (x, P)) r := LnY.la (e := P.2) hh hl (by rw [hz, rdR_1]) (by rw [hz, rdR_2]) (fun q => ro_roof (adv_b (s := 0) (if_b (fail_b ⟨Nat.zero_le _, hx2⟩) ⟨Nat.zero_le _, hx2⟩)).2 hI q)
                obtain ⟨hY2, hA2, hN2⟩ := hLA
                rcases hA2 with ⟨z1, rfl, z2⟩ | ⟨z1, rfl, z2⟩
                · -- ok at 152
                  dsimp only [Option.toList, List.cons_append, List.nil_append]
                  refine e_goto (tgt := 180) dX11_readsAll_155 (by decide) ?_
                  refine e_istore_n (ls' := [_, _]) dX11_readsAll_180 (by decide) rfl ?_
                  refine e_iload_n dX11_readsAll_181 rfl ?_
                  refine e_if_ne (tgt := 187) dX11_readsAll_182 (by decide) (fun c182 => ?_) (fun c182 => absurd c182 (by decide))
                  refine e_goto (tgt := 66) dX11_readsAll_187 (by decide) ?_
                  obtain ⟨q1, q2, q3⟩ := hN2 z1
                  have hb1 := rdLine_b (b := b) (t := t) (s := x.2) (r := (x, P)) hb hI ⟨Nat.le_refl _, hx2⟩
                  have hb2 := tkS_go z1 hb1.2 hI
                  have hb3 := hb1.1
                  exact ih m (tkS t (rdLine b t (x, P)).1 59) (rdLine b t (x, P)).2 M2 _ z2.2.1 (by omega) (by omega) z2 (hF.trans hY2) q1 q2 q3 hr2
                · -- no at 152
                  dsimp only [Option.toList, List.cons_append, List.nil_append]
                  refine e_goto (tgt := 180) dX11_readsAll_155 (by decide) ?_
                  refine e_istore_n (ls' := [_, _]) dX11_readsAll_180 (by decide) rfl ?_
                  refine e_iload_n dX11_readsAll_181 rfl ?_
                  refine e_if_ne (tgt := 187) dX11_readsAll_182 (by decide) (fun c182 => absurd c182 (by decide)) (fun c182 => ?_)
                  refine e_iconst (v := 0) dX11_readsAll_185 (by decide) ?_
                  refine e_zret dX11_readsAll_186 rfl (by first | rfl | exact b2i_nar _) ?_
                  have hres : R = (tkS t (rdLine b t (x, P)).1 59, (rdLine b t (x, P)).2) := hr2.trans (rdB_no (fun q => z1 q.1))
                  rw [hres]
                  exact ⟨hF.trans hY2, Or.inr ⟨z1, rfl, z2⟩⟩
            · -- 131 goes on
              refine e_aload_n dX11_readsAll_134 rfl ?_
              refine cV0x dX11_readsAll_135 mo_X11_readsFrost ml_X11_330 sh_m rfl (Nat.le_of_ble_eq_true rfl) (by omega) (r_readsFrost hG hP) ?_
              rintro r M2 hh
              have hz : rdLine b t (x, P) = rdF t x P := by unfold rdLine; rw [if_neg (b2i_eq0.mp c80), if_neg (b2i_eq0.mp c97), if_neg (b2i_eq0.mp c114), if_pos (Classical.not_not.mp (fun q => c131 (b2i_f q)))]
              have hLA : LA Mc M2 t (rdLine b t (x, P)) r := LnY.la (e := P.2) hh hl (by rw [hz, rdF_1]) (by rw [hz, rdF_2]) (fun _ => ro_frL 12 _ (ro_addF hro))
              obtain ⟨hY2, hA2, hN2⟩ := hLA
              rcases hA2 with ⟨z1, rfl, z2⟩ | ⟨z1, rfl, z2⟩
              · -- ok at 135
                dsimp only [Option.toList, List.cons_append, List.nil_append]
                refine e_goto (tgt := 180) dX11_readsAll_138 (by decide) ?_
                refine e_istore_n (ls' := [_, _]) dX11_readsAll_180 (by decide) rfl ?_
                refine e_iload_n dX11_readsAll_181 rfl ?_
                refine e_if_ne (tgt := 187) dX11_readsAll_182 (by decide) (fun c182 => ?_) (fun c182 => absurd c182 (by decide))
                refine e_goto (tgt := 66) dX11_readsAll_187 (by decide) ?_
                obtain ⟨q1, q2, q3⟩ := hN2 z1
                have hb1 := rdLine_b (b := b) (t := t) (s := x.2) (r := (x, P)) hb hI ⟨Nat.le_refl _, hx2⟩
                have hb2 := tkS_go z1 hb1.2 hI
                have hb3 := hb1.1
                exact ih m (tkS t (rdLine b t (x, P)).1 59) (rdLine b t (x, P)).2 M2 _ z2.2.1 (by omega) (by omega) z2 (hF.trans hY2) q1 q2 q3 hr2
              · -- no at 135
                dsimp only [Option.toList, List.cons_append, List.nil_append]
                refine e_goto (tgt := 180) dX11_readsAll_138 (by decide) ?_
                refine e_istore_n (ls' := [_, _]) dX11_readsAll_180 (by decide) rfl ?_
                refine e_iload_n dX11_readsAll_181 rfl ?_
                refine e_if_ne (tgt := 187) dX11_readsAll_182 (by decide) (fun c182 => absurd c182 (by decide)) (fun c182 => ?_)
                refine e_iconst (v := 0) dX11_readsAll_185 (by decide) ?_
                refine e_zret dX11_readsAll_186 rfl (by first | rfl | exact b2i_nar _) ?_
                have hres : R = (tkS t (rdLine b t (x, P)).1 59, (rdLine b t (x, P)).2) := hr2.trans (rdB_no (fun q => z1 q.1))
                rw [hres]
                exact ⟨hF.trans hY2, Or.inr ⟨z1, rfl, z2⟩⟩
          · -- 114 goes on
            refine e_aload_n dX11_readsAll_117 rfl ?_
            refine cV0x dX11_readsAll_118 mo_X11_readsStage ml_X11_327 sh_m rfl (Nat.le_of_ble_eq_true rfl) (by omega) (r_readsStage hG hP) ?_
            rintro r M2 hh
            have hz : rdLine b t (x, P) = rdG t x P := by unfold rdLine; rw [if_neg (b2i_eq0.mp c80), if_neg (b2i_eq0.mp c97), if_pos (Classical.not_not.mp (fun q => c114 (b2i_f q)))]
            have hLA : LA Mc M2 t (rdLine b t (x, P)) r := LnY.la (e := P.2) hh hl (by rw [hz, rdG_1]) (by rw [hz, rdG_2]) (fun _ => hro)
            obtain ⟨hY2, hA2, hN2⟩ := hLA
            rcases hA2 with ⟨z1, rfl, z2⟩ | ⟨z1, rfl, z2⟩
            · -- ok at 118
              dsimp only [Option.toList, List.cons_append, List.nil_append]
              refine e_goto (tgt := 180) dX11_readsAll_121 (by decide) ?_
              refine e_istore_n (ls' := [_, _]) dX11_readsAll_180 (by decide) rfl ?_
              refine e_iload_n dX11_readsAll_181 rfl ?_
              refine e_if_ne (tgt := 187) dX11_readsAll_182 (by decide) (fun c182 => ?_) (fun c182 => absurd c182 (by decide))
              refine e_goto (tgt := 66) dX11_readsAll_187 (by decide) ?_
              obtain ⟨q1, q2, q3⟩ := hN2 z1
              have hb1 := rdLine_b (b := b) (t := t) (s := x.2) (r := (x, P)) hb hI ⟨Nat.le_refl _, hx2⟩
              have hb2 := tkS_go z1 hb1.2 hI
              have hb3 := hb1.1
              exact ih m (tkS t (rdLine b t (x, P)).1 59) (rdLine b t (x, P)).2 M2 _ z2.2.1 (by omega) (by omega) z2 (hF.trans hY2) q1 q2 q3 hr2
            · -- no at 118
              dsimp only [Option.toList, List.cons_append, List.nil_append]
              refine e_goto (tgt := 180) dX11_readsAll_121 (by decide) ?_
              refine e_istore_n (ls' := [_, _]) dX11_readsAll_180 (by decide) rfl ?_
              refine e_iload_n dX11_readsAll_181 rfl ?_
              refine e_if_ne (tgt := 187) dX11_readsAll_182 (by decide) (fun c182 => absurd c182 (by decide)) (fun c182 => ?_)
              refine e_iconst (v := 0) dX11_readsAll_185 (by decide) ?_
              refine e_zret dX11_readsAll_186 rfl (by first | rfl | exact b2i_nar _) ?_
              have hres : R = (tkS t (rdLine b t (x, P)).1 59, (rdLine b t (x, P)).2) := hr2.trans (rdB_no (fun q => z1 q.1))
              rw [hres]
              exact ⟨hF.trans hY2, Or.inr ⟨z1, rfl, z2⟩⟩
        · -- 97 goes on
          refine e_aload_n dX11_readsAll_100 rfl ?_
          refine cV0x dX11_readsAll_101 mo_X11_readsNear ml_X11_324 sh_m rfl (Nat.le_of_ble_eq_true rfl) (by omega) (r_readsNear hG hP) ?_
          rintro r M2 hh
          have hz : rdLine b t (x, P) = rdNr t x P := by unfold rdLine; rw [if_neg (b2i_eq0.mp c80), if_pos (Classical.not_not.mp (fun q => c97 (b2i_f q)))]
          have hLA : LA Mc M2 t (rdLine b t (x, P)) r := LnY.la (e := P.2) hh hl (by rw [hz, rdNr_1]) (by rw [hz, rdNr_2]) (fun _ => hro)
          obtain ⟨hY2, hA2, hN2⟩ := hLA
          rcases hA2 with ⟨z1, rfl, z2⟩ | ⟨z1, rfl, z2⟩
          · -- ok at 101
            dsimp only [Option.toList, List.cons_append, List.nil_append]
            refine e_goto (tgt := 180) dX11_readsAll_104 (by decide) ?_
            refine e_istore_n (ls' := [_, _]) dX11_readsAll_180 (by decide) rfl ?_
            refine e_iload_n dX11_readsAll_181 rfl ?_
            refine e_if_ne (tgt := 187) dX11_readsAll_182 (by decide) (fun c182 => ?_) (fun c182 => absurd c182 (by decide))
            refine e_goto (tgt := 66) dX11_readsAll_187 (by decide) ?_
            obtain ⟨q1, q2, q3⟩ := hN2 z1
            have hb1 := rdLine_b (b := b) (t := t) (s := x.2) (r := (x, P)) hb hI ⟨Nat.le_refl _, hx2⟩
            have hb2 := tkS_go z1 hb1.2 hI
            have hb3 := hb1.1
            exact ih m (tkS t (rdLine b t (x, P)).1 59) (rdLine b t (x, P)).2 M2 _ z2.2.1 (by omega) (by omega) z2 (hF.trans hY2) q1 q2 q3 hr2
          · -- no at 101
            dsimp only [Option.toList, List.cons_append, List.nil_append]
            refine e_goto (tgt := 180) dX11_readsAll_104 (by decide) ?_
            refine e_istore_n (ls' := [_, _]) dX11_readsAll_180 (by decide) rfl ?_
            refine e_iload_n dX11_readsAll_181 rfl ?_
            refine e_if_ne (tgt := 187) dX11_readsAll_182 (by decide) (fun c182 => absurd c182 (by decide)) (fun c182 => ?_)
            refine e_iconst (v := 0) dX11_readsAll_185 (by decide) ?_
            refine e_zret dX11_readsAll_186 rfl (by first | rfl | exact b2i_nar _) ?_
            have hres : R = (tkS t (rdLine b t (x, P)).1 59, (rdLine b t (x, P)).2) := hr2.trans (rdB_no (fun q => z1 q.1))
            rw [hres]
            exact ⟨hF.trans hY2, Or.inr ⟨z1, rfl, z2⟩⟩
      · -- 80 goes on
        refine e_aload_n dX11_readsAll_83 rfl ?_
        refine cV0x dX11_readsAll_84 mo_X11_readsShed ml_X11_321 sh_m rfl (Nat.le_of_ble_eq_true rfl) (by omega) (r_readsShed hG hP) ?_
        rintro r M2 hh
        have hz : rdLine b t (x, P) = rdS t x P := by unfold rdLine; rw [if_pos (Classical.not_not.mp (fun q => c80 (b2i_f q)))]
        have hLA : LA Mc M2 t (rdLine b t (x, P)) r := LnY.la (e := P.2) hh hl (by rw [hz, rdS_1]) (by rw [hz, rdS_2]) (fun _ => hro)
        obtain ⟨hY2, hA2, hN2⟩ := hLA
        rcases hA2 with ⟨z1, rfl, z2⟩ | ⟨z1, rfl, z2⟩
        · -- ok at 84
          dsimp only [Option.toList, List.cons_append, List.nil_append]
          refine e_goto (tgt := 180) dX11_readsAll_87 (by decide) ?_
          refine e_istore_n (ls' := [_, _]) dX11_readsAll_180 (by decide) rfl ?_
          refine e_iload_n dX11_readsAll_181 rfl ?_
          refine e_if_ne (tgt := 187) dX11_readsAll_182 (by decide) (fun c182 => ?_) (fun c182 => absurd c182 (by decide))
          refine e_goto (tgt := 66) dX11_readsAll_187 (by decide) ?_
          obtain ⟨q1, q2, q3⟩ := hN2 z1
          have hb1 := rdLine_b (b := b) (t := t) (s := x.2) (r := (x, P)) hb hI ⟨Nat.le_refl _, hx2⟩
          have hb2 := tkS_go z1 hb1.2 hI
          have hb3 := hb1.1
          exact ih m (tkS t (rdLine b t (x, P)).1 59) (rdLine b t (x, P)).2 M2 _ z2.2.1 (by omega) (by omega) z2 (hF.trans hY2) q1 q2 q3 hr2
        · -- no at 84
          dsimp only [Option.toList, List.cons_append, List.nil_append]
          refine e_goto (tgt := 180) dX11_readsAll_87 (by decide) ?_
          refine e_istore_n (ls' := [_, _]) dX11_readsAll_180 (by decide) rfl ?_
          refine e_iload_n dX11_readsAll_181 rfl ?_
          refine e_if_ne (tgt := 187) dX11_readsAll_182 (by decide) (fun c182 => absurd c182 (by decide)) (fun c182 => ?_)
          refine e_iconst (v := 0) dX11_readsAll_185 (by decide) ?_
          refine e_zret dX11_readsAll_186 rfl (by first | rfl | exact b2i_nar _) ?_
          have hres : R = (tkS t (rdLine b t (x, P)).1 59, (rdLine b t (x, P)).2) := hr2.trans (rdB_no (fun q => z1 q.1))
          rw [hres]
          exact ⟨hF.trans hY2, Or.inr ⟨z1, rfl, z2⟩⟩
end RAL
