section RYD
theorem TR0.s {M : Mm} {t : Tv} {c k : Nat} {v : Int32} (h : TR0 M t) (hc : ¬ (c = 238 ∧ k = 1) ∧ ¬ c = 239) : TR0 (setI M c k v) t := ⟨by rw [setI_1, if_neg (fun q => hc.1 ⟨q.1.symm, q.2.symm⟩)]; exact h.1, h.2.1, fun z hz => by rw [setI_n (fun q => hc.2 q.symm)]; exact h.2.2 z hz⟩
/-- frame of a whole reading -/
def YB (M M' : Mm) : Prop := M'.2.2 = M.2.2 ∧ (∀ c k, ¬ c = 238 → ¬ okL c k → M'.2.1 c k = M.2.1 c k) ∧ (∀ c k, ¬ c = 238 → ¬ okY c k → ¬ okW c k → M'.1 c k = M.1 c k) ∧ M'.1 238 54 = M.1 238 54
theorem YB.rfl' {M : Mm} : YB M M := ⟨rfl, fun _ _ _ _ => rfl, fun _ _ _ _ _ => rfl, rfl⟩
theorem YB.trans {A B C : Mm} (h : YB A B) (k : YB B C) : YB A C := ⟨k.1.trans h.1, fun c q a b => (k.2.1 c q a b).trans (h.2.1 c q a b), fun c q a b d => (k.2.2.1 c q a b d).trans (h.2.2.1 c q a b d), k.2.2.2.trans h.2.2.2⟩
theorem YA.yb {A B : Mm} (h : YA A B) : YB A B := ⟨h.1, h.2.1, h.2.2.1, h.2.2.2 54 (by omega)⟩
theorem BGF.yb {A B : Mm} (h : BGF A B) : YB A B := ⟨h.2.2.1, fun c k a _ => by rw [h.2.1 c a], fun c k a _ _ => by rw [h.1 c a], h.2.2.2 54 (by omega)⟩
theorem YB.s {A B : Mm} (h : YB A B) {c k : Nat} {v : Int32} (hc : okY c k ∨ okW c k) : YB A (setI B c k v) := ⟨h.1, h.2.1, fun d z a b e => by rw [setI_1, if_neg (fun x => by rw [x.1, x.2] at b e; exact hc.elim b e)]; exact h.2.2.1 d z a b e, by rw [setI_n (by unfold okY okW at hc; omega)]; exact h.2.2.2⟩
theorem YB.f {A B : Mm} (h : YB A B) {k : Nat} {v : Int32} (hk : ¬ k = 54) : YB A (setI B 238 k v) := ⟨h.1, h.2.1, fun d z a b e => by rw [setI_n a]; exact h.2.2.1 d z a b e, by rw [setI_1, if_neg (fun x => hk x.2.symm)]; exact h.2.2.2⟩
set_option maxHeartbeats 500000 in
set_option maxRecDepth 20000 in
theorem y_st {G : Gt} {M : Mm} {Q : Option Value → Mm → Prop} {i : Nat} (hi : i < 3) (k : Ev G 6 mX11_readsAll 2 [.ref 238, .int (nI (i + 1))] [] (setI M 240 (4 + i) 0) Q) : Ev G 6 mX11_readsAll 2 [.ref 238, .int (nI i)] [] M (Q) := by
  refine e_iload_n dX11_readsAll_2 rfl ?_
  refine e_iconst (v := 4) dX11_readsAll_3 (by decide) ?_
  refine e_icmp_ge (tgt := 32) dX11_readsAll_4 (by decide) (fun c4 => absurd c4 (fun q => by have := ge_of (i := i) (n := 4) (by omega) (by omega) q; omega)) (fun c4 => ?_)
  refine e_aload_n dX11_readsAll_7 rfl ?_
  refine e_getR dX11_readsAll_8 fl_X11_13 sh_m rfl ?_
  refine e_iconst (v := 4) dX11_readsAll_11 (by decide) ?_
  refine e_iload_n dX11_readsAll_12 rfl ?_
  refine e_iaddN (a := 4) (b := i) dX11_readsAll_13 ?_
  refine e_iload_n dX11_readsAll_14 rfl ?_
  refine e_iconst (v := 3) dX11_readsAll_15 (by decide) ?_
  refine e_icmp_ne (tgt := 24) dX11_readsAll_16 (by decide) (fun c16 => ?_) (fun c16 => absurd c16 (fun q => by have := nI_injN (a := i) (b := 3) (by omega) (by omega) q; omega))
  refine e_iconst (v := 0) dX11_readsAll_24 (by decide) ?_
  refine e_iastN (j := (4 + i)) dX11_readsAll_25 (sa_m_yard) (by decide) (by omega) ?_
  refine e_iinc (ls' := [_, _]) dX11_readsAll_26 rfl (nI_i1 _) (by decide) rfl ?_
  refine e_goto (tgt := 2) dX11_readsAll_29 (by decide) ?_
  exact k
set_option maxHeartbeats 500000 in
set_option maxRecDepth 20000 in
theorem y_la {G : Gt} {M : Mm} {Q : Option Value → Mm → Prop} (k : Ev G 6 mX11_readsAll 2 [.ref 238, .int (nI (3 + 1))] [] (setI M 240 (4 + 3) 30) Q) : Ev G 6 mX11_readsAll 2 [.ref 238, .int (nI 3)] [] M (Q) := by
  refine e_iload_n dX11_readsAll_2 rfl ?_
  refine e_iconst (v := 4) dX11_readsAll_3 (by decide) ?_
  refine e_icmp_ge (tgt := 32) dX11_readsAll_4 (by decide) (fun c4 => absurd c4 (fun q => by have := ge_of (i := 3) (n := 4) (by omega) (by omega) q; omega)) (fun c4 => ?_)
  refine e_aload_n dX11_readsAll_7 rfl ?_
  refine e_getR dX11_readsAll_8 fl_X11_13 sh_m rfl ?_
  refine e_iconst (v := 4) dX11_readsAll_11 (by decide) ?_
  refine e_iload_n dX11_readsAll_12 rfl ?_
  refine e_iaddN (a := 4) (b := 3) dX11_readsAll_13 ?_
  refine e_iload_n dX11_readsAll_14 rfl ?_
  refine e_iconst (v := 3) dX11_readsAll_15 (by decide) ?_
  refine e_icmp_ne (tgt := 24) dX11_readsAll_16 (by decide) (fun c16 => absurd c16 (fun q => q rfl)) (fun c16 => ?_)
  refine e_bipush (v := 30) dX11_readsAll_19 (by decide) ?_
  refine e_goto (tgt := 25) dX11_readsAll_21 (by decide) ?_
  refine e_iastN (j := (4 + 3)) dX11_readsAll_25 (sa_m_yard) (by decide) (by omega) ?_
  refine e_iinc (ls' := [_, _]) dX11_readsAll_26 rfl (nI_i1 _) (by decide) rfl ?_
  refine e_goto (tgt := 2) dX11_readsAll_29 (by decide) ?_
  exact k
set_option maxHeartbeats 500000 in
set_option maxRecDepth 20000 in
theorem y_en {G : Gt} {M : Mm} {Q : Option Value → Mm → Prop} {t : Tv} (hT : TR0 M t) (hI : TI t) (k : ∀ M2, BGF (setI (setI (setI (setI M 238 24 0) 250 1 1000) 251 1 1000) 238 23 1000) M2 → GX M2 t (0, 0) → M2.1 238 1 = 0 → Ev G 6 mX11_readsAll 66 [.ref 238, .int (nI 4)] [] M2 Q) : Ev G 6 mX11_readsAll 2 [.ref 238, .int (nI 4)] [] M (Q) := by
  refine e_iload_n dX11_readsAll_2 rfl ?_
  refine e_iconst (v := 4) dX11_readsAll_3 (by decide) ?_
  refine e_icmp_ge (tgt := 32) dX11_readsAll_4 (by decide) (fun c4 => ?_) (fun c4 => absurd c4 (fun q => by have := lt_of (i := 4) (n := 4) (by omega) (by omega) q; omega))
  refine e_aload_n dX11_readsAll_32 rfl ?_
  refine e_iconst (v := 0) dX11_readsAll_33 (by decide) ?_
  refine e_putI dX11_readsAll_34 fl_X11_311 sh_m rfl (by first | rfl | exact b2i_nar _ | assumption) rfl ?_
  refine e_aload_n dX11_readsAll_37 rfl ?_
  refine e_getR dX11_readsAll_38 fl_X11_44 sh_m rfl ?_
  refine e_iconst (v := 1) dX11_readsAll_41 (by decide) ?_
  refine e_sipush (v := 1000) dX11_readsAll_42 (by decide) ?_
  refine e_iastN (j := 1) dX11_readsAll_45 (sa_m_lineFrom) (by decide) (by omega) ?_
  refine e_aload_n dX11_readsAll_46 rfl ?_
  refine e_getR dX11_readsAll_47 fl_X11_47 sh_m rfl ?_
  refine e_iconst (v := 1) dX11_readsAll_50 (by decide) ?_
  refine e_sipush (v := 1000) dX11_readsAll_51 (by decide) ?_
  refine e_iastN (j := 1) dX11_readsAll_54 (sa_m_lineTo) (by decide) (by omega) ?_
  refine e_aload_n dX11_readsAll_55 rfl ?_
  refine e_sipush (v := 1000) dX11_readsAll_56 (by decide) ?_
  refine e_putI dX11_readsAll_59 fl_X11_192 sh_m rfl rfl rfl ?_
  refine e_aload_n dX11_readsAll_62 rfl ?_
  refine cV0x dX11_readsAll_63 mo_X11_begins ml_X11_318 sh_m rfl (Nat.le_of_ble_eq_true rfl) (by omega) (r_begins ((((hT.s (by omega)).s (by omega)).s (by omega)).s (by omega)) hI) ?_
  rintro r M2 ⟨rfl, hB, hG, h1⟩
  dsimp only [Option.toList, List.cons_append, List.nil_append]
  exact k M2 hB hG h1
/-- the first halves of nothing told -/
theorem rp_em {M M2 : Mm} {v0 v1 v2 : Int32} (h0 : v0 = 0) (h1 : v1 = 0) (h2 : v2 = 0) (h : BGF (setI (setI (setI (setI (setI (setI (setI (setI M 240 (4 + 0) v0) 240 (4 + 1) v1) 240 (4 + 2) v2) 240 (4 + 3) 30) 238 24 0) 250 1 1000) 251 1 1000) 238 23 1000) M2) : RPy M2 emY ∧ RPl M2 exO := by
  subst h0 h1 h2
  refine ⟨⟨⟨?_, by decide⟩, ⟨?_, by decide⟩, ⟨?_, by decide⟩, ⟨?_, ?_⟩, fun j hj => absurd hj (Nat.not_lt_zero j), fun j hj => absurd hj (Nat.not_lt_zero j), fun j hj => absurd hj (Nat.not_lt_zero j)⟩, ?_, ?_, ?_, trivial, by decide, Or.inl ⟨rfl, rfl⟩⟩
  · rw [h.1 240 (by decide)]; simp [setI_1]; rfl
  · rw [h.1 240 (by decide)]; simp [setI_1]; rfl
  · rw [h.1 240 (by decide)]; simp [setI_1]; rfl
  · rw [h.1 240 (by decide)]; simp [setI_1]; exact fun q => absurd rfl q
  · rw [h.2.2.2 24 (by omega)]; simp [setI_1]; rfl
  · rw [h.1 250 (by decide)]; simp [setI_1]; rfl
  · rw [h.1 251 (by decide)]; simp [setI_1]; rfl
  · rw [h.2.2.2 23 (by omega)]; simp [setI_1]; rfl
set_option maxHeartbeats 500000 in
set_option maxRecDepth 20000 in
theorem r_readsAll {G : Gt} {M : Mm} {t : Tv} {b : Nat} (hb : 35 ≤ b) (hT : TR0 M t) (hI : TI t) : Call G 6 mX11_readsAll [.ref 238] M (fun r M' => YB M M' ∧ M'.1 238 1 = 0 ∧ (((rdY b t).1.1 = 0 ∧ r = some (.int 1) ∧ GX M' t (rdY b t).1 ∧ RPy M' (rdY b t).2.1 ∧ RPl M' (rdY b t).2.2) ∨ (¬ (rdY b t).1.1 = 0 ∧ r = some (.int 0) ∧ M'.1 238 9 = (rdY b t).1.1))) := by
  refine Call.intro rfl (Nat.le_of_ble_eq_true rfl) ?_
  show Ev G _ mX11_readsAll 0 [.ref 238, RA] [] M _
  refine e_iconst (v := 0) dX11_readsAll_0 (by decide) ?_
  refine e_istore_n (ls' := [_, _]) dX11_readsAll_1 (by decide) rfl ?_
  refine y_st (i := 0) (by decide) (y_st (i := 1) (by decide) (y_st (i := 2) (by decide) (y_la (y_en (t := t) ((((hT.s (by omega)).s (by omega)).s (by omega)).s (by omega)) hI (fun M2 hB hG h1 => ?_)))))
  obtain ⟨q1, q2⟩ := rp_em rfl rfl rfl hB
  have ht := hG.2.2.2.1.2.1
  refine (l_rall (b := b) (R := rdY b t) (M := M2) hb (t.1 + 1) 1000 (0, 0) (emY, exO) M2 _ (Nat.zero_le _) (by show t.1 < 0 + (t.1 + 1); omega) (by show t.1 ≤ 1000 + 0; omega) hG YA.rfl' q1 q2 (fun q => absurd rfl q) (by unfold rdY; rfl)).weaken (fun r M3 h => ⟨?_, (h.1.2.2.2 1 (by omega)).trans h1, h.2⟩)
  exact ((((((((YB.rfl'.s (Or.inl (by unfold okY; omega))).s (Or.inl (by unfold okY; omega))).s (Or.inl (by unfold okY; omega))).s (Or.inl (by unfold okY; omega))).f (by decide)).s (Or.inr (by unfold okW; omega))).s (Or.inr (by unfold okW; omega))).f (by decide)).trans (hB.yb.trans h.1.yb)
end RYD
