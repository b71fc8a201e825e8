section RRD
/-- which fact stands there -/
def fcX (t : Tv) (x : Xv) : Int32 := if isW t x 21 then 1 else if isW t x 22 then 2 else if isW t x 23 then 3 else if isW t x 24 then 4 else 0
theorem isW_q {M : Mm} {t : Tv} {x : Xv} {k : Nat} (hG : GX M t x) (hk : 1 ≤ k ∧ k < 25) (h1 : kdX t x = 2) : isW t x k ↔ wdX t x = wLet.getD k 0 := ⟨fun q => (wI_iff hk).mp q.2.2, fun q => ⟨hG.1, h1, (wI_iff hk).mpr q⟩⟩
/-- frame of a law's reading -/
def RF (M M' : Mm) : Prop := M'.2.2 = M.2.2 ∧ (∀ c, ¬ c = 238 → M'.2.1 c = M.2.1 c) ∧ (∀ c k, ¬ c = 238 → ¬ (c = 253 ∨ c = 254 ∨ (c = 252 ∧ 1000 ≤ k)) → M'.1 c k = M.1 c k) ∧ ∀ k, k = 1 ∨ k = 3 ∨ k = 24 ∨ k = 54 → M'.1 238 k = M.1 238 k
theorem RF.rfl' {M : Mm} : RF M M := ⟨rfl, fun _ _ => rfl, fun _ _ _ _ => rfl, fun _ _ => rfl⟩
theorem RF.trans {A B C : Mm} (h : RF A B) (k : RF B C) : RF A C := ⟨k.1.trans h.1, fun c q => (k.2.1 c q).trans (h.2.1 c q), fun c q a b => (k.2.2.1 c q a b).trans (h.2.2.1 c q a b), fun q a => (k.2.2.2 q a).trans (h.2.2.2 q a)⟩
theorem OF.rf {A B : Mm} (h : OF A B) : RF A B := ⟨h.2.2.1, fun c a => h.2.1 c a, fun c k a _ => by rw [h.1 c a], fun k q => h.2.2.2 k (by omega)⟩
theorem RF.s {A B : Mm} (h : RF A B) {c k : Nat} {v : Int32} (hc : c = 253 ∨ c = 254 ∨ (c = 252 ∧ 1000 ≤ k)) : RF A (setI B c k v) := ⟨h.1, h.2.1, fun d z a b => by rw [setI_1, if_neg (fun x => b (by rw [x.1, x.2]; exact hc))]; exact h.2.2.1 d z a b, fun z a => by rw [setI_n (by omega)]; exact h.2.2.2 z a⟩
theorem RF.s23 {A B : Mm} (h : RF A B) {v : Int32} : RF A (setI B 238 23 v) := ⟨h.1, h.2.1, fun d z a b => by rw [setI_n a]; exact h.2.2.1 d z a b, fun z a => by rw [setI_1, if_neg (by omega)]; exact h.2.2.2 z a⟩
theorem GX.f23 {M : Mm} {t : Tv} {x : Xv} {v : Int32} (h : GX M t x) : GX (setI M 238 23 v) t x := by
  obtain ⟨a, b, e, ⟨z1, z2, z3⟩, e1, e2, e3, e4, e5⟩ := h
  exact ⟨a, b, e, ⟨by rw [setI_1, if_neg (by omega)]; exact z1, z2, fun k hk => by rw [setI_n (by decide)]; exact z3 k hk⟩, by rw [setI_1, if_neg (by omega)]; exact e1, by rw [setI_1, if_neg (by omega)]; exact e2, by rw [setI_1, if_neg (by omega)]; exact e3, e4, fun q => by rw [setI_1, if_neg (by omega)]; exact e5 q⟩
/-- a law half read: its codes stand in the second half -/
def SB (M0 M : Mm) (t : Tv) (x : Xv) (L : List Int32) : Prop := RF M0 M ∧ GX M t x ∧ M.1 238 23 = nI (1000 + L.length) ∧ sgm (M.1 252) 1000 L
def ST (M0 M : Mm) (t : Tv) (x : Xv) (L : List Int32) : Prop := SB M0 M t x L ∧ L.length ≤ x.2
def SP (M0 M : Mm) (t : Tv) (x : Xv) (L : List Int32) : Prop := SB M0 M t x L ∧ L.length ≤ (advX t x).2
theorem sgm_congr {a b : Nat → Int32} : ∀ (L : List Int32) (p : Nat), (∀ k, p ≤ k → k < p + L.length → b k = a k) → sgm a p L → sgm b p L := by
  intro L
  induction L with
  | nil => intro p _ _; trivial
  | cons c cs ih =>
    intro p h hs
    exact ⟨(h p (Nat.le_refl _) (by rw [List.length_cons]; omega)).trans hs.1, ih (p + 1) (fun k h1 h2 => h k (by omega) (by rw [List.length_cons]; omega)) hs.2⟩
theorem sgm_snoc {a : Nat → Int32} {c : Int32} : ∀ (L : List Int32) (p : Nat), sgm a p L → a (p + L.length) = c → sgm a p (L ++ [c]) := by
  intro L
  induction L with
  | nil => intro p _ h; exact ⟨h, trivial⟩
  | cons d ds ih => intro p hs h; exact ⟨hs.1, ih (p + 1) hs.2 (by rw [← h, List.length_cons]; congr 1; omega)⟩
section
variable {M0 M M' : Mm} {t : Tv} {x : Xv} {L : List Int32}
theorem ST.lt (h : ST M0 M t x L) (hk : ¬ kdX t x = 0) : L.length + 1 ≤ (advX t x).2 ∧ L.length < 1000 := by
  have h1 := adv_lt h.1.2.1.2.1 h.1.2.1.1 hk
  have h2 := (adv_le (t := t) h.1.2.1.2.1).2
  have h3 := h.1.2.1.2.2.2.1.2.1
  have h4 := h.2
  constructor <;> omega
theorem ST.put {c : Int32} (h : ST M0 M t x L) (hk : ¬ kdX t x = 0) : SP M0 (setI (setI M 252 (1000 + L.length) c) 238 23 (nI (1000 + L.length + 1))) t x (L ++ [c]) := by
  have h1 := h.lt hk
  obtain ⟨⟨a, b, e, g⟩, -⟩ := h
  have h2 : (L ++ [c]).length = L.length + 1 := by simp
  refine ⟨⟨(a.s (by omega)).s23, (b.s (by omega)).f23, by rw [setI_p, h2]; rfl, ?_⟩, by rw [h2]; exact h1.1⟩
  refine sgm_congr (a := (setI M 252 (1000 + L.length) c).1 252) (L ++ [c]) 1000 (fun k _ _ => by rw [setI_n (by decide)]) ?_
  exact sgm_snoc L 1000 (sgm_congr L 1000 (fun k _ q => by rw [setI_1, if_neg (by omega)]) g) (by rw [setI_p])
theorem SP.s {c k : Nat} {v : Int32} (h : SP M0 M t x L) (hc : c = 253 ∨ c = 254) : SP M0 (setI M c k v) t x L := by
  obtain ⟨⟨a, b, e, g⟩, q⟩ := h
  exact ⟨⟨a.s (by omega), b.s (by omega), by rw [setI_n (by omega)]; exact e, sgm_congr L 1000 (fun k _ _ => by rw [setI_n (by omega)]) g⟩, q⟩
theorem SP.next (h : SP M0 M t x L) (hN : NF M M') (hG : GX M' t (advX t x)) : ST M0 M' t (advX t x) L := by
  obtain ⟨⟨a, b, e, g⟩, q⟩ := h
  exact ⟨⟨a.trans hN.of.rf, hG, (hN.of.2.2.2 23 (by omega)).trans e, by rw [hN.1 252 (by decide)]; exact g⟩, q⟩
end
set_option maxHeartbeats 500000 in
set_option maxRecDepth 20000 in
theorem r_fact {G : Gt} {M : Mm} {t : Tv} {x : Xv} (hG : GX M t x) : Call G 1 mX11_fact [.ref 238] M (eqQ (some (.int (fcX t x))) M) := by
  obtain ⟨hx0, hx2, hI, hZ, g4, g5, g6, g7, g8⟩ := id hG
  refine Call.intro rfl (Nat.le_of_ble_eq_true rfl) ?_
  show Ev G _ mX11_fact 0 [.ref 238] [] M _
  refine e_aload_n dX11_fact_0 rfl ?_
  refine e_getI dX11_fact_1 fl_X11_178 sh_m rfl ?_
  rw [g6]
  refine e_iconst (v := 1) dX11_fact_4 (by decide) ?_
  refine e_icmp_eq (tgt := 10) dX11_fact_5 (by decide) (fun c5 => ?_) (fun c5 => ?_)
  · -- 5 jumps
    refine e_aload_n dX11_fact_10 rfl ?_
    refine e_getL dX11_fact_11 fl_X11_171 sh_m rfl ?_
    rw [g7 (kR_1.mp c5)]
    refine e_ldc2 dX11_fact_14 kl_X11_195 ?_
    refine e_lcmp dX11_fact_17 ?_
    refine e_if_ne (tgt := 23) dX11_fact_18 (by decide) (fun c18 => ?_) (fun c18 => ?_)
    · -- 18 jumps
      refine e_aload_n dX11_fact_23 rfl ?_
      refine e_getL dX11_fact_24 fl_X11_171 sh_m rfl ?_
      rw [g7 (kR_1.mp c5)]
      refine e_ldc2 dX11_fact_27 kl_X11_197 ?_
      refine e_lcmp dX11_fact_30 ?_
      refine e_if_ne (tgt := 36) dX11_fact_31 (by decide) (fun c31 => ?_) (fun c31 => ?_)
      · -- 31 jumps
        refine e_aload_n dX11_fact_36 rfl ?_
        refine e_getL dX11_fact_37 fl_X11_171 sh_m rfl ?_
        rw [g7 (kR_1.mp c5)]
        refine e_ldc2 dX11_fact_40 kl_X11_199 ?_
        refine e_lcmp dX11_fact_43 ?_
        refine e_if_ne (tgt := 51) dX11_fact_44 (by decide) (fun c44 => ?_) (fun c44 => ?_)
        · -- 44 jumps
          refine e_aload_n dX11_fact_51 rfl ?_
          refine e_getL dX11_fact_52 fl_X11_171 sh_m rfl ?_
          rw [g7 (kR_1.mp c5)]
          refine e_ldc2 dX11_fact_55 kl_X11_201 ?_
          refine e_lcmp dX11_fact_58 ?_
          refine e_if_ne (tgt := 66) dX11_fact_59 (by decide) (fun c59 => ?_) (fun c59 => ?_)
          · -- 59 jumps
            refine e_iconst (v := 0) dX11_fact_66 (by decide) ?_
            refine e_iret dX11_fact_67 rfl ?_
            have hk2 : kdX t x = 2 := kR_1.mp c5
            have e : fcX t x = 0 := by unfold fcX; rw [if_neg (fun q => c18 (cmp0.mpr ((isW_q (k := 21) hG (by decide) hk2).mp q))), if_neg (fun q => c31 (cmp0.mpr ((isW_q (k := 22) hG (by decide) hk2).mp q))), if_neg (fun q => c44 (cmp0.mpr ((isW_q (k := 23) hG (by decide) hk2).mp q))), if_neg (fun q => c59 (cmp0.mpr ((isW_q (k := 24) hG (by decide) hk2).mp q)))]
            rw [e]; exact ⟨rfl, rfl⟩
          · -- 59 goes on
            refine e_iconst (v := 4) dX11_fact_62 (by decide) ?_
            refine e_goto (tgt := 67) dX11_fact_63 (by decide) ?_
            refine e_iret dX11_fact_67 rfl ?_
            have hk2 : kdX t x = 2 := kR_1.mp c5
            have e : fcX t x = 4 := by unfold fcX; rw [if_neg (fun q => c18 (cmp0.mpr ((isW_q (k := 21) hG (by decide) hk2).mp q))), if_neg (fun q => c31 (cmp0.mpr ((isW_q (k := 22) hG (by decide) hk2).mp q))), if_neg (fun q => c44 (cmp0.mpr ((isW_q (k := 23) hG (by decide) hk2).mp q))), if_pos ((isW_q (k := 24) hG (by decide) hk2).mpr (cmp0.mp c59))]
            rw [e]; exact ⟨rfl, rfl⟩
        · -- 44 goes on
          refine e_iconst (v := 3) dX11_fact_47 (by decide) ?_
          refine e_goto (tgt := 67) dX11_fact_48 (by decide) ?_
          refine e_iret dX11_fact_67 rfl ?_
          have hk2 : kdX t x = 2 := kR_1.mp c5
          have e : fcX t x = 3 := by unfold fcX; rw [if_neg (fun q => c18 (cmp0.mpr ((isW_q (k := 21) hG (by decide) hk2).mp q))), if_neg (fun q => c31 (cmp0.mpr ((isW_q (k := 22) hG (by decide) hk2).mp q))), if_pos ((isW_q (k := 23) hG (by decide) hk2).mpr (cmp0.mp c44))]
          rw [e]; exact ⟨rfl, rfl⟩
      · -- 31 goes on
        refine e_iconst (v := 2) dX11_fact_34 (by decide) ?_
        refine e_iret dX11_fact_35 rfl ?_
        have hk2 : kdX t x = 2 := kR_1.mp c5
        have e : fcX t x = 2 := by unfold fcX; rw [if_neg (fun q => c18 (cmp0.mpr ((isW_q (k := 21) hG (by decide) hk2).mp q))), if_pos ((isW_q (k := 22) hG (by decide) hk2).mpr (cmp0.mp c31))]
        rw [e]; exact ⟨rfl, rfl⟩
    · -- 18 goes on
      refine e_iconst (v := 1) dX11_fact_21 (by decide) ?_
      refine e_iret dX11_fact_22 rfl ?_
      have hk2 : kdX t x = 2 := kR_1.mp c5
      have e : fcX t x = 1 := by unfold fcX; rw [if_pos ((isW_q (k := 21) hG (by decide) hk2).mpr (cmp0.mp c18))]
      rw [e]; exact ⟨rfl, rfl⟩
  · -- 5 goes on
    refine e_iconst (v := 0) dX11_fact_8 (by decide) ?_
    refine e_iret dX11_fact_9 rfl ?_
    have e : fcX t x = 0 := by unfold fcX; rw [if_neg (fun q => c5 (kR_1.mpr q.2.1)), if_neg (fun q => c5 (kR_1.mpr q.2.1)), if_neg (fun q => c5 (kR_1.mpr q.2.1)), if_neg (fun q => c5 (kR_1.mpr q.2.1))]
    rw [e]; exact ⟨rfl, rfl⟩
set_option maxHeartbeats 500000 in
set_option maxRecDepth 20000 in
theorem r_puts {G : Gt} {M : Mm} {n : Nat} {c : Int32} (hc : M.1 238 23 = nI n) (hn : n < 2000) : Call G 1 mX11_puts [.ref 238, .int c] M (eqQ none (setI (setI M 252 n c) 238 23 (nI (n + 1)))) := by
  refine Call.intro rfl (Nat.le_of_ble_eq_true rfl) ?_
  show Ev G _ mX11_puts 0 [.ref 238, .int c] [] M _
  refine e_aload_n dX11_puts_0 rfl ?_
  refine e_getR dX11_puts_1 fl_X11_50 sh_m rfl ?_
  refine e_aload_n dX11_puts_4 rfl ?_
  refine e_getI dX11_puts_5 fl_X11_192 sh_m rfl ?_
  rw [hc]
  refine e_iload_n dX11_puts_8 rfl ?_
  refine e_iastN (j := n) dX11_puts_9 (sa_m_codes) (by decide) (by omega) ?_
  refine e_aload_n dX11_puts_10 rfl ?_
  refine e_dup dX11_puts_11 rfl ?_
  refine e_getI dX11_puts_12 fl_X11_192 sh_m rfl ?_
  rw [setI_n (by decide), hc]
  refine e_iconst (v := 1) dX11_puts_15 (by decide) ?_
  refine e_iaddN (a := n) (b := 1) dX11_puts_16 ?_
  refine e_putI dX11_puts_17 fl_X11_192 sh_m rfl rfl rfl ?_
  refine e_vret dX11_puts_20 rfl ?_
  exact ⟨rfl, rfl⟩
end RRD
