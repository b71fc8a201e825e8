section RBL
theorem TB.o3 {x n : Nat} {M Mc M1 : Mm} {S S1 : Sv} (hx : tx x) (h : TB x M Mc n S) (hO : O3 Mc M1) (hR : RW M1 273 0 n S1) : TB x M M1 n S1 := h.pf hx hO.pf hR
/-- the sheds of a set have crowns, as far as k -/
def okP (S : Sv) (x : Int32) (j : Nat) : Bool := !(decide (bitI x (nI j)) && decide (S.crow j = 0))
theorem crow0 {Y : Yv} {S : Sv} {T j : Nat} (hI : SI Y S T) (hj : j < Y.n) : ¬ 0 < S.crow j ↔ S.crow j = 0 := by
  obtain ⟨r0, -, -, hs0, -⟩ := id hI
  obtain ⟨c, q, hc, hc2, -⟩ := hs0 j hj
  rw [hc]
  constructor
  · intro h
    rw [show c = 0 from Nat.eq_zero_of_not_pos (fun z => h ((nI_ltI (a := 0) (by omega) (by omega)).mpr z))]; rfl
  · intro h
    rw [h]; decide
set_option maxHeartbeats 4000000 in
set_option maxRecDepth 20000 in
theorem s_bl59 {G : Gt} {M : Mm} {Y : Yv} {s st h : Nat} {Q : Option Value → Mm → Prop} {f0 m : Int32} (hY : RY M Y) (hh : h ≤ 6) (hK : ∀ u, Ev G 3 mX11_blend 124 [.ref 238, .int (nI st), .int f0, .int (nI s), .int m, .int 0, u] [] M Q) : Ev G 3 mX11_blend 59 [.ref 238, .int (nI st), .int f0, .int (nI s), .int m, .int 0, .int (nI h)] [] M (Q) := by
  refine e_iload dX11_blend_59 rfl ?_
  refine e_aload_n dX11_blend_61 rfl ?_
  refine e_getR dX11_blend_62 fl_X11_13 sh_m rfl ?_
  refine e_iconst (v := 0) dX11_blend_65 (by decide) ?_
  refine e_ialdN (j := 0) dX11_blend_66 (sa_m_yard) (by decide) (by omega) ?_
  rw [hY.1.1]
  refine e_icmp_ge (tgt := 124) dX11_blend_67 (by decide) (fun c67 => ?_) (fun c67 => ?_)
  · -- 67 jumps
    exact hK _
  · -- 67 goes on
    refine e_iload dX11_blend_70 rfl ?_
    refine e_if_eq (tgt := 124) dX11_blend_72 (by decide) (fun c72 => ?_) (fun c72 => absurd c72 (by decide))
    exact hK _
set_option maxHeartbeats 4000000 in
set_option maxRecDepth 20000 in
theorem l_bl2 {G : Gt} {M : Mm} {E : Gs} {T s st : Nat} {Q : Option Value → Mm → Prop} {f0 : Int32} (hY : RY M E.Y) (hS : RW M 273 0 E.Y.n E.S) (hI : SI E.Y E.S T) (hs : s < 64) (hT : (∀ j, j < E.Y.n → okP E.S (nI s) j = true) → ∀ u, Ev G 3 mX11_blend 124 [.ref 238, .int (nI st), .int f0, .int (nI s), .int (sumB (fun j => decide (bitI (nI s) (nI j))) (murS E.S) E.Y.n), .int 1, u] [] M Q) (hF : ∀ j, j < E.Y.n → okP E.S (nI s) j = false → ∀ m u, Ev G 3 mX11_blend 124 [.ref 238, .int (nI st), .int f0, .int (nI s), .int m, .int 0, u] [] M Q) : ∀ (k : Nat) (h : Nat), (h ≤ E.Y.n) → (E.Y.n < h + k) → (∀ j, j < h → okP E.S (nI s) j = true) → Ev G 3 mX11_blend 59 [.ref 238, .int (nI st), .int f0, .int (nI s), .int (sumB (fun j => decide (bitI (nI s) (nI j))) (murS E.S) h), .int 1, .int (nI h)] [] M (Q) := by
  intro k
  induction k with
  | zero => intro h ho hk hv; exact absurd hk (by omega)
  | succ k ih =>
    intro h ho hk hv
    have h6 := hY.1.2
    refine e_iload dX11_blend_59 rfl ?_
    refine e_aload_n dX11_blend_61 rfl ?_
    refine e_getR dX11_blend_62 fl_X11_13 sh_m rfl ?_
    refine e_iconst (v := 0) dX11_blend_65 (by decide) ?_
    refine e_ialdN (j := 0) dX11_blend_66 (sa_m_yard) (by decide) (by omega) ?_
    rw [hY.1.1]
    refine e_icmp_ge (tgt := 124) dX11_blend_67 (by decide) (fun c67 => ?_) (fun c67 => ?_)
    · -- 67 jumps
      have hin : h = E.Y.n := by have := ge_of (i := h) (n := E.Y.n) (by omega) (by omega) c67; omega
      subst hin
      exact hT hv _
    · -- 67 goes on
      have hlt : h < E.Y.n := lt_of (i := h) (n := E.Y.n) (by omega) (by omega) c67
      refine e_iload dX11_blend_70 rfl ?_
      refine e_if_eq (tgt := 124) dX11_blend_72 (by decide) (fun c72 => absurd c72 (by decide)) (fun c72 => ?_)
      refine e_iload_n dX11_blend_75 rfl ?_
      refine e_iload dX11_blend_76 rfl ?_
      refine e_ishr dX11_blend_78 ?_
      refine e_iconst (v := 1) dX11_blend_79 (by decide) ?_
      refine e_iand dX11_blend_80 ?_
      refine e_if_ne (tgt := 87) dX11_blend_81 (by decide) (fun c81 => ?_) (fun c81 => ?_)
      · -- 81 jumps
        have hb : bitI (nI s) (nI h) := by
          rcases and1 (nI s >>> (nI h &&& 31)) with e | e
          · exact absurd e c81
          · exact e
        refine e_aload_n dX11_blend_87 rfl ?_
        refine e_getR dX11_blend_88 fl_X11_114 sh_m rfl ?_
        refine e_bipush (v := 8) dX11_blend_91 (by decide) ?_
        refine e_iload dX11_blend_93 rfl ?_
        refine e_iaddN (a := 8) (b := h) dX11_blend_95 ?_
        refine e_ialdN (j := (8 + h)) dX11_blend_96 (sa_m_s) (by decide) (by omega) ?_
        rw [hS.cr hlt]
        refine e_if_le (tgt := 104) dX11_blend_97 (by decide) (fun c97 => ?_) (fun c97 => ?_)
        · -- 97 jumps
          refine e_iconst (v := 0) dX11_blend_104 (by decide) ?_
          refine e_istore (ls' := [_, _, _, _, _, _, _]) dX11_blend_105 (by decide) rfl ?_
          refine e_iload dX11_blend_107 rfl ?_
          refine e_aload_n dX11_blend_109 rfl ?_
          refine e_iload dX11_blend_110 rfl ?_
          refine cV1r dX11_blend_112 mo_X11_murmurOf ml_X11_394 sh_m rfl (Nat.le_of_ble_eq_true rfl) (by omega) (r_murmurOf hY hS hlt) ?_
          refine e_iadd dX11_blend_115 ?_
          refine e_istore (ls' := [_, _, _, _, _, _, _]) dX11_blend_116 (by decide) rfl ?_
          refine e_iinc (ls' := [_, _, _, _, _, _, _]) dX11_blend_118 rfl (nI_i1 _) (by decide) rfl ?_
          refine e_goto (tgt := 59) dX11_blend_121 (by decide) ?_
          exact s_bl59 hY (by omega) (hF h hlt (by unfold okP; rw [decide_eq_true hb, decide_eq_true ((crow0 hI hlt).mp c97)]; rfl) _)
        · -- 97 goes on
          refine e_iconst (v := 1) dX11_blend_100 (by decide) ?_
          refine e_goto (tgt := 105) dX11_blend_101 (by decide) ?_
          refine e_istore (ls' := [_, _, _, _, _, _, _]) dX11_blend_105 (by decide) rfl ?_
          refine e_iload dX11_blend_107 rfl ?_
          refine e_aload_n dX11_blend_109 rfl ?_
          refine e_iload dX11_blend_110 rfl ?_
          refine cV1r dX11_blend_112 mo_X11_murmurOf ml_X11_394 sh_m rfl (Nat.le_of_ble_eq_true rfl) (by omega) (r_murmurOf hY hS hlt) ?_
          refine e_iadd dX11_blend_115 ?_
          refine e_istore (ls' := [_, _, _, _, _, _, _]) dX11_blend_116 (by decide) rfl ?_
          refine e_iinc (ls' := [_, _, _, _, _, _, _]) dX11_blend_118 rfl (nI_i1 _) (by decide) rfl ?_
          refine e_goto (tgt := 59) dX11_blend_121 (by decide) ?_
          have hh := ih (h + 1) (by omega) (by omega) (fun q hq => by
            by_cases e : q = h
            · subst e; unfold okP; rw [decide_eq_false (fun z => (crow0 hI hlt).mpr z c97)]; exact congrArg Bool.not (Bool.and_false _)
            · exact hv q (by omega))
          rw [sumB, if_pos (by rw [decide_eq_true hb])] at hh
          exact hh
      · -- 81 goes on
        have hb : ¬ bitI (nI s) (nI h) := fun q => by unfold bitI at q; rw [c81] at q; exact absurd q (by decide)
        refine e_goto (tgt := 118) dX11_blend_84 (by decide) ?_
        refine e_iinc (ls' := [_, _, _, _, _, _, _]) dX11_blend_118 rfl (nI_i1 _) (by decide) rfl ?_
        refine e_goto (tgt := 59) dX11_blend_121 (by decide) ?_
        have hh := ih (h + 1) (by omega) (by omega) (fun q hq => by
          by_cases e : q = h
          · subst e; unfold okP; rw [decide_eq_false hb]; rfl
          · exact hv q (by omega))
        rw [sumB, if_neg (by rw [decide_eq_false hb]; decide)] at hh
        exact hh
set_option maxHeartbeats 4000000 in
set_option maxRecDepth 20000 in
theorem s_bl124 {G : Gt} {M : Mm} {E : Gs} {s st : Nat} {Q : Option Value → Mm → Prop} {f0 m : Int32} {u : Value} (hY : RY M E.Y) (hst : st < E.Y.ns) (hK1 : (¬ m < E.Y.low st ∧ ¬ E.Y.high st < m) → ∀ a b c, Ev G 3 mX11_blend 19 [.ref 238, .int (nI st), .int (nI s), .int (nI (s + 1)), a, b, c] [] M Q) (hK0 : ¬ (¬ m < E.Y.low st ∧ ¬ E.Y.high st < m) → ∀ a b c, Ev G 3 mX11_blend 19 [.ref 238, .int (nI st), .int f0, .int (nI (s + 1)), a, b, c] [] M Q) : Ev G 3 mX11_blend 124 [.ref 238, .int (nI st), .int f0, .int (nI s), .int m, .int 1, u] [] M (Q) := by
  refine e_iload dX11_blend_124 rfl ?_
  refine e_if_eq (tgt := 141) dX11_blend_126 (by decide) (fun c126 => absurd c126 (by decide)) (fun c126 => ?_)
  refine e_aload_n dX11_blend_129 rfl ?_
  refine e_iload_n dX11_blend_130 rfl ?_
  refine e_iload dX11_blend_131 rfl ?_
  refine cV2r dX11_blend_133 mo_X11_canHave ml_X11_434 sh_m rfl (Nat.le_of_ble_eq_true rfl) (by omega) (r_canHave hY hst) ?_
  refine e_if_eq (tgt := 141) dX11_blend_136 (by decide) (fun c136 => ?_) (fun c136 => ?_)
  · -- 136 jumps
    refine e_iinc (ls' := [_, _, _, _, _, _, _]) dX11_blend_141 rfl (nI_i1 _) (by decide) rfl ?_
    refine e_goto (tgt := 19) dX11_blend_144 (by decide) ?_
    exact hK0 (b2i_eq0.mp c136) _ _ _
  · -- 136 goes on
    refine e_iload_n dX11_blend_139 rfl ?_
    refine e_istore_n (ls' := [_, _, _, _, _, _, _]) dX11_blend_140 (by decide) rfl ?_
    refine e_iinc (ls' := [_, _, _, _, _, _, _]) dX11_blend_141 rfl (nI_i1 _) (by decide) rfl ?_
    refine e_goto (tgt := 19) dX11_blend_144 (by decide) ?_
    exact hK1 (Classical.not_not.mp (fun q => c136 (b2i_f q))) _ _ _
set_option maxHeartbeats 4000000 in
set_option maxRecDepth 20000 in
theorem s_bl124o {G : Gt} {M : Mm} {s st : Nat} {Q : Option Value → Mm → Prop} {f0 m : Int32} {u : Value} (hK : ∀ a b c, Ev G 3 mX11_blend 19 [.ref 238, .int (nI st), .int f0, .int (nI (s + 1)), a, b, c] [] M Q) : Ev G 3 mX11_blend 124 [.ref 238, .int (nI st), .int f0, .int (nI s), .int m, .int 0, u] [] M (Q) := by
  refine e_iload dX11_blend_124 rfl ?_
  refine e_if_eq (tgt := 141) dX11_blend_126 (by decide) (fun c126 => ?_) (fun c126 => absurd c126 (by decide))
  refine e_iinc (ls' := [_, _, _, _, _, _, _]) dX11_blend_141 rfl (nI_i1 _) (by decide) rfl ?_
  refine e_goto (tgt := 19) dX11_blend_144 (by decide) ?_
  exact hK _ _ _
/-- a set is looked at in full -/
theorem s_blyes {G : Gt} {M : Mm} {E : Gs} {T s st : Nat} {Q : Option Value → Mm → Prop} {f0 : Int32} (hY : RY M E.Y) (hS : RW M 273 0 E.Y.n E.S) (hI : SI E.Y E.S T) (hs : s < 64) (hst : st < E.Y.ns)
    (hK1 : blB E.Y E.S (nI s) st = true → ∀ a b c, Ev G 3 mX11_blend 19 [.ref 238, .int (nI st), .int (nI s), .int (nI (s + 1)), a, b, c] [] M Q)
    (hK0 : blB E.Y E.S (nI s) st = false → ∀ a b c, Ev G 3 mX11_blend 19 [.ref 238, .int (nI st), .int f0, .int (nI (s + 1)), a, b, c] [] M Q) : Ev G 3 mX11_blend 59 [.ref 238, .int (nI st), .int f0, .int (nI s), .int 0, .int 1, .int (nI 0)] [] M Q := by
  refine l_bl2 hY hS hI hs (fun hall u => ?_) (fun j hj hf m u => s_bl124o (hK0 ?_)) (E.Y.n + 1) 0 (by omega) (by omega) (fun q hq => absurd hq (by omega))
  · have ha : allN (fun j => !(decide (bitI (nI s) (nI j)) && decide (E.S.crow j = 0))) E.Y.n = true := allN_iff.mpr hall
    refine s_bl124 hY hst (fun hp => hK1 ?_) (fun hp => hK0 ?_)
    · unfold blB; rw [ha, decide_eq_true hp]; rfl
    · unfold blB; rw [decide_eq_false hp]; exact Bool.and_false _
  · have ha : allN (fun j => !(decide (bitI (nI s) (nI j)) && decide (E.S.crow j = 0))) E.Y.n = false := Bool.eq_false_iff.mpr (fun q => by have := allN_iff.mp q j hj; have h2 : okP E.S (nI s) j = true := this; rw [h2] at hf; cases hf)
    unfold blB; rw [ha]; rfl
set_option maxHeartbeats 4000000 in
set_option maxRecDepth 20000 in
theorem l_bl1 {G : Gt} {M : Mm} {E : Gs} {T st : Nat} (hY : RY M E.Y) (hS : RW M 273 0 E.Y.n E.S) (hI : SI E.Y E.S T) (hst : st < E.Y.ns) : ∀ (k : Nat) (m : Nat) (a b c : Value), (m + 1 ≤ 2 ^ E.Y.n) → (2 ^ E.Y.n < m + 1 + k) → Ev G 3 mX11_blend 19 [.ref 238, .int (nI st), .int (oI (blN E.Y E.S st m)), .int (nI (m + 1)), a, b, c] [] M (eqQ (some (.int (oI (blN E.Y E.S st (2 ^ E.Y.n - 1))))) M) := by
  intro k
  induction k with
  | zero => intro m a b c hm hk; exact absurd hk (by omega)
  | succ k ih =>
    intro m a b c hm hk
    have h6 := hY.1.2
    obtain ⟨hp1, hp2, hp3⟩ := pow6 h6
    refine e_iload_n dX11_blend_19 rfl ?_
    refine e_iconst (v := 1) dX11_blend_20 (by decide) ?_
    refine e_aload_n dX11_blend_21 rfl ?_
    refine e_getR dX11_blend_22 fl_X11_13 sh_m rfl ?_
    refine e_iconst (v := 0) dX11_blend_25 (by decide) ?_
    refine e_ialdN (j := 0) dX11_blend_26 (sa_m_yard) (by decide) (by omega) ?_
    rw [hY.1.1]
    refine e_ishl dX11_blend_27 ?_
    rw [hp1]
    refine e_icmp_ge (tgt := 147) dX11_blend_28 (by decide) (fun c28 => ?_) (fun c28 => ?_)
    · -- 28 jumps
      have hin := ge_of (i := m + 1) (n := 2 ^ E.Y.n) (by omega) (by omega) c28
      refine e_iload_n dX11_blend_147 rfl ?_
      refine e_iret dX11_blend_148 rfl ?_
      exact ⟨by rw [show 2 ^ E.Y.n - 1 = m by omega], rfl⟩
    · -- 28 goes on
      have hlt := lt_of (i := m + 1) (n := 2 ^ E.Y.n) (by omega) (by omega) c28
      refine e_iconst (v := 0) dX11_blend_31 (by decide) ?_
      refine e_istore (ls' := [_, _, _, _, _, _, _]) dX11_blend_32 (by decide) rfl ?_
      refine e_iload_n dX11_blend_34 rfl ?_
      refine e_if_lt (tgt := 49) dX11_blend_35 (by decide) (fun c35 => ?_) (fun c35 => ?_)
      · -- 35 jumps
        rw [oI_neg (k := m + 1) (by omega) (fun b h => by have := bl_le h; omega)] at c35
        have ho := c35
        refine e_iconst (v := 1) dX11_blend_49 (by decide) ?_
        refine e_goto (tgt := 54) dX11_blend_50 (by decide) ?_
        refine e_istore (ls' := [_, _, _, _, _, _, _]) dX11_blend_54 (by decide) rfl ?_
        refine e_iconst (v := 0) dX11_blend_56 (by decide) ?_
        refine e_istore (ls' := [_, _, _, _, _, _, _]) dX11_blend_57 (by decide) rfl ?_
        refine s_blyes hY hS hI (by omega) hst (fun hb a2 b2 c2 => ?_) (fun hb a2 b2 c2 => ?_)
        · have hh := ih (m + 1) a2 b2 c2 (by omega) (by omega)
          rw [show blN E.Y E.S st (m + 1) = some (m + 1) from by simp only [blN, ho]; rw [if_pos hb]] at hh
          exact hh
        · have hh := ih (m + 1) a2 b2 c2 (by omega) (by omega)
          rw [show blN E.Y E.S st (m + 1) = none from by simp only [blN, ho]; rw [if_neg (by rw [hb]; decide)]] at hh
          rw [ho]
          exact hh
      · -- 35 goes on
        rw [oI_neg (k := m + 1) (by omega) (fun b h => by have := bl_le h; omega)] at c35
        obtain ⟨b2, ho⟩ := Option.ne_none_iff_exists'.mp c35
        have hb2 := bl_le ho
        have hpc1 := pc_le (m + 1)
        have hpc2 := pc_le b2
        rw [ho, show oI (some b2) = nI b2 from rfl]
        refine e_iload_n dX11_blend_38 rfl ?_
        refine cS1r dX11_blend_39 mo_X11_bits ml_X11_447 (Nat.le_of_ble_eq_true rfl) (by omega) (r_bits (s := m + 1) (by omega)) ?_
        refine e_iload_n dX11_blend_42 rfl ?_
        refine cS1r dX11_blend_43 mo_X11_bits ml_X11_447 (Nat.le_of_ble_eq_true rfl) (by omega) (r_bits (s := b2) (by omega)) ?_
        refine e_icmp_ge (tgt := 53) dX11_blend_46 (by decide) (fun c46 => ?_) (fun c46 => ?_)
        · -- 46 jumps
          refine e_iconst (v := 0) dX11_blend_53 (by decide) ?_
          refine e_istore (ls' := [_, _, _, _, _, _, _]) dX11_blend_54 (by decide) rfl ?_
          refine e_iconst (v := 0) dX11_blend_56 (by decide) ?_
          refine e_istore (ls' := [_, _, _, _, _, _, _]) dX11_blend_57 (by decide) rfl ?_
          refine s_bl59 (h := 0) hY (by decide) (fun u => s_bl124o (fun a2 b3 c2 => ?_))
          have hh := ih (m + 1) a2 b3 c2 (by omega) (by omega)
          rw [show blN E.Y E.S st (m + 1) = some b2 from by simp only [blN, ho]; rw [if_neg (fun q => c46 ((nI_ltI (by omega) (by omega)).mpr q.1))]] at hh
          exact hh
        · -- 46 goes on
          refine e_iconst (v := 1) dX11_blend_49 (by decide) ?_
          refine e_goto (tgt := 54) dX11_blend_50 (by decide) ?_
          refine e_istore (ls' := [_, _, _, _, _, _, _]) dX11_blend_54 (by decide) rfl ?_
          refine e_iconst (v := 0) dX11_blend_56 (by decide) ?_
          refine e_istore (ls' := [_, _, _, _, _, _, _]) dX11_blend_57 (by decide) rfl ?_
          have hlt2 := (nI_ltI (by omega) (by omega)).mp c46
          refine s_blyes hY hS hI (by omega) hst (fun hb a2 b3 c2 => ?_) (fun hb a2 b3 c2 => ?_)
          · have hh := ih (m + 1) a2 b3 c2 (by omega) (by omega)
            rw [show blN E.Y E.S st (m + 1) = some (m + 1) from by simp only [blN, ho]; rw [if_pos ⟨hlt2, hb⟩]] at hh
            exact hh
          · have hh := ih (m + 1) a2 b3 c2 (by omega) (by omega)
            rw [show blN E.Y E.S st (m + 1) = some b2 from by simp only [blN, ho]; rw [if_neg (fun q => by rw [hb] at q; exact absurd q.2 (by decide))]] at hh
            exact hh
set_option maxHeartbeats 4000000 in
set_option maxRecDepth 20000 in
theorem r_blend {G : Gt} {M : Mm} {E : Gs} (hJ : RJ M E) {T : Nat} (hI : SI E.Y E.S T) {i : Int32} : Call G 3 mX11_blend [.ref 238, .int i] M (fun r M' => r = some (.int (blendQ E i)) ∧ RC M M') := by
  refine Call.intro rfl (Nat.le_of_ble_eq_true rfl) ?_
  show Ev G _ mX11_blend 0 [.ref 238, .int i, RA, RA, RA, RA, RA] [] M _
  refine e_aload_n dX11_blend_0 rfl ?_
  refine e_iconst (v := 0) dX11_blend_1 (by decide) ?_
  refine e_putI dX11_blend_2 fl_X11_153 sh_m rfl rfl rfl ?_
  refine th0 (fun M1 hC1 => ?_)
  have hJ := hC1.keep hJ
  have hY := hJ.1
  have h6 := hY.1.2
  have hs5 := hY.2.1.2
  have hL := hJ.2.1
  have hS := hJ.2.2.1
  refine e_aload_n dX11_blend_5 rfl ?_
  refine e_iload_n dX11_blend_6 rfl ?_
  refine cV1r dX11_blend_7 mo_X11_isStage ml_X11_400 sh_m rfl (Nat.le_of_ble_eq_true rfl) (by omega) (r_isStage (by assumption)) ?_
  refine e_if_ne (tgt := 15) dX11_blend_10 (by decide) (fun c10 => ?_) (fun c10 => ?_)
  · -- 10 jumps
    have hsh10 : ¬ i < 0 ∧ i < nI E.Y.ns := by
      by_cases h : (¬ i < 0 ∧ i < nI E.Y.ns)
      · exact h
      · exact absurd (b2i_f h) c10
    obtain ⟨j, hj, rfl⟩ := shed_of (by omega) hsh10
    refine e_iconst (v := (-1)) dX11_blend_15 (by decide) ?_
    refine e_istore_n (ls' := [_, _, _, _, _, _, _]) dX11_blend_16 (by decide) rfl ?_
    refine e_iconst (v := 1) dX11_blend_17 (by decide) ?_
    refine e_istore_n (ls' := [_, _, _, _, _, _, _]) dX11_blend_18 (by decide) rfl ?_
    unfold blendQ
    rw [if_pos hsh10, nI_clamp (by omega)]
    have hp2 := (pow6 h6).2.1
    exact (l_bl1 hY hS hI hj (2 ^ E.Y.n) 0 _ _ _ (by omega) (by omega)).weaken (fun r M2 h => ⟨h.1, by rw [h.2]; exact hC1⟩)
  · -- 10 goes on
    refine e_iconst (v := (-1)) dX11_blend_13 (by decide) ?_
    refine e_iret dX11_blend_14 rfl ?_
    exact ⟨by unfold blendQ; rw [if_neg (b2i_eq0.mp c10)], hC1⟩
set_option maxHeartbeats 4000000 in
set_option maxRecDepth 20000 in
theorem l_raim3 {G : Gt} {M : Mm} {E : Gs} (hJ : RJ M E) {T : Nat} (hI : SI E.Y E.S T) (hTT : T < 2 ^ 30) (hN : NS E.Y) {Q : Option Value → Mm → Prop} {st t w v j : Nat} {S : Sv} (hI2 : SI E.Y S T) (ht : t ≤ 20) (hK : ∀ (Mc : Mm) (u : Value), TB 276 M Mc E.Y.n (itN E.Y S t) → Ev G 7 mX11_aim 102 [.ref 238, .int (nI st), .int (nI t), .int (nI w), .int (nI v), .int (nI j), u] [] Mc Q) : ∀ (k : Nat) (i : Nat) (Mc : Mm), (i ≤ t) → (t < i + k) → (TB 276 M Mc E.Y.n (itN E.Y S i)) → Ev G 7 mX11_aim 85 [.ref 238, .int (nI st), .int (nI t), .int (nI w), .int (nI v), .int (nI j), .int (nI i)] [] Mc (Q) := by
  intro k
  induction k with
  | zero => intro i Mc hi hk hT; exact absurd hk (by omega)
  | succ k ih =>
    intro i Mc hi hk hT
    have hY := hJ.1
    have h6 := hY.1.2
    have hs5 := hY.2.1.2
    have hL := hJ.2.1
    have hS := hJ.2.2.1
    have hYc := hT.1.ry hY
    have hLc := hT.1.rl hL
    have hSc := hT.2.2
    obtain ⟨ti, hti, hti2⟩ := hI2.nt h6 i
    refine e_iload dX11_aim_85 rfl ?_
    refine e_iload_n dX11_aim_87 rfl ?_
    refine e_icmp_ge (tgt := 102) dX11_aim_88 (by decide) (fun c88 => ?_) (fun c88 => ?_)
    · -- 88 jumps
      have hin : i = t := by have := ge_of (i := i) (n := t) (by omega) (by omega) c88; omega
      subst hin
      exact hK Mc _ hT
    · -- 88 goes on
      have hlt : i < t := lt_of (i := i) (n := t) (by omega) (by omega) c88
      refine e_aload_n dX11_aim_91 rfl ?_
      refine cV0x dX11_aim_92 mo_X11_passesAsTold ml_X11_410 sh_m rfl (Nat.le_of_ble_eq_true rfl) (by omega) (r_passesAsTold hYc hSc hLc hN hti (by omega)) ?_
      rintro r M2 ⟨rfl, hp1, hp2, hp3⟩
      dsimp only [Option.toList, List.cons_append, List.nil_append]
      refine e_pop dX11_aim_95 rfl ?_
      refine e_iinc (ls' := [_, _, _, _, _, _, _]) dX11_aim_96 rfl (nI_i1 _) (by decide) rfl ?_
      refine e_goto (tgt := 85) dX11_aim_99 (by decide) ?_
      exact ih (i + 1) M2 (by omega) (by omega) (hT.pf tx6 hp1 hp2)
set_option maxHeartbeats 4000000 in
set_option maxRecDepth 20000 in
theorem s_aim102 {G : Gt} {M Mc : Mm} {E : Gs} (hJ : RJ M E) {Q : Option Value → Mm → Prop} {st t w v j : Nat} {u : Value} {S : Sv} (hT : TB 276 M Mc E.Y.n S) (hj : j < E.Y.n) (hst : st < E.Y.ns) (hv : v ≤ 9) (hw : w ≤ 1) (hK : ¬ (¬ murS S j < E.Y.low st ∧ ¬ E.Y.high st < murS S j) → ∀ (Mc : Mm) (u : Value), TB 276 M Mc E.Y.n E.S → RC M Mc → Ev G 7 mX11_aim 60 [.ref 238, .int (nI st), .int (nI t), .int (nI w), .int (nI v), .int (nI (j + 1)), u] [] Mc Q) (hR : (¬ murS S j < E.Y.low st ∧ ¬ E.Y.high st < murS S j) → ∀ Mc : Mm, RC M Mc → Q (some (.int (if nI w = 0 then nI v else nI j))) Mc) : Ev G 7 mX11_aim 102 [.ref 238, .int (nI st), .int (nI t), .int (nI w), .int (nI v), .int (nI j), u] [] Mc (Q) := by
  have hY := hJ.1
  have h6 := hY.1.2
  have hs5 := hY.2.1.2
  have hL := hJ.2.1
  have hS := hJ.2.2.1
  have hYc := hT.1.ry hY
  have hTa := hT.again tx6 h6 hS
  refine e_aload_n dX11_aim_102 rfl ?_
  refine e_iload dX11_aim_103 rfl ?_
  refine cV1r dX11_aim_105 mo_X11_murmurOf ml_X11_394 sh_m rfl (Nat.le_of_ble_eq_true rfl) (by omega) (r_murmurOf hYc hT.2.2 hj) ?_
  refine e_istore (ls' := [_, _, _, _, _, _, _]) dX11_aim_108 (by decide) rfl ?_
  refine e_aload_n dX11_aim_110 rfl ?_
  refine e_getR dX11_aim_111 fl_X11_123 sh_m rfl ?_
  refine e_iconst (v := 0) dX11_aim_114 (by decide) ?_
  refine e_aload_n dX11_aim_115 rfl ?_
  refine e_getR dX11_aim_116 fl_X11_114 sh_m rfl ?_
  refine e_iconst (v := 0) dX11_aim_119 (by decide) ?_
  refine cS4v dX11_aim_120 mo_X11_copies ml_X11_403 (Nat.le_of_ble_eq_true rfl) (by omega) (r_copies (p := 0) (b := 0) (sa_m_tried) (sa_m_s) (by omega) (by omega) (by decide) (by decide) (by decide)) ?_
  refine e_aload_n dX11_aim_123 rfl ?_
  refine e_iload_n dX11_aim_124 rfl ?_
  refine e_iload dX11_aim_125 rfl ?_
  refine cV2r dX11_aim_127 mo_X11_canHave ml_X11_434 sh_m rfl (Nat.le_of_ble_eq_true rfl) (by omega) (r_canHave (hTa.1.ry hY) hst) ?_
  refine e_if_eq (tgt := 145) dX11_aim_130 (by decide) (fun c130 => ?_) (fun c130 => ?_)
  · -- 130 jumps
    refine e_iinc (ls' := [_, _, _, _, _, _, _]) dX11_aim_145 rfl (nI_i1 _) (by decide) rfl ?_
    refine e_goto (tgt := 60) dX11_aim_148 (by decide) ?_
    exact hK (b2i_eq0.mp c130) _ _ hTa hT.back
  · -- 130 goes on
    refine e_iload_n dX11_aim_133 rfl ?_
    refine e_if_ne (tgt := 142) dX11_aim_134 (by decide) (fun c134 => ?_) (fun c134 => ?_)
    · -- 134 jumps
      refine e_iload dX11_aim_142 rfl ?_
      refine e_iret dX11_aim_144 rfl ?_
      have hq := hR (Classical.not_not.mp (fun q => c130 (b2i_f q))) _ hT.back
      rw [if_neg c134] at hq
      exact hq
    · -- 134 goes on
      refine e_iload dX11_aim_137 rfl ?_
      refine e_goto (tgt := 144) dX11_aim_139 (by decide) ?_
      refine e_iret dX11_aim_144 rfl ?_
      have hq := hR (Classical.not_not.mp (fun q => c130 (b2i_f q))) _ hT.back
      rw [if_pos c134] at hq
      exact hq
set_option maxHeartbeats 4000000 in
set_option maxRecDepth 20000 in
theorem l_raim2 {G : Gt} {M : Mm} {E : Gs} (hJ : RJ M E) {T : Nat} (hI : SI E.Y E.S T) (hTT : T < 2 ^ 30) (hN : NS E.Y) {Q : Option Value → Mm → Prop} {st t w v : Nat} (hst : st < E.Y.ns) (ht : t ≤ 20) (hv : v ≤ 9) (hw : w ≤ 1) (hN0 : aimN E st t v = none → ∀ (Mc : Mm) (a b : Value), TB 276 M Mc E.Y.n E.S → RC M Mc → Ev G 7 mX11_aim 151 [.ref 238, .int (nI st), .int (nI t), .int (nI w), .int (nI v), a, b] [] Mc Q) (hF : ∀ j, aimN E st t v = some j → ∀ Mc : Mm, RC M Mc → Q (some (.int (if nI w = 0 then nI v else nI j))) Mc) : ∀ (k : Nat) (j : Nat) (Mc : Mm) (u : Value), (j ≤ E.Y.n) → (E.Y.n < j + k) → (TB 276 M Mc E.Y.n E.S) → (RC M Mc) → (aimN E st t v = fstN (fun j => citB E st t j (nI v)) j (E.Y.n - j)) → Ev G 7 mX11_aim 60 [.ref 238, .int (nI st), .int (nI t), .int (nI w), .int (nI v), .int (nI j), u] [] Mc (Q) := by
  intro k
  induction k with
  | zero => intro j Mc u hi hk hT hRC hr; exact absurd hk (by omega)
  | succ k ih =>
    intro j Mc u hi hk hT hRC hr
    have hY := hJ.1
    have h6 := hY.1.2
    have hs5 := hY.2.1.2
    have hL := hJ.2.1
    have hS := hJ.2.2.1
    have hYc := hT.1.ry hY
    refine e_iload dX11_aim_60 rfl ?_
    refine e_aload_n dX11_aim_62 rfl ?_
    refine e_getR dX11_aim_63 fl_X11_13 sh_m rfl ?_
    refine e_iconst (v := 0) dX11_aim_66 (by decide) ?_
    refine e_ialdN (j := 0) dX11_aim_67 (sa_m_yard) (by decide) (by omega) ?_
    rw [hYc.1.1]
    refine e_icmp_ge (tgt := 151) dX11_aim_68 (by decide) (fun c68 => ?_) (fun c68 => ?_)
    · -- 68 jumps
      have hin : j = E.Y.n := by have := ge_of (i := j) (n := E.Y.n) (by omega) (by omega) c68; omega
      subst hin
      exact hN0 (hr.trans fst_e) _ _ _ hT hRC
    · -- 68 goes on
      have hlt : j < E.Y.n := lt_of (i := j) (n := E.Y.n) (by omega) (by omega) c68
      refine e_aload_n dX11_aim_71 rfl ?_
      refine e_getR dX11_aim_72 fl_X11_114 sh_m rfl ?_
      refine e_iconst (v := 2) dX11_aim_75 (by decide) ?_
      refine e_iload dX11_aim_76 rfl ?_
      refine e_iaddN (a := 2) (b := j) dX11_aim_78 ?_
      refine e_iload dX11_aim_79 rfl ?_
      refine e_iastN (j := (2 + j)) dX11_aim_81 (sa_m_s) (by decide) (by omega) ?_
      refine e_iconst (v := 0) dX11_aim_82 (by decide) ?_
      refine e_istore (ls' := [_, _, _, _, _, _, _]) dX11_aim_83 (by decide) rfl ?_
      have hO : O3 Mc (setI Mc 273 (2 + j) (nI v)) := O3.rfl'.i _ _
      refine l_raim3 hJ hI hTT hN (S := heatV E.S j (nI v)) hI.heat ht (fun M3 u3 hT3 => ?_) (t + 1) 0 _ (by omega) (by omega) (hT.o3 tx6 hO (hT.2.2.heat hlt h6))
      exact s_aim102 hJ hT3 hlt hst hv hw (fun hc M4 u4 hT4 hR4 => ih (j + 1) M4 u4 (by omega) (by omega) hT4 hR4 (hr.trans (fst_f hlt (by unfold citB; exact decide_eq_false hc)))) (fun hc M4 hC4 => hF j (hr.trans (fst_t hlt (by unfold citB; exact decide_eq_true hc))) M4 hC4)
set_option maxHeartbeats 4000000 in
set_option maxRecDepth 20000 in
theorem l_raim1 {G : Gt} {M : Mm} {E : Gs} (hJ : RJ M E) {T : Nat} (hI : SI E.Y E.S T) (hTT : T < 2 ^ 30) (hN : NS E.Y) {st t w : Nat} (hst : st < E.Y.ns) (ht : t ≤ 20) (hw : w ≤ 1) : ∀ (k : Nat) (v : Nat) (Mc : Mm) (a b : Value), (v ≤ 10) → (10 < v + k) → (TB 276 M Mc E.Y.n E.S) → (RC M Mc) → (fstN (fun h => (aimN E st t h).isSome) 0 10 = fstN (fun h => (aimN E st t h).isSome) v (10 - v)) → Ev G 7 mX11_aim 50 [.ref 238, .int (nI st), .int (nI t), .int (nI w), .int (nI v), a, b] [] Mc (fun r M' => r = some (.int ((match fstN (fun h => (aimN E st t h).isSome) 0 10 with
    | none => -1
    | some h => if nI w = 0 then nI h else oI (aimN E st t h)))) ∧ RC M M') := by
  intro k
  induction k with
  | zero => intro v Mc a b hi hk hT hRC hr; exact absurd hk (by omega)
  | succ k ih =>
    intro v Mc a b hi hk hT hRC hr
    have hY := hJ.1
    have h6 := hY.1.2
    have hs5 := hY.2.1.2
    have hL := hJ.2.1
    have hS := hJ.2.2.1
    refine e_iload dX11_aim_50 rfl ?_
    refine e_bipush (v := 10) dX11_aim_52 (by decide) ?_
    refine e_icmp_ge (tgt := 157) dX11_aim_54 (by decide) (fun c54 => ?_) (fun c54 => ?_)
    · -- 54 jumps
      have hin : v = 10 := by have := ge_of (i := v) (n := 10) (by omega) (by omega) c54; omega
      subst hin
      refine e_iconst (v := (-1)) dX11_aim_157 (by decide) ?_
      refine e_iret dX11_aim_158 rfl ?_
      exact ⟨by rw [hr, fst_e], hRC⟩
    · -- 54 goes on
      have hlt : v < 10 := lt_of (i := v) (n := 10) (by omega) (by omega) c54
      refine e_iconst (v := 0) dX11_aim_57 (by decide) ?_
      refine e_istore (ls' := [_, _, _, _, _, _, _]) dX11_aim_58 (by decide) rfl ?_
      refine l_raim2 hJ hI hTT hN hst ht (by omega) hw (fun hn M3 a3 b3 hT3 hR3 => ?_) (fun j hj M3 hC3 => ?_) (E.Y.n + 1) 0 Mc _ (by omega) (by omega) hT hRC rfl
      · refine e_iinc (ls' := [_, _, _, _, _, _, _]) dX11_aim_151 rfl (nI_i1 _) (by decide) rfl ?_
        refine e_goto (tgt := 50) dX11_aim_154 (by decide) ?_
        exact ih (v + 1) M3 a3 b3 (by omega) (by omega) hT3 hR3 (hr.trans (fst_f hlt (by rw [hn]; rfl)))
      · refine ⟨?_, hC3⟩
        rw [hr, fst_t hlt (by rw [hj]; rfl)]
        show _ = some (Value.int (if nI w = 0 then nI v else oI (aimN E st t v)))
        rw [hj]
        rfl
theorem RC.cp {M Mc : Mm} (h : RC M Mc) {a p t b n : Nat} (ht : rsd t ∧ ¬ t = 238 ∧ ¬ t = 273) : RC M (cpR Mc a p t b n) := ⟨h.1.cp ⟨ht.1, ht.2.1⟩, fun k hk => by rw [cpR_ne (fun e => ht.2.2 e.symm)]; exact h.2 k hk⟩
set_option maxHeartbeats 4000000 in
set_option maxRecDepth 20000 in
theorem r_aim {G : Gt} {M : Mm} {E : Gs} (hJ : RJ M E) {T : Nat} (hI : SI E.Y E.S T) (hTT : T < 2 ^ 30) (hN : NS E.Y) {i t v : Int32} : Call G 7 mX11_aim [.ref 238, .int i, .int t, .int v] M (fun r M' => r = some (.int (aimQ E i t v)) ∧ RC M M') := by
  refine Call.intro rfl (Nat.le_of_ble_eq_true rfl) ?_
  show Ev G _ mX11_aim 0 [.ref 238, .int i, .int t, .int v, RA, RA, RA] [] M _
  refine e_aload_n dX11_aim_0 rfl ?_
  refine e_iconst (v := 0) dX11_aim_1 (by decide) ?_
  refine e_putI dX11_aim_2 fl_X11_153 sh_m rfl rfl rfl ?_
  refine th0 (fun M1 hC1 => ?_)
  have hJ := hC1.keep hJ
  have hY := hJ.1
  have h6 := hY.1.2
  have hs5 := hY.2.1.2
  have hL := hJ.2.1
  have hS := hJ.2.2.1
  refine e_aload_n dX11_aim_5 rfl ?_
  refine e_iload_n dX11_aim_6 rfl ?_
  refine cV1r dX11_aim_7 mo_X11_isStage ml_X11_400 sh_m rfl (Nat.le_of_ble_eq_true rfl) (by omega) (r_isStage (by assumption)) ?_
  refine e_if_eq (tgt := 32) dX11_aim_10 (by decide) (fun c10 => ?_) (fun c10 => ?_)
  · -- 10 jumps
    refine e_iconst (v := (-1)) dX11_aim_32 (by decide) ?_
    refine e_iret dX11_aim_33 rfl ?_
    exact ⟨by unfold aimQ; rw [if_neg (fun q => absurd q.1 (b2i_eq0.mp c10))], hC1⟩
  · -- 10 goes on
    have c10 : vSt E i := by
      by_cases h : (vSt E i)
      · exact h
      · exact absurd (b2i_f h) c10
    have hsh := c10
    refine e_iload_n dX11_aim_13 rfl ?_
    refine e_iconst (v := 1) dX11_aim_14 (by decide) ?_
    refine e_bipush (v := 20) dX11_aim_15 (by decide) ?_
    refine cS3r dX11_aim_17 mo_X11_within ml_X11_274 (Nat.le_of_ble_eq_true rfl) (by omega) (r_within) ?_
    refine e_if_eq (tgt := 32) dX11_aim_20 (by decide) (fun c20 => ?_) (fun c20 => ?_)
    · -- 20 jumps
      refine e_iconst (v := (-1)) dX11_aim_32 (by decide) ?_
      refine e_iret dX11_aim_33 rfl ?_
      exact ⟨by unfold aimQ; rw [if_neg (fun q => absurd q.2.1 (b2i_eq0.mp c20))], hC1⟩
    · -- 20 goes on
      have c20 : vWi t 1 20 := by
        by_cases h : (vWi t 1 20)
        · exact h
        · exact absurd (b2i_f h) c20
      have hwt := c20
      refine e_iload_n dX11_aim_23 rfl ?_
      refine e_iconst (v := 0) dX11_aim_24 (by decide) ?_
      refine e_iconst (v := 1) dX11_aim_25 (by decide) ?_
      refine cS3r dX11_aim_26 mo_X11_within ml_X11_274 (Nat.le_of_ble_eq_true rfl) (by omega) (r_within) ?_
      refine e_if_ne (tgt := 34) dX11_aim_29 (by decide) (fun c29 => ?_) (fun c29 => ?_)
      · -- 29 jumps
        have c29 : vWi v 0 1 := by
          by_cases h : (vWi v 0 1)
          · exact h
          · exact absurd (b2i_f h) c29
        have hwv := c29
        obtain ⟨j, hj, rfl⟩ := shed_of (by omega) hsh
        obtain ⟨t, ht20, -, rfl⟩ := wi_of (a := 1) (b := 20) (by decide) (by decide) hwt
        obtain ⟨w, hw1, -, rfl⟩ := wi_of (a := 0) (b := 1) (by decide) (by decide) hwv
        refine e_aload_n dX11_aim_34 rfl ?_
        refine e_getR dX11_aim_35 fl_X11_114 sh_m rfl ?_
        refine e_iconst (v := 0) dX11_aim_38 (by decide) ?_
        refine e_aload_n dX11_aim_39 rfl ?_
        refine e_getR dX11_aim_40 fl_X11_123 sh_m rfl ?_
        refine e_iconst (v := 0) dX11_aim_43 (by decide) ?_
        refine cS4v dX11_aim_44 mo_X11_copies ml_X11_403 (Nat.le_of_ble_eq_true rfl) (by omega) (r_copies (p := 0) (b := 0) (sa_m_s) (sa_m_tried) (by omega) (by omega) (by decide) (by decide) (by decide)) ?_
        refine e_iconst (v := 0) dX11_aim_47 (by decide) ?_
        refine e_istore (ls' := [_, _, _, _, _, _, _]) dX11_aim_48 (by decide) rfl ?_
        unfold aimQ
        rw [if_pos ⟨hsh, hwt, hwv⟩, nI_clamp (by omega), nI_clamp (by omega)]
        exact (l_raim1 hJ hI hTT hN hj ht20 hw1 11 0 _ _ _ (by omega) (by omega) (TB.start tx6 h6 hS) (RC.rfl'.cp ⟨by unfold rsd; omega, by omega, by omega⟩) rfl).weaken (fun r M2 h => ⟨h.1, hC1.trans h.2⟩)
      · -- 29 goes on
        refine e_iconst (v := (-1)) dX11_aim_32 (by decide) ?_
        refine e_iret dX11_aim_33 rfl ?_
        exact ⟨by unfold aimQ; rw [if_neg (fun q => absurd q.2.2 (b2i_eq0.mp c29))], hC1⟩
end RBL
