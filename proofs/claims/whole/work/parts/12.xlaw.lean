section XLAW
def jnV (op l r : Int32) : Int32 :=
  if op = -6 then b2i (¬ l = 0 ∧ ¬ r = 0) else if op = -7 then b2i (¬ l = 0 ∨ ¬ r = 0) else if op = -8 then b2i (l < r) else if op = -9 then b2i (l = r) else if op = -10 then l + r else if op = -11 then l - r else l * r
set_option maxHeartbeats 4000000 in
set_option maxRecDepth 20000 in
theorem c_joined {G : Gt} {M : Mm} {op l r : Int32} : Call G 1 mX0_joined [.int op, .int l, .int r] M (eqQ (some (.int (jnV op l r))) M) := by
  refine Call.intro rfl (Nat.le_of_ble_eq_true rfl) ?_
  show Ev G _ mX0_joined 0 [.int op, .int l, .int r] [] M _
  refine e_iload_n dX0_joined_0 rfl ?_
  refine e_sw dX0_joined_1 (fun jsw osw hosw hx tsw htsw => ?_) (fun hx tsw htsw => ?_) (by simp)
  · match jsw, hosw, hx with
    | 0, hosw, hx =>
      have hx : op = (-11) := hx.trans (by decide)
      obtain rfl : (93 : Int) = osw := Option.some.inj hosw
      obtain rfl : tsw = 94 := by omega
      refine e_iload_n dX0_joined_94 rfl ?_
      refine e_iload_n dX0_joined_95 rfl ?_
      refine e_isub dX0_joined_96 ?_
      refine e_iret dX0_joined_97 rfl ?_
      subst hx
      exact ⟨by rw [show jnV (-11) l r = l - r from rfl], rfl⟩
    | 1, hosw, hx =>
      have hx : op = (-10) := hx.trans (by decide)
      obtain rfl : (89 : Int) = osw := Option.some.inj hosw
      obtain rfl : tsw = 90 := by omega
      refine e_iload_n dX0_joined_90 rfl ?_
      refine e_iload_n dX0_joined_91 rfl ?_
      refine e_iadd dX0_joined_92 ?_
      refine e_iret dX0_joined_93 rfl ?_
      subst hx
      exact ⟨by rw [show jnV (-10) l r = l + r from rfl], rfl⟩
    | 2, hosw, hx =>
      have hx : op = (-9) := hx.trans (by decide)
      obtain rfl : (78 : Int) = osw := Option.some.inj hosw
      obtain rfl : tsw = 79 := by omega
      refine e_iload_n dX0_joined_79 rfl ?_
      refine e_iload_n dX0_joined_80 rfl ?_
      refine e_icmp_ne (tgt := 88) dX0_joined_81 (by decide) (fun c81 => ?_) (fun c81 => ?_)
      · -- 81 jumps
        refine e_iconst (v := 0) dX0_joined_88 (by decide) ?_
        refine e_iret dX0_joined_89 rfl ?_
        subst hx
        exact ⟨by rw [show jnV (-9) l r = b2i (l = r) from rfl]; rw [b2i_f c81], rfl⟩
      · -- 81 goes on
        refine e_iconst (v := 1) dX0_joined_84 (by decide) ?_
        refine e_goto (tgt := 89) dX0_joined_85 (by decide) ?_
        refine e_iret dX0_joined_89 rfl ?_
        subst hx
        exact ⟨by rw [show jnV (-9) l r = b2i (l = r) from rfl]; rw [b2i_t c81], rfl⟩
    | 3, hosw, hx =>
      have hx : op = (-8) := hx.trans (by decide)
      obtain rfl : (67 : Int) = osw := Option.some.inj hosw
      obtain rfl : tsw = 68 := by omega
      refine e_iload_n dX0_joined_68 rfl ?_
      refine e_iload_n dX0_joined_69 rfl ?_
      refine e_icmp_ge (tgt := 77) dX0_joined_70 (by decide) (fun c70 => ?_) (fun c70 => ?_)
      · -- 70 jumps
        refine e_iconst (v := 0) dX0_joined_77 (by decide) ?_
        refine e_iret dX0_joined_78 rfl ?_
        subst hx
        exact ⟨by rw [show jnV (-8) l r = b2i (l < r) from rfl]; rw [b2i_f c70], rfl⟩
      · -- 70 goes on
        refine e_iconst (v := 1) dX0_joined_73 (by decide) ?_
        refine e_goto (tgt := 78) dX0_joined_74 (by decide) ?_
        refine e_iret dX0_joined_78 rfl ?_
        subst hx
        exact ⟨by rw [show jnV (-8) l r = b2i (l < r) from rfl]; rw [b2i_t c70], rfl⟩
    | 4, hosw, hx =>
      have hx : op = (-7) := hx.trans (by decide)
      obtain rfl : (53 : Int) = osw := Option.some.inj hosw
      obtain rfl : tsw = 54 := by omega
      refine e_iload_n dX0_joined_54 rfl ?_
      refine e_if_ne (tgt := 62) dX0_joined_55 (by decide) (fun c55 => ?_) (fun c55 => ?_)
      · -- 55 jumps
        refine e_iconst (v := 1) dX0_joined_62 (by decide) ?_
        refine e_goto (tgt := 67) dX0_joined_63 (by decide) ?_
        refine e_iret dX0_joined_67 rfl ?_
        subst hx
        exact ⟨by rw [show jnV (-7) l r = b2i (¬ l = 0 ∨ ¬ r = 0) from rfl]; rw [b2i_t (Or.inl c55)], rfl⟩
      · -- 55 goes on
        refine e_iload_n dX0_joined_58 rfl ?_
        refine e_if_eq (tgt := 66) dX0_joined_59 (by decide) (fun c59 => ?_) (fun c59 => ?_)
        · -- 59 jumps
          refine e_iconst (v := 0) dX0_joined_66 (by decide) ?_
          refine e_iret dX0_joined_67 rfl ?_
          subst hx
          exact ⟨by rw [show jnV (-7) l r = b2i (¬ l = 0 ∨ ¬ r = 0) from rfl]; rw [b2i_f (fun q => q.elim (fun h => h c55) (fun h => h c59))], rfl⟩
        · -- 59 goes on
          refine e_iconst (v := 1) dX0_joined_62 (by decide) ?_
          refine e_goto (tgt := 67) dX0_joined_63 (by decide) ?_
          refine e_iret dX0_joined_67 rfl ?_
          subst hx
          exact ⟨by rw [show jnV (-7) l r = b2i (¬ l = 0 ∨ ¬ r = 0) from rfl]; rw [b2i_t (Or.inr c59)], rfl⟩
    | 5, hosw, hx =>
      have hx : op = (-6) := hx.trans (by decide)
      obtain rfl : (39 : Int) = osw := Option.some.inj hosw
      obtain rfl : tsw = 40 := by omega
      refine e_iload_n dX0_joined_40 rfl ?_
      refine e_if_eq (tgt := 52) dX0_joined_41 (by decide) (fun c41 => ?_) (fun c41 => ?_)
      · -- 41 jumps
        refine e_iconst (v := 0) dX0_joined_52 (by decide) ?_
        refine e_iret dX0_joined_53 rfl ?_
        subst hx
        exact ⟨by rw [show jnV (-6) l r = b2i (¬ l = 0 ∧ ¬ r = 0) from rfl]; rw [b2i_f (fun q => q.1 c41)], rfl⟩
      · -- 41 goes on
        refine e_iload_n dX0_joined_44 rfl ?_
        refine e_if_eq (tgt := 52) dX0_joined_45 (by decide) (fun c45 => ?_) (fun c45 => ?_)
        · -- 45 jumps
          refine e_iconst (v := 0) dX0_joined_52 (by decide) ?_
          refine e_iret dX0_joined_53 rfl ?_
          subst hx
          exact ⟨by rw [show jnV (-6) l r = b2i (¬ l = 0 ∧ ¬ r = 0) from rfl]; rw [b2i_f (fun q => q.2 c45)], rfl⟩
        · -- 45 goes on
          refine e_iconst (v := 1) dX0_joined_48 (by decide) ?_
          refine e_goto (tgt := 53) dX0_joined_49 (by decide) ?_
          refine e_iret dX0_joined_53 rfl ?_
          subst hx
          exact ⟨by rw [show jnV (-6) l r = b2i (¬ l = 0 ∧ ¬ r = 0) from rfl]; rw [b2i_t ⟨c41, c45⟩], rfl⟩
    | jsw + 6, hosw, hx => exact absurd (Array.getElem?_eq_some_iff.mp hosw).1 (by show ¬ jsw + 6 < 6; omega)
  · obtain rfl : tsw = 98 := by omega
    refine e_iload_n dX0_joined_98 rfl ?_
    refine e_iload_n dX0_joined_99 rfl ?_
    refine e_imul dX0_joined_100 ?_
    refine e_iret dX0_joined_101 rfl ?_
    refine ⟨?_, rfl⟩
    have n1 : ∀ v : Int32, v.toInt < -11 ∨ -6 < v.toInt → ¬ v = -6 ∧ ¬ v = -7 ∧ ¬ v = -8 ∧ ¬ v = -9 ∧ ¬ v = -10 ∧ ¬ v = -11 := by
      intro v h
      refine ⟨?_, ?_, ?_, ?_, ?_, ?_⟩ <;> (rintro rfl; revert h; decide)
    obtain ⟨a1, a2, a3, a4, a5, a6⟩ := n1 _ hx
    simp [jnV, a1, a2, a3, a4, a5, a6]
/-- the stack, its top first, laid in a row -/
def stR (M : Mm) (a : Nat) : List Int32 → Prop
  | [] => True
  | v :: st => M.1 a st.length = v ∧ stR M a st
theorem stR_set {M : Mm} {a k : Nat} {v : Int32} : ∀ {st : List Int32}, stR M a st → st.length ≤ k → stR (setI M a k v) a st := by
  intro st
  induction st with
  | nil => intro _ _; trivial
  | cons u us ih =>
    intro h hk
    simp only [List.length_cons] at hk
    refine ⟨?_, ih h.2 (by omega)⟩
    rw [setI_1, if_neg (by omega)]
    exact h.1
def pstep (fc : Nat → Int32) (op : Int32) (st : List Int32) : Option (List Int32) :=
  if ¬ (-6 < op) then (match st with
    | r :: l :: st' => some (jnV op l r :: st')
    | _ => none)
  else if op = -5 then (match st with
    | v :: st' => some ((if v = 0 then 1 else 0) :: st')
    | _ => none)
  else if st.length < 25 then some ((if op < 0 then fc (-1 - op).toNatClampNeg else op) :: st) else none
def pst (c : Nat → Int32) (fc : Nat → Int32) : Nat → Option (List Int32)
  | 0 => some []
  | i + 1 => match pst c fc i with
    | some st => pstep fc (c i) st
    | none => none
def fc4 (a b c d : Int32) : Nat → Int32 := fun k => if k = 0 then a else if k = 1 then b else if k = 2 then c else d
/-- the law in a Law at w -/
def lawOK (M : Mm) (w : Nat) (E : Int32 → Int32 → Int32 → Int32 → Int32) : Prop := ∃ z, z ≤ 1000 ∧ 0 < z ∧ M.1 w 1 = nI z ∧ ∀ a b c d, pst (M.1 (w + 1)) (fc4 a b c d) z = some [E a b c d]
theorem pst_prev {c fc : Nat → Int32} {i j : Nat} (hij : i ≤ j) {st : List Int32} (h : pst c fc j = some st) : ∃ st', pst c fc i = some st' := by
  induction j generalizing st with
  | zero => obtain rfl : i = 0 := by omega
            exact ⟨_, h⟩
  | succ j ih =>
    by_cases e : i = j + 1
    · subst e; exact ⟨_, h⟩
    · cases hp : pst c fc j with
      | none => simp [pst, hp] at h
      | some s => exact ih (by omega) hp
theorem idx4 {op : Int32} (h1 : -6 < op) (h2 : ¬ op = -5) (h3 : op < 0) : ∃ q, q < 4 ∧ -1 - op = nI q := by
  have e1 : -6 < op.toInt := Int32.lt_iff_toInt_lt.mp h1
  have e3 : op.toInt < 0 := Int32.lt_iff_toInt_lt.mp h3
  have e2 : op.toInt ≠ -5 := fun e => h2 (Int32.toInt_inj.mp (by rw [e]; rfl))
  have e4 : op.toInt = -1 ∨ op.toInt = -2 ∨ op.toInt = -3 ∨ op.toInt = -4 := by omega
  rcases e4 with e | e | e | e
  · exact ⟨0, by decide, by rw [show op = -1 from Int32.toInt_inj.mp (by rw [e]; rfl)]; rfl⟩
  · exact ⟨1, by decide, by rw [show op = -2 from Int32.toInt_inj.mp (by rw [e]; rfl)]; rfl⟩
  · exact ⟨2, by decide, by rw [show op = -3 from Int32.toInt_inj.mp (by rw [e]; rfl)]; rfl⟩
  · exact ⟨3, by decide, by rw [show op = -4 from Int32.toInt_inj.mp (by rw [e]; rfl)]; rfl⟩
theorem nI_dec (a : Nat) : nI (a + 1) + Int32.ofInt (-1) = nI a := by
  have := pk_m1 a
  exact this
theorem nI_sub1 (a : Nat) : nI (a + 1) - 1 = nI a := by
  have h := pk_sub (a := a + 1) (b := 1) (by omega)
  exact h
set_option maxHeartbeats 4000000 in
set_option maxRecDepth 20000 in
theorem l_amount {G : Gt} {M : Mm} {w z : Nat} {fa fb fd fe x1 x2 x3 x4 : Int32} {E : Int32 → Int32 → Int32 → Int32 → Int32} (hw : w ∈ lwA) (hz : z ≤ 1000) (hs : M.1 w 1 = nI z) (hE : pst (M.1 (w + 1)) (fc4 fa fb fd fe) z = some [E fa fb fd fe]) : ∀ (k : Nat) (i : Nat) (st : List Int32) (Mc : Mm) (u7 : Value), (i ≤ z) → (z < i + k) → (st.length ≤ 25) → (pst (M.1 (w + 1)) (fc4 fa fb fd fe) i = some st) → (stR Mc (w + 3) st) → ((Mc.2 = M.2 ∧ (∀ q, ¬ q = w + 2 → ¬ q = w + 3 → Mc.1 q = M.1 q) ∧ (∀ q, q < 4 → Mc.1 (w + 2) q = fc4 fa fb fd fe q))) → Ev G 2 mX0_amount 43 [.ref w, .int x1, .int x2, .int x3, .int x4, .int (nI st.length), .int (nI i), u7] [] Mc (fun r M' => r = some (.int (E fa fb fd fe)) ∧ M'.2 = M.2 ∧ ∀ q, ¬ q = w + 2 → ¬ q = w + 3 → M'.1 q = M.1 q) := by
  intro k
  induction k with
  | zero => intro i st Mc u7 hi hk hl25 hp hr hv; exact absurd hk (by omega)
  | succ k ih =>
    intro i st Mc u7 hi hk hl25 hp hr hv
    refine e_iload dX0_amount_43 rfl ?_
    refine e_aload_n dX0_amount_45 rfl ?_
    refine e_getI dX0_amount_46 fl_X0_21 (sh_lw (by first | assumption | exact yd_lw (by assumption) | decide)) rfl ?_
    refine e_icmp_ge (tgt := 191) dX0_amount_49 (by decide) (fun c49 => ?_) (fun c49 => ?_)
    · -- 49 jumps
      rw [show Mc.1 w 1 = nI z from by rw [hv.2.1 w (by omega) (by omega)]; exact hs] at c49
      have hin : i = z := by have := ge_of (by omega) (by omega) c49; omega
      subst hin
      rw [hE] at hp
      cases hp
      refine e_aload_n dX0_amount_191 rfl ?_
      refine e_getR dX0_amount_192 fl_X0_18 (sh_lw (by first | assumption | exact yd_lw (by assumption) | decide)) rfl ?_
      refine e_iconst (v := 0) dX0_amount_195 (by decide) ?_
      refine cS2r dX0_amount_196 mo_X10_at ml_X0_29 (Nat.le_of_ble_eq_true rfl) (by omega) (c_atN (sa_lw_stack (by first | assumption | decide)) (by decide) (by first | omega | decide)) ?_
      refine e_iret dX0_amount_199 rfl ?_
      exact ⟨congrArg (fun v => some (Value.int v)) hr.1, hv.1, hv.2.1⟩
    · -- 49 goes on
      rw [show Mc.1 w 1 = nI z from by rw [hv.2.1 w (by omega) (by omega)]; exact hs] at c49
      have hlt : i < z := lt_of (by omega) (by omega) c49
      obtain ⟨stn, hstn⟩ := pst_prev (show i + 1 ≤ z by omega) hE
      simp only [pst, hp] at hstn
      unfold pstep at hstn
      refine e_aload_n dX0_amount_52 rfl ?_
      refine e_getR dX0_amount_53 fl_X0_9 (sh_lw (by first | assumption | exact yd_lw (by assumption) | decide)) rfl ?_
      refine e_iload dX0_amount_56 rfl ?_
      refine cS2r dX0_amount_58 mo_X10_at ml_X0_29 (Nat.le_of_ble_eq_true rfl) (by omega) (c_atN (sa_lw_code (by first | assumption | decide)) (by decide) (by omega)) ?_
      rw [show Mc.1 (w + 1) i = M.1 (w + 1) i from by rw [hv.2.1 (w + 1) (by omega) (by omega)]]
      refine e_istore (ls' := [_, _, _, _, _, _, _, _]) dX0_amount_61 (by decide) rfl ?_
      refine e_iload dX0_amount_63 rfl ?_
      refine e_bipush (v := (-6)) dX0_amount_65 (by decide) ?_
      refine e_icmp_gt (tgt := 112) dX0_amount_67 (by decide) (fun c67 => ?_) (fun c67 => ?_)
      · -- 67 jumps
        refine e_iload dX0_amount_112 rfl ?_
        refine e_bipush (v := (-5)) dX0_amount_114 (by decide) ?_
        refine e_icmp_ne (tgt := 152) dX0_amount_116 (by decide) (fun c116 => ?_) (fun c116 => ?_)
        · -- 116 jumps
          rw [if_neg (fun q => q c67), if_neg c116] at hstn
          have h25 : st.length < 25 := by
            by_cases h : st.length < 25
            · exact h
            · rw [if_neg h] at hstn; cases hstn
          refine e_aload_n dX0_amount_152 rfl ?_
          refine e_getR dX0_amount_153 fl_X0_18 (sh_lw (by first | assumption | exact yd_lw (by assumption) | decide)) rfl ?_
          refine e_iload dX0_amount_156 rfl ?_
          refine e_iload dX0_amount_158 rfl ?_
          refine e_if_lt (tgt := 168) dX0_amount_160 (by decide) (fun c160 => ?_) (fun c160 => ?_)
          · -- 160 jumps
            obtain ⟨q, hq4, hq⟩ := idx4 c67 c116 c160
            refine e_aload_n dX0_amount_168 rfl ?_
            refine e_getR dX0_amount_169 fl_X0_15 (sh_lw (by first | assumption | exact yd_lw (by assumption) | decide)) rfl ?_
            refine e_iconst (v := (-1)) dX0_amount_172 (by decide) ?_
            refine e_iload dX0_amount_173 rfl ?_
            refine e_isub dX0_amount_175 ?_
            rw [hq]
            refine cS2r dX0_amount_176 mo_X10_at ml_X0_29 (Nat.le_of_ble_eq_true rfl) (by omega) (c_atN (sa_lw_facts (by first | assumption | decide)) (by decide) (by first | omega | decide)) ?_
            refine cS3v dX0_amount_179 mo_X10_put ml_X0_25 (Nat.le_of_ble_eq_true rfl) (by omega) (c_putN (sa_lw_stack (by first | assumption | decide)) (by decide) (by first | omega | decide)) ?_
            refine e_iinc (ls' := [_, _, _, _, _, _, _, _]) dX0_amount_182 rfl (nI_i1 _) (by decide) rfl ?_
            refine e_iinc (ls' := [_, _, _, _, _, _, _, _]) dX0_amount_185 rfl (nI_i1 _) (by decide) rfl ?_
            refine e_goto (tgt := 43) dX0_amount_188 (by decide) ?_
            refine ih (i + 1) (fc4 fa fb fd fe (-1 - (M.1 (w + 1)) i).toNatClampNeg :: st) _ _ (by omega) (by omega) (by simp only [List.length_cons]; omega) ?_ ⟨?_, stR_set hr (Nat.le_refl _)⟩ ⟨by rw [setI_2]; exact hv.1, fun q q1 q2 => by rw [← hv.2.1 q q1 q2]; funext k2; rw [setI_1, if_neg (fun e => q2 e.1)], fun q q1 => by rw [setI_1, if_neg (by omega)]; exact hv.2.2 q q1⟩
            · simp only [pst, hp, pstep]; rw [if_neg (fun q => q c67), if_neg c116, if_pos h25, if_pos c160]
            · rw [setI_same, hq, nI_clamp (by omega)]; exact hv.2.2 _ hq4
          · -- 160 goes on
            refine e_iload dX0_amount_163 rfl ?_
            refine e_goto (tgt := 179) dX0_amount_165 (by decide) ?_
            refine cS3v dX0_amount_179 mo_X10_put ml_X0_25 (Nat.le_of_ble_eq_true rfl) (by omega) (c_putN (sa_lw_stack (by first | assumption | decide)) (by decide) (by first | omega | decide)) ?_
            refine e_iinc (ls' := [_, _, _, _, _, _, _, _]) dX0_amount_182 rfl (nI_i1 _) (by decide) rfl ?_
            refine e_iinc (ls' := [_, _, _, _, _, _, _, _]) dX0_amount_185 rfl (nI_i1 _) (by decide) rfl ?_
            refine e_goto (tgt := 43) dX0_amount_188 (by decide) ?_
            refine ih (i + 1) ((M.1 (w + 1)) i :: st) _ _ (by omega) (by omega) (by simp only [List.length_cons]; omega) ?_ ⟨?_, stR_set hr (Nat.le_refl _)⟩ ⟨by rw [setI_2]; exact hv.1, fun q q1 q2 => by rw [← hv.2.1 q q1 q2]; funext k2; rw [setI_1, if_neg (fun e => q2 e.1)], fun q q1 => by rw [setI_1, if_neg (by omega)]; exact hv.2.2 q q1⟩
            · simp only [pst, hp, pstep]; rw [if_neg (fun q => q c67), if_neg c116, if_pos h25, if_neg c160]
            · rw [setI_same]
        · -- 116 goes on
          rw [if_neg (fun q => q c67), if_pos c116] at hstn
          rcases st with _ | ⟨v, st⟩
          · cases hstn
          simp only [stR, List.length_cons] at hr hl25 ⊢
          refine e_aload_n dX0_amount_119 rfl ?_
          refine e_getR dX0_amount_120 fl_X0_18 (sh_lw (by first | assumption | exact yd_lw (by assumption) | decide)) rfl ?_
          refine e_iload dX0_amount_123 rfl ?_
          refine e_iconst (v := 1) dX0_amount_125 (by decide) ?_
          refine e_isub dX0_amount_126 ?_
          rw [nI_sub1]
          refine e_aload_n dX0_amount_127 rfl ?_
          refine e_getR dX0_amount_128 fl_X0_18 (sh_lw (by first | assumption | exact yd_lw (by assumption) | decide)) rfl ?_
          refine e_iload dX0_amount_131 rfl ?_
          refine e_iconst (v := 1) dX0_amount_133 (by decide) ?_
          refine e_isub dX0_amount_134 ?_
          rw [nI_sub1]
          refine cS2r dX0_amount_135 mo_X10_at ml_X0_29 (Nat.le_of_ble_eq_true rfl) (by omega) (c_atN (sa_lw_stack (by first | assumption | decide)) (by decide) (by first | omega | decide)) ?_
          refine e_if_ne (tgt := 145) dX0_amount_138 (by decide) (fun c138 => ?_) (fun c138 => ?_)
          · -- 138 jumps
            refine e_iconst (v := 0) dX0_amount_145 (by decide) ?_
            refine cS3v dX0_amount_146 mo_X10_put ml_X0_25 (Nat.le_of_ble_eq_true rfl) (by omega) (c_putN (sa_lw_stack (by first | assumption | decide)) (by decide) (by first | omega | decide)) ?_
            refine e_goto (tgt := 185) dX0_amount_149 (by decide) ?_
            refine e_iinc (ls' := [_, _, _, _, _, _, _, _]) dX0_amount_185 rfl (nI_i1 _) (by decide) rfl ?_
            refine e_goto (tgt := 43) dX0_amount_188 (by decide) ?_
            refine ih (i + 1) ((if v = 0 then 1 else 0) :: st) _ _ (by omega) (by omega) (by simp only [List.length_cons]; omega) ?_ ⟨?_, stR_set hr.2 (Nat.le_refl _)⟩ ⟨by rw [setI_2]; exact hv.1, fun q q1 q2 => by rw [← hv.2.1 q q1 q2]; funext k2; rw [setI_1, if_neg (fun e => q2 e.1)], fun q q1 => by rw [setI_1, if_neg (by omega)]; exact hv.2.2 q q1⟩
            · simp only [pst, hp, pstep]; rw [if_neg (fun q => q c67), if_pos c116]
            · rw [setI_same]; rw [hr.1] at c138; rw [if_neg c138]
          · -- 138 goes on
            refine e_iconst (v := 1) dX0_amount_141 (by decide) ?_
            refine e_goto (tgt := 146) dX0_amount_142 (by decide) ?_
            refine cS3v dX0_amount_146 mo_X10_put ml_X0_25 (Nat.le_of_ble_eq_true rfl) (by omega) (c_putN (sa_lw_stack (by first | assumption | decide)) (by decide) (by first | omega | decide)) ?_
            refine e_goto (tgt := 185) dX0_amount_149 (by decide) ?_
            refine e_iinc (ls' := [_, _, _, _, _, _, _, _]) dX0_amount_185 rfl (nI_i1 _) (by decide) rfl ?_
            refine e_goto (tgt := 43) dX0_amount_188 (by decide) ?_
            refine ih (i + 1) ((if v = 0 then 1 else 0) :: st) _ _ (by omega) (by omega) (by simp only [List.length_cons]; omega) ?_ ⟨?_, stR_set hr.2 (Nat.le_refl _)⟩ ⟨by rw [setI_2]; exact hv.1, fun q q1 q2 => by rw [← hv.2.1 q q1 q2]; funext k2; rw [setI_1, if_neg (fun e => q2 e.1)], fun q q1 => by rw [setI_1, if_neg (by omega)]; exact hv.2.2 q q1⟩
            · simp only [pst, hp, pstep]; rw [if_neg (fun q => q c67), if_pos c116]
            · rw [setI_same]; rw [hr.1] at c138; rw [if_pos c138]
      · -- 67 goes on
        rw [if_pos c67] at hstn
        rcases st with _ | ⟨r, st⟩
        · cases hstn
        rcases st with _ | ⟨l, st⟩
        · cases hstn
        simp only [stR, List.length_cons] at hr hl25 ⊢
        refine e_iinc (ls' := [_, _, _, _, _, _, _, _]) dX0_amount_70 rfl (nI_dec _) (by decide) rfl ?_
        refine e_aload_n dX0_amount_73 rfl ?_
        refine e_getR dX0_amount_74 fl_X0_18 (sh_lw (by first | assumption | exact yd_lw (by assumption) | decide)) rfl ?_
        refine e_iload dX0_amount_77 rfl ?_
        refine e_iconst (v := 1) dX0_amount_79 (by decide) ?_
        refine e_isub dX0_amount_80 ?_
        rw [nI_sub1]
        refine e_iload dX0_amount_81 rfl ?_
        refine e_aload_n dX0_amount_83 rfl ?_
        refine e_getR dX0_amount_84 fl_X0_18 (sh_lw (by first | assumption | exact yd_lw (by assumption) | decide)) rfl ?_
        refine e_iload dX0_amount_87 rfl ?_
        refine e_iconst (v := 1) dX0_amount_89 (by decide) ?_
        refine e_isub dX0_amount_90 ?_
        rw [nI_sub1]
        refine cS2r dX0_amount_91 mo_X10_at ml_X0_29 (Nat.le_of_ble_eq_true rfl) (by omega) (c_atN (sa_lw_stack (by first | assumption | decide)) (by decide) (by first | omega | decide)) ?_
        refine e_aload_n dX0_amount_94 rfl ?_
        refine e_getR dX0_amount_95 fl_X0_18 (sh_lw (by first | assumption | exact yd_lw (by assumption) | decide)) rfl ?_
        refine e_iload dX0_amount_98 rfl ?_
        refine cS2r dX0_amount_100 mo_X10_at ml_X0_29 (Nat.le_of_ble_eq_true rfl) (by omega) (c_atN (sa_lw_stack (by first | assumption | decide)) (by decide) (by first | omega | decide)) ?_
        refine cS3r dX0_amount_103 mo_X0_joined ml_X0_33 (Nat.le_of_ble_eq_true rfl) (by omega) (c_joined) ?_
        refine cS3v dX0_amount_106 mo_X10_put ml_X0_25 (Nat.le_of_ble_eq_true rfl) (by omega) (c_putN (sa_lw_stack (by first | assumption | decide)) (by decide) (by first | omega | decide)) ?_
        refine e_goto (tgt := 185) dX0_amount_109 (by decide) ?_
        refine e_iinc (ls' := [_, _, _, _, _, _, _, _]) dX0_amount_185 rfl (nI_i1 _) (by decide) rfl ?_
        refine e_goto (tgt := 43) dX0_amount_188 (by decide) ?_
        refine ih (i + 1) (jnV ((M.1 (w + 1)) i) l r :: st) _ _ (by omega) (by omega) (by simp only [List.length_cons]; omega) ?_ ⟨?_, stR_set hr.2.2 (Nat.le_refl _)⟩ ⟨by rw [setI_2]; exact hv.1, fun q q1 q2 => by rw [← hv.2.1 q q1 q2]; funext k2; rw [setI_1, if_neg (fun e => q2 e.1)], fun q q1 => by rw [setI_1, if_neg (by omega)]; exact hv.2.2 q q1⟩
        · simp only [pst, hp, pstep]; rw [if_pos c67]
        · rw [setI_same, hr.1, hr.2.1]
set_option maxHeartbeats 4000000 in
set_option maxRecDepth 20000 in
theorem c_amount {G : Gt} {M : Mm} {w : Nat} {fa fb fd fe : Int32} {E : Int32 → Int32 → Int32 → Int32 → Int32} (hw : w ∈ lwA) (hE : lawOK M w E) : Call G 2 mX0_amount [.ref w, .int fa, .int fb, .int fd, .int fe] M (fun r M' => r = some (.int (E fa fb fd fe)) ∧ M'.2 = M.2 ∧ ∀ q, ¬ q = w + 2 → ¬ q = w + 3 → M'.1 q = M.1 q) := by
  refine Call.intro rfl (Nat.le_of_ble_eq_true rfl) ?_
  show Ev G _ mX0_amount 0 [.ref w, .int fa, .int fb, .int fd, .int fe, RA, RA, RA] [] M _
  refine e_aload_n dX0_amount_0 rfl ?_
  refine e_getR dX0_amount_1 fl_X0_15 (sh_lw (by first | assumption | exact yd_lw (by assumption) | decide)) rfl ?_
  refine e_iconst (v := 0) dX0_amount_4 (by decide) ?_
  refine e_iload_n dX0_amount_5 rfl ?_
  refine cS3v dX0_amount_6 mo_X10_put ml_X0_25 (Nat.le_of_ble_eq_true rfl) (by omega) (c_putN (sa_lw_facts (by first | assumption | decide)) (by decide) (by first | omega | decide)) ?_
  refine e_aload_n dX0_amount_9 rfl ?_
  refine e_getR dX0_amount_10 fl_X0_15 (sh_lw (by first | assumption | exact yd_lw (by assumption) | decide)) rfl ?_
  refine e_iconst (v := 1) dX0_amount_13 (by decide) ?_
  refine e_iload_n dX0_amount_14 rfl ?_
  refine cS3v dX0_amount_15 mo_X10_put ml_X0_25 (Nat.le_of_ble_eq_true rfl) (by omega) (c_putN (sa_lw_facts (by first | assumption | decide)) (by decide) (by first | omega | decide)) ?_
  refine e_aload_n dX0_amount_18 rfl ?_
  refine e_getR dX0_amount_19 fl_X0_15 (sh_lw (by first | assumption | exact yd_lw (by assumption) | decide)) rfl ?_
  refine e_iconst (v := 2) dX0_amount_22 (by decide) ?_
  refine e_iload_n dX0_amount_23 rfl ?_
  refine cS3v dX0_amount_24 mo_X10_put ml_X0_25 (Nat.le_of_ble_eq_true rfl) (by omega) (c_putN (sa_lw_facts (by first | assumption | decide)) (by decide) (by first | omega | decide)) ?_
  refine e_aload_n dX0_amount_27 rfl ?_
  refine e_getR dX0_amount_28 fl_X0_15 (sh_lw (by first | assumption | exact yd_lw (by assumption) | decide)) rfl ?_
  refine e_iconst (v := 3) dX0_amount_31 (by decide) ?_
  refine e_iload dX0_amount_32 rfl ?_
  refine cS3v dX0_amount_34 mo_X10_put ml_X0_25 (Nat.le_of_ble_eq_true rfl) (by omega) (c_putN (sa_lw_facts (by first | assumption | decide)) (by decide) (by first | omega | decide)) ?_
  refine e_iconst (v := 0) dX0_amount_37 (by decide) ?_
  refine e_istore (ls' := [_, _, _, _, _, _, _, _]) dX0_amount_38 (by decide) rfl ?_
  refine e_iconst (v := 0) dX0_amount_40 (by decide) ?_
  refine e_istore (ls' := [_, _, _, _, _, _, _, _]) dX0_amount_41 (by decide) rfl ?_
  obtain ⟨z, hz, -, hs, hE⟩ := hE
  refine l_amount (M := M) hw hz hs (hE fa fb fd fe) (z + 1) 0 [] _ _ (Nat.zero_le _) (by omega) (Nat.zero_le _) rfl trivial ⟨rfl, fun q q1 q2 => ?_, fun q q1 => ?_⟩
  · funext k2; simp only [setI_1]; rw [if_neg (fun e => q1 e.1), if_neg (fun e => q1 e.1), if_neg (fun e => q1 e.1), if_neg (fun e => q1 e.1)]
  · obtain rfl | rfl | rfl | rfl : q = 0 ∨ q = 1 ∨ q = 2 ∨ q = 3 := by omega
    all_goals simp [setI_1, fc4]
end XLAW
