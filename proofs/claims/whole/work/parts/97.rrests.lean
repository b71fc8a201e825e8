section RRS
/-- what one gets by the other's silence or speech -/
def gtB (l s q m h : Int32) : Int32 := if m = 1 then (if h = 1 then -l else s) else if h = 1 then q else 0
theorem ar_gt {l s q : Int32} : ∀ k, k < 4 → (arB l s q k = 0 ↔ gtB l s q (nI (k / 2)) (nI (k % 2)) < gtB l s q (1 - nI (k / 2)) (nI (k % 2)) ∨ gtB l s q (nI (k % 2)) (nI (k / 2)) < gtB l s q (1 - nI (k % 2)) (nI (k / 2))) := by
  have key : ∀ a b : Nat, a < 2 → b < 2 → (kpB l s q (nI a) (nI b) = 0 ↔ gtB l s q (nI a) (nI b) < gtB l s q (1 - nI a) (nI b)) := by
    intro a b ha hb
    rcases (by omega : a = 0 ∨ a = 1) with rfl | rfl <;> rcases (by omega : b = 0 ∨ b = 1) with rfl | rfl
    · show b2i (¬ (0 : Int32) < s) = 0 ↔ (0 : Int32) < s
      exact b2i_eq0.trans Classical.not_not
    · show b2i (¬ q < -l) = 0 ↔ q < -l
      exact b2i_eq0.trans Classical.not_not
    · show b2i (¬ s < (0 : Int32)) = 0 ↔ s < (0 : Int32)
      exact b2i_eq0.trans Classical.not_not
    · show b2i (¬ -l < q) = 0 ↔ -l < q
      exact b2i_eq0.trans Classical.not_not
  intro k hk
  have h1 := key (k / 2) (k % 2) (by omega) (by omega)
  have h2 := key (k % 2) (k / 2) (by omega) (by omega)
  rw [← h1, ← h2]
  unfold arB
  by_cases a : kpB l s q (nI (k / 2)) (nI (k % 2)) = 0
  · rw [if_pos a]; exact ⟨fun _ => Or.inl a, fun _ => rfl⟩
  · rw [if_neg a]
    by_cases b : kpB l s q (nI (k % 2)) (nI (k / 2)) = 0
    · rw [if_pos b]; exact ⟨fun _ => Or.inr b, fun _ => rfl⟩
    · rw [if_neg b]; exact ⟨fun z => absurd z (by decide), fun z => z.elim (fun y => absurd y a) (fun y => absurd y b)⟩
theorem dv_4 : ∀ k, k < 4 → nI k / 2 = nI (k / 2) ∧ nI k - nI k / 2 * 2 = nI (k % 2) := by decide
/-- the rests, one after another -/
def rsF (l s q w : Int32) : Nat → Nat → Nat → Option Int32
  | 0, _, n => if w = -1 then some (nI n) else none
  | f + 1, k, n => if arB l s q k = 0 then rsF l s q w f (k + 1) n else if nI n = w then some (nI k) else rsF l s q w f (k + 1) (n + 1)
def restQ (l s q w : Int32) : Option Int32 := if vWi l 0 9 ∧ vWi s 0 9 ∧ vWi q 0 9 then rsF l s q w 4 0 0 else none
/-- the reference's answer, and whether it is thrown -/
def RTH (o : Option Int32) (r : Option Value) (M' : Mm) : Prop := (∀ v, o = some v → r = some (.int v) ∧ M'.1 238 0 = 0) ∧ (o = none → r = some (.int 0) ∧ M'.1 238 0 = 1)
theorem rs_low {l s q w : Int32} (hw : w < -1) : ∀ (f k n : Nat), n + f < 2 ^ 30 → rsF l s q w f k n = none := by
  have hw1 : ¬ w = -1 := fun z => by rw [z] at hw; exact absurd hw (by decide)
  intro f
  induction f with
  | zero => intro k n _; show (if w = -1 then some (nI n) else none) = none; rw [if_neg hw1]
  | succ f ih =>
    intro k n hn
    rw [rsF]
    split
    · exact ih _ _ (by omega)
    · have hne : ¬ nI n = w := fun z => by
        rw [← z] at hw
        have h0 : ¬ nI n < 0 := fun z => Nat.not_lt_zero n ((nI_ltI (a := n) (b := 0) (by omega) (by omega)).mp z)
        exact h0 (Int32.lt_trans hw (by decide))
      rw [if_neg hne]; exact ih _ _ (by omega)
set_option maxHeartbeats 500000 in
set_option maxRecDepth 20000 in
theorem r_getsBy {G : Gt} {M : Mm} {l s q m h : Int32} : Call G 1 mX11_getsBy [.int l, .int s, .int q, .int m, .int h] M (eqQ (some (.int (gtB l s q m h))) M) := by
  refine Call.intro rfl (Nat.le_of_ble_eq_true rfl) ?_
  show Ev G _ mX11_getsBy 0 [.int l, .int s, .int q, .int m, .int h] [] M _
  refine e_iload_n dX11_getsBy_0 rfl ?_
  refine e_iconst (v := 1) dX11_getsBy_1 (by decide) ?_
  refine e_icmp_ne (tgt := 20) dX11_getsBy_2 (by decide) (fun c2 => ?_) (fun c2 => ?_)
  · -- 2 jumps
    refine e_iload dX11_getsBy_20 rfl ?_
    refine e_iconst (v := 1) dX11_getsBy_22 (by decide) ?_
    refine e_icmp_ne (tgt := 30) dX11_getsBy_23 (by decide) (fun c23 => ?_) (fun c23 => ?_)
    · -- 23 jumps
      refine e_iconst (v := 0) dX11_getsBy_30 (by decide) ?_
      refine e_iret dX11_getsBy_31 rfl ?_
      exact ⟨by unfold gtB; rw [if_neg c2, if_neg c23], rfl⟩
    · -- 23 goes on
      refine e_iload_n dX11_getsBy_26 rfl ?_
      refine e_goto (tgt := 31) dX11_getsBy_27 (by decide) ?_
      refine e_iret dX11_getsBy_31 rfl ?_
      exact ⟨by unfold gtB; rw [if_neg c2, if_pos c23], rfl⟩
  · -- 2 goes on
    refine e_iload dX11_getsBy_5 rfl ?_
    refine e_iconst (v := 1) dX11_getsBy_7 (by decide) ?_
    refine e_icmp_ne (tgt := 16) dX11_getsBy_8 (by decide) (fun c8 => ?_) (fun c8 => ?_)
    · -- 8 jumps
      refine e_iload_n dX11_getsBy_16 rfl ?_
      refine e_goto (tgt := 31) dX11_getsBy_17 (by decide) ?_
      refine e_iret dX11_getsBy_31 rfl ?_
      exact ⟨by unfold gtB; rw [if_pos c2, if_neg c8], rfl⟩
    · -- 8 goes on
      refine e_iload_n dX11_getsBy_11 rfl ?_
      refine e_ineg dX11_getsBy_12 ?_
      refine e_goto (tgt := 31) dX11_getsBy_13 (by decide) ?_
      refine e_iret dX11_getsBy_31 rfl ?_
      exact ⟨by unfold gtB; rw [if_pos c2, if_pos c8], rfl⟩
set_option maxHeartbeats 500000 in
set_option maxRecDepth 20000 in
theorem l_rests {G : Gt} {M : Mm} {l s q w : Int32} : ∀ (k : Nat) (i : Nat) (n : Nat) (Mc : Mm) (u7 u8 : Value), (i ≤ 4) → (4 < i + k) → (n ≤ i) → (RC M Mc) → (Mc.1 238 0 = 0) → (rsF l s q w 4 0 0 = rsF l s q w (4 - i) i n) → Ev G 2 mX11_rests 61 [.ref 238, .int l, .int s, .int q, .int w, .int (nI n), .int (nI i), u7, u8] [] Mc (fun r M' => RC M M' ∧ RTH (rsF l s q w 4 0 0) r M') := by
  intro k
  induction k with
  | zero => intro i n Mc u7 u8 hi hk hn hC h0 hr; exact absurd hk (by omega)
  | succ k ih =>
    intro i n Mc u7 u8 hi hk hn hC h0 hr
    refine e_iload dX11_rests_61 rfl ?_
    refine e_iconst (v := 4) dX11_rests_63 (by decide) ?_
    refine e_icmp_ge (tgt := 151) dX11_rests_64 (by decide) (fun c64 => ?_) (fun c64 => ?_)
    · -- 64 jumps
      refine e_aload_n dX11_rests_151 rfl ?_
      refine e_iload dX11_rests_152 rfl ?_
      refine e_iconst (v := (-1)) dX11_rests_154 (by decide) ?_
      refine e_icmp_ne (tgt := 162) dX11_rests_155 (by decide) (fun c155 => ?_) (fun c155 => ?_)
      · -- 155 jumps
        refine e_iconst (v := 1) dX11_rests_162 (by decide) ?_
        refine e_putI dX11_rests_163 fl_X11_153 sh_m rfl rfl rfl ?_
        refine e_iload dX11_rests_166 rfl ?_
        refine e_iconst (v := (-1)) dX11_rests_168 (by decide) ?_
        refine e_icmp_ne (tgt := 177) dX11_rests_169 (by decide) (fun c169 => ?_) (fun c169 => absurd c169 (fun z => c155 z))
        refine e_iconst (v := 0) dX11_rests_177 (by decide) ?_
        refine e_iret dX11_rests_178 rfl ?_
        have hi4 : i = 4 := by have := ge_of (i := i) (n := 4) (by omega) (by omega) c64; omega
        subst hi4
        rw [hr, show 4 - 4 = 0 from rfl, rsF]
        rw [if_neg c155]
        exact ⟨hC.f (by omega), fun v z => absurd z (by simp), fun _ => ⟨rfl, by rw [setI_p]⟩⟩
      · -- 155 goes on
        refine e_iconst (v := 0) dX11_rests_158 (by decide) ?_
        refine e_goto (tgt := 163) dX11_rests_159 (by decide) ?_
        refine e_putI dX11_rests_163 fl_X11_153 sh_m rfl rfl rfl ?_
        refine e_iload dX11_rests_166 rfl ?_
        refine e_iconst (v := (-1)) dX11_rests_168 (by decide) ?_
        refine e_icmp_ne (tgt := 177) dX11_rests_169 (by decide) (fun c169 => absurd c169 (fun z => z c155)) (fun c169 => ?_)
        refine e_iload dX11_rests_172 rfl ?_
        refine e_goto (tgt := 178) dX11_rests_174 (by decide) ?_
        refine e_iret dX11_rests_178 rfl ?_
        have hi4 : i = 4 := by have := ge_of (i := i) (n := 4) (by omega) (by omega) c64; omega
        subst hi4
        rw [hr, show 4 - 4 = 0 from rfl, rsF]
        rw [if_pos c155]
        exact ⟨hC.f (by omega), fun v z => ⟨by rw [Option.some.inj z], by rw [setI_p]⟩, fun z => absurd z (by simp)⟩
    · -- 64 goes on
      have hlt : i < 4 := lt_of (i := i) (n := 4) (by omega) (by omega) c64
      refine e_iload dX11_rests_67 rfl ?_
      refine e_iconst (v := 2) dX11_rests_69 (by decide) ?_
      refine e_idiv dX11_rests_70 (by decide) ?_
      rw [(dv_4 i hlt).1]
      refine e_istore (ls' := [_, _, _, _, _, _, _, _, _]) dX11_rests_71 (by decide) rfl ?_
      refine e_iload dX11_rests_73 rfl ?_
      refine e_iconst (v := 2) dX11_rests_75 (by decide) ?_
      refine e_irem dX11_rests_76 (by decide) ?_
      rw [(dv_4 i hlt).2]
      refine e_istore (ls' := [_, _, _, _, _, _, _, _, _]) dX11_rests_77 (by decide) rfl ?_
      refine e_iload_n dX11_rests_79 rfl ?_
      refine e_iload_n dX11_rests_80 rfl ?_
      refine e_iload_n dX11_rests_81 rfl ?_
      refine e_iconst (v := 1) dX11_rests_82 (by decide) ?_
      refine e_iload dX11_rests_83 rfl ?_
      refine e_isub dX11_rests_85 ?_
      refine e_iload dX11_rests_86 rfl ?_
      refine cS5r dX11_rests_88 mo_X11_getsBy ml_X11_472 (Nat.le_of_ble_eq_true rfl) (by omega) (r_getsBy) ?_
      refine e_iload_n dX11_rests_91 rfl ?_
      refine e_iload_n dX11_rests_92 rfl ?_
      refine e_iload_n dX11_rests_93 rfl ?_
      refine e_iload dX11_rests_94 rfl ?_
      refine e_iload dX11_rests_96 rfl ?_
      refine cS5r dX11_rests_98 mo_X11_getsBy ml_X11_472 (Nat.le_of_ble_eq_true rfl) (by omega) (r_getsBy) ?_
      refine e_icmp_gt (tgt := 145) dX11_rests_101 (by decide) (fun c101 => ?_) (fun c101 => ?_)
      · -- 101 jumps
        refine e_iinc (ls' := [_, _, _, _, _, _, _, _, _]) dX11_rests_145 rfl (nI_i1 _) (by decide) rfl ?_
        refine e_goto (tgt := 61) dX11_rests_148 (by decide) ?_
        refine ih (i + 1) n Mc _ _ (by omega) (by omega) (by omega) hC h0 ?_
        rw [hr, show 4 - i = (3 - i) + 1 by omega, rsF, if_pos ((ar_gt i hlt).mpr (Or.inl c101)), show 4 - (i + 1) = 3 - i by omega]
      · -- 101 goes on
        refine e_iload_n dX11_rests_104 rfl ?_
        refine e_iload_n dX11_rests_105 rfl ?_
        refine e_iload_n dX11_rests_106 rfl ?_
        refine e_iconst (v := 1) dX11_rests_107 (by decide) ?_
        refine e_iload dX11_rests_108 rfl ?_
        refine e_isub dX11_rests_110 ?_
        refine e_iload dX11_rests_111 rfl ?_
        refine cS5r dX11_rests_113 mo_X11_getsBy ml_X11_472 (Nat.le_of_ble_eq_true rfl) (by omega) (r_getsBy) ?_
        refine e_iload_n dX11_rests_116 rfl ?_
        refine e_iload_n dX11_rests_117 rfl ?_
        refine e_iload_n dX11_rests_118 rfl ?_
        refine e_iload dX11_rests_119 rfl ?_
        refine e_iload dX11_rests_121 rfl ?_
        refine cS5r dX11_rests_123 mo_X11_getsBy ml_X11_472 (Nat.le_of_ble_eq_true rfl) (by omega) (r_getsBy) ?_
        refine e_icmp_le (tgt := 132) dX11_rests_126 (by decide) (fun c126 => ?_) (fun c126 => ?_)
        · -- 126 jumps
          refine e_iload dX11_rests_132 rfl ?_
          refine e_iload dX11_rests_134 rfl ?_
          refine e_icmp_ne (tgt := 142) dX11_rests_136 (by decide) (fun c136 => ?_) (fun c136 => ?_)
          · -- 136 jumps
            refine e_iinc (ls' := [_, _, _, _, _, _, _, _, _]) dX11_rests_142 rfl (nI_i1 _) (by decide) rfl ?_
            refine e_iinc (ls' := [_, _, _, _, _, _, _, _, _]) dX11_rests_145 rfl (nI_i1 _) (by decide) rfl ?_
            refine e_goto (tgt := 61) dX11_rests_148 (by decide) ?_
            refine ih (i + 1) (n + 1) Mc _ _ (by omega) (by omega) (by omega) hC h0 ?_
            rw [hr, show 4 - i = (3 - i) + 1 by omega, rsF, if_neg (fun z => by rcases (ar_gt i hlt).mp z with z | z; exact c101 z; exact c126 z), if_neg c136, show 4 - (i + 1) = 3 - i by omega]
          · -- 136 goes on
            refine e_iload dX11_rests_139 rfl ?_
            refine e_iret dX11_rests_141 rfl ?_
            have hv : rsF l s q w 4 0 0 = some (nI i) := by rw [hr, show 4 - i = (3 - i) + 1 by omega, rsF, if_neg (fun z => by rcases (ar_gt i hlt).mp z with z | z; exact c101 z; exact c126 z), if_pos c136]
            rw [hv]
            exact ⟨hC, fun v z => ⟨by rw [Option.some.inj z], h0⟩, fun z => absurd z (by simp)⟩
        · -- 126 goes on
          refine e_goto (tgt := 145) dX11_rests_129 (by decide) ?_
          refine e_iinc (ls' := [_, _, _, _, _, _, _, _, _]) dX11_rests_145 rfl (nI_i1 _) (by decide) rfl ?_
          refine e_goto (tgt := 61) dX11_rests_148 (by decide) ?_
          refine ih (i + 1) n Mc _ _ (by omega) (by omega) (by omega) hC h0 ?_
          rw [hr, show 4 - i = (3 - i) + 1 by omega, rsF, if_pos ((ar_gt i hlt).mpr (Or.inr c126)), show 4 - (i + 1) = 3 - i by omega]
set_option maxHeartbeats 500000 in
set_option maxRecDepth 20000 in
theorem r_rests {G : Gt} {M : Mm} {l s q w : Int32} : Call G 2 mX11_rests [.ref 238, .int l, .int s, .int q, .int w] M (fun r M' => RC M M' ∧ RTH (restQ l s q w) r M') := by
  refine Call.intro rfl (Nat.le_of_ble_eq_true rfl) ?_
  show Ev G _ mX11_rests 0 [.ref 238, .int l, .int s, .int q, .int w, RA, RA, RA, RA] [] M _
  refine e_aload_n dX11_rests_0 rfl ?_
  refine e_iload_n dX11_rests_1 rfl ?_
  refine e_iconst (v := 0) dX11_rests_2 (by decide) ?_
  refine e_bipush (v := 9) dX11_rests_3 (by decide) ?_
  refine cS3r dX11_rests_5 mo_X11_within ml_X11_274 (Nat.le_of_ble_eq_true rfl) (by omega) (r_within) ?_
  refine e_if_eq (tgt := 41) dX11_rests_8 (by decide) (fun c8 => ?_) (fun c8 => ?_)
  · -- 8 jumps
    refine e_iconst (v := 1) dX11_rests_41 (by decide) ?_
    refine e_putI dX11_rests_42 fl_X11_153 sh_m rfl rfl rfl ?_
    refine e_aload_n dX11_rests_45 rfl ?_
    refine e_getI dX11_rests_46 fl_X11_153 sh_m rfl ?_
    rw [setI_p]
    refine e_iconst (v := 1) dX11_rests_49 (by decide) ?_
    refine e_icmp_ne (tgt := 55) dX11_rests_50 (by decide) (fun c50 => absurd c50 (by decide)) (fun c50 => ?_)
    refine e_iconst (v := 0) dX11_rests_53 (by decide) ?_
    refine e_iret dX11_rests_54 rfl ?_
    have hbad : vWi l 0 9 ∧ vWi s 0 9 ∧ vWi q 0 9 → w < -1 := fun z => absurd z.1 (b2i_eq0.mp c8)
    have hn : restQ l s q w = none := by
      unfold restQ
      by_cases hv : vWi l 0 9 ∧ vWi s 0 9 ∧ vWi q 0 9
      · rw [if_pos hv]; exact rs_low (hbad hv) 4 0 0 (by omega)
      · rw [if_neg hv]
    rw [hn]
    exact ⟨RC.rfl'.f (by omega), fun v z => absurd z (by simp), fun _ => ⟨rfl, by rw [setI_p]⟩⟩
  · -- 8 goes on
    refine e_iload_n dX11_rests_11 rfl ?_
    refine e_iconst (v := 0) dX11_rests_12 (by decide) ?_
    refine e_bipush (v := 9) dX11_rests_13 (by decide) ?_
    refine cS3r dX11_rests_15 mo_X11_within ml_X11_274 (Nat.le_of_ble_eq_true rfl) (by omega) (r_within) ?_
    refine e_if_eq (tgt := 41) dX11_rests_18 (by decide) (fun c18 => ?_) (fun c18 => ?_)
    · -- 18 jumps
      refine e_iconst (v := 1) dX11_rests_41 (by decide) ?_
      refine e_putI dX11_rests_42 fl_X11_153 sh_m rfl rfl rfl ?_
      refine e_aload_n dX11_rests_45 rfl ?_
      refine e_getI dX11_rests_46 fl_X11_153 sh_m rfl ?_
      rw [setI_p]
      refine e_iconst (v := 1) dX11_rests_49 (by decide) ?_
      refine e_icmp_ne (tgt := 55) dX11_rests_50 (by decide) (fun c50 => absurd c50 (by decide)) (fun c50 => ?_)
      refine e_iconst (v := 0) dX11_rests_53 (by decide) ?_
      refine e_iret dX11_rests_54 rfl ?_
      have hbad : vWi l 0 9 ∧ vWi s 0 9 ∧ vWi q 0 9 → w < -1 := fun z => absurd z.2.1 (b2i_eq0.mp c18)
      have hn : restQ l s q w = none := by
        unfold restQ
        by_cases hv : vWi l 0 9 ∧ vWi s 0 9 ∧ vWi q 0 9
        · rw [if_pos hv]; exact rs_low (hbad hv) 4 0 0 (by omega)
        · rw [if_neg hv]
      rw [hn]
      exact ⟨RC.rfl'.f (by omega), fun v z => absurd z (by simp), fun _ => ⟨rfl, by rw [setI_p]⟩⟩
    · -- 18 goes on
      refine e_iload_n dX11_rests_21 rfl ?_
      refine e_iconst (v := 0) dX11_rests_22 (by decide) ?_
      refine e_bipush (v := 9) dX11_rests_23 (by decide) ?_
      refine cS3r dX11_rests_25 mo_X11_within ml_X11_274 (Nat.le_of_ble_eq_true rfl) (by omega) (r_within) ?_
      refine e_if_eq (tgt := 41) dX11_rests_28 (by decide) (fun c28 => ?_) (fun c28 => ?_)
      · -- 28 jumps
        refine e_iconst (v := 1) dX11_rests_41 (by decide) ?_
        refine e_putI dX11_rests_42 fl_X11_153 sh_m rfl rfl rfl ?_
        refine e_aload_n dX11_rests_45 rfl ?_
        refine e_getI dX11_rests_46 fl_X11_153 sh_m rfl ?_
        rw [setI_p]
        refine e_iconst (v := 1) dX11_rests_49 (by decide) ?_
        refine e_icmp_ne (tgt := 55) dX11_rests_50 (by decide) (fun c50 => absurd c50 (by decide)) (fun c50 => ?_)
        refine e_iconst (v := 0) dX11_rests_53 (by decide) ?_
        refine e_iret dX11_rests_54 rfl ?_
        have hbad : vWi l 0 9 ∧ vWi s 0 9 ∧ vWi q 0 9 → w < -1 := fun z => absurd z.2.2 (b2i_eq0.mp c28)
        have hn : restQ l s q w = none := by
          unfold restQ
          by_cases hv : vWi l 0 9 ∧ vWi s 0 9 ∧ vWi q 0 9
          · rw [if_pos hv]; exact rs_low (hbad hv) 4 0 0 (by omega)
          · rw [if_neg hv]
        rw [hn]
        exact ⟨RC.rfl'.f (by omega), fun v z => absurd z (by simp), fun _ => ⟨rfl, by rw [setI_p]⟩⟩
      · -- 28 goes on
        refine e_iload dX11_rests_31 rfl ?_
        refine e_iconst (v := (-1)) dX11_rests_33 (by decide) ?_
        refine e_icmp_lt (tgt := 41) dX11_rests_34 (by decide) (fun c34 => ?_) (fun c34 => ?_)
        · -- 34 jumps
          refine e_iconst (v := 1) dX11_rests_41 (by decide) ?_
          refine e_putI dX11_rests_42 fl_X11_153 sh_m rfl rfl rfl ?_
          refine e_aload_n dX11_rests_45 rfl ?_
          refine e_getI dX11_rests_46 fl_X11_153 sh_m rfl ?_
          rw [setI_p]
          refine e_iconst (v := 1) dX11_rests_49 (by decide) ?_
          refine e_icmp_ne (tgt := 55) dX11_rests_50 (by decide) (fun c50 => absurd c50 (by decide)) (fun c50 => ?_)
          refine e_iconst (v := 0) dX11_rests_53 (by decide) ?_
          refine e_iret dX11_rests_54 rfl ?_
          have hbad : vWi l 0 9 ∧ vWi s 0 9 ∧ vWi q 0 9 → w < -1 := fun _ => c34
          have hn : restQ l s q w = none := by
            unfold restQ
            by_cases hv : vWi l 0 9 ∧ vWi s 0 9 ∧ vWi q 0 9
            · rw [if_pos hv]; exact rs_low (hbad hv) 4 0 0 (by omega)
            · rw [if_neg hv]
          rw [hn]
          exact ⟨RC.rfl'.f (by omega), fun v z => absurd z (by simp), fun _ => ⟨rfl, by rw [setI_p]⟩⟩
        · -- 34 goes on
          refine e_iconst (v := 0) dX11_rests_37 (by decide) ?_
          refine e_goto (tgt := 42) dX11_rests_38 (by decide) ?_
          refine e_putI dX11_rests_42 fl_X11_153 sh_m rfl rfl rfl ?_
          refine e_aload_n dX11_rests_45 rfl ?_
          refine e_getI dX11_rests_46 fl_X11_153 sh_m rfl ?_
          rw [setI_p]
          refine e_iconst (v := 1) dX11_rests_49 (by decide) ?_
          refine e_icmp_ne (tgt := 55) dX11_rests_50 (by decide) (fun c50 => ?_) (fun c50 => absurd c50 (by decide))
          refine e_iconst (v := 0) dX11_rests_55 (by decide) ?_
          refine e_istore (ls' := [_, _, _, _, _, _, _, _, _]) dX11_rests_56 (by decide) rfl ?_
          refine e_iconst (v := 0) dX11_rests_58 (by decide) ?_
          refine e_istore (ls' := [_, _, _, _, _, _, _, _, _]) dX11_rests_59 (by decide) rfl ?_
          have hv : vWi l 0 9 ∧ vWi s 0 9 ∧ vWi q 0 9 := ⟨Classical.not_not.mp (fun z => c8 (b2i_f z)), Classical.not_not.mp (fun z => c18 (b2i_f z)), Classical.not_not.mp (fun z => c28 (b2i_f z))⟩
          have e : restQ l s q w = rsF l s q w 4 0 0 := if_pos hv
          rw [e]
          exact (l_rests (M := setI M 238 0 0) 5 0 0 _ _ _ (by decide) (by decide) (by decide) RC.rfl' (by rw [setI_p]) rfl).weaken (fun r M9 hh => ⟨(RC.rfl'.f (by omega)).trans hh.1, hh.2⟩)
end RRS
