section RTK
/-- the reference's tape at work -/
def TZ (M : Mm) (t : Tv) : Prop := M.1 238 3 = nI t.1 ∧ t.1 ≤ 1000 ∧ ∀ k, k < t.1 → M.1 239 k = t.2 k
/-- what a token touches -/
def NF (M M' : Mm) : Prop := (∀ i, ¬ i = 238 → M'.1 i = M.1 i) ∧ (∀ i, ¬ i = 238 → M'.2.1 i = M.2.1 i) ∧ M'.2.2 = M.2.2 ∧ (∀ k, ¬ (k = 4 ∨ k = 5 ∨ k = 6 ∨ k = 8) → M'.1 238 k = M.1 238 k) ∧ ∀ k, ¬ k = 7 → M'.2.1 238 k = M.2.1 238 k
theorem NF.rfl' {M : Mm} : NF M M := ⟨fun _ _ => rfl, fun _ _ => rfl, rfl, fun _ _ => rfl, fun _ _ => rfl⟩
theorem NF.trans {A B C : Mm} (h : NF A B) (k : NF B C) : NF A C := ⟨fun i q => (k.1 i q).trans (h.1 i q), fun i q => (k.2.1 i q).trans (h.2.1 i q), k.2.2.1.trans h.2.2.1, fun i q => (k.2.2.2.1 i q).trans (h.2.2.2.1 i q), fun i q => (k.2.2.2.2 i q).trans (h.2.2.2.2 i q)⟩
theorem NF.i {M Mc : Mm} (h : NF M Mc) {k : Nat} {v : Int32} (hk : k = 4 ∨ k = 5 ∨ k = 6 ∨ k = 8) : NF M (setI Mc 238 k v) := ⟨fun i q => by rw [← h.1 i q]; funext z; rw [setI_n q], h.2.1, h.2.2.1, fun z q => by rw [setI_1, if_neg (fun x => q (by rw [x.2]; exact hk))]; exact h.2.2.2.1 z q, h.2.2.2.2⟩
theorem NF.l {M Mc : Mm} (h : NF M Mc) {v : Int64} : NF M (setL Mc 238 7 v) := ⟨h.1, fun i q => by rw [← h.2.1 i q]; funext z; rw [setL_21, if_neg (fun x => q x.1)], h.2.2.1, h.2.2.2.1, fun z q => by rw [setL_21, if_neg (fun x => q x.2)]; exact h.2.2.2.2 z q⟩
theorem NF.tz {M M' : Mm} {t : Tv} (h : NF M M') (hT : TZ M t) : TZ M' t := ⟨(h.2.2.2.1 3 (by omega)).trans hT.1, hT.2.1, fun k hk => by rw [h.1 239 (by decide)]; exact hT.2.2 k hk⟩
/-- the reference's kinds of tokens -/
def kR (k : Int32) : Int32 := if k = 0 then 0 else if k = 2 then 1 else if k = 3 then 2 else if k = 4 then 3 else 4
/-- the token at p -/
def TQ (M : Mm) (t : Tv) (p : Nat) : Prop := M.1 238 4 = nI (enP t p) ∧ M.1 238 5 = nI p ∧ M.1 238 6 = kR (kdP t p) ∧ (kdP t p = 2 → M.2.1 238 7 = wdP t p) ∧ (kdP t p = 3 → M.1 238 8 = nmP t p)
theorem sub96 (x : Int64) : x - 97 + 1 = x - 96 := by
  rw [Int64.sub_eq_add_neg, Int64.sub_eq_add_neg, Int64.add_assoc]; rfl
theorem sgm127 : ∀ m, m < 127 → ((¬ nI m < 40 ∧ ¬ 43 < nI m) ∨ nI m = 45 ∨ (¬ nI m < 59 ∧ ¬ 61 < nI m) ↔ nI m ∈ sgL) := by decide +kernel
theorem acW_s {t : Tv} {p k : Nat} : acW t p (k + 1) = acW t p k * 27 + (t.2 (p + k)).toInt64 - 96 := by
  rw [acW, sub96]
set_option maxHeartbeats 4000000 in
set_option maxRecDepth 20000 in
theorem r_signAt {G : Gt} {M : Mm} {t : Tv} {j : Nat} (hT : TZ M t) (hj : j ≤ t.1) : Call G 1 mX11_signAt [.ref 238, .int (nI j)] M (eqQ (some (.int (if j < t.1 then t.2 j else 0))) M) := by
  have ht := hT.2.1
  refine Call.intro rfl (Nat.le_of_ble_eq_true rfl) ?_
  show Ev G _ mX11_signAt 0 [.ref 238, .int (nI j)] [] M _
  refine e_iload_n dX11_signAt_0 rfl ?_
  refine e_aload_n dX11_signAt_1 rfl ?_
  refine e_getI dX11_signAt_2 fl_X11_162 sh_m rfl ?_
  rw [hT.1]
  refine e_icmp_ge (tgt := 17) dX11_signAt_5 (by decide) (fun c5 => ?_) (fun c5 => ?_)
  · -- 5 jumps
    have hge := ge_of (by omega) (by omega) c5
    refine e_iconst (v := 0) dX11_signAt_17 (by decide) ?_
    refine e_iret dX11_signAt_18 rfl ?_
    exact ⟨by rw [if_neg (by omega)], rfl⟩
  · -- 5 goes on
    have hlt : j < t.1 := lt_of (by omega) (by omega) c5
    refine e_aload_n dX11_signAt_8 rfl ?_
    refine e_getR dX11_signAt_9 fl_X11_7 sh_m rfl ?_
    refine e_iload_n dX11_signAt_12 rfl ?_
    refine e_ialdN (j := j) dX11_signAt_13 (sa_m_tape) (by decide) (by omega) ?_
    rw [hT.2.2 j hlt]
    refine e_goto (tgt := 18) dX11_signAt_14 (by decide) ?_
    refine e_iret dX11_signAt_18 rfl ?_
    exact ⟨by rw [if_pos hlt], rfl⟩
set_option maxHeartbeats 4000000 in
set_option maxRecDepth 20000 in
theorem l_tword {G : Gt} {M : Mm} {t : Tv} {p : Nat} {s : Int32} (hT : TZ M t) : ∀ (k : Nat) (j : Nat) (Mc : Mm), (p ≤ j ∧ j ≤ t.1) → (t.1 < j + k) → (NF M Mc) → (Mc.1 238 4 = nI j) → (Mc.1 238 5 = nI p) → (rn 97 122 t p = rn 97 122 t j) → (Mc.2.1 238 7 = acW t p (min (j - p) 8)) → Ev G 2 mX11_nextToken 109 [.ref 238, .int s] [] Mc (fun r M' => r = none ∧ NF M M' ∧ M'.1 238 4 = nI (rn 97 122 t p) ∧ M'.1 238 5 = nI p ∧ M'.1 238 6 = (if 8 < rn 97 122 t p - p then 4 else 1) ∧ (¬ 8 < rn 97 122 t p - p → M'.2.1 238 7 = wdP t p)) := by
  intro k
  induction k with
  | zero => intro j Mc hp hk hF h4 h5 hr hw; exact absurd hk (by omega)
  | succ k ih =>
    intro j Mc hp hk hF h4 h5 hr hw
    have hTc := hF.tz hT
    have ht := hT.2.1
    refine e_aload_n dX11_nextToken_109 rfl ?_
    refine e_aload_n dX11_nextToken_110 rfl ?_
    refine e_getI dX11_nextToken_111 fl_X11_165 sh_m rfl ?_
    rw [h4]
    refine cV1r dX11_nextToken_114 mo_X11_signAt ml_X11_181 sh_m rfl (Nat.le_of_ble_eq_true rfl) (by omega) (r_signAt hTc hp.2) ?_
    refine e_bipush (v := 97) dX11_nextToken_117 (by decide) ?_
    refine e_icmp_lt (tgt := 188) dX11_nextToken_119 (by decide) (fun c119 => ?_) (fun c119 => ?_)
    · -- 119 jumps
      refine e_aload_n dX11_nextToken_188 rfl ?_
      refine e_aload_n dX11_nextToken_189 rfl ?_
      refine e_getI dX11_nextToken_190 fl_X11_165 sh_m rfl ?_
      rw [h4]
      refine e_aload_n dX11_nextToken_193 rfl ?_
      refine e_getI dX11_nextToken_194 fl_X11_168 sh_m rfl ?_
      rw [h5]
      refine e_isub dX11_nextToken_197 ?_
      rw [nI_subN hp.1]
      refine e_bipush (v := 8) dX11_nextToken_198 (by decide) ?_
      refine e_icmp_le (tgt := 207) dX11_nextToken_200 (by decide) (fun c200 => ?_) (fun c200 => ?_)
      · -- 200 jumps
        refine e_iconst (v := 1) dX11_nextToken_207 (by decide) ?_
        refine e_putI dX11_nextToken_208 fl_X11_178 sh_m rfl rfl rfl ?_
        refine e_vret dX11_nextToken_211 rfl ?_
        have he : rn 97 122 t j = j := by
          by_cases q : j < t.1
          · exact rn_e q (fun z => by rw [if_pos q] at c119; exact z.1 c119)
          · exact rn_n (by omega)
        rw [he] at hr
        have hn8 : ¬ 8 < j - p := fun q => c200 ((nI_ltI (a := 8) (by omega) (by omega)).mpr q)
        refine ⟨rfl, hF.i (by omega), by rw [hr, setI_1, if_neg (by omega)]; exact h4, by rw [setI_1, if_neg (by omega)]; exact h5, by rw [hr, setI_p, if_neg hn8], ?_⟩
        rw [hr]
        exact (fun _ => by rw [show (setI Mc 238 6 _).2.1 238 7 = Mc.2.1 238 7 from rfl, hw, show min (j - p) 8 = j - p by omega]; unfold wdP; rw [hr])
      · -- 200 goes on
        refine e_iconst (v := 4) dX11_nextToken_203 (by decide) ?_
        refine e_goto (tgt := 208) dX11_nextToken_204 (by decide) ?_
        refine e_putI dX11_nextToken_208 fl_X11_178 sh_m rfl rfl rfl ?_
        refine e_vret dX11_nextToken_211 rfl ?_
        have he : rn 97 122 t j = j := by
          by_cases q : j < t.1
          · exact rn_e q (fun z => by rw [if_pos q] at c119; exact z.1 c119)
          · exact rn_n (by omega)
        rw [he] at hr
        have hn8 : 8 < j - p := (nI_ltI (a := 8) (by omega) (by omega)).mp c200
        refine ⟨rfl, hF.i (by omega), by rw [hr, setI_1, if_neg (by omega)]; exact h4, by rw [setI_1, if_neg (by omega)]; exact h5, by rw [hr, setI_p, if_pos hn8], ?_⟩
        rw [hr]
        exact (fun q => absurd hn8 q)
    · -- 119 goes on
      refine e_aload_n dX11_nextToken_122 rfl ?_
      refine e_aload_n dX11_nextToken_123 rfl ?_
      refine e_getI dX11_nextToken_124 fl_X11_165 sh_m rfl ?_
      rw [h4]
      refine cV1r dX11_nextToken_127 mo_X11_signAt ml_X11_181 sh_m rfl (Nat.le_of_ble_eq_true rfl) (by omega) (r_signAt hTc hp.2) ?_
      refine e_bipush (v := 122) dX11_nextToken_130 (by decide) ?_
      refine e_icmp_gt (tgt := 188) dX11_nextToken_132 (by decide) (fun c132 => ?_) (fun c132 => ?_)
      · -- 132 jumps
        refine e_aload_n dX11_nextToken_188 rfl ?_
        refine e_aload_n dX11_nextToken_189 rfl ?_
        refine e_getI dX11_nextToken_190 fl_X11_165 sh_m rfl ?_
        rw [h4]
        refine e_aload_n dX11_nextToken_193 rfl ?_
        refine e_getI dX11_nextToken_194 fl_X11_168 sh_m rfl ?_
        rw [h5]
        refine e_isub dX11_nextToken_197 ?_
        rw [nI_subN hp.1]
        refine e_bipush (v := 8) dX11_nextToken_198 (by decide) ?_
        refine e_icmp_le (tgt := 207) dX11_nextToken_200 (by decide) (fun c200 => ?_) (fun c200 => ?_)
        · -- 200 jumps
          refine e_iconst (v := 1) dX11_nextToken_207 (by decide) ?_
          refine e_putI dX11_nextToken_208 fl_X11_178 sh_m rfl rfl rfl ?_
          refine e_vret dX11_nextToken_211 rfl ?_
          have he : rn 97 122 t j = j := by
            by_cases q : j < t.1
            · exact rn_e q (fun z => by rw [if_pos q] at c132; exact z.2 c132)
            · exact rn_n (by omega)
          rw [he] at hr
          have hn8 : ¬ 8 < j - p := fun q => c200 ((nI_ltI (a := 8) (by omega) (by omega)).mpr q)
          refine ⟨rfl, hF.i (by omega), by rw [hr, setI_1, if_neg (by omega)]; exact h4, by rw [setI_1, if_neg (by omega)]; exact h5, by rw [hr, setI_p, if_neg hn8], ?_⟩
          rw [hr]
          exact (fun _ => by rw [show (setI Mc 238 6 _).2.1 238 7 = Mc.2.1 238 7 from rfl, hw, show min (j - p) 8 = j - p by omega]; unfold wdP; rw [hr])
        · -- 200 goes on
          refine e_iconst (v := 4) dX11_nextToken_203 (by decide) ?_
          refine e_goto (tgt := 208) dX11_nextToken_204 (by decide) ?_
          refine e_putI dX11_nextToken_208 fl_X11_178 sh_m rfl rfl rfl ?_
          refine e_vret dX11_nextToken_211 rfl ?_
          have he : rn 97 122 t j = j := by
            by_cases q : j < t.1
            · exact rn_e q (fun z => by rw [if_pos q] at c132; exact z.2 c132)
            · exact rn_n (by omega)
          rw [he] at hr
          have hn8 : 8 < j - p := (nI_ltI (a := 8) (by omega) (by omega)).mp c200
          refine ⟨rfl, hF.i (by omega), by rw [hr, setI_1, if_neg (by omega)]; exact h4, by rw [setI_1, if_neg (by omega)]; exact h5, by rw [hr, setI_p, if_pos hn8], ?_⟩
          rw [hr]
          exact (fun q => absurd hn8 q)
      · -- 132 goes on
        refine e_aload_n dX11_nextToken_135 rfl ?_
        refine e_getI dX11_nextToken_136 fl_X11_165 sh_m rfl ?_
        rw [h4]
        refine e_aload_n dX11_nextToken_139 rfl ?_
        refine e_getI dX11_nextToken_140 fl_X11_168 sh_m rfl ?_
        rw [h5]
        refine e_isub dX11_nextToken_143 ?_
        rw [nI_subN hp.1]
        refine e_bipush (v := 8) dX11_nextToken_144 (by decide) ?_
        refine e_icmp_ge (tgt := 175) dX11_nextToken_146 (by decide) (fun c146 => ?_) (fun c146 => ?_)
        · -- 146 jumps
          have h8 : 8 ≤ j - p := ge_of (i := j - p) (n := 8) (by omega) (by omega) c146
          refine e_aload_n dX11_nextToken_175 rfl ?_
          refine e_dup dX11_nextToken_176 rfl ?_
          refine e_getI dX11_nextToken_177 fl_X11_165 sh_m rfl ?_
          first | rw [h4] | rw [show (setL Mc 238 7 _).1 = Mc.1 from rfl, h4]
          refine e_iconst (v := 1) dX11_nextToken_180 (by decide) ?_
          refine e_iaddN (a := j) (b := 1) dX11_nextToken_181 ?_
          refine e_putI dX11_nextToken_182 fl_X11_165 sh_m rfl rfl rfl ?_
          refine e_goto (tgt := 109) dX11_nextToken_185 (by decide) ?_
          have hlt : j < t.1 := by
            by_cases q : j < t.1
            · exact q
            · rw [if_neg q] at c119; exact absurd (by decide : (0 : Int32) < 97) c119
          have hb : vWi (t.2 j) 97 122 := by rw [if_pos hlt] at c119 c132; exact ⟨c119, c132⟩
          have hr2 := hr.trans (rn_s hlt hb)
          exact ih (j + 1) _ (by omega) (by omega) (hF.i (by omega)) (by rw [setI_p]) (by rw [setI_1, if_neg (by omega)]; exact h5) hr2 (by rw [show min (j + 1 - p) 8 = min (j - p) 8 by omega]; exact hw)
        · -- 146 goes on
          have h8 : j - p < 8 := lt_of (i := j - p) (n := 8) (by omega) (by omega) c146
          refine e_aload_n dX11_nextToken_149 rfl ?_
          refine e_aload_n dX11_nextToken_150 rfl ?_
          refine e_getL dX11_nextToken_151 fl_X11_171 sh_m rfl ?_
          refine e_ldc2 dX11_nextToken_154 kl_X11_185 ?_
          refine e_lmul dX11_nextToken_157 ?_
          refine e_aload_n dX11_nextToken_158 rfl ?_
          refine e_aload_n dX11_nextToken_159 rfl ?_
          refine e_getI dX11_nextToken_160 fl_X11_165 sh_m rfl ?_
          rw [h4]
          refine cV1r dX11_nextToken_163 mo_X11_signAt ml_X11_181 sh_m rfl (Nat.le_of_ble_eq_true rfl) (by omega) (r_signAt hTc hp.2) ?_
          refine e_i2l dX11_nextToken_166 ?_
          refine e_ladd dX11_nextToken_167 ?_
          refine e_ldc2 dX11_nextToken_168 kl_X11_187 ?_
          refine e_lsub dX11_nextToken_171 ?_
          refine e_putL dX11_nextToken_172 fl_X11_171 sh_m rfl rfl rfl ?_
          refine e_aload_n dX11_nextToken_175 rfl ?_
          refine e_dup dX11_nextToken_176 rfl ?_
          refine e_getI dX11_nextToken_177 fl_X11_165 sh_m rfl ?_
          first | rw [h4] | rw [show (setL Mc 238 7 _).1 = Mc.1 from rfl, h4]
          refine e_iconst (v := 1) dX11_nextToken_180 (by decide) ?_
          refine e_iaddN (a := j) (b := 1) dX11_nextToken_181 ?_
          refine e_putI dX11_nextToken_182 fl_X11_165 sh_m rfl rfl rfl ?_
          refine e_goto (tgt := 109) dX11_nextToken_185 (by decide) ?_
          have hlt : j < t.1 := by
            by_cases q : j < t.1
            · exact q
            · rw [if_neg q] at c119; exact absurd (by decide : (0 : Int32) < 97) c119
          have hb : vWi (t.2 j) 97 122 := by rw [if_pos hlt] at c119 c132; exact ⟨c119, c132⟩
          have hr2 := hr.trans (rn_s hlt hb)
          exact ih (j + 1) _ (by omega) (by omega) (hF.l.i (by omega)) (by rw [setI_p]) (by rw [setI_1, if_neg (by omega)]; exact h5) hr2 (by rw [show min (j + 1 - p) 8 = (j - p) + 1 by omega, acW_s, show p + (j - p) = j by omega]; rw [show (setI (setL Mc 238 7 _) 238 4 (nI (j + 1))).2.1 238 7 = _ from setL_21 _ _ _ _ _ _, if_pos ⟨rfl, rfl⟩, if_pos hlt, hw, show min (j - p) 8 = j - p by omega])
set_option maxHeartbeats 4000000 in
set_option maxRecDepth 20000 in
theorem l_tnum {G : Gt} {M : Mm} {t : Tv} {p : Nat} {s : Int32} (hT : TZ M t) : ∀ (k : Nat) (j : Nat) (Mc : Mm), (p ≤ j ∧ j ≤ t.1) → (t.1 < j + k) → (NF M Mc) → (Mc.1 238 4 = nI j) → (Mc.1 238 5 = nI p) → (rn 48 57 t p = rn 48 57 t j) → (Mc.1 238 8 = acN t p (min (j - p) 4)) → Ev G 2 mX11_nextToken 224 [.ref 238, .int s] [] Mc (fun r M' => r = none ∧ NF M M' ∧ M'.1 238 4 = nI (rn 48 57 t p) ∧ M'.1 238 5 = nI p ∧ M'.1 238 6 = (if 4 < rn 48 57 t p - p then 4 else 2) ∧ (¬ 4 < rn 48 57 t p - p → M'.1 238 8 = nmP t p)) := by
  intro k
  induction k with
  | zero => intro j Mc hp hk hF h4 h5 hr hw; exact absurd hk (by omega)
  | succ k ih =>
    intro j Mc hp hk hF h4 h5 hr hw
    have hTc := hF.tz hT
    have ht := hT.2.1
    refine e_aload_n dX11_nextToken_224 rfl ?_
    refine e_aload_n dX11_nextToken_225 rfl ?_
    refine e_getI dX11_nextToken_226 fl_X11_165 sh_m rfl ?_
    rw [h4]
    refine cV1r dX11_nextToken_229 mo_X11_signAt ml_X11_181 sh_m rfl (Nat.le_of_ble_eq_true rfl) (by omega) (r_signAt hTc hp.2) ?_
    refine e_bipush (v := 48) dX11_nextToken_232 (by decide) ?_
    refine e_icmp_lt (tgt := 299) dX11_nextToken_234 (by decide) (fun c234 => ?_) (fun c234 => ?_)
    · -- 234 jumps
      refine e_aload_n dX11_nextToken_299 rfl ?_
      refine e_aload_n dX11_nextToken_300 rfl ?_
      refine e_getI dX11_nextToken_301 fl_X11_165 sh_m rfl ?_
      rw [h4]
      refine e_aload_n dX11_nextToken_304 rfl ?_
      refine e_getI dX11_nextToken_305 fl_X11_168 sh_m rfl ?_
      rw [h5]
      refine e_isub dX11_nextToken_308 ?_
      rw [nI_subN hp.1]
      refine e_iconst (v := 4) dX11_nextToken_309 (by decide) ?_
      refine e_icmp_le (tgt := 317) dX11_nextToken_310 (by decide) (fun c310 => ?_) (fun c310 => ?_)
      · -- 310 jumps
        refine e_iconst (v := 2) dX11_nextToken_317 (by decide) ?_
        refine e_putI dX11_nextToken_318 fl_X11_178 sh_m rfl rfl rfl ?_
        refine e_vret dX11_nextToken_321 rfl ?_
        have he : rn 48 57 t j = j := by
          by_cases q : j < t.1
          · exact rn_e q (fun z => by rw [if_pos q] at c234; exact z.1 c234)
          · exact rn_n (by omega)
        rw [he] at hr
        have hn8 : ¬ 4 < j - p := fun q => c310 ((nI_ltI (a := 4) (by omega) (by omega)).mpr q)
        refine ⟨rfl, hF.i (by omega), by rw [hr, setI_1, if_neg (by omega)]; exact h4, by rw [setI_1, if_neg (by omega)]; exact h5, by rw [hr, setI_p, if_neg hn8], ?_⟩
        rw [hr]
        exact (fun _ => by rw [setI_1, if_neg (by omega), hw, show min (j - p) 4 = j - p by omega]; unfold nmP; rw [hr])
      · -- 310 goes on
        refine e_iconst (v := 4) dX11_nextToken_313 (by decide) ?_
        refine e_goto (tgt := 318) dX11_nextToken_314 (by decide) ?_
        refine e_putI dX11_nextToken_318 fl_X11_178 sh_m rfl rfl rfl ?_
        refine e_vret dX11_nextToken_321 rfl ?_
        have he : rn 48 57 t j = j := by
          by_cases q : j < t.1
          · exact rn_e q (fun z => by rw [if_pos q] at c234; exact z.1 c234)
          · exact rn_n (by omega)
        rw [he] at hr
        have hn8 : 4 < j - p := (nI_ltI (a := 4) (by omega) (by omega)).mp c310
        refine ⟨rfl, hF.i (by omega), by rw [hr, setI_1, if_neg (by omega)]; exact h4, by rw [setI_1, if_neg (by omega)]; exact h5, by rw [hr, setI_p, if_pos hn8], ?_⟩
        rw [hr]
        exact (fun q => absurd hn8 q)
    · -- 234 goes on
      refine e_aload_n dX11_nextToken_237 rfl ?_
      refine e_aload_n dX11_nextToken_238 rfl ?_
      refine e_getI dX11_nextToken_239 fl_X11_165 sh_m rfl ?_
      rw [h4]
      refine cV1r dX11_nextToken_242 mo_X11_signAt ml_X11_181 sh_m rfl (Nat.le_of_ble_eq_true rfl) (by omega) (r_signAt hTc hp.2) ?_
      refine e_bipush (v := 57) dX11_nextToken_245 (by decide) ?_
      refine e_icmp_gt (tgt := 299) dX11_nextToken_247 (by decide) (fun c247 => ?_) (fun c247 => ?_)
      · -- 247 jumps
        refine e_aload_n dX11_nextToken_299 rfl ?_
        refine e_aload_n dX11_nextToken_300 rfl ?_
        refine e_getI dX11_nextToken_301 fl_X11_165 sh_m rfl ?_
        rw [h4]
        refine e_aload_n dX11_nextToken_304 rfl ?_
        refine e_getI dX11_nextToken_305 fl_X11_168 sh_m rfl ?_
        rw [h5]
        refine e_isub dX11_nextToken_308 ?_
        rw [nI_subN hp.1]
        refine e_iconst (v := 4) dX11_nextToken_309 (by decide) ?_
        refine e_icmp_le (tgt := 317) dX11_nextToken_310 (by decide) (fun c310 => ?_) (fun c310 => ?_)
        · -- 310 jumps
          refine e_iconst (v := 2) dX11_nextToken_317 (by decide) ?_
          refine e_putI dX11_nextToken_318 fl_X11_178 sh_m rfl rfl rfl ?_
          refine e_vret dX11_nextToken_321 rfl ?_
          have he : rn 48 57 t j = j := by
            by_cases q : j < t.1
            · exact rn_e q (fun z => by rw [if_pos q] at c247; exact z.2 c247)
            · exact rn_n (by omega)
          rw [he] at hr
          have hn8 : ¬ 4 < j - p := fun q => c310 ((nI_ltI (a := 4) (by omega) (by omega)).mpr q)
          refine ⟨rfl, hF.i (by omega), by rw [hr, setI_1, if_neg (by omega)]; exact h4, by rw [setI_1, if_neg (by omega)]; exact h5, by rw [hr, setI_p, if_neg hn8], ?_⟩
          rw [hr]
          exact (fun _ => by rw [setI_1, if_neg (by omega), hw, show min (j - p) 4 = j - p by omega]; unfold nmP; rw [hr])
        · -- 310 goes on
          refine e_iconst (v := 4) dX11_nextToken_313 (by decide) ?_
          refine e_goto (tgt := 318) dX11_nextToken_314 (by decide) ?_
          refine e_putI dX11_nextToken_318 fl_X11_178 sh_m rfl rfl rfl ?_
          refine e_vret dX11_nextToken_321 rfl ?_
          have he : rn 48 57 t j = j := by
            by_cases q : j < t.1
            · exact rn_e q (fun z => by rw [if_pos q] at c247; exact z.2 c247)
            · exact rn_n (by omega)
          rw [he] at hr
          have hn8 : 4 < j - p := (nI_ltI (a := 4) (by omega) (by omega)).mp c310
          refine ⟨rfl, hF.i (by omega), by rw [hr, setI_1, if_neg (by omega)]; exact h4, by rw [setI_1, if_neg (by omega)]; exact h5, by rw [hr, setI_p, if_pos hn8], ?_⟩
          rw [hr]
          exact (fun q => absurd hn8 q)
      · -- 247 goes on
        refine e_aload_n dX11_nextToken_250 rfl ?_
        refine e_getI dX11_nextToken_251 fl_X11_165 sh_m rfl ?_
        rw [h4]
        refine e_aload_n dX11_nextToken_254 rfl ?_
        refine e_getI dX11_nextToken_255 fl_X11_168 sh_m rfl ?_
        rw [h5]
        refine e_isub dX11_nextToken_258 ?_
        rw [nI_subN hp.1]
        refine e_iconst (v := 4) dX11_nextToken_259 (by decide) ?_
        refine e_icmp_ge (tgt := 286) dX11_nextToken_260 (by decide) (fun c260 => ?_) (fun c260 => ?_)
        · -- 260 jumps
          have h8 : 4 ≤ j - p := ge_of (i := j - p) (n := 4) (by omega) (by omega) c260
          refine e_aload_n dX11_nextToken_286 rfl ?_
          refine e_dup dX11_nextToken_287 rfl ?_
          refine e_getI dX11_nextToken_288 fl_X11_165 sh_m rfl ?_
          first | rw [h4] | rw [setI_1, if_neg (by omega), h4]
          refine e_iconst (v := 1) dX11_nextToken_291 (by decide) ?_
          refine e_iaddN (a := j) (b := 1) dX11_nextToken_292 ?_
          refine e_putI dX11_nextToken_293 fl_X11_165 sh_m rfl rfl rfl ?_
          refine e_goto (tgt := 224) dX11_nextToken_296 (by decide) ?_
          have hlt : j < t.1 := by
            by_cases q : j < t.1
            · exact q
            · rw [if_neg q] at c234; exact absurd (by decide : (0 : Int32) < 48) c234
          have hb : vWi (t.2 j) 48 57 := by rw [if_pos hlt] at c234 c247; exact ⟨c234, c247⟩
          have hr2 := hr.trans (rn_s hlt hb)
          exact ih (j + 1) _ (by omega) (by omega) (hF.i (by omega)) (by rw [setI_p]) (by rw [setI_1, if_neg (by omega)]; exact h5) hr2 (by rw [show min (j + 1 - p) 4 = min (j - p) 4 by omega]; rw [setI_1, if_neg (by omega)]; exact hw)
        · -- 260 goes on
          have h8 : j - p < 4 := lt_of (i := j - p) (n := 4) (by omega) (by omega) c260
          refine e_aload_n dX11_nextToken_263 rfl ?_
          refine e_aload_n dX11_nextToken_264 rfl ?_
          refine e_getI dX11_nextToken_265 fl_X11_175 sh_m rfl ?_
          rw [hw]
          refine e_bipush (v := 10) dX11_nextToken_268 (by decide) ?_
          refine e_imul dX11_nextToken_270 ?_
          refine e_aload_n dX11_nextToken_271 rfl ?_
          refine e_aload_n dX11_nextToken_272 rfl ?_
          refine e_getI dX11_nextToken_273 fl_X11_165 sh_m rfl ?_
          rw [h4]
          refine cV1r dX11_nextToken_276 mo_X11_signAt ml_X11_181 sh_m rfl (Nat.le_of_ble_eq_true rfl) (by omega) (r_signAt hTc hp.2) ?_
          refine e_iadd dX11_nextToken_279 ?_
          refine e_bipush (v := 48) dX11_nextToken_280 (by decide) ?_
          refine e_isub dX11_nextToken_282 ?_
          refine e_putI dX11_nextToken_283 fl_X11_175 sh_m rfl rfl rfl ?_
          refine e_aload_n dX11_nextToken_286 rfl ?_
          refine e_dup dX11_nextToken_287 rfl ?_
          refine e_getI dX11_nextToken_288 fl_X11_165 sh_m rfl ?_
          first | rw [h4] | rw [setI_1, if_neg (by omega), h4]
          refine e_iconst (v := 1) dX11_nextToken_291 (by decide) ?_
          refine e_iaddN (a := j) (b := 1) dX11_nextToken_292 ?_
          refine e_putI dX11_nextToken_293 fl_X11_165 sh_m rfl rfl rfl ?_
          refine e_goto (tgt := 224) dX11_nextToken_296 (by decide) ?_
          have hlt : j < t.1 := by
            by_cases q : j < t.1
            · exact q
            · rw [if_neg q] at c234; exact absurd (by decide : (0 : Int32) < 48) c234
          have hb : vWi (t.2 j) 48 57 := by rw [if_pos hlt] at c234 c247; exact ⟨c234, c247⟩
          have hr2 := hr.trans (rn_s hlt hb)
          exact ih (j + 1) _ (by omega) (by omega) ((hF.i (by omega)).i (by omega)) (by rw [setI_p]) (by rw [setI_1, if_neg (by omega), setI_1, if_neg (by omega)]; exact h5) hr2 (by rw [show min (j + 1 - p) 4 = (j - p) + 1 by omega, acN, show p + (j - p) = j by omega, setI_1, if_neg (by omega), setI_p, if_pos hlt, show min (j - p) 4 = j - p by omega])
theorem kd_w {t : Tv} {p : Nat} (hp : p < t.1) (h : vWi (t.2 p) 97 122) : kdP t p = (if 8 < rn 97 122 t p - p then 1 else 2) ∧ enP t p = rn 97 122 t p := by
  unfold kdP enP
  rw [if_pos hp, if_pos hp, if_pos h, if_pos h]
  exact ⟨rfl, rfl⟩
theorem kd_n {t : Tv} {p : Nat} (hp : p < t.1) (h1 : ¬ vWi (t.2 p) 97 122) (h : vWi (t.2 p) 48 57) : kdP t p = (if 4 < rn 48 57 t p - p then 1 else 3) ∧ enP t p = rn 48 57 t p := by
  unfold kdP enP
  rw [if_pos hp, if_pos hp, if_neg h1, if_neg h1, if_pos h, if_pos h]
  exact ⟨rfl, rfl⟩
theorem kd_s {t : Tv} {p : Nat} (hp : p < t.1) (h1 : ¬ vWi (t.2 p) 97 122) (h : ¬ vWi (t.2 p) 48 57) : kdP t p = (if t.2 p ∈ sgL then 4 else 1) ∧ enP t p = p + 1 := by
  unfold kdP enP
  rw [if_pos hp, if_pos hp, if_neg h1, if_neg h1, if_neg h, if_neg h]
  exact ⟨rfl, rfl⟩
theorem kd_e {t : Tv} {p : Nat} (hp : ¬ p < t.1) : kdP t p = 0 ∧ enP t p = p := by
  unfold kdP enP
  rw [if_neg hp, if_neg hp]
  exact ⟨rfl, rfl⟩
set_option maxHeartbeats 4000000 in
set_option maxRecDepth 20000 in
theorem s_tok52 {G : Gt} {M Mc : Mm} {t : Tv} {p : Nat} {u : Value} (hI : TI t) (hT : TZ M t) (hF : NF M Mc) (hp : p ≤ t.1) (h4 : Mc.1 238 4 = nI p) : Ev G 2 mX11_nextToken 52 [.ref 238, u] [] Mc (fun r M' => r = none ∧ NF M M' ∧ TQ M' t p) := by
  have hTc := hF.tz hT
  have ht := hT.2.1
  have hb4 : (setI (setL (setI Mc 238 5 (nI p)) 238 7 0) 238 8 0).1 238 4 = nI p := by rw [setI_1, if_neg (by omega), setL_1, setI_1, if_neg (by omega)]; exact h4
  have hb5 : (setI (setL (setI Mc 238 5 (nI p)) 238 7 0) 238 8 0).1 238 5 = nI p := by rw [setI_1, if_neg (by omega), setL_1, setI_p]
  have hb7 : (setI (setL (setI Mc 238 5 (nI p)) 238 7 0) 238 8 0).2.1 238 7 = 0 := by rw [setI_2, setL_21, if_pos ⟨rfl, rfl⟩]
  have hb8 : (setI (setL (setI Mc 238 5 (nI p)) 238 7 0) 238 8 0).1 238 8 = 0 := by rw [setI_p]
  have hFb : NF M (setI (setL (setI Mc 238 5 (nI p)) 238 7 0) 238 8 0) := ((hF.i (by omega)).l).i (by omega)
  have hTb := hFb.tz hT
  obtain ⟨Mb, eMb⟩ : ∃ Mb, Mb = (setI (setL (setI Mc 238 5 (nI p)) 238 7 0) 238 8 0) := ⟨_, rfl⟩
  rw [← eMb] at hb4 hb5 hb7 hb8 hFb hTb
  refine e_aload_n dX11_nextToken_52 rfl ?_
  refine e_aload_n dX11_nextToken_53 rfl ?_
  refine e_getI dX11_nextToken_54 fl_X11_165 sh_m rfl ?_
  rw [h4]
  refine e_putI dX11_nextToken_57 fl_X11_168 sh_m rfl rfl rfl ?_
  refine e_aload_n dX11_nextToken_60 rfl ?_
  refine e_lconst (v := 0) dX11_nextToken_61 rfl ?_
  refine e_putL dX11_nextToken_62 fl_X11_171 sh_m rfl rfl rfl ?_
  refine e_aload_n dX11_nextToken_65 rfl ?_
  refine e_iconst (v := 0) dX11_nextToken_66 (by decide) ?_
  refine e_putI dX11_nextToken_67 fl_X11_175 sh_m rfl rfl rfl ?_
  rw [← eMb]
  refine e_aload_n dX11_nextToken_70 rfl ?_
  refine e_getI dX11_nextToken_71 fl_X11_165 sh_m rfl ?_
  rw [hb4]
  refine e_aload_n dX11_nextToken_74 rfl ?_
  refine e_getI dX11_nextToken_75 fl_X11_162 sh_m rfl ?_
  rw [hTb.1]
  refine e_icmp_ne (tgt := 87) dX11_nextToken_78 (by decide) (fun c78 => ?_) (fun c78 => ?_)
  · -- 78 jumps
    have hlt : p < t.1 := by have : ¬ p = t.1 := fun e => c78 (by rw [e]); omega
    obtain ⟨m, hm, em⟩ := hI.2 p hlt
    refine e_aload_n dX11_nextToken_87 rfl ?_
    refine e_getR dX11_nextToken_88 fl_X11_7 sh_m rfl ?_
    refine e_aload_n dX11_nextToken_91 rfl ?_
    refine e_getI dX11_nextToken_92 fl_X11_165 sh_m rfl ?_
    rw [hb4]
    refine e_ialdN (j := p) dX11_nextToken_95 (sa_m_tape) (by decide) (by omega) ?_
    rw [hTb.2.2 p hlt]
    refine e_istore_n (ls' := [_, _]) dX11_nextToken_96 (by decide) rfl ?_
    refine e_iload_n dX11_nextToken_97 rfl ?_
    refine e_bipush (v := 97) dX11_nextToken_98 (by decide) ?_
    refine e_icmp_lt (tgt := 212) dX11_nextToken_100 (by decide) (fun c100 => ?_) (fun c100 => ?_)
    · -- 100 jumps
      refine e_iload_n dX11_nextToken_212 rfl ?_
      refine e_bipush (v := 48) dX11_nextToken_213 (by decide) ?_
      refine e_icmp_lt (tgt := 322) dX11_nextToken_215 (by decide) (fun c215 => ?_) (fun c215 => ?_)
      · -- 215 jumps
        refine e_aload_n dX11_nextToken_322 rfl ?_
        refine e_dup dX11_nextToken_323 rfl ?_
        refine e_getI dX11_nextToken_324 fl_X11_165 sh_m rfl ?_
        rw [hb4]
        refine e_iconst (v := 1) dX11_nextToken_327 (by decide) ?_
        refine e_iaddN (a := p) (b := 1) dX11_nextToken_328 ?_
        refine e_putI dX11_nextToken_329 fl_X11_165 sh_m rfl rfl rfl ?_
        refine e_aload_n dX11_nextToken_332 rfl ?_
        refine e_iload_n dX11_nextToken_333 rfl ?_
        refine e_bipush (v := 40) dX11_nextToken_334 (by decide) ?_
        refine e_icmp_lt (tgt := 345) dX11_nextToken_336 (by decide) (fun c336 => ?_) (fun c336 => ?_)
        · -- 336 jumps
          refine e_iload_n dX11_nextToken_345 rfl ?_
          refine e_bipush (v := 45) dX11_nextToken_346 (by decide) ?_
          refine e_icmp_eq (tgt := 363) dX11_nextToken_348 (by decide) (fun c348 => ?_) (fun c348 => ?_)
          · -- 348 jumps
            refine e_iconst (v := 3) dX11_nextToken_363 (by decide) ?_
            refine e_goto (tgt := 368) dX11_nextToken_364 (by decide) ?_
            refine e_putI dX11_nextToken_368 fl_X11_178 sh_m rfl rfl rfl ?_
            refine e_vret dX11_nextToken_371 rfl ?_
            have hs1 : ¬ vWi (t.2 p) 97 122 := fun q => q.1 c100
            have hs2 : ¬ vWi (t.2 p) 48 57 := fun q => q.1 c215
            obtain ⟨k1, k2⟩ := kd_s hlt hs1 hs2
            have hin : t.2 p ∈ sgL := by rw [em]; rw [em] at c336; rw [em] at c348; exact (sgm127 m hm).mp (Or.inr (Or.inl c348))
            rw [if_pos hin] at k1
            refine ⟨rfl, (hFb.i (by omega)).i (by omega), by rw [k2, setI_1, if_neg (by omega), setI_p], by rw [setI_1, if_neg (by omega), setI_1, if_neg (by omega)]; exact hb5, by rw [k1, setI_p]; rfl, fun q => ?_, fun q => ?_⟩
            · rw [k1] at q; exact absurd q (by decide)
            · rw [k1] at q; exact absurd q (by decide)
          · -- 348 goes on
            refine e_iload_n dX11_nextToken_351 rfl ?_
            refine e_bipush (v := 59) dX11_nextToken_352 (by decide) ?_
            refine e_icmp_lt (tgt := 367) dX11_nextToken_354 (by decide) (fun c354 => ?_) (fun c354 => ?_)
            · -- 354 jumps
              refine e_iconst (v := 4) dX11_nextToken_367 (by decide) ?_
              refine e_putI dX11_nextToken_368 fl_X11_178 sh_m rfl rfl rfl ?_
              refine e_vret dX11_nextToken_371 rfl ?_
              have hs1 : ¬ vWi (t.2 p) 97 122 := fun q => q.1 c100
              have hs2 : ¬ vWi (t.2 p) 48 57 := fun q => q.1 c215
              obtain ⟨k1, k2⟩ := kd_s hlt hs1 hs2
              have hin : ¬ t.2 p ∈ sgL := by rw [em]; rw [em] at c336; rw [em] at c348; rw [em] at c354; exact fun q => ((sgm127 m hm).mpr q).elim (fun z => z.1 c336) (fun z => z.elim (fun y => c348 y) (fun z => z.1 c354))
              rw [if_neg hin] at k1
              refine ⟨rfl, (hFb.i (by omega)).i (by omega), by rw [k2, setI_1, if_neg (by omega), setI_p], by rw [setI_1, if_neg (by omega), setI_1, if_neg (by omega)]; exact hb5, by rw [k1, setI_p]; rfl, fun q => ?_, fun q => ?_⟩
              · rw [k1] at q; exact absurd q (by decide)
              · rw [k1] at q; exact absurd q (by decide)
            · -- 354 goes on
              refine e_iload_n dX11_nextToken_357 rfl ?_
              refine e_bipush (v := 61) dX11_nextToken_358 (by decide) ?_
              refine e_icmp_gt (tgt := 367) dX11_nextToken_360 (by decide) (fun c360 => ?_) (fun c360 => ?_)
              · -- 360 jumps
                refine e_iconst (v := 4) dX11_nextToken_367 (by decide) ?_
                refine e_putI dX11_nextToken_368 fl_X11_178 sh_m rfl rfl rfl ?_
                refine e_vret dX11_nextToken_371 rfl ?_
                have hs1 : ¬ vWi (t.2 p) 97 122 := fun q => q.1 c100
                have hs2 : ¬ vWi (t.2 p) 48 57 := fun q => q.1 c215
                obtain ⟨k1, k2⟩ := kd_s hlt hs1 hs2
                have hin : ¬ t.2 p ∈ sgL := by rw [em]; rw [em] at c336; rw [em] at c348; rw [em] at c354; rw [em] at c360; exact fun q => ((sgm127 m hm).mpr q).elim (fun z => z.1 c336) (fun z => z.elim (fun y => c348 y) (fun z => z.2 c360))
                rw [if_neg hin] at k1
                refine ⟨rfl, (hFb.i (by omega)).i (by omega), by rw [k2, setI_1, if_neg (by omega), setI_p], by rw [setI_1, if_neg (by omega), setI_1, if_neg (by omega)]; exact hb5, by rw [k1, setI_p]; rfl, fun q => ?_, fun q => ?_⟩
                · rw [k1] at q; exact absurd q (by decide)
                · rw [k1] at q; exact absurd q (by decide)
              · -- 360 goes on
                refine e_iconst (v := 3) dX11_nextToken_363 (by decide) ?_
                refine e_goto (tgt := 368) dX11_nextToken_364 (by decide) ?_
                refine e_putI dX11_nextToken_368 fl_X11_178 sh_m rfl rfl rfl ?_
                refine e_vret dX11_nextToken_371 rfl ?_
                have hs1 : ¬ vWi (t.2 p) 97 122 := fun q => q.1 c100
                have hs2 : ¬ vWi (t.2 p) 48 57 := fun q => q.1 c215
                obtain ⟨k1, k2⟩ := kd_s hlt hs1 hs2
                have hin : t.2 p ∈ sgL := by rw [em]; rw [em] at c336; rw [em] at c348; rw [em] at c354; rw [em] at c360; exact (sgm127 m hm).mp (Or.inr (Or.inr ⟨c354, c360⟩))
                rw [if_pos hin] at k1
                refine ⟨rfl, (hFb.i (by omega)).i (by omega), by rw [k2, setI_1, if_neg (by omega), setI_p], by rw [setI_1, if_neg (by omega), setI_1, if_neg (by omega)]; exact hb5, by rw [k1, setI_p]; rfl, fun q => ?_, fun q => ?_⟩
                · rw [k1] at q; exact absurd q (by decide)
                · rw [k1] at q; exact absurd q (by decide)
        · -- 336 goes on
          refine e_iload_n dX11_nextToken_339 rfl ?_
          refine e_bipush (v := 43) dX11_nextToken_340 (by decide) ?_
          refine e_icmp_le (tgt := 363) dX11_nextToken_342 (by decide) (fun c342 => ?_) (fun c342 => ?_)
          · -- 342 jumps
            refine e_iconst (v := 3) dX11_nextToken_363 (by decide) ?_
            refine e_goto (tgt := 368) dX11_nextToken_364 (by decide) ?_
            refine e_putI dX11_nextToken_368 fl_X11_178 sh_m rfl rfl rfl ?_
            refine e_vret dX11_nextToken_371 rfl ?_
            have hs1 : ¬ vWi (t.2 p) 97 122 := fun q => q.1 c100
            have hs2 : ¬ vWi (t.2 p) 48 57 := fun q => q.1 c215
            obtain ⟨k1, k2⟩ := kd_s hlt hs1 hs2
            have hin : t.2 p ∈ sgL := by rw [em]; rw [em] at c336; rw [em] at c342; exact (sgm127 m hm).mp (Or.inl ⟨c336, c342⟩)
            rw [if_pos hin] at k1
            refine ⟨rfl, (hFb.i (by omega)).i (by omega), by rw [k2, setI_1, if_neg (by omega), setI_p], by rw [setI_1, if_neg (by omega), setI_1, if_neg (by omega)]; exact hb5, by rw [k1, setI_p]; rfl, fun q => ?_, fun q => ?_⟩
            · rw [k1] at q; exact absurd q (by decide)
            · rw [k1] at q; exact absurd q (by decide)
          · -- 342 goes on
            refine e_iload_n dX11_nextToken_345 rfl ?_
            refine e_bipush (v := 45) dX11_nextToken_346 (by decide) ?_
            refine e_icmp_eq (tgt := 363) dX11_nextToken_348 (by decide) (fun c348 => ?_) (fun c348 => ?_)
            · -- 348 jumps
              refine e_iconst (v := 3) dX11_nextToken_363 (by decide) ?_
              refine e_goto (tgt := 368) dX11_nextToken_364 (by decide) ?_
              refine e_putI dX11_nextToken_368 fl_X11_178 sh_m rfl rfl rfl ?_
              refine e_vret dX11_nextToken_371 rfl ?_
              have hs1 : ¬ vWi (t.2 p) 97 122 := fun q => q.1 c100
              have hs2 : ¬ vWi (t.2 p) 48 57 := fun q => q.1 c215
              obtain ⟨k1, k2⟩ := kd_s hlt hs1 hs2
              have hin : t.2 p ∈ sgL := by rw [em]; rw [em] at c336; rw [em] at c342; rw [em] at c348; exact (sgm127 m hm).mp (Or.inr (Or.inl c348))
              rw [if_pos hin] at k1
              refine ⟨rfl, (hFb.i (by omega)).i (by omega), by rw [k2, setI_1, if_neg (by omega), setI_p], by rw [setI_1, if_neg (by omega), setI_1, if_neg (by omega)]; exact hb5, by rw [k1, setI_p]; rfl, fun q => ?_, fun q => ?_⟩
              · rw [k1] at q; exact absurd q (by decide)
              · rw [k1] at q; exact absurd q (by decide)
            · -- 348 goes on
              refine e_iload_n dX11_nextToken_351 rfl ?_
              refine e_bipush (v := 59) dX11_nextToken_352 (by decide) ?_
              refine e_icmp_lt (tgt := 367) dX11_nextToken_354 (by decide) (fun c354 => ?_) (fun c354 => ?_)
              · -- 354 jumps
                refine e_iconst (v := 4) dX11_nextToken_367 (by decide) ?_
                refine e_putI dX11_nextToken_368 fl_X11_178 sh_m rfl rfl rfl ?_
                refine e_vret dX11_nextToken_371 rfl ?_
                have hs1 : ¬ vWi (t.2 p) 97 122 := fun q => q.1 c100
                have hs2 : ¬ vWi (t.2 p) 48 57 := fun q => q.1 c215
                obtain ⟨k1, k2⟩ := kd_s hlt hs1 hs2
                have hin : ¬ t.2 p ∈ sgL := by rw [em]; rw [em] at c336; rw [em] at c342; rw [em] at c348; rw [em] at c354; exact fun q => ((sgm127 m hm).mpr q).elim (fun z => z.2 c342) (fun z => z.elim (fun y => c348 y) (fun z => z.1 c354))
                rw [if_neg hin] at k1
                refine ⟨rfl, (hFb.i (by omega)).i (by omega), by rw [k2, setI_1, if_neg (by omega), setI_p], by rw [setI_1, if_neg (by omega), setI_1, if_neg (by omega)]; exact hb5, by rw [k1, setI_p]; rfl, fun q => ?_, fun q => ?_⟩
                · rw [k1] at q; exact absurd q (by decide)
                · rw [k1] at q; exact absurd q (by decide)
              · -- 354 goes on
                refine e_iload_n dX11_nextToken_357 rfl ?_
                refine e_bipush (v := 61) dX11_nextToken_358 (by decide) ?_
                refine e_icmp_gt (tgt := 367) dX11_nextToken_360 (by decide) (fun c360 => ?_) (fun c360 => ?_)
                · -- 360 jumps
                  refine e_iconst (v := 4) dX11_nextToken_367 (by decide) ?_
                  refine e_putI dX11_nextToken_368 fl_X11_178 sh_m rfl rfl rfl ?_
                  refine e_vret dX11_nextToken_371 rfl ?_
                  have hs1 : ¬ vWi (t.2 p) 97 122 := fun q => q.1 c100
                  have hs2 : ¬ vWi (t.2 p) 48 57 := fun q => q.1 c215
                  obtain ⟨k1, k2⟩ := kd_s hlt hs1 hs2
                  have hin : ¬ t.2 p ∈ sgL := by rw [em]; rw [em] at c336; rw [em] at c342; rw [em] at c348; rw [em] at c354; rw [em] at c360; exact fun q => ((sgm127 m hm).mpr q).elim (fun z => z.2 c342) (fun z => z.elim (fun y => c348 y) (fun z => z.2 c360))
                  rw [if_neg hin] at k1
                  refine ⟨rfl, (hFb.i (by omega)).i (by omega), by rw [k2, setI_1, if_neg (by omega), setI_p], by rw [setI_1, if_neg (by omega), setI_1, if_neg (by omega)]; exact hb5, by rw [k1, setI_p]; rfl, fun q => ?_, fun q => ?_⟩
                  · rw [k1] at q; exact absurd q (by decide)
                  · rw [k1] at q; exact absurd q (by decide)
                · -- 360 goes on
                  refine e_iconst (v := 3) dX11_nextToken_363 (by decide) ?_
                  refine e_goto (tgt := 368) dX11_nextToken_364 (by decide) ?_
                  refine e_putI dX11_nextToken_368 fl_X11_178 sh_m rfl rfl rfl ?_
                  refine e_vret dX11_nextToken_371 rfl ?_
                  have hs1 : ¬ vWi (t.2 p) 97 122 := fun q => q.1 c100
                  have hs2 : ¬ vWi (t.2 p) 48 57 := fun q => q.1 c215
                  obtain ⟨k1, k2⟩ := kd_s hlt hs1 hs2
                  have hin : t.2 p ∈ sgL := by rw [em]; rw [em] at c336; rw [em] at c342; rw [em] at c348; rw [em] at c354; rw [em] at c360; exact (sgm127 m hm).mp (Or.inr (Or.inr ⟨c354, c360⟩))
                  rw [if_pos hin] at k1
                  refine ⟨rfl, (hFb.i (by omega)).i (by omega), by rw [k2, setI_1, if_neg (by omega), setI_p], by rw [setI_1, if_neg (by omega), setI_1, if_neg (by omega)]; exact hb5, by rw [k1, setI_p]; rfl, fun q => ?_, fun q => ?_⟩
                  · rw [k1] at q; exact absurd q (by decide)
                  · rw [k1] at q; exact absurd q (by decide)
      · -- 215 goes on
        refine e_iload_n dX11_nextToken_218 rfl ?_
        refine e_bipush (v := 57) dX11_nextToken_219 (by decide) ?_
        refine e_icmp_gt (tgt := 322) dX11_nextToken_221 (by decide) (fun c221 => ?_) (fun c221 => ?_)
        · -- 221 jumps
          refine e_aload_n dX11_nextToken_322 rfl ?_
          refine e_dup dX11_nextToken_323 rfl ?_
          refine e_getI dX11_nextToken_324 fl_X11_165 sh_m rfl ?_
          rw [hb4]
          refine e_iconst (v := 1) dX11_nextToken_327 (by decide) ?_
          refine e_iaddN (a := p) (b := 1) dX11_nextToken_328 ?_
          refine e_putI dX11_nextToken_329 fl_X11_165 sh_m rfl rfl rfl ?_
          refine e_aload_n dX11_nextToken_332 rfl ?_
          refine e_iload_n dX11_nextToken_333 rfl ?_
          refine e_bipush (v := 40) dX11_nextToken_334 (by decide) ?_
          refine e_icmp_lt (tgt := 345) dX11_nextToken_336 (by decide) (fun c336 => ?_) (fun c336 => ?_)
          · -- 336 jumps
            refine e_iload_n dX11_nextToken_345 rfl ?_
            refine e_bipush (v := 45) dX11_nextToken_346 (by decide) ?_
            refine e_icmp_eq (tgt := 363) dX11_nextToken_348 (by decide) (fun c348 => ?_) (fun c348 => ?_)
            · -- 348 jumps
              refine e_iconst (v := 3) dX11_nextToken_363 (by decide) ?_
              refine e_goto (tgt := 368) dX11_nextToken_364 (by decide) ?_
              refine e_putI dX11_nextToken_368 fl_X11_178 sh_m rfl rfl rfl ?_
              refine e_vret dX11_nextToken_371 rfl ?_
              have hs1 : ¬ vWi (t.2 p) 97 122 := fun q => q.1 c100
              have hs2 : ¬ vWi (t.2 p) 48 57 := fun q => q.2 c221
              obtain ⟨k1, k2⟩ := kd_s hlt hs1 hs2
              have hin : t.2 p ∈ sgL := by rw [em]; rw [em] at c336; rw [em] at c348; exact (sgm127 m hm).mp (Or.inr (Or.inl c348))
              rw [if_pos hin] at k1
              refine ⟨rfl, (hFb.i (by omega)).i (by omega), by rw [k2, setI_1, if_neg (by omega), setI_p], by rw [setI_1, if_neg (by omega), setI_1, if_neg (by omega)]; exact hb5, by rw [k1, setI_p]; rfl, fun q => ?_, fun q => ?_⟩
              · rw [k1] at q; exact absurd q (by decide)
              · rw [k1] at q; exact absurd q (by decide)
            · -- 348 goes on
              refine e_iload_n dX11_nextToken_351 rfl ?_
              refine e_bipush (v := 59) dX11_nextToken_352 (by decide) ?_
              refine e_icmp_lt (tgt := 367) dX11_nextToken_354 (by decide) (fun c354 => ?_) (fun c354 => ?_)
              · -- 354 jumps
                refine e_iconst (v := 4) dX11_nextToken_367 (by decide) ?_
                refine e_putI dX11_nextToken_368 fl_X11_178 sh_m rfl rfl rfl ?_
                refine e_vret dX11_nextToken_371 rfl ?_
                have hs1 : ¬ vWi (t.2 p) 97 122 := fun q => q.1 c100
                have hs2 : ¬ vWi (t.2 p) 48 57 := fun q => q.2 c221
                obtain ⟨k1, k2⟩ := kd_s hlt hs1 hs2
                have hin : ¬ t.2 p ∈ sgL := by rw [em]; rw [em] at c336; rw [em] at c348; rw [em] at c354; exact fun q => ((sgm127 m hm).mpr q).elim (fun z => z.1 c336) (fun z => z.elim (fun y => c348 y) (fun z => z.1 c354))
                rw [if_neg hin] at k1
                refine ⟨rfl, (hFb.i (by omega)).i (by omega), by rw [k2, setI_1, if_neg (by omega), setI_p], by rw [setI_1, if_neg (by omega), setI_1, if_neg (by omega)]; exact hb5, by rw [k1, setI_p]; rfl, fun q => ?_, fun q => ?_⟩
                · rw [k1] at q; exact absurd q (by decide)
                · rw [k1] at q; exact absurd q (by decide)
              · -- 354 goes on
                refine e_iload_n dX11_nextToken_357 rfl ?_
                refine e_bipush (v := 61) dX11_nextToken_358 (by decide) ?_
                refine e_icmp_gt (tgt := 367) dX11_nextToken_360 (by decide) (fun c360 => ?_) (fun c360 => ?_)
                · -- 360 jumps
                  refine e_iconst (v := 4) dX11_nextToken_367 (by decide) ?_
                  refine e_putI dX11_nextToken_368 fl_X11_178 sh_m rfl rfl rfl ?_
                  refine e_vret dX11_nextToken_371 rfl ?_
                  have hs1 : ¬ vWi (t.2 p) 97 122 := fun q => q.1 c100
                  have hs2 : ¬ vWi (t.2 p) 48 57 := fun q => q.2 c221
                  obtain ⟨k1, k2⟩ := kd_s hlt hs1 hs2
                  have hin : ¬ t.2 p ∈ sgL := by rw [em]; rw [em] at c336; rw [em] at c348; rw [em] at c354; rw [em] at c360; exact fun q => ((sgm127 m hm).mpr q).elim (fun z => z.1 c336) (fun z => z.elim (fun y => c348 y) (fun z => z.2 c360))
                  rw [if_neg hin] at k1
                  refine ⟨rfl, (hFb.i (by omega)).i (by omega), by rw [k2, setI_1, if_neg (by omega), setI_p], by rw [setI_1, if_neg (by omega), setI_1, if_neg (by omega)]; exact hb5, by rw [k1, setI_p]; rfl, fun q => ?_, fun q => ?_⟩
                  · rw [k1] at q; exact absurd q (by decide)
                  · rw [k1] at q; exact absurd q (by decide)
                · -- 360 goes on
                  refine e_iconst (v := 3) dX11_nextToken_363 (by decide) ?_
                  refine e_goto (tgt := 368) dX11_nextToken_364 (by decide) ?_
                  refine e_putI dX11_nextToken_368 fl_X11_178 sh_m rfl rfl rfl ?_
                  refine e_vret dX11_nextToken_371 rfl ?_
                  have hs1 : ¬ vWi (t.2 p) 97 122 := fun q => q.1 c100
                  have hs2 : ¬ vWi (t.2 p) 48 57 := fun q => q.2 c221
                  obtain ⟨k1, k2⟩ := kd_s hlt hs1 hs2
                  have hin : t.2 p ∈ sgL := by rw [em]; rw [em] at c336; rw [em] at c348; rw [em] at c354; rw [em] at c360; exact (sgm127 m hm).mp (Or.inr (Or.inr ⟨c354, c360⟩))
                  rw [if_pos hin] at k1
                  refine ⟨rfl, (hFb.i (by omega)).i (by omega), by rw [k2, setI_1, if_neg (by omega), setI_p], by rw [setI_1, if_neg (by omega), setI_1, if_neg (by omega)]; exact hb5, by rw [k1, setI_p]; rfl, fun q => ?_, fun q => ?_⟩
                  · rw [k1] at q; exact absurd q (by decide)
                  · rw [k1] at q; exact absurd q (by decide)
          · -- 336 goes on
            refine e_iload_n dX11_nextToken_339 rfl ?_
            refine e_bipush (v := 43) dX11_nextToken_340 (by decide) ?_
            refine e_icmp_le (tgt := 363) dX11_nextToken_342 (by decide) (fun c342 => ?_) (fun c342 => ?_)
            · -- 342 jumps
              refine e_iconst (v := 3) dX11_nextToken_363 (by decide) ?_
              refine e_goto (tgt := 368) dX11_nextToken_364 (by decide) ?_
              refine e_putI dX11_nextToken_368 fl_X11_178 sh_m rfl rfl rfl ?_
              refine e_vret dX11_nextToken_371 rfl ?_
              have hs1 : ¬ vWi (t.2 p) 97 122 := fun q => q.1 c100
              have hs2 : ¬ vWi (t.2 p) 48 57 := fun q => q.2 c221
              obtain ⟨k1, k2⟩ := kd_s hlt hs1 hs2
              have hin : t.2 p ∈ sgL := by rw [em]; rw [em] at c336; rw [em] at c342; exact (sgm127 m hm).mp (Or.inl ⟨c336, c342⟩)
              rw [if_pos hin] at k1
              refine ⟨rfl, (hFb.i (by omega)).i (by omega), by rw [k2, setI_1, if_neg (by omega), setI_p], by rw [setI_1, if_neg (by omega), setI_1, if_neg (by omega)]; exact hb5, by rw [k1, setI_p]; rfl, fun q => ?_, fun q => ?_⟩
              · rw [k1] at q; exact absurd q (by decide)
              · rw [k1] at q; exact absurd q (by decide)
            · -- 342 goes on
              refine e_iload_n dX11_nextToken_345 rfl ?_
              refine e_bipush (v := 45) dX11_nextToken_346 (by decide) ?_
              refine e_icmp_eq (tgt := 363) dX11_nextToken_348 (by decide) (fun c348 => ?_) (fun c348 => ?_)
              · -- 348 jumps
                refine e_iconst (v := 3) dX11_nextToken_363 (by decide) ?_
                refine e_goto (tgt := 368) dX11_nextToken_364 (by decide) ?_
                refine e_putI dX11_nextToken_368 fl_X11_178 sh_m rfl rfl rfl ?_
                refine e_vret dX11_nextToken_371 rfl ?_
                have hs1 : ¬ vWi (t.2 p) 97 122 := fun q => q.1 c100
                have hs2 : ¬ vWi (t.2 p) 48 57 := fun q => q.2 c221
                obtain ⟨k1, k2⟩ := kd_s hlt hs1 hs2
                have hin : t.2 p ∈ sgL := by rw [em]; rw [em] at c336; rw [em] at c342; rw [em] at c348; exact (sgm127 m hm).mp (Or.inr (Or.inl c348))
                rw [if_pos hin] at k1
                refine ⟨rfl, (hFb.i (by omega)).i (by omega), by rw [k2, setI_1, if_neg (by omega), setI_p], by rw [setI_1, if_neg (by omega), setI_1, if_neg (by omega)]; exact hb5, by rw [k1, setI_p]; rfl, fun q => ?_, fun q => ?_⟩
                · rw [k1] at q; exact absurd q (by decide)
                · rw [k1] at q; exact absurd q (by decide)
              · -- 348 goes on
                refine e_iload_n dX11_nextToken_351 rfl ?_
                refine e_bipush (v := 59) dX11_nextToken_352 (by decide) ?_
                refine e_icmp_lt (tgt := 367) dX11_nextToken_354 (by decide) (fun c354 => ?_) (fun c354 => ?_)
                · -- 354 jumps
                  refine e_iconst (v := 4) dX11_nextToken_367 (by decide) ?_
                  refine e_putI dX11_nextToken_368 fl_X11_178 sh_m rfl rfl rfl ?_
                  refine e_vret dX11_nextToken_371 rfl ?_
                  have hs1 : ¬ vWi (t.2 p) 97 122 := fun q => q.1 c100
                  have hs2 : ¬ vWi (t.2 p) 48 57 := fun q => q.2 c221
                  obtain ⟨k1, k2⟩ := kd_s hlt hs1 hs2
                  have hin : ¬ t.2 p ∈ sgL := by rw [em]; rw [em] at c336; rw [em] at c342; rw [em] at c348; rw [em] at c354; exact fun q => ((sgm127 m hm).mpr q).elim (fun z => z.2 c342) (fun z => z.elim (fun y => c348 y) (fun z => z.1 c354))
                  rw [if_neg hin] at k1
                  refine ⟨rfl, (hFb.i (by omega)).i (by omega), by rw [k2, setI_1, if_neg (by omega), setI_p], by rw [setI_1, if_neg (by omega), setI_1, if_neg (by omega)]; exact hb5, by rw [k1, setI_p]; rfl, fun q => ?_, fun q => ?_⟩
                  · rw [k1] at q; exact absurd q (by decide)
                  · rw [k1] at q; exact absurd q (by decide)
                · -- 354 goes on
                  refine e_iload_n dX11_nextToken_357 rfl ?_
                  refine e_bipush (v := 61) dX11_nextToken_358 (by decide) ?_
                  refine e_icmp_gt (tgt := 367) dX11_nextToken_360 (by decide) (fun c360 => ?_) (fun c360 => ?_)
                  · -- 360 jumps
                    refine e_iconst (v := 4) dX11_nextToken_367 (by decide) ?_
                    refine e_putI dX11_nextToken_368 fl_X11_178 sh_m rfl rfl rfl ?_
                    refine e_vret dX11_nextToken_371 rfl ?_
                    have hs1 : ¬ vWi (t.2 p) 97 122 := fun q => q.1 c100
                    have hs2 : ¬ vWi (t.2 p) 48 57 := fun q => q.2 c221
                    obtain ⟨k1, k2⟩ := kd_s hlt hs1 hs2
                    have hin : ¬ t.2 p ∈ sgL := by rw [em]; rw [em] at c336; rw [em] at c342; rw [em] at c348; rw [em] at c354; rw [em] at c360; exact fun q => ((sgm127 m hm).mpr q).elim (fun z => z.2 c342) (fun z => z.elim (fun y => c348 y) (fun z => z.2 c360))
                    rw [if_neg hin] at k1
                    refine ⟨rfl, (hFb.i (by omega)).i (by omega), by rw [k2, setI_1, if_neg (by omega), setI_p], by rw [setI_1, if_neg (by omega), setI_1, if_neg (by omega)]; exact hb5, by rw [k1, setI_p]; rfl, fun q => ?_, fun q => ?_⟩
                    · rw [k1] at q; exact absurd q (by decide)
                    · rw [k1] at q; exact absurd q (by decide)
                  · -- 360 goes on
                    refine e_iconst (v := 3) dX11_nextToken_363 (by decide) ?_
                    refine e_goto (tgt := 368) dX11_nextToken_364 (by decide) ?_
                    refine e_putI dX11_nextToken_368 fl_X11_178 sh_m rfl rfl rfl ?_
                    refine e_vret dX11_nextToken_371 rfl ?_
                    have hs1 : ¬ vWi (t.2 p) 97 122 := fun q => q.1 c100
                    have hs2 : ¬ vWi (t.2 p) 48 57 := fun q => q.2 c221
                    obtain ⟨k1, k2⟩ := kd_s hlt hs1 hs2
                    have hin : t.2 p ∈ sgL := by rw [em]; rw [em] at c336; rw [em] at c342; rw [em] at c348; rw [em] at c354; rw [em] at c360; exact (sgm127 m hm).mp (Or.inr (Or.inr ⟨c354, c360⟩))
                    rw [if_pos hin] at k1
                    refine ⟨rfl, (hFb.i (by omega)).i (by omega), by rw [k2, setI_1, if_neg (by omega), setI_p], by rw [setI_1, if_neg (by omega), setI_1, if_neg (by omega)]; exact hb5, by rw [k1, setI_p]; rfl, fun q => ?_, fun q => ?_⟩
                    · rw [k1] at q; exact absurd q (by decide)
                    · rw [k1] at q; exact absurd q (by decide)
        · -- 221 goes on
          have hs1 : ¬ vWi (t.2 p) 97 122 := fun q => q.1 c100
          have hs2 : vWi (t.2 p) 48 57 := ⟨c215, c221⟩
          have hkd := kd_n hlt hs1 hs2
          refine (l_tnum (G := G) (M := Mb) (s := t.2 p) hTb (t.1 + 1) p Mb ⟨Nat.le_refl _, by omega⟩ (by omega) NF.rfl' hb4 hb5 rfl (by rw [Nat.sub_self]; exact hb8)).weaken (fun r M2 h => ?_)
          obtain ⟨h0, h1, h2, h3, h4, h5⟩ := h
          refine ⟨h0, hFb.trans h1, by rw [hkd.2]; exact h2, h3, ?_, fun q => ?_, fun q => ?_⟩
          · rw [h4, hkd.1]; by_cases z : 4 < rn 48 57 t p - p
            · rw [if_pos z, if_pos z]; rfl
            · rw [if_neg z, if_neg z]; rfl
          · exfalso
            rw [hkd.1] at q
            by_cases z : 4 < rn 48 57 t p - p
            · rw [if_pos z] at q; exact absurd q (by decide)
            · rw [if_neg z] at q; exact absurd q (by decide)
          · refine h5 (fun z => ?_)
            rw [hkd.1, if_pos z] at q; exact absurd q (by decide)
    · -- 100 goes on
      refine e_iload_n dX11_nextToken_103 rfl ?_
      refine e_bipush (v := 122) dX11_nextToken_104 (by decide) ?_
      refine e_icmp_gt (tgt := 212) dX11_nextToken_106 (by decide) (fun c106 => ?_) (fun c106 => ?_)
      · -- 106 jumps
        refine e_iload_n dX11_nextToken_212 rfl ?_
        refine e_bipush (v := 48) dX11_nextToken_213 (by decide) ?_
        refine e_icmp_lt (tgt := 322) dX11_nextToken_215 (by decide) (fun c215 => ?_) (fun c215 => ?_)
        · -- 215 jumps
          refine e_aload_n dX11_nextToken_322 rfl ?_
          refine e_dup dX11_nextToken_323 rfl ?_
          refine e_getI dX11_nextToken_324 fl_X11_165 sh_m rfl ?_
          rw [hb4]
          refine e_iconst (v := 1) dX11_nextToken_327 (by decide) ?_
          refine e_iaddN (a := p) (b := 1) dX11_nextToken_328 ?_
          refine e_putI dX11_nextToken_329 fl_X11_165 sh_m rfl rfl rfl ?_
          refine e_aload_n dX11_nextToken_332 rfl ?_
          refine e_iload_n dX11_nextToken_333 rfl ?_
          refine e_bipush (v := 40) dX11_nextToken_334 (by decide) ?_
          refine e_icmp_lt (tgt := 345) dX11_nextToken_336 (by decide) (fun c336 => ?_) (fun c336 => ?_)
          · -- 336 jumps
            refine e_iload_n dX11_nextToken_345 rfl ?_
            refine e_bipush (v := 45) dX11_nextToken_346 (by decide) ?_
            refine e_icmp_eq (tgt := 363) dX11_nextToken_348 (by decide) (fun c348 => ?_) (fun c348 => ?_)
            · -- 348 jumps
              refine e_iconst (v := 3) dX11_nextToken_363 (by decide) ?_
              refine e_goto (tgt := 368) dX11_nextToken_364 (by decide) ?_
              refine e_putI dX11_nextToken_368 fl_X11_178 sh_m rfl rfl rfl ?_
              refine e_vret dX11_nextToken_371 rfl ?_
              have hs1 : ¬ vWi (t.2 p) 97 122 := fun q => q.2 c106
              have hs2 : ¬ vWi (t.2 p) 48 57 := fun q => q.1 c215
              obtain ⟨k1, k2⟩ := kd_s hlt hs1 hs2
              have hin : t.2 p ∈ sgL := by rw [em]; rw [em] at c336; rw [em] at c348; exact (sgm127 m hm).mp (Or.inr (Or.inl c348))
              rw [if_pos hin] at k1
              refine ⟨rfl, (hFb.i (by omega)).i (by omega), by rw [k2, setI_1, if_neg (by omega), setI_p], by rw [setI_1, if_neg (by omega), setI_1, if_neg (by omega)]; exact hb5, by rw [k1, setI_p]; rfl, fun q => ?_, fun q => ?_⟩
              · rw [k1] at q; exact absurd q (by decide)
              · rw [k1] at q; exact absurd q (by decide)
            · -- 348 goes on
              refine e_iload_n dX11_nextToken_351 rfl ?_
              refine e_bipush (v := 59) dX11_nextToken_352 (by decide) ?_
              refine e_icmp_lt (tgt := 367) dX11_nextToken_354 (by decide) (fun c354 => ?_) (fun c354 => ?_)
              · -- 354 jumps
                refine e_iconst (v := 4) dX11_nextToken_367 (by decide) ?_
                refine e_putI dX11_nextToken_368 fl_X11_178 sh_m rfl rfl rfl ?_
                refine e_vret dX11_nextToken_371 rfl ?_
                have hs1 : ¬ vWi (t.2 p) 97 122 := fun q => q.2 c106
                have hs2 : ¬ vWi (t.2 p) 48 57 := fun q => q.1 c215
                obtain ⟨k1, k2⟩ := kd_s hlt hs1 hs2
                have hin : ¬ t.2 p ∈ sgL := by rw [em]; rw [em] at c336; rw [em] at c348; rw [em] at c354; exact fun q => ((sgm127 m hm).mpr q).elim (fun z => z.1 c336) (fun z => z.elim (fun y => c348 y) (fun z => z.1 c354))
                rw [if_neg hin] at k1
                refine ⟨rfl, (hFb.i (by omega)).i (by omega), by rw [k2, setI_1, if_neg (by omega), setI_p], by rw [setI_1, if_neg (by omega), setI_1, if_neg (by omega)]; exact hb5, by rw [k1, setI_p]; rfl, fun q => ?_, fun q => ?_⟩
                · rw [k1] at q; exact absurd q (by decide)
                · rw [k1] at q; exact absurd q (by decide)
              · -- 354 goes on
                refine e_iload_n dX11_nextToken_357 rfl ?_
                refine e_bipush (v := 61) dX11_nextToken_358 (by decide) ?_
                refine e_icmp_gt (tgt := 367) dX11_nextToken_360 (by decide) (fun c360 => ?_) (fun c360 => ?_)
                · -- 360 jumps
                  refine e_iconst (v := 4) dX11_nextToken_367 (by decide) ?_
                  refine e_putI dX11_nextToken_368 fl_X11_178 sh_m rfl rfl rfl ?_
                  refine e_vret dX11_nextToken_371 rfl ?_
                  have hs1 : ¬ vWi (t.2 p) 97 122 := fun q => q.2 c106
                  have hs2 : ¬ vWi (t.2 p) 48 57 := fun q => q.1 c215
                  obtain ⟨k1, k2⟩ := kd_s hlt hs1 hs2
                  have hin : ¬ t.2 p ∈ sgL := by rw [em]; rw [em] at c336; rw [em] at c348; rw [em] at c354; rw [em] at c360; exact fun q => ((sgm127 m hm).mpr q).elim (fun z => z.1 c336) (fun z => z.elim (fun y => c348 y) (fun z => z.2 c360))
                  rw [if_neg hin] at k1
                  refine ⟨rfl, (hFb.i (by omega)).i (by omega), by rw [k2, setI_1, if_neg (by omega), setI_p], by rw [setI_1, if_neg (by omega), setI_1, if_neg (by omega)]; exact hb5, by rw [k1, setI_p]; rfl, fun q => ?_, fun q => ?_⟩
                  · rw [k1] at q; exact absurd q (by decide)
                  · rw [k1] at q; exact absurd q (by decide)
                · -- 360 goes on
                  refine e_iconst (v := 3) dX11_nextToken_363 (by decide) ?_
                  refine e_goto (tgt := 368) dX11_nextToken_364 (by decide) ?_
                  refine e_putI dX11_nextToken_368 fl_X11_178 sh_m rfl rfl rfl ?_
                  refine e_vret dX11_nextToken_371 rfl ?_
                  have hs1 : ¬ vWi (t.2 p) 97 122 := fun q => q.2 c106
                  have hs2 : ¬ vWi (t.2 p) 48 57 := fun q => q.1 c215
                  obtain ⟨k1, k2⟩ := kd_s hlt hs1 hs2
                  have hin : t.2 p ∈ sgL := by rw [em]; rw [em] at c336; rw [em] at c348; rw [em] at c354; rw [em] at c360; exact (sgm127 m hm).mp (Or.inr (Or.inr ⟨c354, c360⟩))
                  rw [if_pos hin] at k1
                  refine ⟨rfl, (hFb.i (by omega)).i (by omega), by rw [k2, setI_1, if_neg (by omega), setI_p], by rw [setI_1, if_neg (by omega), setI_1, if_neg (by omega)]; exact hb5, by rw [k1, setI_p]; rfl, fun q => ?_, fun q => ?_⟩
                  · rw [k1] at q; exact absurd q (by decide)
                  · rw [k1] at q; exact absurd q (by decide)
          · -- 336 goes on
            refine e_iload_n dX11_nextToken_339 rfl ?_
            refine e_bipush (v := 43) dX11_nextToken_340 (by decide) ?_
            refine e_icmp_le (tgt := 363) dX11_nextToken_342 (by decide) (fun c342 => ?_) (fun c342 => ?_)
            · -- 342 jumps
              refine e_iconst (v := 3) dX11_nextToken_363 (by decide) ?_
              refine e_goto (tgt := 368) dX11_nextToken_364 (by decide) ?_
              refine e_putI dX11_nextToken_368 fl_X11_178 sh_m rfl rfl rfl ?_
              refine e_vret dX11_nextToken_371 rfl ?_
              have hs1 : ¬ vWi (t.2 p) 97 122 := fun q => q.2 c106
              have hs2 : ¬ vWi (t.2 p) 48 57 := fun q => q.1 c215
              obtain ⟨k1, k2⟩ := kd_s hlt hs1 hs2
              have hin : t.2 p ∈ sgL := by rw [em]; rw [em] at c336; rw [em] at c342; exact (sgm127 m hm).mp (Or.inl ⟨c336, c342⟩)
              rw [if_pos hin] at k1
              refine ⟨rfl, (hFb.i (by omega)).i (by omega), by rw [k2, setI_1, if_neg (by omega), setI_p], by rw [setI_1, if_neg (by omega), setI_1, if_neg (by omega)]; exact hb5, by rw [k1, setI_p]; rfl, fun q => ?_, fun q => ?_⟩
              · rw [k1] at q; exact absurd q (by decide)
              · rw [k1] at q; exact absurd q (by decide)
            · -- 342 goes on
              refine e_iload_n dX11_nextToken_345 rfl ?_
              refine e_bipush (v := 45) dX11_nextToken_346 (by decide) ?_
              refine e_icmp_eq (tgt := 363) dX11_nextToken_348 (by decide) (fun c348 => ?_) (fun c348 => ?_)
              · -- 348 jumps
                refine e_iconst (v := 3) dX11_nextToken_363 (by decide) ?_
                refine e_goto (tgt := 368) dX11_nextToken_364 (by decide) ?_
                refine e_putI dX11_nextToken_368 fl_X11_178 sh_m rfl rfl rfl ?_
                refine e_vret dX11_nextToken_371 rfl ?_
                have hs1 : ¬ vWi (t.2 p) 97 122 := fun q => q.2 c106
                have hs2 : ¬ vWi (t.2 p) 48 57 := fun q => q.1 c215
                obtain ⟨k1, k2⟩ := kd_s hlt hs1 hs2
                have hin : t.2 p ∈ sgL := by rw [em]; rw [em] at c336; rw [em] at c342; rw [em] at c348; exact (sgm127 m hm).mp (Or.inr (Or.inl c348))
                rw [if_pos hin] at k1
                refine ⟨rfl, (hFb.i (by omega)).i (by omega), by rw [k2, setI_1, if_neg (by omega), setI_p], by rw [setI_1, if_neg (by omega), setI_1, if_neg (by omega)]; exact hb5, by rw [k1, setI_p]; rfl, fun q => ?_, fun q => ?_⟩
                · rw [k1] at q; exact absurd q (by decide)
                · rw [k1] at q; exact absurd q (by decide)
              · -- 348 goes on
                refine e_iload_n dX11_nextToken_351 rfl ?_
                refine e_bipush (v := 59) dX11_nextToken_352 (by decide) ?_
                refine e_icmp_lt (tgt := 367) dX11_nextToken_354 (by decide) (fun c354 => ?_) (fun c354 => ?_)
                · -- 354 jumps
                  refine e_iconst (v := 4) dX11_nextToken_367 (by decide) ?_
                  refine e_putI dX11_nextToken_368 fl_X11_178 sh_m rfl rfl rfl ?_
                  refine e_vret dX11_nextToken_371 rfl ?_
                  have hs1 : ¬ vWi (t.2 p) 97 122 := fun q => q.2 c106
                  have hs2 : ¬ vWi (t.2 p) 48 57 := fun q => q.1 c215
                  obtain ⟨k1, k2⟩ := kd_s hlt hs1 hs2
                  have hin : ¬ t.2 p ∈ sgL := by rw [em]; rw [em] at c336; rw [em] at c342; rw [em] at c348; rw [em] at c354; exact fun q => ((sgm127 m hm).mpr q).elim (fun z => z.2 c342) (fun z => z.elim (fun y => c348 y) (fun z => z.1 c354))
                  rw [if_neg hin] at k1
                  refine ⟨rfl, (hFb.i (by omega)).i (by omega), by rw [k2, setI_1, if_neg (by omega), setI_p], by rw [setI_1, if_neg (by omega), setI_1, if_neg (by omega)]; exact hb5, by rw [k1, setI_p]; rfl, fun q => ?_, fun q => ?_⟩
                  · rw [k1] at q; exact absurd q (by decide)
                  · rw [k1] at q; exact absurd q (by decide)
                · -- 354 goes on
                  refine e_iload_n dX11_nextToken_357 rfl ?_
                  refine e_bipush (v := 61) dX11_nextToken_358 (by decide) ?_
                  refine e_icmp_gt (tgt := 367) dX11_nextToken_360 (by decide) (fun c360 => ?_) (fun c360 => ?_)
                  · -- 360 jumps
                    refine e_iconst (v := 4) dX11_nextToken_367 (by decide) ?_
                    refine e_putI dX11_nextToken_368 fl_X11_178 sh_m rfl rfl rfl ?_
                    refine e_vret dX11_nextToken_371 rfl ?_
                    have hs1 : ¬ vWi (t.2 p) 97 122 := fun q => q.2 c106
                    have hs2 : ¬ vWi (t.2 p) 48 57 := fun q => q.1 c215
                    obtain ⟨k1, k2⟩ := kd_s hlt hs1 hs2
                    have hin : ¬ t.2 p ∈ sgL := by rw [em]; rw [em] at c336; rw [em] at c342; rw [em] at c348; rw [em] at c354; rw [em] at c360; exact fun q => ((sgm127 m hm).mpr q).elim (fun z => z.2 c342) (fun z => z.elim (fun y => c348 y) (fun z => z.2 c360))
                    rw [if_neg hin] at k1
                    refine ⟨rfl, (hFb.i (by omega)).i (by omega), by rw [k2, setI_1, if_neg (by omega), setI_p], by rw [setI_1, if_neg (by omega), setI_1, if_neg (by omega)]; exact hb5, by rw [k1, setI_p]; rfl, fun q => ?_, fun q => ?_⟩
                    · rw [k1] at q; exact absurd q (by decide)
                    · rw [k1] at q; exact absurd q (by decide)
                  · -- 360 goes on
                    refine e_iconst (v := 3) dX11_nextToken_363 (by decide) ?_
                    refine e_goto (tgt := 368) dX11_nextToken_364 (by decide) ?_
                    refine e_putI dX11_nextToken_368 fl_X11_178 sh_m rfl rfl rfl ?_
                    refine e_vret dX11_nextToken_371 rfl ?_
                    have hs1 : ¬ vWi (t.2 p) 97 122 := fun q => q.2 c106
                    have hs2 : ¬ vWi (t.2 p) 48 57 := fun q => q.1 c215
                    obtain ⟨k1, k2⟩ := kd_s hlt hs1 hs2
                    have hin : t.2 p ∈ sgL := by rw [em]; rw [em] at c336; rw [em] at c342; rw [em] at c348; rw [em] at c354; rw [em] at c360; exact (sgm127 m hm).mp (Or.inr (Or.inr ⟨c354, c360⟩))
                    rw [if_pos hin] at k1
                    refine ⟨rfl, (hFb.i (by omega)).i (by omega), by rw [k2, setI_1, if_neg (by omega), setI_p], by rw [setI_1, if_neg (by omega), setI_1, if_neg (by omega)]; exact hb5, by rw [k1, setI_p]; rfl, fun q => ?_, fun q => ?_⟩
                    · rw [k1] at q; exact absurd q (by decide)
                    · rw [k1] at q; exact absurd q (by decide)
        · -- 215 goes on
          refine e_iload_n dX11_nextToken_218 rfl ?_
          refine e_bipush (v := 57) dX11_nextToken_219 (by decide) ?_
          refine e_icmp_gt (tgt := 322) dX11_nextToken_221 (by decide) (fun c221 => ?_) (fun c221 => ?_)
          · -- 221 jumps
            refine e_aload_n dX11_nextToken_322 rfl ?_
            refine e_dup dX11_nextToken_323 rfl ?_
            refine e_getI dX11_nextToken_324 fl_X11_165 sh_m rfl ?_
            rw [hb4]
            refine e_iconst (v := 1) dX11_nextToken_327 (by decide) ?_
            refine e_iaddN (a := p) (b := 1) dX11_nextToken_328 ?_
            refine e_putI dX11_nextToken_329 fl_X11_165 sh_m rfl rfl rfl ?_
            refine e_aload_n dX11_nextToken_332 rfl ?_
            refine e_iload_n dX11_nextToken_333 rfl ?_
            refine e_bipush (v := 40) dX11_nextToken_334 (by decide) ?_
            refine e_icmp_lt (tgt := 345) dX11_nextToken_336 (by decide) (fun c336 => ?_) (fun c336 => ?_)
            · -- 336 jumps
              refine e_iload_n dX11_nextToken_345 rfl ?_
              refine e_bipush (v := 45) dX11_nextToken_346 (by decide) ?_
              refine e_icmp_eq (tgt := 363) dX11_nextToken_348 (by decide) (fun c348 => ?_) (fun c348 => ?_)
              · -- 348 jumps
                refine e_iconst (v := 3) dX11_nextToken_363 (by decide) ?_
                refine e_goto (tgt := 368) dX11_nextToken_364 (by decide) ?_
                refine e_putI dX11_nextToken_368 fl_X11_178 sh_m rfl rfl rfl ?_
                refine e_vret dX11_nextToken_371 rfl ?_
                have hs1 : ¬ vWi (t.2 p) 97 122 := fun q => q.2 c106
                have hs2 : ¬ vWi (t.2 p) 48 57 := fun q => q.2 c221
                obtain ⟨k1, k2⟩ := kd_s hlt hs1 hs2
                have hin : t.2 p ∈ sgL := by rw [em]; rw [em] at c336; rw [em] at c348; exact (sgm127 m hm).mp (Or.inr (Or.inl c348))
                rw [if_pos hin] at k1
                refine ⟨rfl, (hFb.i (by omega)).i (by omega), by rw [k2, setI_1, if_neg (by omega), setI_p], by rw [setI_1, if_neg (by omega), setI_1, if_neg (by omega)]; exact hb5, by rw [k1, setI_p]; rfl, fun q => ?_, fun q => ?_⟩
                · rw [k1] at q; exact absurd q (by decide)
                · rw [k1] at q; exact absurd q (by decide)
              · -- 348 goes on
                refine e_iload_n dX11_nextToken_351 rfl ?_
                refine e_bipush (v := 59) dX11_nextToken_352 (by decide) ?_
                refine e_icmp_lt (tgt := 367) dX11_nextToken_354 (by decide) (fun c354 => ?_) (fun c354 => ?_)
                · -- 354 jumps
                  refine e_iconst (v := 4) dX11_nextToken_367 (by decide) ?_
                  refine e_putI dX11_nextToken_368 fl_X11_178 sh_m rfl rfl rfl ?_
                  refine e_vret dX11_nextToken_371 rfl ?_
                  have hs1 : ¬ vWi (t.2 p) 97 122 := fun q => q.2 c106
                  have hs2 : ¬ vWi (t.2 p) 48 57 := fun q => q.2 c221
                  obtain ⟨k1, k2⟩ := kd_s hlt hs1 hs2
                  have hin : ¬ t.2 p ∈ sgL := by rw [em]; rw [em] at c336; rw [em] at c348; rw [em] at c354; exact fun q => ((sgm127 m hm).mpr q).elim (fun z => z.1 c336) (fun z => z.elim (fun y => c348 y) (fun z => z.1 c354))
                  rw [if_neg hin] at k1
                  refine ⟨rfl, (hFb.i (by omega)).i (by omega), by rw [k2, setI_1, if_neg (by omega), setI_p], by rw [setI_1, if_neg (by omega), setI_1, if_neg (by omega)]; exact hb5, by rw [k1, setI_p]; rfl, fun q => ?_, fun q => ?_⟩
                  · rw [k1] at q; exact absurd q (by decide)
                  · rw [k1] at q; exact absurd q (by decide)
                · -- 354 goes on
                  refine e_iload_n dX11_nextToken_357 rfl ?_
                  refine e_bipush (v := 61) dX11_nextToken_358 (by decide) ?_
                  refine e_icmp_gt (tgt := 367) dX11_nextToken_360 (by decide) (fun c360 => ?_) (fun c360 => ?_)
                  · -- 360 jumps
                    refine e_iconst (v := 4) dX11_nextToken_367 (by decide) ?_
                    refine e_putI dX11_nextToken_368 fl_X11_178 sh_m rfl rfl rfl ?_
                    refine e_vret dX11_nextToken_371 rfl ?_
                    have hs1 : ¬ vWi (t.2 p) 97 122 := fun q => q.2 c106
                    have hs2 : ¬ vWi (t.2 p) 48 57 := fun q => q.2 c221
                    obtain ⟨k1, k2⟩ := kd_s hlt hs1 hs2
                    have hin : ¬ t.2 p ∈ sgL := by rw [em]; rw [em] at c336; rw [em] at c348; rw [em] at c354; rw [em] at c360; exact fun q => ((sgm127 m hm).mpr q).elim (fun z => z.1 c336) (fun z => z.elim (fun y => c348 y) (fun z => z.2 c360))
                    rw [if_neg hin] at k1
                    refine ⟨rfl, (hFb.i (by omega)).i (by omega), by rw [k2, setI_1, if_neg (by omega), setI_p], by rw [setI_1, if_neg (by omega), setI_1, if_neg (by omega)]; exact hb5, by rw [k1, setI_p]; rfl, fun q => ?_, fun q => ?_⟩
                    · rw [k1] at q; exact absurd q (by decide)
                    · rw [k1] at q; exact absurd q (by decide)
                  · -- 360 goes on
                    refine e_iconst (v := 3) dX11_nextToken_363 (by decide) ?_
                    refine e_goto (tgt := 368) dX11_nextToken_364 (by decide) ?_
                    refine e_putI dX11_nextToken_368 fl_X11_178 sh_m rfl rfl rfl ?_
                    refine e_vret dX11_nextToken_371 rfl ?_
                    have hs1 : ¬ vWi (t.2 p) 97 122 := fun q => q.2 c106
                    have hs2 : ¬ vWi (t.2 p) 48 57 := fun q => q.2 c221
                    obtain ⟨k1, k2⟩ := kd_s hlt hs1 hs2
                    have hin : t.2 p ∈ sgL := by rw [em]; rw [em] at c336; rw [em] at c348; rw [em] at c354; rw [em] at c360; exact (sgm127 m hm).mp (Or.inr (Or.inr ⟨c354, c360⟩))
                    rw [if_pos hin] at k1
                    refine ⟨rfl, (hFb.i (by omega)).i (by omega), by rw [k2, setI_1, if_neg (by omega), setI_p], by rw [setI_1, if_neg (by omega), setI_1, if_neg (by omega)]; exact hb5, by rw [k1, setI_p]; rfl, fun q => ?_, fun q => ?_⟩
                    · rw [k1] at q; exact absurd q (by decide)
                    · rw [k1] at q; exact absurd q (by decide)
            · -- 336 goes on
              refine e_iload_n dX11_nextToken_339 rfl ?_
              refine e_bipush (v := 43) dX11_nextToken_340 (by decide) ?_
              refine e_icmp_le (tgt := 363) dX11_nextToken_342 (by decide) (fun c342 => ?_) (fun c342 => ?_)
              · -- 342 jumps
                refine e_iconst (v := 3) dX11_nextToken_363 (by decide) ?_
                refine e_goto (tgt := 368) dX11_nextToken_364 (by decide) ?_
                refine e_putI dX11_nextToken_368 fl_X11_178 sh_m rfl rfl rfl ?_
                refine e_vret dX11_nextToken_371 rfl ?_
                have hs1 : ¬ vWi (t.2 p) 97 122 := fun q => q.2 c106
                have hs2 : ¬ vWi (t.2 p) 48 57 := fun q => q.2 c221
                obtain ⟨k1, k2⟩ := kd_s hlt hs1 hs2
                have hin : t.2 p ∈ sgL := by rw [em]; rw [em] at c336; rw [em] at c342; exact (sgm127 m hm).mp (Or.inl ⟨c336, c342⟩)
                rw [if_pos hin] at k1
                refine ⟨rfl, (hFb.i (by omega)).i (by omega), by rw [k2, setI_1, if_neg (by omega), setI_p], by rw [setI_1, if_neg (by omega), setI_1, if_neg (by omega)]; exact hb5, by rw [k1, setI_p]; rfl, fun q => ?_, fun q => ?_⟩
                · rw [k1] at q; exact absurd q (by decide)
                · rw [k1] at q; exact absurd q (by decide)
              · -- 342 goes on
                refine e_iload_n dX11_nextToken_345 rfl ?_
                refine e_bipush (v := 45) dX11_nextToken_346 (by decide) ?_
                refine e_icmp_eq (tgt := 363) dX11_nextToken_348 (by decide) (fun c348 => ?_) (fun c348 => ?_)
                · -- 348 jumps
                  refine e_iconst (v := 3) dX11_nextToken_363 (by decide) ?_
                  refine e_goto (tgt := 368) dX11_nextToken_364 (by decide) ?_
                  refine e_putI dX11_nextToken_368 fl_X11_178 sh_m rfl rfl rfl ?_
                  refine e_vret dX11_nextToken_371 rfl ?_
                  have hs1 : ¬ vWi (t.2 p) 97 122 := fun q => q.2 c106
                  have hs2 : ¬ vWi (t.2 p) 48 57 := fun q => q.2 c221
                  obtain ⟨k1, k2⟩ := kd_s hlt hs1 hs2
                  have hin : t.2 p ∈ sgL := by rw [em]; rw [em] at c336; rw [em] at c342; rw [em] at c348; exact (sgm127 m hm).mp (Or.inr (Or.inl c348))
                  rw [if_pos hin] at k1
                  refine ⟨rfl, (hFb.i (by omega)).i (by omega), by rw [k2, setI_1, if_neg (by omega), setI_p], by rw [setI_1, if_neg (by omega), setI_1, if_neg (by omega)]; exact hb5, by rw [k1, setI_p]; rfl, fun q => ?_, fun q => ?_⟩
                  · rw [k1] at q; exact absurd q (by decide)
                  · rw [k1] at q; exact absurd q (by decide)
                · -- 348 goes on
                  refine e_iload_n dX11_nextToken_351 rfl ?_
                  refine e_bipush (v := 59) dX11_nextToken_352 (by decide) ?_
                  refine e_icmp_lt (tgt := 367) dX11_nextToken_354 (by decide) (fun c354 => ?_) (fun c354 => ?_)
                  · -- 354 jumps
                    refine e_iconst (v := 4) dX11_nextToken_367 (by decide) ?_
                    refine e_putI dX11_nextToken_368 fl_X11_178 sh_m rfl rfl rfl ?_
                    refine e_vret dX11_nextToken_371 rfl ?_
                    have hs1 : ¬ vWi (t.2 p) 97 122 := fun q => q.2 c106
                    have hs2 : ¬ vWi (t.2 p) 48 57 := fun q => q.2 c221
                    obtain ⟨k1, k2⟩ := kd_s hlt hs1 hs2
                    have hin : ¬ t.2 p ∈ sgL := by rw [em]; rw [em] at c336; rw [em] at c342; rw [em] at c348; rw [em] at c354; exact fun q => ((sgm127 m hm).mpr q).elim (fun z => z.2 c342) (fun z => z.elim (fun y => c348 y) (fun z => z.1 c354))
                    rw [if_neg hin] at k1
                    refine ⟨rfl, (hFb.i (by omega)).i (by omega), by rw [k2, setI_1, if_neg (by omega), setI_p], by rw [setI_1, if_neg (by omega), setI_1, if_neg (by omega)]; exact hb5, by rw [k1, setI_p]; rfl, fun q => ?_, fun q => ?_⟩
                    · rw [k1] at q; exact absurd q (by decide)
                    · rw [k1] at q; exact absurd q (by decide)
                  · -- 354 goes on
                    refine e_iload_n dX11_nextToken_357 rfl ?_
                    refine e_bipush (v := 61) dX11_nextToken_358 (by decide) ?_
                    refine e_icmp_gt (tgt := 367) dX11_nextToken_360 (by decide) (fun c360 => ?_) (fun c360 => ?_)
                    · -- 360 jumps
                      refine e_iconst (v := 4) dX11_nextToken_367 (by decide) ?_
                      refine e_putI dX11_nextToken_368 fl_X11_178 sh_m rfl rfl rfl ?_
                      refine e_vret dX11_nextToken_371 rfl ?_
                      have hs1 : ¬ vWi (t.2 p) 97 122 := fun q => q.2 c106
                      have hs2 : ¬ vWi (t.2 p) 48 57 := fun q => q.2 c221
                      obtain ⟨k1, k2⟩ := kd_s hlt hs1 hs2
                      have hin : ¬ t.2 p ∈ sgL := by rw [em]; rw [em] at c336; rw [em] at c342; rw [em] at c348; rw [em] at c354; rw [em] at c360; exact fun q => ((sgm127 m hm).mpr q).elim (fun z => z.2 c342) (fun z => z.elim (fun y => c348 y) (fun z => z.2 c360))
                      rw [if_neg hin] at k1
                      refine ⟨rfl, (hFb.i (by omega)).i (by omega), by rw [k2, setI_1, if_neg (by omega), setI_p], by rw [setI_1, if_neg (by omega), setI_1, if_neg (by omega)]; exact hb5, by rw [k1, setI_p]; rfl, fun q => ?_, fun q => ?_⟩
                      · rw [k1] at q; exact absurd q (by decide)
                      · rw [k1] at q; exact absurd q (by decide)
                    · -- 360 goes on
                      refine e_iconst (v := 3) dX11_nextToken_363 (by decide) ?_
                      refine e_goto (tgt := 368) dX11_nextToken_364 (by decide) ?_
                      refine e_putI dX11_nextToken_368 fl_X11_178 sh_m rfl rfl rfl ?_
                      refine e_vret dX11_nextToken_371 rfl ?_
                      have hs1 : ¬ vWi (t.2 p) 97 122 := fun q => q.2 c106
                      have hs2 : ¬ vWi (t.2 p) 48 57 := fun q => q.2 c221
                      obtain ⟨k1, k2⟩ := kd_s hlt hs1 hs2
                      have hin : t.2 p ∈ sgL := by rw [em]; rw [em] at c336; rw [em] at c342; rw [em] at c348; rw [em] at c354; rw [em] at c360; exact (sgm127 m hm).mp (Or.inr (Or.inr ⟨c354, c360⟩))
                      rw [if_pos hin] at k1
                      refine ⟨rfl, (hFb.i (by omega)).i (by omega), by rw [k2, setI_1, if_neg (by omega), setI_p], by rw [setI_1, if_neg (by omega), setI_1, if_neg (by omega)]; exact hb5, by rw [k1, setI_p]; rfl, fun q => ?_, fun q => ?_⟩
                      · rw [k1] at q; exact absurd q (by decide)
                      · rw [k1] at q; exact absurd q (by decide)
          · -- 221 goes on
            have hs1 : ¬ vWi (t.2 p) 97 122 := fun q => q.2 c106
            have hs2 : vWi (t.2 p) 48 57 := ⟨c215, c221⟩
            have hkd := kd_n hlt hs1 hs2
            refine (l_tnum (G := G) (M := Mb) (s := t.2 p) hTb (t.1 + 1) p Mb ⟨Nat.le_refl _, by omega⟩ (by omega) NF.rfl' hb4 hb5 rfl (by rw [Nat.sub_self]; exact hb8)).weaken (fun r M2 h => ?_)
            obtain ⟨h0, h1, h2, h3, h4, h5⟩ := h
            refine ⟨h0, hFb.trans h1, by rw [hkd.2]; exact h2, h3, ?_, fun q => ?_, fun q => ?_⟩
            · rw [h4, hkd.1]; by_cases z : 4 < rn 48 57 t p - p
              · rw [if_pos z, if_pos z]; rfl
              · rw [if_neg z, if_neg z]; rfl
            · exfalso
              rw [hkd.1] at q
              by_cases z : 4 < rn 48 57 t p - p
              · rw [if_pos z] at q; exact absurd q (by decide)
              · rw [if_neg z] at q; exact absurd q (by decide)
            · refine h5 (fun z => ?_)
              rw [hkd.1, if_pos z] at q; exact absurd q (by decide)
      · -- 106 goes on
        have hs1 : vWi (t.2 p) 97 122 := ⟨c100, c106⟩
        have hkd := kd_w hlt hs1
        refine (l_tword (G := G) (M := Mb) (s := t.2 p) hTb (t.1 + 1) p Mb ⟨Nat.le_refl _, by omega⟩ (by omega) NF.rfl' hb4 hb5 rfl (by rw [Nat.sub_self]; exact hb7)).weaken (fun r M2 h => ?_)
        obtain ⟨h0, h1, h2, h3, h4, h5⟩ := h
        refine ⟨h0, hFb.trans h1, by rw [hkd.2]; exact h2, h3, ?_, fun q => ?_, fun q => ?_⟩
        · rw [h4, hkd.1]; by_cases z : 8 < rn 97 122 t p - p
          · rw [if_pos z, if_pos z]; rfl
          · rw [if_neg z, if_neg z]; rfl
        · refine h5 (fun z => ?_)
          rw [hkd.1, if_pos z] at q; exact absurd q (by decide)
        · exfalso
          rw [hkd.1] at q
          by_cases z : 8 < rn 97 122 t p - p
          · rw [if_pos z] at q; exact absurd q (by decide)
          · rw [if_neg z] at q; exact absurd q (by decide)
  · -- 78 goes on
    refine e_aload_n dX11_nextToken_81 rfl ?_
    refine e_iconst (v := 0) dX11_nextToken_82 (by decide) ?_
    refine e_putI dX11_nextToken_83 fl_X11_178 sh_m rfl rfl rfl ?_
    refine e_vret dX11_nextToken_86 rfl ?_
    have hpn : ¬ p < t.1 := fun q => by have := nI_injN (by omega) (by omega) c78; omega
    obtain ⟨k1, k2⟩ := kd_e hpn
    refine ⟨rfl, hFb.i (by omega), by rw [k2, setI_1, if_neg (by omega)]; exact hb4, by rw [setI_1, if_neg (by omega)]; exact hb5, by rw [k1, setI_p]; rfl, fun q => ?_, fun q => ?_⟩
    · rw [k1] at q; exact absurd q (by decide)
    · rw [k1] at q; exact absurd q (by decide)
set_option maxHeartbeats 4000000 in
set_option maxRecDepth 20000 in
theorem l_tskip {G : Gt} {M : Mm} {t : Tv} {i : Nat} {u : Value} (hI : TI t) (hT : TZ M t) : ∀ (k : Nat) (j : Nat) (Mc : Mm), (j ≤ t.1) → (t.1 < j + k) → (NF M Mc) → (Mc.1 238 4 = nI j) → (pl t i = pl t j) → Ev G 2 mX11_nextToken 0 [.ref 238, u] [] Mc (fun r M' => r = none ∧ NF M M' ∧ TQ M' t (pl t i)) := by
  intro k
  induction k with
  | zero => intro j Mc hp hk hF h4 hr; exact absurd hk (by omega)
  | succ k ih =>
    intro j Mc hp hk hF h4 hr
    have hTc := hF.tz hT
    have ht := hT.2.1
    refine e_aload_n dX11_nextToken_0 rfl ?_
    refine e_getI dX11_nextToken_1 fl_X11_165 sh_m rfl ?_
    rw [h4]
    refine e_aload_n dX11_nextToken_4 rfl ?_
    refine e_getI dX11_nextToken_5 fl_X11_162 sh_m rfl ?_
    rw [hTc.1]
    refine e_icmp_ge (tgt := 52) dX11_nextToken_8 (by decide) (fun c8 => ?_) (fun c8 => ?_)
    · -- 8 jumps
      rw [hr, pl_n (ge_of (by omega) (by omega) c8)]
      exact s_tok52 hI hT hF hp h4
    · -- 8 goes on
      have hlt : j < t.1 := lt_of (by omega) (by omega) c8
      refine e_aload_n dX11_nextToken_11 rfl ?_
      refine e_getR dX11_nextToken_12 fl_X11_7 sh_m rfl ?_
      refine e_aload_n dX11_nextToken_15 rfl ?_
      refine e_getI dX11_nextToken_16 fl_X11_165 sh_m rfl ?_
      rw [h4]
      refine e_ialdN (j := j) dX11_nextToken_19 (sa_m_tape) (by decide) (by omega) ?_
      rw [hTc.2.2 j hlt]
      refine e_bipush (v := 32) dX11_nextToken_20 (by decide) ?_
      refine e_icmp_eq (tgt := 39) dX11_nextToken_22 (by decide) (fun c22 => ?_) (fun c22 => ?_)
      · -- 22 jumps
        refine e_aload_n dX11_nextToken_39 rfl ?_
        refine e_dup dX11_nextToken_40 rfl ?_
        refine e_getI dX11_nextToken_41 fl_X11_165 sh_m rfl ?_
        rw [h4]
        refine e_iconst (v := 1) dX11_nextToken_44 (by decide) ?_
        refine e_iaddN (a := j) (b := 1) dX11_nextToken_45 ?_
        refine e_putI dX11_nextToken_46 fl_X11_165 sh_m rfl rfl rfl ?_
        refine e_goto (tgt := 0) dX11_nextToken_49 (by decide) ?_
        exact ih (j + 1) _ (by omega) (by omega) (hF.i (by omega)) (by rw [setI_p]) (hr.trans (pl_s hlt (Or.inl c22)))
      · -- 22 goes on
        refine e_aload_n dX11_nextToken_25 rfl ?_
        refine e_getR dX11_nextToken_26 fl_X11_7 sh_m rfl ?_
        refine e_aload_n dX11_nextToken_29 rfl ?_
        refine e_getI dX11_nextToken_30 fl_X11_165 sh_m rfl ?_
        rw [h4]
        refine e_ialdN (j := j) dX11_nextToken_33 (sa_m_tape) (by decide) (by omega) ?_
        rw [hTc.2.2 j hlt]
        refine e_bipush (v := 10) dX11_nextToken_34 (by decide) ?_
        refine e_icmp_ne (tgt := 52) dX11_nextToken_36 (by decide) (fun c36 => ?_) (fun c36 => ?_)
        · -- 36 jumps
          rw [hr, pl_e hlt (fun q => q.elim c22 c36)]
          exact s_tok52 hI hT hF hp h4
        · -- 36 goes on
          refine e_aload_n dX11_nextToken_39 rfl ?_
          refine e_dup dX11_nextToken_40 rfl ?_
          refine e_getI dX11_nextToken_41 fl_X11_165 sh_m rfl ?_
          rw [h4]
          refine e_iconst (v := 1) dX11_nextToken_44 (by decide) ?_
          refine e_iaddN (a := j) (b := 1) dX11_nextToken_45 ?_
          refine e_putI dX11_nextToken_46 fl_X11_165 sh_m rfl rfl rfl ?_
          refine e_goto (tgt := 0) dX11_nextToken_49 (by decide) ?_
          exact ih (j + 1) _ (by omega) (by omega) (hF.i (by omega)) (by rw [setI_p]) (hr.trans (pl_s hlt (Or.inr c36)))
theorem r_nextToken {G : Gt} {M : Mm} {t : Tv} {i : Nat} (hI : TI t) (hT : TZ M t) (hi : i ≤ t.1) (h4 : M.1 238 4 = nI i) : Call G 2 mX11_nextToken [.ref 238] M (fun r M' => r = none ∧ NF M M' ∧ TQ M' t (pl t i)) := by
  refine Call.intro rfl (Nat.le_of_ble_eq_true rfl) ?_
  exact l_tskip hI hT (t.1 + 1) i M hi (by omega) NF.rfl' h4 rfl
end RTK
