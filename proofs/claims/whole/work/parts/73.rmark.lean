section RMK
/-- a block of a row laid beside -/
def BK (M M' : Mm) (c a b n : Nat) : Prop := ∀ k, M'.1 c k = if b ≤ k ∧ k < b + n then M.1 c (a + (k - b)) else M.1 c k
theorem BK.z {M : Mm} {c a b : Nat} : BK M M c a b 0 := fun k => by rw [if_neg (by omega)]
theorem BK.at {M M' : Mm} {c a b n j : Nat} (h : BK M M' c a b n) (hj : j < n) : M'.1 c (b + j) = M.1 c (a + j) := by rw [h, if_pos (by omega), show b + j - b = j by omega]
theorem BK.out {M M' : Mm} {c a b n k : Nat} (h : BK M M' c a b n) (hk : ¬ (b ≤ k ∧ k < b + n)) : M'.1 c k = M.1 c k := by rw [h, if_neg hk]
theorem BK.s {M Mc : Mm} {c a b i : Nat} {v : Int32} (h : BK M Mc c a b i) (hv : v = M.1 c (a + i)) : BK M (setI Mc c (b + i) v) c a b (i + 1) := fun k => by
  rw [setI_1]
  by_cases e : k = b + i
  · rw [if_pos ⟨rfl, e⟩, if_pos (by omega), hv, show k - b = i by omega]
  · rw [if_neg (fun x => e x.2), h k]
    by_cases l : b ≤ k ∧ k < b + i
    · rw [if_pos l, if_pos (by omega)]
    · rw [if_neg l, if_neg (by omega)]
theorem BK.ne {M Mc : Mm} {c a b n d k : Nat} {v : Int32} (h : BK M Mc c a b n) (hd : ¬ c = d) : BK M (setI Mc d k v) c a b n := fun q => by rw [setI_n hd]; exact h q
/-- lines laid from place p to place q -/
def LLi (M M' : Mm) (p q : Nat) : Prop := M'.2 = M.2 ∧ (∀ i, ¬ (265 ≤ i ∧ i ≤ 268) → M'.1 i = M.1 i) ∧ (∀ k, M'.1 265 k = if k = q then M.1 265 p else M.1 265 k) ∧ BK M M' 266 (40 * p) (40 * q) 40 ∧ BK M M' 267 (40 * p) (40 * q) 40 ∧ BK M M' 268 (40 * p) (40 * q) 40
def LSe (M M' : Mm) (p q : Nat) : Prop := M'.2 = M.2 ∧ (∀ i, ¬ (269 ≤ i ∧ i ≤ 272) → M'.1 i = M.1 i) ∧ (∀ k, M'.1 269 k = if k = q then M.1 269 p else M.1 269 k) ∧ BK M M' 270 (8 * p) (8 * q) 8 ∧ BK M M' 271 (8 * p) (8 * q) 8 ∧ ∀ k, M'.1 272 k = if 8 * q ≤ k ∧ k < 8 * q + 8 then vp_nar .boolean (M.1 272 (8 * p + (k - 8 * q))) else M.1 272 k
theorem RLi.to {M M' : Mm} {p q : Nat} {W : Rv} (h : RLi M p W) (hL : LLi M M' p q) : RLi M' q W := by
  refine ⟨by rw [hL.2.2.1, if_pos rfl]; exact h.1, h.2.1, fun k hk => ?_⟩
  have h40 := h.2.1
  rw [hL.2.2.2.1.at (by omega), hL.2.2.2.2.1.at (by omega), hL.2.2.2.2.2.at (by omega)]
  exact h.2.2 k hk
theorem RLi.keep {M M' : Mm} {p q r : Nat} {W : Rv} (h : RLi M r W) (hL : LLi M M' p q) (hr : ¬ r = q) : RLi M' r W := by
  refine ⟨by rw [hL.2.2.1, if_neg hr]; exact h.1, h.2.1, fun k hk => ?_⟩
  have h40 := h.2.1
  rw [hL.2.2.2.1.out (by omega), hL.2.2.2.2.1.out (by omega), hL.2.2.2.2.2.out (by omega)]
  exact h.2.2 k hk
theorem nar01 {x : Int32} (h : x = 0 ∨ x = 1) : vp_nar .boolean x = x := by rcases h with e | e <;> rw [e] <;> rfl
theorem RS.to {M M' : Mm} {p q : Nat} {V : Rv} (h : RS M p V) (hVI : VI V) (hL : LSe M M' p q) : RS M' q V := by
  refine ⟨by rw [hL.2.2.1, if_pos rfl]; exact h.1, h.2.1, fun k hk => ?_⟩
  have h8 := h.2.1
  obtain ⟨a, b, c⟩ := h.2.2 k hk
  rw [hL.2.2.2.1.at (by omega), hL.2.2.2.2.1.at (by omega), hL.2.2.2.2.2, if_pos (by omega), show 8 * p + (8 * q + k - 8 * q) = 8 * p + k by omega, c, nar01 (hVI k hk).2]
  exact ⟨a, b, rfl⟩
theorem RS.keep {M M' : Mm} {p q r : Nat} {V : Rv} (h : RS M r V) (hL : LSe M M' p q) (hr : ¬ r = q) : RS M' r V := by
  refine ⟨by rw [hL.2.2.1, if_neg hr]; exact h.1, h.2.1, fun k hk => ?_⟩
  have h8 := h.2.1
  rw [hL.2.2.2.1.out (by omega), hL.2.2.2.2.1.out (by omega), hL.2.2.2.2.2, if_neg (by omega)]
  exact h.2.2 k hk
theorem LLi.ot {M M' : Mm} {p q : Nat} (h : LLi M M' p q) : OT M M' := ⟨fun i a => ⟨h.2.1 i (by omega), by rw [h.1]⟩, by rw [h.1]⟩
theorem LSe.ot {M M' : Mm} {p q : Nat} (h : LSe M M' p q) : OT M M' := ⟨fun i a => ⟨h.2.1 i (by omega), by rw [h.1]⟩, by rw [h.1]⟩
set_option maxHeartbeats 4000000 in
set_option maxRecDepth 20000 in
theorem l_rlines {G : Gt} {M : Mm} {p q : Nat} (hp : p ≤ 5) (hq : q ≤ 5) (hne : ¬ p = q) : ∀ (k : Nat) (i : Nat) (Mc : Mm), (i ≤ 40) → (40 < i + k) → (Mc.2 = M.2) → (∀ i, ¬ (265 ≤ i ∧ i ≤ 268) → Mc.1 i = M.1 i) → (∀ k, Mc.1 265 k = if k = q then M.1 265 p else M.1 265 k) → (BK M Mc 266 (40 * p) (40 * q) i) → (BK M Mc 267 (40 * p) (40 * q) i) → (BK M Mc 268 (40 * p) (40 * q) i) → Ev G 1 mX11_laysLines 14 [.ref 238, .int (nI p), .int (nI q), .int (nI i)] [] Mc (fun r M' => r = none ∧ LLi M M' p q) := by
  intro k
  induction k with
  | zero => intro i Mc hi hk h2 ho h5 ha hb hc; exact absurd hk (by omega)
  | succ k ih =>
    intro i Mc hi hk h2 ho h5 ha hb hc
    refine e_iload_n dX11_laysLines_14 rfl ?_
    refine e_bipush (v := 40) dX11_laysLines_15 (by decide) ?_
    refine e_icmp_ge (tgt := 92) dX11_laysLines_17 (by decide) (fun c17 => ?_) (fun c17 => ?_)
    · -- 17 jumps
      have hin : i = 40 := by have := ge_of (i := i) (n := 40) (by omega) (by omega) c17; omega
      subst hin
      refine e_vret dX11_laysLines_92 rfl ?_
      exact ⟨rfl, h2, ho, h5, ha, hb, hc⟩
    · -- 17 goes on
      have hlt : i < 40 := lt_of (i := i) (n := 40) (by omega) (by omega) c17
      refine e_aload_n dX11_laysLines_20 rfl ?_
      refine e_getR dX11_laysLines_21 fl_X11_93 sh_m rfl ?_
      refine e_bipush (v := 40) dX11_laysLines_24 (by decide) ?_
      refine e_iload_n dX11_laysLines_26 rfl ?_
      refine e_imulN (a := 40) (b := q) dX11_laysLines_27 ?_
      refine e_iload_n dX11_laysLines_28 rfl ?_
      refine e_iaddN (a := (40 * q)) (b := i) dX11_laysLines_29 ?_
      refine e_aload_n dX11_laysLines_30 rfl ?_
      refine e_getR dX11_laysLines_31 fl_X11_93 sh_m rfl ?_
      refine e_bipush (v := 40) dX11_laysLines_34 (by decide) ?_
      refine e_iload_n dX11_laysLines_36 rfl ?_
      refine e_imulN (a := 40) (b := p) dX11_laysLines_37 ?_
      refine e_iload_n dX11_laysLines_38 rfl ?_
      refine e_iaddN (a := (40 * p)) (b := i) dX11_laysLines_39 ?_
      refine e_ialdN (j := ((40 * p) + i)) dX11_laysLines_40 (sa_m_lineWhat) (by decide) (by omega) ?_
      refine e_iastN (j := ((40 * q) + i)) dX11_laysLines_41 (sa_m_lineWhat) (by decide) (by omega) ?_
      refine e_aload_n dX11_laysLines_42 rfl ?_
      refine e_getR dX11_laysLines_43 fl_X11_96 sh_m rfl ?_
      refine e_bipush (v := 40) dX11_laysLines_46 (by decide) ?_
      refine e_iload_n dX11_laysLines_48 rfl ?_
      refine e_imulN (a := 40) (b := q) dX11_laysLines_49 ?_
      refine e_iload_n dX11_laysLines_50 rfl ?_
      refine e_iaddN (a := (40 * q)) (b := i) dX11_laysLines_51 ?_
      refine e_aload_n dX11_laysLines_52 rfl ?_
      refine e_getR dX11_laysLines_53 fl_X11_96 sh_m rfl ?_
      refine e_bipush (v := 40) dX11_laysLines_56 (by decide) ?_
      refine e_iload_n dX11_laysLines_58 rfl ?_
      refine e_imulN (a := 40) (b := p) dX11_laysLines_59 ?_
      refine e_iload_n dX11_laysLines_60 rfl ?_
      refine e_iaddN (a := (40 * p)) (b := i) dX11_laysLines_61 ?_
      refine e_ialdN (j := ((40 * p) + i)) dX11_laysLines_62 (sa_m_lineA) (by decide) (by omega) ?_
      refine e_iastN (j := ((40 * q) + i)) dX11_laysLines_63 (sa_m_lineA) (by decide) (by omega) ?_
      refine e_aload_n dX11_laysLines_64 rfl ?_
      refine e_getR dX11_laysLines_65 fl_X11_99 sh_m rfl ?_
      refine e_bipush (v := 40) dX11_laysLines_68 (by decide) ?_
      refine e_iload_n dX11_laysLines_70 rfl ?_
      refine e_imulN (a := 40) (b := q) dX11_laysLines_71 ?_
      refine e_iload_n dX11_laysLines_72 rfl ?_
      refine e_iaddN (a := (40 * q)) (b := i) dX11_laysLines_73 ?_
      refine e_aload_n dX11_laysLines_74 rfl ?_
      refine e_getR dX11_laysLines_75 fl_X11_99 sh_m rfl ?_
      refine e_bipush (v := 40) dX11_laysLines_78 (by decide) ?_
      refine e_iload_n dX11_laysLines_80 rfl ?_
      refine e_imulN (a := 40) (b := p) dX11_laysLines_81 ?_
      refine e_iload_n dX11_laysLines_82 rfl ?_
      refine e_iaddN (a := (40 * p)) (b := i) dX11_laysLines_83 ?_
      refine e_ialdN (j := ((40 * p) + i)) dX11_laysLines_84 (sa_m_lineB) (by decide) (by omega) ?_
      refine e_iastN (j := ((40 * q) + i)) dX11_laysLines_85 (sa_m_lineB) (by decide) (by omega) ?_
      refine e_iinc (ls' := [_, _, _, _]) dX11_laysLines_86 rfl (nI_i1 _) (by decide) rfl ?_
      refine e_goto (tgt := 14) dX11_laysLines_89 (by decide) ?_
      refine ih (i + 1) _ (by omega) (by omega) h2 (fun z hz => ?_) (fun k => ?_) ?_ ?_ ?_
      · rw [← ho z hz]; funext y; rw [setI_n (by omega), setI_n (by omega), setI_n (by omega)]
      · rw [setI_n (by decide), setI_n (by decide), setI_n (by decide)]; exact h5 k
      · exact ((ha.s (ha.out (by omega))).ne (by decide)).ne (by decide)
      · exact (((hb.ne (by decide)).s (by rw [setI_n (by decide)]; exact hb.out (by omega)))).ne (by decide)
      · exact ((hc.ne (by decide)).ne (by decide)).s (by rw [setI_n (by decide), setI_n (by decide)]; exact hc.out (by omega))
set_option maxHeartbeats 4000000 in
set_option maxRecDepth 20000 in
theorem r_laysLines {G : Gt} {M : Mm} {p q : Nat} (hp : p ≤ 5) (hq : q ≤ 5) (hne : ¬ p = q) : Call G 1 mX11_laysLines [.ref 238, .int (nI p), .int (nI q)] M (fun r M' => r = none ∧ LLi M M' p q) := by
  refine Call.intro rfl (Nat.le_of_ble_eq_true rfl) ?_
  show Ev G _ mX11_laysLines 0 [.ref 238, .int (nI p), .int (nI q), RA] [] M _
  refine e_aload_n dX11_laysLines_0 rfl ?_
  refine e_getR dX11_laysLines_1 fl_X11_90 sh_m rfl ?_
  refine e_iload_n dX11_laysLines_4 rfl ?_
  refine e_aload_n dX11_laysLines_5 rfl ?_
  refine e_getR dX11_laysLines_6 fl_X11_90 sh_m rfl ?_
  refine e_iload_n dX11_laysLines_9 rfl ?_
  refine e_ialdN (j := p) dX11_laysLines_10 (sa_m_lines) (by decide) (by omega) ?_
  refine e_iastN (j := q) dX11_laysLines_11 (sa_m_lines) (by decide) (by omega) ?_
  refine e_iconst (v := 0) dX11_laysLines_12 (by decide) ?_
  refine e_istore_n (ls' := [_, _, _, _]) dX11_laysLines_13 (by decide) rfl ?_
  exact l_rlines hp hq hne 41 0 _ (by omega) (by omega) rfl (fun z hz => by funext y; rw [setI_n (by omega)]) (fun k => by rw [setI_1]; by_cases e : k = q; rw [if_pos ⟨rfl, e⟩, if_pos e]; rw [if_neg (fun x => e x.2), if_neg e]) (BK.z.ne (by decide)) (BK.z.ne (by decide)) (BK.z.ne (by decide))
set_option maxHeartbeats 4000000 in
set_option maxRecDepth 20000 in
theorem l_rlseen {G : Gt} {M : Mm} {p q : Nat} (hp : p ≤ 4) (hq : q ≤ 4) (hne : ¬ p = q) : ∀ (k : Nat) (i : Nat) (Mc : Mm), (i ≤ 8) → (8 < i + k) → (Mc.2 = M.2) → (∀ i, ¬ (269 ≤ i ∧ i ≤ 272) → Mc.1 i = M.1 i) → (∀ k, Mc.1 269 k = if k = q then M.1 269 p else M.1 269 k) → (BK M Mc 270 (8 * p) (8 * q) i) → (BK M Mc 271 (8 * p) (8 * q) i) → (∀ k, Mc.1 272 k = if 8 * q ≤ k ∧ k < 8 * q + i then vp_nar .boolean (M.1 272 (8 * p + (k - 8 * q))) else M.1 272 k) → Ev G 1 mX11_laysSeen 14 [.ref 238, .int (nI p), .int (nI q), .int (nI i)] [] Mc (fun r M' => r = none ∧ LSe M M' p q) := by
  intro k
  induction k with
  | zero => intro i Mc hi hk h2 ho h5 ha hb hc; exact absurd hk (by omega)
  | succ k ih =>
    intro i Mc hi hk h2 ho h5 ha hb hc
    refine e_iload_n dX11_laysSeen_14 rfl ?_
    refine e_bipush (v := 8) dX11_laysSeen_15 (by decide) ?_
    refine e_icmp_ge (tgt := 92) dX11_laysSeen_17 (by decide) (fun c17 => ?_) (fun c17 => ?_)
    · -- 17 jumps
      have hin : i = 8 := by have := ge_of (i := i) (n := 8) (by omega) (by omega) c17; omega
      subst hin
      refine e_vret dX11_laysSeen_92 rfl ?_
      exact ⟨rfl, h2, ho, h5, ha, hb, hc⟩
    · -- 17 goes on
      have hlt : i < 8 := lt_of (i := i) (n := 8) (by omega) (by omega) c17
      refine e_aload_n dX11_laysSeen_20 rfl ?_
      refine e_getR dX11_laysSeen_21 fl_X11_105 sh_m rfl ?_
      refine e_bipush (v := 8) dX11_laysSeen_24 (by decide) ?_
      refine e_iload_n dX11_laysSeen_26 rfl ?_
      refine e_imulN (a := 8) (b := q) dX11_laysSeen_27 ?_
      refine e_iload_n dX11_laysSeen_28 rfl ?_
      refine e_iaddN (a := (8 * q)) (b := i) dX11_laysSeen_29 ?_
      refine e_aload_n dX11_laysSeen_30 rfl ?_
      refine e_getR dX11_laysSeen_31 fl_X11_105 sh_m rfl ?_
      refine e_bipush (v := 8) dX11_laysSeen_34 (by decide) ?_
      refine e_iload_n dX11_laysSeen_36 rfl ?_
      refine e_imulN (a := 8) (b := p) dX11_laysSeen_37 ?_
      refine e_iload_n dX11_laysSeen_38 rfl ?_
      refine e_iaddN (a := (8 * p)) (b := i) dX11_laysSeen_39 ?_
      refine e_ialdN (j := ((8 * p) + i)) dX11_laysSeen_40 (sa_m_seenIn) (by decide) (by omega) ?_
      refine e_iastN (j := ((8 * q) + i)) dX11_laysSeen_41 (sa_m_seenIn) (by decide) (by omega) ?_
      refine e_aload_n dX11_laysSeen_42 rfl ?_
      refine e_getR dX11_laysSeen_43 fl_X11_108 sh_m rfl ?_
      refine e_bipush (v := 8) dX11_laysSeen_46 (by decide) ?_
      refine e_iload_n dX11_laysSeen_48 rfl ?_
      refine e_imulN (a := 8) (b := q) dX11_laysSeen_49 ?_
      refine e_iload_n dX11_laysSeen_50 rfl ?_
      refine e_iaddN (a := (8 * q)) (b := i) dX11_laysSeen_51 ?_
      refine e_aload_n dX11_laysSeen_52 rfl ?_
      refine e_getR dX11_laysSeen_53 fl_X11_108 sh_m rfl ?_
      refine e_bipush (v := 8) dX11_laysSeen_56 (by decide) ?_
      refine e_iload_n dX11_laysSeen_58 rfl ?_
      refine e_imulN (a := 8) (b := p) dX11_laysSeen_59 ?_
      refine e_iload_n dX11_laysSeen_60 rfl ?_
      refine e_iaddN (a := (8 * p)) (b := i) dX11_laysSeen_61 ?_
      refine e_ialdN (j := ((8 * p) + i)) dX11_laysSeen_62 (sa_m_seenMuch) (by decide) (by omega) ?_
      refine e_iastN (j := ((8 * q) + i)) dX11_laysSeen_63 (sa_m_seenMuch) (by decide) (by omega) ?_
      refine e_aload_n dX11_laysSeen_64 rfl ?_
      refine e_getR dX11_laysSeen_65 fl_X11_111 sh_m rfl ?_
      refine e_bipush (v := 8) dX11_laysSeen_68 (by decide) ?_
      refine e_iload_n dX11_laysSeen_70 rfl ?_
      refine e_imulN (a := 8) (b := q) dX11_laysSeen_71 ?_
      refine e_iload_n dX11_laysSeen_72 rfl ?_
      refine e_iaddN (a := (8 * q)) (b := i) dX11_laysSeen_73 ?_
      refine e_aload_n dX11_laysSeen_74 rfl ?_
      refine e_getR dX11_laysSeen_75 fl_X11_111 sh_m rfl ?_
      refine e_bipush (v := 8) dX11_laysSeen_78 (by decide) ?_
      refine e_iload_n dX11_laysSeen_80 rfl ?_
      refine e_imulN (a := 8) (b := p) dX11_laysSeen_81 ?_
      refine e_iload_n dX11_laysSeen_82 rfl ?_
      refine e_iaddN (a := (8 * p)) (b := i) dX11_laysSeen_83 ?_
      refine e_zaldN (j := ((8 * p) + i)) dX11_laysSeen_84 (sa_m_seenMore) (by decide) (by omega) ?_
      refine e_zastN (j := ((8 * q) + i)) dX11_laysSeen_85 (sa_m_seenMore) (by decide) (by omega) ?_
      refine e_iinc (ls' := [_, _, _, _]) dX11_laysSeen_86 rfl (nI_i1 _) (by decide) rfl ?_
      refine e_goto (tgt := 14) dX11_laysSeen_89 (by decide) ?_
      refine ih (i + 1) _ (by omega) (by omega) h2 (fun z hz => ?_) (fun k => ?_) ?_ ?_ (fun k => ?_)
      · rw [← ho z hz]; funext y; rw [setI_n (by omega), setI_n (by omega), setI_n (by omega)]
      · rw [setI_n (by decide), setI_n (by decide), setI_n (by decide)]; exact h5 k
      · exact ((ha.s (ha.out (by omega))).ne (by decide)).ne (by decide)
      · exact (((hb.ne (by decide)).s (by rw [setI_n (by decide)]; exact hb.out (by omega)))).ne (by decide)
      · rw [setI_1]
        by_cases e : k = 8 * q + i
        · rw [if_pos ⟨rfl, e⟩, if_pos (by omega), setI_n (by decide), setI_n (by decide), hc, if_neg (by omega), show k - 8 * q = i by omega]
        · rw [if_neg (fun x => e x.2), setI_n (by decide), setI_n (by decide), hc]
          by_cases l : 8 * q ≤ k ∧ k < 8 * q + i
          · rw [if_pos l, if_pos (by omega)]
          · rw [if_neg l, if_neg (by omega)]
set_option maxHeartbeats 4000000 in
set_option maxRecDepth 20000 in
theorem r_laysSeen {G : Gt} {M : Mm} {p q : Nat} (hp : p ≤ 4) (hq : q ≤ 4) (hne : ¬ p = q) : Call G 1 mX11_laysSeen [.ref 238, .int (nI p), .int (nI q)] M (fun r M' => r = none ∧ LSe M M' p q) := by
  refine Call.intro rfl (Nat.le_of_ble_eq_true rfl) ?_
  show Ev G _ mX11_laysSeen 0 [.ref 238, .int (nI p), .int (nI q), RA] [] M _
  refine e_aload_n dX11_laysSeen_0 rfl ?_
  refine e_getR dX11_laysSeen_1 fl_X11_102 sh_m rfl ?_
  refine e_iload_n dX11_laysSeen_4 rfl ?_
  refine e_aload_n dX11_laysSeen_5 rfl ?_
  refine e_getR dX11_laysSeen_6 fl_X11_102 sh_m rfl ?_
  refine e_iload_n dX11_laysSeen_9 rfl ?_
  refine e_ialdN (j := p) dX11_laysSeen_10 (sa_m_seens) (by decide) (by omega) ?_
  refine e_iastN (j := q) dX11_laysSeen_11 (sa_m_seens) (by decide) (by omega) ?_
  refine e_iconst (v := 0) dX11_laysSeen_12 (by decide) ?_
  refine e_istore_n (ls' := [_, _, _, _]) dX11_laysSeen_13 (by decide) rfl ?_
  exact l_rlseen hp hq hne 9 0 _ (by omega) (by omega) rfl (fun z hz => by funext y; rw [setI_n (by omega)]) (fun k => by rw [setI_1]; by_cases e : k = q; rw [if_pos ⟨rfl, e⟩, if_pos e]; rw [if_neg (fun x => e x.2), if_neg e]) (BK.z.ne (by decide)) (BK.z.ne (by decide)) (fun k => by rw [setI_n (by decide), if_neg (by omega)])
theorem RS.congr' {M M' : Mm} {r : Nat} {V : Rv} (h : RS M r V) (h1 : M'.1 269 r = M.1 269 r) (h2 : ∀ c k, 270 ≤ c → c ≤ 272 → k < 8 → M'.1 c (8 * r + k) = M.1 c (8 * r + k)) : RS M' r V := by
  have h8 := h.2.1
  exact ⟨h1.trans h.1, h8, fun k hk => by rw [h2 270 k (by omega) (by omega) (by omega), h2 271 k (by omega) (by omega) (by omega), h2 272 k (by omega) (by omega) (by omega)]; exact h.2.2 k hk⟩
theorem RM.congr' {M M' : Mm} {k n : Nat} {q : Option (Sv × Rv × Rv)} (h : RM M k n q) (h6 : n ≤ 6) (h1 : M'.1 279 k = M.1 279 k) (h2 : ∀ z, z < 26 → M'.1 277 (26 * k + z) = M.1 277 (26 * k + z)) (h3 : ∀ W, RLi M (1 + k) W → RLi M' (1 + k) W) (h4 : ∀ V, RS M (1 + k) V → RS M' (1 + k) V) : RM M' k n q := by
  cases q with
  | none => unfold RM at h ⊢; rw [h1]; exact h
  | some q => exact ⟨by rw [h1]; exact h.1, h.2.1.congr h6 h2, h3 _ h.2.2.1, h4 _ h.2.2.2⟩
/-- all but weeks, seen, marks -/
def QF (M M' : Mm) : Prop := M'.2 = M.2 ∧ ∀ i, ¬ (265 ≤ i ∧ i ≤ 272) → ¬ i = 277 → ¬ i = 279 → M'.1 i = M.1 i
theorem QF.ot {M M' : Mm} (h : QF M M') : OT M M' := ⟨fun i a => ⟨h.2 i (by omega) (by omega) (by omega), by rw [h.1]⟩, by rw [h.1]⟩
theorem QF.trans {A B C : Mm} (h : QF A B) (k : QF B C) : QF A C := ⟨k.1.trans h.1, fun i a b c => (k.2 i a b c).trans (h.2 i a b c)⟩
theorem RJ.upQ {M M' : Mm} {E : Gs} {W V : Rv} {K : Nat → Option (Sv × Rv × Rv)} (h : RJ M E) (hQ : QF M M') (hW : RLi M' 0 W) (hV : RS M' 0 V) (hK : ∀ k, k < 4 → RM M' k E.Y.n (K k)) : RJ M' (((E.setW W).setV V).setK K) := by
  obtain ⟨hY, hL, hS0, -, -, -, ⟨hd, hd2, hU⟩, ⟨ht, ht2, htc⟩⟩ := h
  have h6 := hY.1.2
  exact ⟨hY.congr (fun i a b => hQ.2 i (by omega) (by omega) (by omega)) (fun i _ => by rw [hQ.1]), hL.congr (fun i a b => hQ.2 i (by omega) (by omega) (by omega)), hS0.congr h6 (fun k _ => by rw [hQ.2 273 (by omega) (by omega) (by omega)]), hW, hV, hK, ⟨by rw [hQ.2 238 (by omega) (by omega) (by omega)]; exact hd, hd2, fun k hk => (hU k hk).congr h6 (fun q _ => by rw [hQ.2 278 (by omega) (by omega) (by omega)])⟩, ⟨by rw [hQ.2 238 (by omega) (by omega) (by omega)]; exact ht, ht2, fun k hk => by rw [hQ.2 239 (by omega) (by omega) (by omega)]; exact htc k hk⟩⟩
/-- one more seen -/
theorem RJ.see {M : Mm} {E : Gs} {t m b : Int32} (h : RJ M E) (hlt : E.V.1 < 8) (hb : b = 0 ∨ b = 1) : RJ (setI (setI (setI (setI M 270 E.V.1 t) 271 E.V.1 m) 272 E.V.1 (vp_nar .boolean b)) 269 0 (nI (E.V.1 + 1))) (seeE E t m b) := by
  have hV := h.2.2.2.2.1
  have h6 := h.1.1.2
  rw [nar01 hb]
  have hQ : QF M (setI (setI (setI (setI M 270 E.V.1 t) 271 E.V.1 m) 272 E.V.1 b) 269 0 (nI (E.V.1 + 1))) := ⟨rfl, fun i x y z => by funext q; rw [setI_n (by omega), setI_n (by omega), setI_n (by omega), setI_n (by omega)]⟩
  refine h.upQ (W := E.W) (V := addR E.V t m b) (K := E.K) hQ (h.2.2.2.1.congr (fun i x y => by funext q; rw [setI_n (by omega), setI_n (by omega), setI_n (by omega), setI_n (by omega)])) ⟨by rw [setI_p]; rfl, by show E.V.1 + 1 ≤ 8; omega, fun k hk => ?_⟩ (fun k hk => ?_)
  · have hk2 : k < E.V.1 + 1 := hk
    rw [Nat.mul_zero, Nat.zero_add]
    refine ⟨?_, ?_, ?_⟩
    · rw [setI_n (by decide), setI_n (by decide), setI_n (by decide), setI_1]; show _ = if k = E.V.1 then _ else _
      by_cases e : k = E.V.1
      · rw [if_pos ⟨rfl, e⟩, if_pos e]
      · rw [if_neg (fun x => e x.2), if_neg e]; exact (hV.z (by omega)).1
    · rw [setI_n (by decide), setI_n (by decide), setI_1]; show _ = if k = E.V.1 then _ else _
      by_cases e : k = E.V.1
      · rw [if_pos ⟨rfl, e⟩, if_pos e]
      · rw [if_neg (fun x => e x.2), if_neg e, setI_n (by decide)]; exact (hV.z (by omega)).2.1
    · rw [setI_n (by decide), setI_1]; show _ = if k = E.V.1 then _ else _
      by_cases e : k = E.V.1
      · rw [if_pos ⟨rfl, e⟩, if_pos e]
      · rw [if_neg (fun x => e x.2), if_neg e, setI_n (by decide), setI_n (by decide)]; exact (hV.z (by omega)).2.2
  · refine (h.2.2.2.2.2.1 k hk).congr' h6 ?_ (fun z _ => ?_) (fun W hW => hW.congr (fun i x y => ?_)) (fun V hV => hV.congr' ?_ (fun c q x y hq => ?_))
    · rw [setI_n (by decide), setI_n (by decide), setI_n (by decide), setI_n (by decide)]
    · rw [setI_n (by decide), setI_n (by decide), setI_n (by decide), setI_n (by decide)]
    · funext q; rw [setI_n (by omega), setI_n (by omega), setI_n (by omega), setI_n (by omega)]
    · rw [setI_1, if_neg (by omega), setI_n (by decide), setI_n (by decide), setI_n (by decide)]
    · rw [setI_n (by omega), setI_1, if_neg (by omega), setI_1, if_neg (by omega), setI_1, if_neg (by omega)]
set_option maxHeartbeats 4000000 in
set_option maxRecDepth 20000 in
theorem r_see {G : Gt} {M : Mm} {E : Gs} (hJ : RJ M E) {t m b : Int32} (hb : b = 0 ∨ b = 1) : Call G 2 mX11_see [.ref 238, .int t, .int m, .int b] M (fun r M' => (seeB E t m = true → r = some (.int 1) ∧ RE M M' (seeE E t m b)) ∧ (seeB E t m = false → r = some (.int 0) ∧ RC M M')) := by
  refine Call.intro rfl (Nat.le_of_ble_eq_true rfl) ?_
  show Ev G _ mX11_see 0 [.ref 238, .int t, .int m, .int b] [] M _
  refine e_aload_n dX11_see_0 rfl ?_
  refine e_iconst (v := 0) dX11_see_1 (by decide) ?_
  refine e_putI dX11_see_2 fl_X11_153 sh_m rfl rfl rfl ?_
  refine th0 (fun M1 hC1 => ?_)
  have hJ := hC1.keep hJ
  have hY := hJ.1
  have h6 := hY.1.2
  have hs5 := hY.2.1.2
  have hL := hJ.2.1
  have hS := hJ.2.2.1
  have hV := hJ.2.2.2.2.1
  have h8 := hV.2.1
  refine e_iload_n dX11_see_5 rfl ?_
  refine e_iconst (v := 1) dX11_see_6 (by decide) ?_
  refine e_bipush (v := 20) dX11_see_7 (by decide) ?_
  refine cS3r dX11_see_9 mo_X11_within ml_X11_274 (Nat.le_of_ble_eq_true rfl) (by omega) (r_within) ?_
  refine e_if_eq (tgt := 37) dX11_see_12 (by decide) (fun c12 => ?_) (fun c12 => ?_)
  · -- 12 jumps
    refine e_iconst (v := 0) dX11_see_37 (by decide) ?_
    refine e_zret dX11_see_38 rfl (by first | rfl | exact b2i_nar _) ?_
    exact ⟨fun h => absurd (of_decide_eq_true h).1.1 (b2i_eq0.mp c12), fun _ => ⟨rfl, hC1⟩⟩
  · -- 12 goes on
    have c12 : vWi t 1 20 := by
      by_cases h : (vWi t 1 20)
      · exact h
      · exact absurd (b2i_f h) c12
    refine e_iload_n dX11_see_15 rfl ?_
    refine e_iconst (v := 1) dX11_see_16 (by decide) ?_
    refine e_sipush (v := 400) dX11_see_17 (by decide) ?_
    refine cS3r dX11_see_20 mo_X11_within ml_X11_274 (Nat.le_of_ble_eq_true rfl) (by omega) (r_within) ?_
    refine e_if_eq (tgt := 37) dX11_see_23 (by decide) (fun c23 => ?_) (fun c23 => ?_)
    · -- 23 jumps
      refine e_iconst (v := 0) dX11_see_37 (by decide) ?_
      refine e_zret dX11_see_38 rfl (by first | rfl | exact b2i_nar _) ?_
      exact ⟨fun h => absurd (of_decide_eq_true h).1.2 (b2i_eq0.mp c23), fun _ => ⟨rfl, hC1⟩⟩
    · -- 23 goes on
      have c23 : vWi m 1 400 := by
        by_cases h : (vWi m 1 400)
        · exact h
        · exact absurd (b2i_f h) c23
      refine e_aload_n dX11_see_26 rfl ?_
      refine e_getR dX11_see_27 fl_X11_102 sh_m rfl ?_
      refine e_iconst (v := 0) dX11_see_30 (by decide) ?_
      refine e_ialdN (j := 0) dX11_see_31 (sa_m_seens) (by decide) (by omega) ?_
      rw [hV.1]
      refine e_bipush (v := 8) dX11_see_32 (by decide) ?_
      refine e_icmp_ne (tgt := 39) dX11_see_34 (by decide) (fun c34 => ?_) (fun c34 => ?_)
      · -- 34 jumps
        have hlt : E.V.1 < 8 := by have : ¬ E.V.1 = 8 := fun e => c34 (by rw [e]; rfl); omega
        refine e_aload_n dX11_see_39 rfl ?_
        refine e_getR dX11_see_40 fl_X11_105 sh_m rfl ?_
        refine e_aload_n dX11_see_43 rfl ?_
        refine e_getR dX11_see_44 fl_X11_102 sh_m rfl ?_
        refine e_iconst (v := 0) dX11_see_47 (by decide) ?_
        refine e_ialdN (j := 0) dX11_see_48 (sa_m_seens) (by decide) (by omega) ?_
        rw [hV.1]
        refine e_iload_n dX11_see_49 rfl ?_
        refine e_iastN (j := E.V.1) dX11_see_50 (sa_m_seenIn) (by decide) (by omega) ?_
        refine e_aload_n dX11_see_51 rfl ?_
        refine e_getR dX11_see_52 fl_X11_108 sh_m rfl ?_
        refine e_aload_n dX11_see_55 rfl ?_
        refine e_getR dX11_see_56 fl_X11_102 sh_m rfl ?_
        refine e_iconst (v := 0) dX11_see_59 (by decide) ?_
        refine e_ialdN (j := 0) dX11_see_60 (sa_m_seens) (by decide) (by omega) ?_
        rw [setI_n (by decide), hV.1]
        refine e_iload_n dX11_see_61 rfl ?_
        refine e_iastN (j := E.V.1) dX11_see_62 (sa_m_seenMuch) (by decide) (by omega) ?_
        refine e_aload_n dX11_see_63 rfl ?_
        refine e_getR dX11_see_64 fl_X11_111 sh_m rfl ?_
        refine e_aload_n dX11_see_67 rfl ?_
        refine e_getR dX11_see_68 fl_X11_102 sh_m rfl ?_
        refine e_iconst (v := 0) dX11_see_71 (by decide) ?_
        refine e_ialdN (j := 0) dX11_see_72 (sa_m_seens) (by decide) (by omega) ?_
        rw [setI_n (by decide), setI_n (by decide), hV.1]
        refine e_iload_n dX11_see_73 rfl ?_
        refine e_zastN (j := E.V.1) dX11_see_74 (sa_m_seenMore) (by decide) (by omega) ?_
        refine e_aload_n dX11_see_75 rfl ?_
        refine e_getR dX11_see_76 fl_X11_102 sh_m rfl ?_
        refine e_iconst (v := 0) dX11_see_79 (by decide) ?_
        refine e_dup2 dX11_see_80 rfl rfl ?_
        refine e_ialdN (j := 0) dX11_see_81 (sa_m_seens) (by decide) (by omega) ?_
        rw [setI_n (by decide), setI_n (by decide), setI_n (by decide), hV.1]
        refine e_iconst (v := 1) dX11_see_82 (by decide) ?_
        refine e_iaddN (a := E.V.1) (b := 1) dX11_see_83 ?_
        refine e_iastN (j := 0) dX11_see_84 (sa_m_seens) (by decide) (by omega) ?_
        refine e_iconst (v := 1) dX11_see_85 (by decide) ?_
        refine e_zret dX11_see_86 rfl (by first | rfl | exact b2i_nar _) ?_
        have hs : seeB E t m = true := decide_eq_true ⟨⟨c12, c23⟩, hlt⟩
        refine ⟨fun _ => ⟨rfl, hJ.see hlt hb, hC1.ot.trans ?_⟩, fun h => by rw [hs] at h; cases h⟩
        exact (((OT.rfl'.i (by omega)).i (by omega)).i (by omega)).i (by omega)
      · -- 34 goes on
        refine e_iconst (v := 0) dX11_see_37 (by decide) ?_
        refine e_zret dX11_see_38 rfl (by first | rfl | exact b2i_nar _) ?_
        have e8 : E.V.1 = 8 := nI_injN (b := 8) (by omega) (by omega) c34
        exact ⟨fun h => absurd (of_decide_eq_true h).2 (by omega), fun _ => ⟨rfl, hC1⟩⟩
end RMK
