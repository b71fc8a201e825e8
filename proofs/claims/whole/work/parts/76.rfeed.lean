section RFE
theorem b255 : ∀ i, i < 64 → 8 ≤ i → (255#64).getLsbD i = false := by decide
theorem shr255 (v : BitVec 64) (s : Nat) (hs : s ≤ 56) : (v >>> s) &&& 255#64 = (v.sshiftRight s) &&& 255#64 := by
  apply BitVec.eq_of_getLsbD_eq
  intro i hi
  rw [BitVec.getLsbD_and, BitVec.getLsbD_and]
  by_cases h : i < 8
  · have h1 : s + i < 64 := by omega
    rw [BitVec.getLsbD_ushiftRight, BitVec.getLsbD_sshiftRight, if_pos h1, decide_eq_false (show ¬ 64 ≤ i by omega)]
    rfl
  · rw [b255 i hi (by omega), Bool.and_false, Bool.and_false]
theorem by8 (x : Int64) : ∀ m, m < 8 → ((x.toUInt64 >>> ((shI m).toInt64.toUInt64 &&& Int64.toUInt64 63)).toInt64 &&& 255).toInt32 = byV x (shI m) := by
  intro m hm
  unfold byV
  have key : ∀ (s : Nat) (a : UInt64) (b : Int64), s ≤ 56 → (a.toBitVec % 64).toNat = s → (b.toBitVec.smod 64).toNat = s → ((x.toUInt64 >>> a).toInt64 &&& 255).toInt32 = ((x >>> b) &&& 255).toInt32 := by
    intro s a b hs ha hb
    congr 1
    apply Int64.toBitVec_inj.mp
    rw [Int64.toBitVec_and, Int64.toBitVec_and]
    show (x.toUInt64 >>> a).toBitVec &&& 255#64 = (x >>> b).toBitVec &&& 255#64
    rw [UInt64.toBitVec_shiftRight, Int64.toBitVec_shiftRight]
    show x.toBitVec >>> (a.toBitVec % 64) &&& 255#64 = x.toBitVec.sshiftRight' (b.toBitVec.smod 64) &&& 255#64
    rw [BitVec.ushiftRight_eq', BitVec.sshiftRight', ha, hb]
    exact shr255 _ _ hs
  rcases (show m = 0 ∨ m = 1 ∨ m = 2 ∨ m = 3 ∨ m = 4 ∨ m = 5 ∨ m = 6 ∨ m = 7 by omega) with rfl | rfl | rfl | rfl | rfl | rfl | rfl | rfl
  · exact key 56 _ _ (by decide) (by decide) (by decide)
  · exact key 48 _ _ (by decide) (by decide) (by decide)
  · exact key 40 _ _ (by decide) (by decide) (by decide)
  · exact key 32 _ _ (by decide) (by decide) (by decide)
  · exact key 24 _ _ (by decide) (by decide) (by decide)
  · exact key 16 _ _ (by decide) (by decide) (by decide)
  · exact key 8 _ _ (by decide) (by decide) (by decide)
  · exact key 0 _ _ (by decide) (by decide) (by decide)
theorem sh24 : ∀ k, k < 24 → (56 : Int32) - 8 * (nI k &&& 7) = shI (k % 8) := by decide +kernel
/-- the signs fed one after another -/
def fdN (t : Tv) (a b c : Int64) : Nat → Tv
  | 0 => t
  | k + 1 => apT (fdN t a b c k) (byV (if k < 8 then a else if k < 16 then b else c) (shI (k % 8)))
theorem fd_a {t : Tv} {a b c : Int64} : ∀ k, k ≤ 8 → fdN t a b c k = fwN t a k := by
  intro k
  induction k with
  | zero => intro _; rfl
  | succ k ih => intro h; rw [fdN, ih (by omega), if_pos (by omega), Nat.mod_eq_of_lt (by omega)]; rfl
theorem fd_b {t : Tv} {a b c : Int64} : ∀ k, k ≤ 8 → fdN t a b c (8 + k) = fwN (fwN t a 8) b k := by
  intro k
  induction k with
  | zero => intro _; exact fd_a 8 (by omega)
  | succ k ih => intro h; rw [show 8 + (k + 1) = (8 + k) + 1 by omega, fdN, ih (by omega), if_neg (by omega), if_pos (by omega), show (8 + k) % 8 = k by omega]; rfl
theorem fd_c {t : Tv} {a b c : Int64} : ∀ k, k ≤ 8 → fdN t a b c (16 + k) = fwN (fwN (fwN t a 8) b 8) c k := by
  intro k
  induction k with
  | zero => intro _; exact fd_b 8 (by omega)
  | succ k ih => intro h; rw [show 16 + (k + 1) = (16 + k) + 1 by omega, fdN, ih (by omega), if_neg (by omega), if_neg (by omega), show (16 + k) % 8 = k by omega]; rfl
theorem fd_eq {t : Tv} {a b c : Int64} : fdN t a b c 24 = feedT t a b c := fd_c 8 (by omega)
/-- the reference's tape -/
def TR0 (M : Mm) (t : Tv) : Prop := M.1 238 1 = nI t.1 ∧ t.1 ≤ 1000 ∧ ∀ k, k < t.1 → M.1 239 k = t.2 k
def TF (M M' : Mm) : Prop := M'.2 = M.2 ∧ (∀ i, ¬ i = 238 → ¬ i = 239 → M'.1 i = M.1 i) ∧ ∀ k, ¬ k = 1 → M'.1 238 k = M.1 238 k
theorem TF.ot {M M' : Mm} (h : TF M M') : OT M M' := ⟨fun i a => ⟨h.2.1 i (by omega) (by omega), by rw [h.1]⟩, by rw [h.1]⟩
theorem RJ.upT {M M' : Mm} {E : Gs} {t : Tv} (h : RJ M E) (hF : TF M M') (hT : TR0 M' t) : RJ M' (E.setT t) := by
  obtain ⟨hY, hL, hS0, hW, hV, hK, ⟨hd, hd2, hU⟩, -⟩ := h
  have h6 := hY.1.2
  exact ⟨hY.congr (fun i a b => hF.2.1 i (by omega) (by omega)) (fun i _ => by rw [hF.1]), hL.congr (fun i a b => hF.2.1 i (by omega) (by omega)), hS0.congr h6 (fun k _ => by rw [hF.2.1 273 (by omega) (by omega)]), hW.congr (fun i a b => hF.2.1 i (by omega) (by omega)), hV.congr (fun i a b => hF.2.1 i (by omega) (by omega)), fun k hk => (hK k hk).congr h6 (fun i a => hF.2.1 i (by omega) (by omega)), ⟨(hF.2.2 54 (by decide)).trans hd, hd2, fun k hk => (hU k hk).congr h6 (fun q _ => by rw [hF.2.1 278 (by omega) (by omega)])⟩, hT⟩
theorem TR0.ap {M : Mm} {t : Tv} {c : Int32} (h : TR0 M t) (hl : t.1 < 1000) (hc : c = 10 ∨ (¬ c < 32 ∧ ¬ 126 < c)) : TR0 (setI (setI M 239 t.1 c) 238 1 (nI (t.1 + 1))) (apT t c) := by
  unfold apT
  rw [if_pos ⟨hc, hl⟩]
  refine ⟨by rw [setI_p], by show t.1 + 1 ≤ 1000; omega, fun k hk => ?_⟩
  have hk2 : k < t.1 + 1 := hk
  rw [setI_n (by decide), setI_1]
  show _ = if k = t.1 then _ else _
  by_cases e : k = t.1
  · rw [if_pos ⟨rfl, e⟩, if_pos e]
  · rw [if_neg (fun x => e x.2), if_neg e]; exact h.2.2 k (by omega)
theorem apT_n {t : Tv} {c : Int32} (h : ¬ ((c = 10 ∨ (¬ c < 32 ∧ ¬ 126 < c)) ∧ t.1 < 1000)) : apT t c = t := by unfold apT; rw [if_neg h]
set_option maxHeartbeats 4000000 in
set_option maxRecDepth 20000 in
theorem l_rfeed {G : Gt} {M : Mm} {t : Tv} {a b c : Int64} : ∀ (k : Nat) (i : Nat) (Mc : Mm) (u v : Value), (i ≤ 24) → (24 < i + k) → (TF M Mc) → (TR0 Mc (fdN t a b c i)) → Ev G 1 mX11_feed 8 [.ref 238, .long a, RA, .long b, RA, .long c, RA, .int (nI i), u, RA, v] [] Mc (fun r M' => r = some (.int (nI (feedT t a b c).1)) ∧ TF M M' ∧ TR0 M' (feedT t a b c)) := by
  intro k
  induction k with
  | zero => intro i Mc u v hi hk hF hT; exact absurd hk (by omega)
  | succ k ih =>
    intro i Mc u v hi hk hF hT
    refine e_iload dX11_feed_8 rfl ?_
    refine e_bipush (v := 24) dX11_feed_10 (by decide) ?_
    refine e_icmp_ge (tgt := 120) dX11_feed_12 (by decide) (fun c12 => ?_) (fun c12 => ?_)
    · -- 12 jumps
      have hin : i = 24 := by have := ge_of (i := i) (n := 24) (by omega) (by omega) c12; omega
      subst hin
      refine e_aload_n dX11_feed_120 rfl ?_
      refine e_getI dX11_feed_121 fl_X11_159 sh_m rfl ?_
      refine e_iret dX11_feed_124 rfl ?_
      rw [fd_eq] at hT
      exact ⟨by rw [hT.1], hF, hT⟩
    · -- 12 goes on
      have hlt : i < 24 := lt_of (i := i) (n := 24) (by omega) (by omega) c12
      refine e_iload dX11_feed_15 rfl ?_
      refine e_bipush (v := 8) dX11_feed_17 (by decide) ?_
      refine e_icmp_ge (tgt := 26) dX11_feed_19 (by decide) (fun c19 => ?_) (fun c19 => ?_)
      · -- 19 jumps
        have h8 : ¬ i < 8 := fun q => c19 ((nI_ltI (b := 8) (by omega) (by omega)).mpr q)
        refine e_iload dX11_feed_26 rfl ?_
        refine e_bipush (v := 16) dX11_feed_28 (by decide) ?_
        refine e_icmp_ge (tgt := 37) dX11_feed_30 (by decide) (fun c30 => ?_) (fun c30 => ?_)
        · -- 30 jumps
          have h16 : ¬ i < 16 := fun q => c30 ((nI_ltI (b := 16) (by omega) (by omega)).mpr q)
          refine e_lload dX11_feed_37 rfl ?_
          refine e_lstore (ls' := [_, _, _, _, _, _, _, _, _, _, _]) dX11_feed_39 (by decide) rfl ?_
          refine e_lload dX11_feed_41 rfl ?_
          refine e_bipush (v := 56) dX11_feed_43 (by decide) ?_
          refine e_bipush (v := 8) dX11_feed_45 (by decide) ?_
          refine e_iload dX11_feed_47 rfl ?_
          refine e_bipush (v := 7) dX11_feed_49 (by decide) ?_
          refine e_iand dX11_feed_51 ?_
          refine e_imul dX11_feed_52 ?_
          refine e_isub dX11_feed_53 ?_
          rw [sh24 i hlt]
          refine e_lushr dX11_feed_54 ?_
          refine e_ldc2 dX11_feed_55 kl_X11_157 ?_
          refine e_land dX11_feed_58 ?_
          refine e_l2i dX11_feed_59 ?_
          rw [by8 _ (i % 8) (Nat.mod_lt _ (by decide))]
          refine e_istore (ls' := [_, _, _, _, _, _, _, _, _, _, _]) dX11_feed_60 (by decide) rfl ?_
          refine e_aload_n dX11_feed_62 rfl ?_
          refine e_getI dX11_feed_63 fl_X11_159 sh_m rfl ?_
          rw [hT.1]
          refine e_sipush (v := 1000) dX11_feed_66 (by decide) ?_
          refine e_icmp_ge (tgt := 114) dX11_feed_69 (by decide) (fun c69 => ?_) (fun c69 => ?_)
          · -- 69 jumps
            refine e_iinc (ls' := [_, _, _, _, _, _, _, _, _, _, _]) dX11_feed_114 rfl (nI_i1 _) (by decide) rfl ?_
            refine e_goto (tgt := 8) dX11_feed_117 (by decide) ?_
            have hv8 : (if i < 8 then a else if i < 16 then b else c) = c := (if_neg h8).trans (if_neg h16)
            have e : fdN t a b c (i + 1) = apT (fdN t a b c i) (byV c (shI (i % 8))) := by rw [fdN, hv8]
            exact ih (i + 1) Mc _ _ (by omega) (by omega) hF (by rw [e, (apT_n (fun q => by have := ge_of (i := (fdN t a b c i).1) (n := 1000) (by have := hT.2.1; omega) (by omega) c69; omega))]; exact hT)
          · -- 69 goes on
            refine e_iload dX11_feed_72 rfl ?_
            refine e_bipush (v := 10) dX11_feed_74 (by decide) ?_
            refine e_icmp_eq (tgt := 93) dX11_feed_76 (by decide) (fun c76 => ?_) (fun c76 => ?_)
            · -- 76 jumps
              refine e_aload_n dX11_feed_93 rfl ?_
              refine e_getR dX11_feed_94 fl_X11_7 sh_m rfl ?_
              refine e_aload_n dX11_feed_97 rfl ?_
              refine e_getI dX11_feed_98 fl_X11_159 sh_m rfl ?_
              rw [hT.1]
              refine e_iload dX11_feed_101 rfl ?_
              refine e_iastN (j := (fdN t a b c i).1) dX11_feed_103 (sa_m_tape) (by decide) (by have := lt_of (i := (fdN t a b c i).1) (n := 1000) (by have := hT.2.1; omega) (by omega) c69; omega) ?_
              refine e_aload_n dX11_feed_104 rfl ?_
              refine e_dup dX11_feed_105 rfl ?_
              refine e_getI dX11_feed_106 fl_X11_159 sh_m rfl ?_
              rw [setI_n (by decide), hT.1]
              refine e_iconst (v := 1) dX11_feed_109 (by decide) ?_
              refine e_iaddN (a := (fdN t a b c i).1) (b := 1) dX11_feed_110 ?_
              refine e_putI dX11_feed_111 fl_X11_159 sh_m rfl rfl rfl ?_
              refine e_iinc (ls' := [_, _, _, _, _, _, _, _, _, _, _]) dX11_feed_114 rfl (nI_i1 _) (by decide) rfl ?_
              refine e_goto (tgt := 8) dX11_feed_117 (by decide) ?_
              have hv8 : (if i < 8 then a else if i < 16 then b else c) = c := (if_neg h8).trans (if_neg h16)
              have e : fdN t a b c (i + 1) = apT (fdN t a b c i) (byV c (shI (i % 8))) := by rw [fdN, hv8]
              have hl : (fdN t a b c i).1 < 1000 := lt_of (i := (fdN t a b c i).1) (n := 1000) (by have := hT.2.1; omega) (by omega) c69
              refine ih (i + 1) _ _ _ (by omega) (by omega) ⟨hF.1, fun z z1 z2 => ?_, fun z z1 => ?_⟩ (by rw [e]; exact hT.ap hl (Or.inl c76))
              · rw [← hF.2.1 z z1 z2]; funext y; rw [setI_n z1, setI_n z2]
              · rw [setI_1, if_neg (fun x => z1 x.2), setI_n (by decide)]; exact hF.2.2 z z1
            · -- 76 goes on
              refine e_iload dX11_feed_79 rfl ?_
              refine e_bipush (v := 32) dX11_feed_81 (by decide) ?_
              refine e_icmp_lt (tgt := 114) dX11_feed_83 (by decide) (fun c83 => ?_) (fun c83 => ?_)
              · -- 83 jumps
                refine e_iinc (ls' := [_, _, _, _, _, _, _, _, _, _, _]) dX11_feed_114 rfl (nI_i1 _) (by decide) rfl ?_
                refine e_goto (tgt := 8) dX11_feed_117 (by decide) ?_
                have hv8 : (if i < 8 then a else if i < 16 then b else c) = c := (if_neg h8).trans (if_neg h16)
                have e : fdN t a b c (i + 1) = apT (fdN t a b c i) (byV c (shI (i % 8))) := by rw [fdN, hv8]
                exact ih (i + 1) Mc _ _ (by omega) (by omega) hF (by rw [e, (apT_n (fun q => q.1.elim c76 (fun z => z.1 c83)))]; exact hT)
              · -- 83 goes on
                refine e_iload dX11_feed_86 rfl ?_
                refine e_bipush (v := 126) dX11_feed_88 (by decide) ?_
                refine e_icmp_gt (tgt := 114) dX11_feed_90 (by decide) (fun c90 => ?_) (fun c90 => ?_)
                · -- 90 jumps
                  refine e_iinc (ls' := [_, _, _, _, _, _, _, _, _, _, _]) dX11_feed_114 rfl (nI_i1 _) (by decide) rfl ?_
                  refine e_goto (tgt := 8) dX11_feed_117 (by decide) ?_
                  have hv8 : (if i < 8 then a else if i < 16 then b else c) = c := (if_neg h8).trans (if_neg h16)
                  have e : fdN t a b c (i + 1) = apT (fdN t a b c i) (byV c (shI (i % 8))) := by rw [fdN, hv8]
                  exact ih (i + 1) Mc _ _ (by omega) (by omega) hF (by rw [e, (apT_n (fun q => q.1.elim c76 (fun z => z.2 c90)))]; exact hT)
                · -- 90 goes on
                  refine e_aload_n dX11_feed_93 rfl ?_
                  refine e_getR dX11_feed_94 fl_X11_7 sh_m rfl ?_
                  refine e_aload_n dX11_feed_97 rfl ?_
                  refine e_getI dX11_feed_98 fl_X11_159 sh_m rfl ?_
                  rw [hT.1]
                  refine e_iload dX11_feed_101 rfl ?_
                  refine e_iastN (j := (fdN t a b c i).1) dX11_feed_103 (sa_m_tape) (by decide) (by have := lt_of (i := (fdN t a b c i).1) (n := 1000) (by have := hT.2.1; omega) (by omega) c69; omega) ?_
                  refine e_aload_n dX11_feed_104 rfl ?_
                  refine e_dup dX11_feed_105 rfl ?_
                  refine e_getI dX11_feed_106 fl_X11_159 sh_m rfl ?_
                  rw [setI_n (by decide), hT.1]
                  refine e_iconst (v := 1) dX11_feed_109 (by decide) ?_
                  refine e_iaddN (a := (fdN t a b c i).1) (b := 1) dX11_feed_110 ?_
                  refine e_putI dX11_feed_111 fl_X11_159 sh_m rfl rfl rfl ?_
                  refine e_iinc (ls' := [_, _, _, _, _, _, _, _, _, _, _]) dX11_feed_114 rfl (nI_i1 _) (by decide) rfl ?_
                  refine e_goto (tgt := 8) dX11_feed_117 (by decide) ?_
                  have hv8 : (if i < 8 then a else if i < 16 then b else c) = c := (if_neg h8).trans (if_neg h16)
                  have e : fdN t a b c (i + 1) = apT (fdN t a b c i) (byV c (shI (i % 8))) := by rw [fdN, hv8]
                  have hl : (fdN t a b c i).1 < 1000 := lt_of (i := (fdN t a b c i).1) (n := 1000) (by have := hT.2.1; omega) (by omega) c69
                  refine ih (i + 1) _ _ _ (by omega) (by omega) ⟨hF.1, fun z z1 z2 => ?_, fun z z1 => ?_⟩ (by rw [e]; exact hT.ap hl (Or.inr ⟨c83, c90⟩))
                  · rw [← hF.2.1 z z1 z2]; funext y; rw [setI_n z1, setI_n z2]
                  · rw [setI_1, if_neg (fun x => z1 x.2), setI_n (by decide)]; exact hF.2.2 z z1
        · -- 30 goes on
          have h16 : i < 16 := (nI_ltI (b := 16) (by omega) (by omega)).mp c30
          refine e_lload_n dX11_feed_33 rfl ?_
          refine e_goto (tgt := 39) dX11_feed_34 (by decide) ?_
          refine e_lstore (ls' := [_, _, _, _, _, _, _, _, _, _, _]) dX11_feed_39 (by decide) rfl ?_
          refine e_lload dX11_feed_41 rfl ?_
          refine e_bipush (v := 56) dX11_feed_43 (by decide) ?_
          refine e_bipush (v := 8) dX11_feed_45 (by decide) ?_
          refine e_iload dX11_feed_47 rfl ?_
          refine e_bipush (v := 7) dX11_feed_49 (by decide) ?_
          refine e_iand dX11_feed_51 ?_
          refine e_imul dX11_feed_52 ?_
          refine e_isub dX11_feed_53 ?_
          rw [sh24 i hlt]
          refine e_lushr dX11_feed_54 ?_
          refine e_ldc2 dX11_feed_55 kl_X11_157 ?_
          refine e_land dX11_feed_58 ?_
          refine e_l2i dX11_feed_59 ?_
          rw [by8 _ (i % 8) (Nat.mod_lt _ (by decide))]
          refine e_istore (ls' := [_, _, _, _, _, _, _, _, _, _, _]) dX11_feed_60 (by decide) rfl ?_
          refine e_aload_n dX11_feed_62 rfl ?_
          refine e_getI dX11_feed_63 fl_X11_159 sh_m rfl ?_
          rw [hT.1]
          refine e_sipush (v := 1000) dX11_feed_66 (by decide) ?_
          refine e_icmp_ge (tgt := 114) dX11_feed_69 (by decide) (fun c69 => ?_) (fun c69 => ?_)
          · -- 69 jumps
            refine e_iinc (ls' := [_, _, _, _, _, _, _, _, _, _, _]) dX11_feed_114 rfl (nI_i1 _) (by decide) rfl ?_
            refine e_goto (tgt := 8) dX11_feed_117 (by decide) ?_
            have hv8 : (if i < 8 then a else if i < 16 then b else c) = b := (if_neg h8).trans (if_pos h16)
            have e : fdN t a b c (i + 1) = apT (fdN t a b c i) (byV b (shI (i % 8))) := by rw [fdN, hv8]
            exact ih (i + 1) Mc _ _ (by omega) (by omega) hF (by rw [e, (apT_n (fun q => by have := ge_of (i := (fdN t a b c i).1) (n := 1000) (by have := hT.2.1; omega) (by omega) c69; omega))]; exact hT)
          · -- 69 goes on
            refine e_iload dX11_feed_72 rfl ?_
            refine e_bipush (v := 10) dX11_feed_74 (by decide) ?_
            refine e_icmp_eq (tgt := 93) dX11_feed_76 (by decide) (fun c76 => ?_) (fun c76 => ?_)
            · -- 76 jumps
              refine e_aload_n dX11_feed_93 rfl ?_
              refine e_getR dX11_feed_94 fl_X11_7 sh_m rfl ?_
              refine e_aload_n dX11_feed_97 rfl ?_
              refine e_getI dX11_feed_98 fl_X11_159 sh_m rfl ?_
              rw [hT.1]
              refine e_iload dX11_feed_101 rfl ?_
              refine e_iastN (j := (fdN t a b c i).1) dX11_feed_103 (sa_m_tape) (by decide) (by have := lt_of (i := (fdN t a b c i).1) (n := 1000) (by have := hT.2.1; omega) (by omega) c69; omega) ?_
              refine e_aload_n dX11_feed_104 rfl ?_
              refine e_dup dX11_feed_105 rfl ?_
              refine e_getI dX11_feed_106 fl_X11_159 sh_m rfl ?_
              rw [setI_n (by decide), hT.1]
              refine e_iconst (v := 1) dX11_feed_109 (by decide) ?_
              refine e_iaddN (a := (fdN t a b c i).1) (b := 1) dX11_feed_110 ?_
              refine e_putI dX11_feed_111 fl_X11_159 sh_m rfl rfl rfl ?_
              refine e_iinc (ls' := [_, _, _, _, _, _, _, _, _, _, _]) dX11_feed_114 rfl (nI_i1 _) (by decide) rfl ?_
              refine e_goto (tgt := 8) dX11_feed_117 (by decide) ?_
              have hv8 : (if i < 8 then a else if i < 16 then b else c) = b := (if_neg h8).trans (if_pos h16)
              have e : fdN t a b c (i + 1) = apT (fdN t a b c i) (byV b (shI (i % 8))) := by rw [fdN, hv8]
              have hl : (fdN t a b c i).1 < 1000 := lt_of (i := (fdN t a b c i).1) (n := 1000) (by have := hT.2.1; omega) (by omega) c69
              refine ih (i + 1) _ _ _ (by omega) (by omega) ⟨hF.1, fun z z1 z2 => ?_, fun z z1 => ?_⟩ (by rw [e]; exact hT.ap hl (Or.inl c76))
              · rw [← hF.2.1 z z1 z2]; funext y; rw [setI_n z1, setI_n z2]
              · rw [setI_1, if_neg (fun x => z1 x.2), setI_n (by decide)]; exact hF.2.2 z z1
            · -- 76 goes on
              refine e_iload dX11_feed_79 rfl ?_
              refine e_bipush (v := 32) dX11_feed_81 (by decide) ?_
              refine e_icmp_lt (tgt := 114) dX11_feed_83 (by decide) (fun c83 => ?_) (fun c83 => ?_)
              · -- 83 jumps
                refine e_iinc (ls' := [_, _, _, _, _, _, _, _, _, _, _]) dX11_feed_114 rfl (nI_i1 _) (by decide) rfl ?_
                refine e_goto (tgt := 8) dX11_feed_117 (by decide) ?_
                have hv8 : (if i < 8 then a else if i < 16 then b else c) = b := (if_neg h8).trans (if_pos h16)
                have e : fdN t a b c (i + 1) = apT (fdN t a b c i) (byV b (shI (i % 8))) := by rw [fdN, hv8]
                exact ih (i + 1) Mc _ _ (by omega) (by omega) hF (by rw [e, (apT_n (fun q => q.1.elim c76 (fun z => z.1 c83)))]; exact hT)
              · -- 83 goes on
                refine e_iload dX11_feed_86 rfl ?_
                refine e_bipush (v := 126) dX11_feed_88 (by decide) ?_
                refine e_icmp_gt (tgt := 114) dX11_feed_90 (by decide) (fun c90 => ?_) (fun c90 => ?_)
                · -- 90 jumps
                  refine e_iinc (ls' := [_, _, _, _, _, _, _, _, _, _, _]) dX11_feed_114 rfl (nI_i1 _) (by decide) rfl ?_
                  refine e_goto (tgt := 8) dX11_feed_117 (by decide) ?_
                  have hv8 : (if i < 8 then a else if i < 16 then b else c) = b := (if_neg h8).trans (if_pos h16)
                  have e : fdN t a b c (i + 1) = apT (fdN t a b c i) (byV b (shI (i % 8))) := by rw [fdN, hv8]
                  exact ih (i + 1) Mc _ _ (by omega) (by omega) hF (by rw [e, (apT_n (fun q => q.1.elim c76 (fun z => z.2 c90)))]; exact hT)
                · -- 90 goes on
                  refine e_aload_n dX11_feed_93 rfl ?_
                  refine e_getR dX11_feed_94 fl_X11_7 sh_m rfl ?_
                  refine e_aload_n dX11_feed_97 rfl ?_
                  refine e_getI dX11_feed_98 fl_X11_159 sh_m rfl ?_
                  rw [hT.1]
                  refine e_iload dX11_feed_101 rfl ?_
                  refine e_iastN (j := (fdN t a b c i).1) dX11_feed_103 (sa_m_tape) (by decide) (by have := lt_of (i := (fdN t a b c i).1) (n := 1000) (by have := hT.2.1; omega) (by omega) c69; omega) ?_
                  refine e_aload_n dX11_feed_104 rfl ?_
                  refine e_dup dX11_feed_105 rfl ?_
                  refine e_getI dX11_feed_106 fl_X11_159 sh_m rfl ?_
                  rw [setI_n (by decide), hT.1]
                  refine e_iconst (v := 1) dX11_feed_109 (by decide) ?_
                  refine e_iaddN (a := (fdN t a b c i).1) (b := 1) dX11_feed_110 ?_
                  refine e_putI dX11_feed_111 fl_X11_159 sh_m rfl rfl rfl ?_
                  refine e_iinc (ls' := [_, _, _, _, _, _, _, _, _, _, _]) dX11_feed_114 rfl (nI_i1 _) (by decide) rfl ?_
                  refine e_goto (tgt := 8) dX11_feed_117 (by decide) ?_
                  have hv8 : (if i < 8 then a else if i < 16 then b else c) = b := (if_neg h8).trans (if_pos h16)
                  have e : fdN t a b c (i + 1) = apT (fdN t a b c i) (byV b (shI (i % 8))) := by rw [fdN, hv8]
                  have hl : (fdN t a b c i).1 < 1000 := lt_of (i := (fdN t a b c i).1) (n := 1000) (by have := hT.2.1; omega) (by omega) c69
                  refine ih (i + 1) _ _ _ (by omega) (by omega) ⟨hF.1, fun z z1 z2 => ?_, fun z z1 => ?_⟩ (by rw [e]; exact hT.ap hl (Or.inr ⟨c83, c90⟩))
                  · rw [← hF.2.1 z z1 z2]; funext y; rw [setI_n z1, setI_n z2]
                  · rw [setI_1, if_neg (fun x => z1 x.2), setI_n (by decide)]; exact hF.2.2 z z1
      · -- 19 goes on
        have h8 : i < 8 := (nI_ltI (b := 8) (by omega) (by omega)).mp c19
        refine e_lload_n dX11_feed_22 rfl ?_
        refine e_goto (tgt := 39) dX11_feed_23 (by decide) ?_
        refine e_lstore (ls' := [_, _, _, _, _, _, _, _, _, _, _]) dX11_feed_39 (by decide) rfl ?_
        refine e_lload dX11_feed_41 rfl ?_
        refine e_bipush (v := 56) dX11_feed_43 (by decide) ?_
        refine e_bipush (v := 8) dX11_feed_45 (by decide) ?_
        refine e_iload dX11_feed_47 rfl ?_
        refine e_bipush (v := 7) dX11_feed_49 (by decide) ?_
        refine e_iand dX11_feed_51 ?_
        refine e_imul dX11_feed_52 ?_
        refine e_isub dX11_feed_53 ?_
        rw [sh24 i hlt]
        refine e_lushr dX11_feed_54 ?_
        refine e_ldc2 dX11_feed_55 kl_X11_157 ?_
        refine e_land dX11_feed_58 ?_
        refine e_l2i dX11_feed_59 ?_
        rw [by8 _ (i % 8) (Nat.mod_lt _ (by decide))]
        refine e_istore (ls' := [_, _, _, _, _, _, _, _, _, _, _]) dX11_feed_60 (by decide) rfl ?_
        refine e_aload_n dX11_feed_62 rfl ?_
        refine e_getI dX11_feed_63 fl_X11_159 sh_m rfl ?_
        rw [hT.1]
        refine e_sipush (v := 1000) dX11_feed_66 (by decide) ?_
        refine e_icmp_ge (tgt := 114) dX11_feed_69 (by decide) (fun c69 => ?_) (fun c69 => ?_)
        · -- 69 jumps
          refine e_iinc (ls' := [_, _, _, _, _, _, _, _, _, _, _]) dX11_feed_114 rfl (nI_i1 _) (by decide) rfl ?_
          refine e_goto (tgt := 8) dX11_feed_117 (by decide) ?_
          have hv8 : (if i < 8 then a else if i < 16 then b else c) = a := if_pos h8
          have e : fdN t a b c (i + 1) = apT (fdN t a b c i) (byV a (shI (i % 8))) := by rw [fdN, hv8]
          exact ih (i + 1) Mc _ _ (by omega) (by omega) hF (by rw [e, (apT_n (fun q => by have := ge_of (i := (fdN t a b c i).1) (n := 1000) (by have := hT.2.1; omega) (by omega) c69; omega))]; exact hT)
        · -- 69 goes on
          refine e_iload dX11_feed_72 rfl ?_
          refine e_bipush (v := 10) dX11_feed_74 (by decide) ?_
          refine e_icmp_eq (tgt := 93) dX11_feed_76 (by decide) (fun c76 => ?_) (fun c76 => ?_)
          · -- 76 jumps
            refine e_aload_n dX11_feed_93 rfl ?_
            refine e_getR dX11_feed_94 fl_X11_7 sh_m rfl ?_
            refine e_aload_n dX11_feed_97 rfl ?_
            refine e_getI dX11_feed_98 fl_X11_159 sh_m rfl ?_
            rw [hT.1]
            refine e_iload dX11_feed_101 rfl ?_
            refine e_iastN (j := (fdN t a b c i).1) dX11_feed_103 (sa_m_tape) (by decide) (by have := lt_of (i := (fdN t a b c i).1) (n := 1000) (by have := hT.2.1; omega) (by omega) c69; omega) ?_
            refine e_aload_n dX11_feed_104 rfl ?_
            refine e_dup dX11_feed_105 rfl ?_
            refine e_getI dX11_feed_106 fl_X11_159 sh_m rfl ?_
            rw [setI_n (by decide), hT.1]
            refine e_iconst (v := 1) dX11_feed_109 (by decide) ?_
            refine e_iaddN (a := (fdN t a b c i).1) (b := 1) dX11_feed_110 ?_
            refine e_putI dX11_feed_111 fl_X11_159 sh_m rfl rfl rfl ?_
            refine e_iinc (ls' := [_, _, _, _, _, _, _, _, _, _, _]) dX11_feed_114 rfl (nI_i1 _) (by decide) rfl ?_
            refine e_goto (tgt := 8) dX11_feed_117 (by decide) ?_
            have hv8 : (if i < 8 then a else if i < 16 then b else c) = a := if_pos h8
            have e : fdN t a b c (i + 1) = apT (fdN t a b c i) (byV a (shI (i % 8))) := by rw [fdN, hv8]
            have hl : (fdN t a b c i).1 < 1000 := lt_of (i := (fdN t a b c i).1) (n := 1000) (by have := hT.2.1; omega) (by omega) c69
            refine ih (i + 1) _ _ _ (by omega) (by omega) ⟨hF.1, fun z z1 z2 => ?_, fun z z1 => ?_⟩ (by rw [e]; exact hT.ap hl (Or.inl c76))
            · rw [← hF.2.1 z z1 z2]; funext y; rw [setI_n z1, setI_n z2]
            · rw [setI_1, if_neg (fun x => z1 x.2), setI_n (by decide)]; exact hF.2.2 z z1
          · -- 76 goes on
            refine e_iload dX11_feed_79 rfl ?_
            refine e_bipush (v := 32) dX11_feed_81 (by decide) ?_
            refine e_icmp_lt (tgt := 114) dX11_feed_83 (by decide) (fun c83 => ?_) (fun c83 => ?_)
            · -- 83 jumps
              refine e_iinc (ls' := [_, _, _, _, _, _, _, _, _, _, _]) dX11_feed_114 rfl (nI_i1 _) (by decide) rfl ?_
              refine e_goto (tgt := 8) dX11_feed_117 (by decide) ?_
              have hv8 : (if i < 8 then a else if i < 16 then b else c) = a := if_pos h8
              have e : fdN t a b c (i + 1) = apT (fdN t a b c i) (byV a (shI (i % 8))) := by rw [fdN, hv8]
              exact ih (i + 1) Mc _ _ (by omega) (by omega) hF (by rw [e, (apT_n (fun q => q.1.elim c76 (fun z => z.1 c83)))]; exact hT)
            · -- 83 goes on
              refine e_iload dX11_feed_86 rfl ?_
              refine e_bipush (v := 126) dX11_feed_88 (by decide) ?_
              refine e_icmp_gt (tgt := 114) dX11_feed_90 (by decide) (fun c90 => ?_) (fun c90 => ?_)
              · -- 90 jumps
                refine e_iinc (ls' := [_, _, _, _, _, _, _, _, _, _, _]) dX11_feed_114 rfl (nI_i1 _) (by decide) rfl ?_
                refine e_goto (tgt := 8) dX11_feed_117 (by decide) ?_
                have hv8 : (if i < 8 then a else if i < 16 then b else c) = a := if_pos h8
                have e : fdN t a b c (i + 1) = apT (fdN t a b c i) (byV a (shI (i % 8))) := by rw [fdN, hv8]
                exact ih (i + 1) Mc _ _ (by omega) (by omega) hF (by rw [e, (apT_n (fun q => q.1.elim c76 (fun z => z.2 c90)))]; exact hT)
              · -- 90 goes on
                refine e_aload_n dX11_feed_93 rfl ?_
                refine e_getR dX11_feed_94 fl_X11_7 sh_m rfl ?_
                refine e_aload_n dX11_feed_97 rfl ?_
                refine e_getI dX11_feed_98 fl_X11_159 sh_m rfl ?_
                rw [hT.1]
                refine e_iload dX11_feed_101 rfl ?_
                refine e_iastN (j := (fdN t a b c i).1) dX11_feed_103 (sa_m_tape) (by decide) (by have := lt_of (i := (fdN t a b c i).1) (n := 1000) (by have := hT.2.1; omega) (by omega) c69; omega) ?_
                refine e_aload_n dX11_feed_104 rfl ?_
                refine e_dup dX11_feed_105 rfl ?_
                refine e_getI dX11_feed_106 fl_X11_159 sh_m rfl ?_
                rw [setI_n (by decide), hT.1]
                refine e_iconst (v := 1) dX11_feed_109 (by decide) ?_
                refine e_iaddN (a := (fdN t a b c i).1) (b := 1) dX11_feed_110 ?_
                refine e_putI dX11_feed_111 fl_X11_159 sh_m rfl rfl rfl ?_
                refine e_iinc (ls' := [_, _, _, _, _, _, _, _, _, _, _]) dX11_feed_114 rfl (nI_i1 _) (by decide) rfl ?_
                refine e_goto (tgt := 8) dX11_feed_117 (by decide) ?_
                have hv8 : (if i < 8 then a else if i < 16 then b else c) = a := if_pos h8
                have e : fdN t a b c (i + 1) = apT (fdN t a b c i) (byV a (shI (i % 8))) := by rw [fdN, hv8]
                have hl : (fdN t a b c i).1 < 1000 := lt_of (i := (fdN t a b c i).1) (n := 1000) (by have := hT.2.1; omega) (by omega) c69
                refine ih (i + 1) _ _ _ (by omega) (by omega) ⟨hF.1, fun z z1 z2 => ?_, fun z z1 => ?_⟩ (by rw [e]; exact hT.ap hl (Or.inr ⟨c83, c90⟩))
                · rw [← hF.2.1 z z1 z2]; funext y; rw [setI_n z1, setI_n z2]
                · rw [setI_1, if_neg (fun x => z1 x.2), setI_n (by decide)]; exact hF.2.2 z z1
set_option maxHeartbeats 4000000 in
set_option maxRecDepth 20000 in
theorem r_feed {G : Gt} {M : Mm} {E : Gs} (hJ : RJ M E) {a b c : Int64} : Call G 1 mX11_feed [.ref 238, .long a, .long b, .long c] M (fun r M' => r = some (.int (nI (feedT E.1 a b c).1)) ∧ RE M M' (E.setT (feedT E.1 a b c))) := by
  refine Call.intro rfl (Nat.le_of_ble_eq_true rfl) ?_
  show Ev G _ mX11_feed 0 [.ref 238, .long a, RA, .long b, RA, .long c, RA, RA, RA, RA, RA] [] M _
  refine e_aload_n dX11_feed_0 rfl ?_
  refine e_iconst (v := 0) dX11_feed_1 (by decide) ?_
  refine e_putI dX11_feed_2 fl_X11_153 sh_m rfl rfl rfl ?_
  refine th0 (fun M1 hC1 => ?_)
  have hJ := hC1.keep hJ
  have hY := hJ.1
  have h6 := hY.1.2
  have hs5 := hY.2.1.2
  have hL := hJ.2.1
  have hS := hJ.2.2.1
  refine e_iconst (v := 0) dX11_feed_5 (by decide) ?_
  refine e_istore (ls' := [_, _, _, _, _, _, _, _, _, _, _]) dX11_feed_6 (by decide) rfl ?_
  refine (l_rfeed (t := E.1) 25 0 M1 _ _ (by omega) (by omega) ⟨rfl, fun _ _ _ => rfl, fun _ _ => rfl⟩ hJ.2.2.2.2.2.2.2).weaken (fun r M2 h => ?_)
  exact ⟨h.1, hJ.upT h.2.1 h.2.2, hC1.ot.trans h.2.1.ot⟩
end RFE
