section RSE
/-- one row alone changed -/
def OA (a : Nat) (M M' : Mm) : Prop := M'.2 = M.2 ∧ ∀ q, ¬ q = a → M'.1 q = M.1 q
theorem OA.rfl' {a : Nat} {M : Mm} : OA a M M := ⟨rfl, fun _ _ => rfl⟩
theorem OA.i {a : Nat} {M Mc : Mm} (h : OA a M Mc) (k : Nat) (v : Int32) : OA a M (setI Mc a k v) := ⟨h.1, fun q e => by rw [← h.2 q e]; funext z; rw [setI_1, if_neg (fun x => e x.1)]⟩
theorem OA.rd {a : Nat} {M Mc : Mm} (h : OA a M Mc) (ha : 280 ≤ a ∧ a ≤ 284) : RD M Mc := ⟨by rw [h.1], fun i _ => by rw [h.1], fun i q => h.2 i (fun e => q (by rw [e]; unfold rsd; omega)), fun k _ => by rw [h.2 238 (by omega)]⟩
theorem OA.rc {a : Nat} {M Mc : Mm} (h : OA a M Mc) (ha : 280 ≤ a ∧ a ≤ 284) : RC M Mc := ⟨h.rd ha, fun k _ => by rw [h.2 273 (by omega)]⟩
theorem TB.oa {a x n : Nat} {M Mc M1 : Mm} {S : Sv} (hx : tx x) (h6 : n ≤ 6) (h : TB x M Mc n S) (hO : OA a Mc M1) (ha : 280 ≤ a ∧ a ≤ 284) : TB x M M1 n S := by
  unfold tx at hx
  exact ⟨h.1.trans (hO.rd ha), fun k hk => by rw [hO.2 x (by omega)]; exact h.2.1 k hk, h.2.2.congr h6 (fun k _ => by rw [hO.2 273 (by omega)])⟩
theorem RS.z {M : Mm} {V : Rv} (h : RS M 0 V) {k : Nat} (hk : k < V.1) : M.1 270 k = V.2.1 k ∧ M.1 271 k = V.2.2.1 k ∧ M.1 272 k = V.2.2.2 k := by
  have := h.2.2 k hk
  rwa [Nat.mul_zero, Nat.zero_add] at this
/-- the creaks laid -/
def CR (M : Mm) (Y : Yv) (S : Sv) (i : Nat) : Prop := ∀ t j, t < i → j < Y.n → M.1 284 (6 * t + j) = crkV Y S t j
set_option maxHeartbeats 4000000 in
set_option maxRecDepth 20000 in
theorem l_rlay2 {G : Gt} {M M2 : Mm} {Y : Yv} {S : Sv} {Q : Option Value → Mm → Prop} {i : Nat} (hi20 : i < 20) (hY : RY M2 Y) (hR : RW M2 273 0 Y.n (itN Y S (i + 1))) (hg : ∀ j, j < Y.n → M2.1 280 j = growV Y (itN Y S i) (frV Y (itN Y S i).nights) j) (hK : ∀ (Mc : Mm) (u : Value), OA 284 M2 Mc → CR Mc Y S (i + 1) → Ev G 7 mX11_laysCreaks 71 [.ref 238, .int (nI i), u] [] Mc Q) : ∀ (k : Nat) (o : Nat) (Mc : Mm), (o ≤ Y.n) → (Y.n < o + k) → (OA 284 M2 Mc) → (CR Mc Y S i) → (∀ j, j < o → Mc.1 284 (6 * i + j) = crkV Y S i j) → Ev G 7 mX11_laysCreaks 28 [.ref 238, .int (nI i), .int (nI o)] [] Mc (Q) := by
  intro k
  induction k with
  | zero => intro o Mc ho hk hO hC hv; exact absurd hk (by omega)
  | succ k ih =>
    intro o Mc ho hk hO hC hv
    have h6 := hY.1.2
    refine e_iload_n dX11_laysCreaks_28 rfl ?_
    refine e_aload_n dX11_laysCreaks_29 rfl ?_
    refine e_getR dX11_laysCreaks_30 fl_X11_13 sh_m rfl ?_
    refine e_iconst (v := 0) dX11_laysCreaks_33 (by decide) ?_
    refine e_ialdN (j := 0) dX11_laysCreaks_34 (sa_m_yard) (by decide) (by omega) ?_
    rw [hO.2 240 (by decide), hY.1.1]
    refine e_icmp_ge (tgt := 71) dX11_laysCreaks_35 (by decide) (fun c35 => ?_) (fun c35 => ?_)
    · -- 35 jumps
      have hin : o = Y.n := by have := ge_of (i := o) (n := Y.n) (by omega) (by omega) c35; omega
      subst hin
      exact hK _ _ hO (fun t j ht hj => by
        by_cases e : t = i
        · subst e; exact hv j hj
        · exact hC t j (by omega) hj)
    · -- 35 goes on
      have hlt : o < Y.n := lt_of (i := o) (n := Y.n) (by omega) (by omega) c35
      refine e_aload_n dX11_laysCreaks_38 rfl ?_
      refine e_getR dX11_laysCreaks_39 fl_X11_147 sh_m rfl ?_
      refine e_bipush (v := 6) dX11_laysCreaks_42 (by decide) ?_
      refine e_iload_n dX11_laysCreaks_44 rfl ?_
      refine e_imulN (a := 6) (b := i) dX11_laysCreaks_45 ?_
      refine e_iload_n dX11_laysCreaks_46 rfl ?_
      refine e_iaddN (a := (6 * i)) (b := o) dX11_laysCreaks_47 ?_
      refine e_aload_n dX11_laysCreaks_48 rfl ?_
      refine e_getR dX11_laysCreaks_49 fl_X11_135 sh_m rfl ?_
      refine e_iload_n dX11_laysCreaks_52 rfl ?_
      refine e_ialdN (j := o) dX11_laysCreaks_53 (sa_m_grew) (by decide) (by omega) ?_
      rw [hO.2 280 (by decide), hg o hlt]
      refine e_aload_n dX11_laysCreaks_54 rfl ?_
      refine e_getR dX11_laysCreaks_55 fl_X11_114 sh_m rfl ?_
      refine e_bipush (v := 8) dX11_laysCreaks_58 (by decide) ?_
      refine e_iload_n dX11_laysCreaks_60 rfl ?_
      refine e_iaddN (a := 8) (b := o) dX11_laysCreaks_61 ?_
      refine e_ialdN (j := (8 + o)) dX11_laysCreaks_62 (sa_m_s) (by decide) (by omega) ?_
      rw [hO.2 273 (by decide), hR.cr hlt, show (itN Y S (i + 1)).crow o = (itN Y S i).crow o from rfl]
      refine e_imul dX11_laysCreaks_63 ?_
      refine e_iastN (j := ((6 * i) + o)) dX11_laysCreaks_64 (sa_m_creaks) (by decide) (by omega) ?_
      refine e_iinc (ls' := [_, _, _]) dX11_laysCreaks_65 rfl (nI_i1 _) (by decide) rfl ?_
      refine e_goto (tgt := 28) dX11_laysCreaks_68 (by decide) ?_
      refine ih (o + 1) _ (by omega) (by omega) (hO.i _ _) (fun t j ht hj => ?_) (fun j hj => ?_)
      · rw [setI_1, if_neg (by omega)]; exact hC t j ht hj
      · rw [setI_1]
        by_cases e : j = o
        · subst e; rw [if_pos ⟨rfl, rfl⟩]; rfl
        · rw [if_neg (by omega)]; exact hv j (by omega)
set_option maxHeartbeats 4000000 in
set_option maxRecDepth 20000 in
theorem l_rlay1 {G : Gt} {M : Mm} {E : Gs} (hJ : RJ M E) {T : Nat} (hI : SI E.Y E.S T) (hTT : T < 2 ^ 30) (hN : NS E.Y) : ∀ (k : Nat) (i : Nat) (Mc : Mm) (u : Value), (i ≤ 20) → (20 < i + k) → (TR 275 M Mc E.Y E.S i) → (CR Mc E.Y E.S i) → Ev G 7 mX11_laysCreaks 15 [.ref 238, .int (nI i), u] [] Mc (fun r M' => r = none ∧ RC M M' ∧ CR M' E.Y E.S 20) := by
  intro k
  induction k with
  | zero => intro i Mc u hi hk hT hC; exact absurd hk (by omega)
  | succ k ih =>
    intro i Mc u hi hk hT hC
    have hY := hJ.1
    have h6 := hY.1.2
    have hs5 := hY.2.1.2
    have hL := hJ.2.1
    have hS := hJ.2.2.1
    have hYc := hT.1.1.ry hY
    have hLc := hT.1.1.rl hL
    have hSc := hT.1.2.2
    obtain ⟨ti, hti, hti2⟩ := hI.nt h6 i
    refine e_iload_n dX11_laysCreaks_15 rfl ?_
    refine e_bipush (v := 20) dX11_laysCreaks_16 (by decide) ?_
    refine e_icmp_ge (tgt := 77) dX11_laysCreaks_18 (by decide) (fun c18 => ?_) (fun c18 => ?_)
    · -- 18 jumps
      have hin : i = 20 := by have := ge_of (i := i) (n := 20) (by omega) (by omega) c18; omega
      subst hin
      refine e_aload_n dX11_laysCreaks_77 rfl ?_
      refine e_getR dX11_laysCreaks_78 fl_X11_120 sh_m rfl ?_
      refine e_iconst (v := 0) dX11_laysCreaks_81 (by decide) ?_
      refine e_aload_n dX11_laysCreaks_82 rfl ?_
      refine e_getR dX11_laysCreaks_83 fl_X11_114 sh_m rfl ?_
      refine e_iconst (v := 0) dX11_laysCreaks_86 (by decide) ?_
      refine cS4v dX11_laysCreaks_87 mo_X11_copies ml_X11_403 (Nat.le_of_ble_eq_true rfl) (by omega) (r_copies (p := 0) (b := 0) (sa_m_before) (sa_m_s) (by omega) (by omega) (by decide) (by decide) (by decide)) ?_
      refine e_vret dX11_laysCreaks_90 rfl ?_
      exact ⟨rfl, hT.1.back, fun t j ht hj => by rw [cpR_ne (by decide)]; exact hC t j ht hj⟩
    · -- 18 goes on
      have hlt : i < 20 := lt_of (i := i) (n := 20) (by omega) (by omega) c18
      refine e_aload_n dX11_laysCreaks_21 rfl ?_
      refine cV0x dX11_laysCreaks_22 mo_X11_passesAsTold ml_X11_410 sh_m rfl (Nat.le_of_ble_eq_true rfl) (by omega) (r_passesAsTold hYc hSc hLc hN hti (by omega)) ?_
      rintro r M2 ⟨rfl, hp1, hp2, hp3⟩
      dsimp only [Option.toList, List.cons_append, List.nil_append]
      refine e_pop dX11_laysCreaks_25 rfl ?_
      refine e_iconst (v := 0) dX11_laysCreaks_26 (by decide) ?_
      refine e_istore_n (ls' := [_, _, _]) dX11_laysCreaks_27 (by decide) rfl ?_
      have hT2 := hT.next tx5 hp1 hp2 hp3
      refine l_rlay2 (M := M) (S := E.S) hlt (hT2.1.1.ry hY) hT2.1.2.2 hp3 (fun M3 u3 hO3 hC3 => ?_) (E.Y.n + 1) 0 M2 (by omega) (by omega) OA.rfl' (fun t j ht hj => by rw [hp1.2 284 (by omega) (by omega) (by omega) (by omega)]; exact hC t j ht hj) (fun j hj => absurd hj (by omega))
      refine e_iinc (ls' := [_, _, _]) dX11_laysCreaks_71 rfl (nI_i1 _) (by decide) rfl ?_
      refine e_goto (tgt := 15) dX11_laysCreaks_74 (by decide) ?_
      exact ih (i + 1) M3 u3 (by omega) (by omega) ⟨hT2.1.oa tx5 h6 hO3 (by omega), fun _ j hj => by rw [hO3.2 280 (by decide)]; exact hp3 j hj⟩ hC3
set_option maxHeartbeats 4000000 in
set_option maxRecDepth 20000 in
theorem r_laysCreaks {G : Gt} {M : Mm} {E : Gs} (hJ : RJ M E) {T : Nat} (hI : SI E.Y E.S T) (hTT : T < 2 ^ 30) (hN : NS E.Y) : Call G 7 mX11_laysCreaks [.ref 238] M (fun r M' => r = none ∧ RC M M' ∧ CR M' E.Y E.S 20) := by
  have hY := hJ.1
  have h6 := hY.1.2
  have hs5 := hY.2.1.2
  have hL := hJ.2.1
  have hS := hJ.2.2.1
  refine Call.intro rfl (Nat.le_of_ble_eq_true rfl) ?_
  show Ev G _ mX11_laysCreaks 0 [.ref 238, RA, RA] [] M _
  refine e_aload_n dX11_laysCreaks_0 rfl ?_
  refine e_getR dX11_laysCreaks_1 fl_X11_114 sh_m rfl ?_
  refine e_iconst (v := 0) dX11_laysCreaks_4 (by decide) ?_
  refine e_aload_n dX11_laysCreaks_5 rfl ?_
  refine e_getR dX11_laysCreaks_6 fl_X11_120 sh_m rfl ?_
  refine e_iconst (v := 0) dX11_laysCreaks_9 (by decide) ?_
  refine cS4v dX11_laysCreaks_10 mo_X11_copies ml_X11_403 (Nat.le_of_ble_eq_true rfl) (by omega) (r_copies (p := 0) (b := 0) (sa_m_s) (sa_m_before) (by omega) (by omega) (by decide) (by decide) (by decide)) ?_
  refine e_iconst (v := 0) dX11_laysCreaks_13 (by decide) ?_
  refine e_istore_n (ls' := [_, _, _]) dX11_laysCreaks_14 (by decide) rfl ?_
  exact l_rlay1 hJ hI hTT hN 21 0 _ _ (by omega) (by omega) (TR.start tx5 h6 hS) (fun t j ht hj => absurd ht (by omega))
set_option maxHeartbeats 4000000 in
set_option maxRecDepth 20000 in
theorem l_rseen {G : Gt} {M : Mm} {E : Gs} {j : Nat} (hV : RS M 0 E.V) (hVI : VI E.V) (hC : CR M E.Y E.S 20) (hj : j < E.Y.n) (h6 : E.Y.n ≤ 6) : ∀ (k : Nat) (i : Nat) , (i ≤ E.V.1) → (E.V.1 < i + k) → (∀ q, q < i → susP E j q = true) → Ev G 1 mX11_isAsSeen 2 [.ref 238, .int (nI j), .int (nI i)] [] M (eqQ (some (.int (b2i (susB E j = true)))) M) := by
  intro k
  induction k with
  | zero => intro i hi hk hv; exact absurd hk (by omega)
  | succ k ih =>
    intro i hi hk hv
    have h8 := hV.2.1
    refine e_iload_n dX11_isAsSeen_2 rfl ?_
    refine e_aload_n dX11_isAsSeen_3 rfl ?_
    refine e_getR dX11_isAsSeen_4 fl_X11_102 sh_m rfl ?_
    refine e_iconst (v := 0) dX11_isAsSeen_7 (by decide) ?_
    refine e_ialdN (j := 0) dX11_isAsSeen_8 (sa_m_seens) (by decide) (by omega) ?_
    rw [hV.1]
    refine e_icmp_ge (tgt := 61) dX11_isAsSeen_9 (by decide) (fun c9 => ?_) (fun c9 => ?_)
    · -- 9 jumps
      have hin : i = E.V.1 := by have := ge_of (n := E.V.1) (by omega) (by omega) c9; omega
      subst hin
      refine e_iconst (v := 1) dX11_isAsSeen_61 (by decide) ?_
      refine e_zret dX11_isAsSeen_62 rfl (by first | rfl | exact b2i_nar _) ?_
      exact ⟨by rw [b2i_t (show susB E j = true from by unfold susB; rw [allN_iff]; exact hv)], rfl⟩
    · -- 9 goes on
      have hlt : i < E.V.1 := lt_of (n := E.V.1) (by omega) (by omega) c9
      obtain ⟨⟨t, ht1, ht20, et⟩, hb⟩ := hVI i hlt
      obtain ⟨e1, e2, e3⟩ := hV.z hlt
      refine e_aload_n dX11_isAsSeen_12 rfl ?_
      refine e_getR dX11_isAsSeen_13 fl_X11_147 sh_m rfl ?_
      refine e_bipush (v := 6) dX11_isAsSeen_16 (by decide) ?_
      refine e_aload_n dX11_isAsSeen_18 rfl ?_
      refine e_getR dX11_isAsSeen_19 fl_X11_105 sh_m rfl ?_
      refine e_iload_n dX11_isAsSeen_22 rfl ?_
      refine e_ialdN (j := i) dX11_isAsSeen_23 (sa_m_seenIn) (by decide) (by omega) ?_
      rw [e1, et]
      refine e_iconst (v := 1) dX11_isAsSeen_24 (by decide) ?_
      refine e_isub dX11_isAsSeen_25 ?_
      rw [show nI t - 1 = nI (t - 1) from nI_subN (b := 1) ht1]
      refine e_imulN (a := 6) (b := (t - 1)) dX11_isAsSeen_26 ?_
      refine e_iload_n dX11_isAsSeen_27 rfl ?_
      refine e_iaddN (a := (6 * (t - 1))) (b := j) dX11_isAsSeen_28 ?_
      refine e_ialdN (j := ((6 * (t - 1)) + j)) dX11_isAsSeen_29 (sa_m_creaks) (by decide) (by omega) ?_
      rw [hC (t - 1) j (by omega) hj]
      refine e_aload_n dX11_isAsSeen_30 rfl ?_
      refine e_getR dX11_isAsSeen_31 fl_X11_108 sh_m rfl ?_
      refine e_iload_n dX11_isAsSeen_34 rfl ?_
      refine e_ialdN (j := i) dX11_isAsSeen_35 (sa_m_seenMuch) (by decide) (by omega) ?_
      rw [e2]
      refine e_icmp_lt (tgt := 43) dX11_isAsSeen_36 (by decide) (fun c36 => ?_) (fun c36 => ?_)
      · -- 36 jumps
        refine e_iconst (v := 0) dX11_isAsSeen_43 (by decide) ?_
        refine e_aload_n dX11_isAsSeen_44 rfl ?_
        refine e_getR dX11_isAsSeen_45 fl_X11_111 sh_m rfl ?_
        refine e_iload_n dX11_isAsSeen_48 rfl ?_
        refine e_zaldN (j := i) dX11_isAsSeen_49 (sa_m_seenMore) (by decide) (by omega) ?_
        rw [e3]
        refine e_icmp_eq (tgt := 55) dX11_isAsSeen_50 (by decide) (fun c50 => ?_) (fun c50 => ?_)
        · -- 50 jumps
          refine e_iinc (ls' := [_, _, _]) dX11_isAsSeen_55 rfl (nI_i1 _) (by decide) rfl ?_
          refine e_goto (tgt := 2) dX11_isAsSeen_58 (by decide) ?_
          exact ih (i + 1) (by omega) (by omega) (fun q hq => by
            by_cases e : q = i
            · subst e; unfold susP; rw [et, nI_clamp (by omega)]; rw [decide_eq_true c36, ← c50]; decide
            · exact hv q (by omega))
        · -- 50 goes on
          refine e_iconst (v := 0) dX11_isAsSeen_53 (by decide) ?_
          refine e_zret dX11_isAsSeen_54 rfl (by first | rfl | exact b2i_nar _) ?_
          have hf : susP E j i = false := by
            unfold susP
            rw [et, nI_clamp (by omega), decide_eq_true c36]
            rcases hb with q | q
            · exact absurd q.symm c50
            · rw [q]; decide
          exact ⟨by rw [b2i_f (p := susB E j = true) (fun q => by unfold susB at q; rw [allN_iff] at q; rw [q i hlt] at hf; cases hf)], rfl⟩
      · -- 36 goes on
        refine e_iconst (v := 1) dX11_isAsSeen_39 (by decide) ?_
        refine e_goto (tgt := 44) dX11_isAsSeen_40 (by decide) ?_
        refine e_aload_n dX11_isAsSeen_44 rfl ?_
        refine e_getR dX11_isAsSeen_45 fl_X11_111 sh_m rfl ?_
        refine e_iload_n dX11_isAsSeen_48 rfl ?_
        refine e_zaldN (j := i) dX11_isAsSeen_49 (sa_m_seenMore) (by decide) (by omega) ?_
        rw [e3]
        refine e_icmp_eq (tgt := 55) dX11_isAsSeen_50 (by decide) (fun c50 => ?_) (fun c50 => ?_)
        · -- 50 jumps
          refine e_iinc (ls' := [_, _, _]) dX11_isAsSeen_55 rfl (nI_i1 _) (by decide) rfl ?_
          refine e_goto (tgt := 2) dX11_isAsSeen_58 (by decide) ?_
          exact ih (i + 1) (by omega) (by omega) (fun q hq => by
            by_cases e : q = i
            · subst e; unfold susP; rw [et, nI_clamp (by omega)]; rw [decide_eq_false c36, ← c50]; decide
            · exact hv q (by omega))
        · -- 50 goes on
          refine e_iconst (v := 0) dX11_isAsSeen_53 (by decide) ?_
          refine e_zret dX11_isAsSeen_54 rfl (by first | rfl | exact b2i_nar _) ?_
          have hf : susP E j i = false := by
            unfold susP
            rw [et, nI_clamp (by omega), decide_eq_false c36]
            rcases hb with q | q
            · rw [q]; decide
            · exact absurd q.symm c50
          exact ⟨by rw [b2i_f (p := susB E j = true) (fun q => by unfold susB at q; rw [allN_iff] at q; rw [q i hlt] at hf; cases hf)], rfl⟩
set_option maxHeartbeats 4000000 in
set_option maxRecDepth 20000 in
theorem r_isAsSeen {G : Gt} {M : Mm} {E : Gs} {j : Nat} (hV : RS M 0 E.V) (hVI : VI E.V) (hC : CR M E.Y E.S 20) (hj : j < E.Y.n) (h6 : E.Y.n ≤ 6) : Call G 1 mX11_isAsSeen [.ref 238, .int (nI j)] M (eqQ (some (.int (b2i (susB E j = true)))) M) := by
  have h8 := hV.2.1
  refine Call.intro rfl (Nat.le_of_ble_eq_true rfl) ?_
  show Ev G _ mX11_isAsSeen 0 [.ref 238, .int (nI j), RA] [] M _
  refine e_iconst (v := 0) dX11_isAsSeen_0 (by decide) ?_
  refine e_istore_n (ls' := [_, _, _]) dX11_isAsSeen_1 (by decide) rfl ?_
  exact l_rseen hV hVI hC hj h6 (E.V.1 + 1) 0 (by omega) (by omega) (fun q hq => absurd hq (by omega))
set_option maxHeartbeats 4000000 in
set_option maxRecDepth 20000 in
theorem l_rwho {G : Gt} {M : Mm} {E : Gs} (hY : RY M E.Y) (hV : RS M 0 E.V) (hVI : VI E.V) (hC : CR M E.Y E.S 20) : ∀ (k : Nat) (i : Nat) , (i ≤ E.Y.n) → (E.Y.n < i + k) → Ev G 8 mX11_who 13 [.ref 238, .int (setB (susB E) i), .int (nI i)] [] M (eqQ (some (.int (whoV E))) M) := by
  intro k
  induction k with
  | zero => intro i hi hk; exact absurd hk (by omega)
  | succ k ih =>
    intro i hi hk
    have h6 := hY.1.2
    refine e_iload_n dX11_who_13 rfl ?_
    refine e_aload_n dX11_who_14 rfl ?_
    refine e_getR dX11_who_15 fl_X11_13 sh_m rfl ?_
    refine e_iconst (v := 0) dX11_who_18 (by decide) ?_
    refine e_ialdN (j := 0) dX11_who_19 (sa_m_yard) (by decide) (by omega) ?_
    rw [hY.1.1]
    refine e_icmp_ge (tgt := 47) dX11_who_20 (by decide) (fun c20 => ?_) (fun c20 => ?_)
    · -- 20 jumps
      have hin : i = E.Y.n := by have := ge_of (n := E.Y.n) (by omega) (by omega) c20; omega
      subst hin
      refine e_iload_n dX11_who_47 rfl ?_
      refine e_iret dX11_who_48 rfl ?_
      exact ⟨rfl, rfl⟩
    · -- 20 goes on
      have hlt : i < E.Y.n := lt_of (n := E.Y.n) (by omega) (by omega) c20
      refine e_iload_n dX11_who_23 rfl ?_
      refine e_aload_n dX11_who_24 rfl ?_
      refine e_iload_n dX11_who_25 rfl ?_
      refine cV1r dX11_who_26 mo_X11_isAsSeen ml_X11_462 sh_m rfl (Nat.le_of_ble_eq_true rfl) (by omega) (r_isAsSeen hV hVI hC hlt h6) ?_
      refine e_if_eq (tgt := 38) dX11_who_29 (by decide) (fun c29 => ?_) (fun c29 => ?_)
      · -- 29 jumps
        refine e_iconst (v := 0) dX11_who_38 (by decide) ?_
        refine e_ior dX11_who_39 ?_
        refine e_istore_n (ls' := [_, _, _]) dX11_who_40 (by decide) rfl ?_
        refine e_iinc (ls' := [_, _, _]) dX11_who_41 rfl (nI_i1 _) (by decide) rfl ?_
        refine e_goto (tgt := 13) dX11_who_44 (by decide) ?_
        have hh := ih (i + 1) (by omega) (by omega)
        rw [setB_f (Bool.eq_false_iff.mpr (b2i_eq0.mp c29))] at hh
        rw [Int32.or_zero]
        exact hh
      · -- 29 goes on
        refine e_iconst (v := 1) dX11_who_32 (by decide) ?_
        refine e_iload_n dX11_who_33 rfl ?_
        refine e_ishl dX11_who_34 ?_
        refine e_goto (tgt := 39) dX11_who_35 (by decide) ?_
        refine e_ior dX11_who_39 ?_
        refine e_istore_n (ls' := [_, _, _]) dX11_who_40 (by decide) rfl ?_
        refine e_iinc (ls' := [_, _, _]) dX11_who_41 rfl (nI_i1 _) (by decide) rfl ?_
        refine e_goto (tgt := 13) dX11_who_44 (by decide) ?_
        have hh := ih (i + 1) (by omega) (by omega)
        rw [setB_t (Classical.not_not.mp (fun q => c29 (b2i_f q)))] at hh
        exact hh
set_option maxHeartbeats 4000000 in
set_option maxRecDepth 20000 in
theorem r_who {G : Gt} {M : Mm} {E : Gs} (hJ : RJ M E) {T : Nat} (hI : SI E.Y E.S T) (hTT : T < 2 ^ 30) (hN : NS E.Y) (hVI : VI E.V) : Call G 8 mX11_who [.ref 238] M (fun r M' => r = some (.int (whoV E)) ∧ RC M M' ∧ CR M' E.Y E.S 20) := by
  refine Call.intro rfl (Nat.le_of_ble_eq_true rfl) ?_
  show Ev G _ mX11_who 0 [.ref 238, RA, RA] [] M _
  refine e_aload_n dX11_who_0 rfl ?_
  refine e_iconst (v := 0) dX11_who_1 (by decide) ?_
  refine e_putI dX11_who_2 fl_X11_153 sh_m rfl rfl rfl ?_
  refine th0 (fun M1 hC1 => ?_)
  have hJ := hC1.keep hJ
  have hY := hJ.1
  have h6 := hY.1.2
  have hs5 := hY.2.1.2
  have hL := hJ.2.1
  have hS := hJ.2.2.1
  refine e_aload_n dX11_who_5 rfl ?_
  refine cV0x dX11_who_6 mo_X11_laysCreaks ml_X11_459 sh_m rfl (Nat.le_of_ble_eq_true rfl) (by omega) (r_laysCreaks hJ hI hTT hN) ?_
  rintro r M2 ⟨rfl, hC2, hcr⟩
  dsimp only [Option.toList, List.cons_append, List.nil_append]
  have hJ2 := hC2.keep hJ
  refine e_iconst (v := 0) dX11_who_9 (by decide) ?_
  refine e_istore_n (ls' := [_, _, _]) dX11_who_10 (by decide) rfl ?_
  refine e_iconst (v := 0) dX11_who_11 (by decide) ?_
  refine e_istore_n (ls' := [_, _, _]) dX11_who_12 (by decide) rfl ?_
  exact (l_rwho hJ2.1 hJ2.2.2.2.2.1 hVI hcr (E.Y.n + 1) 0 (by omega) (by omega)).weaken (fun r M3 h => ⟨h.1, by rw [h.2]; exact hC1.trans hC2, by rw [h.2]; exact hcr⟩)
set_option maxHeartbeats 4000000 in
set_option maxRecDepth 20000 in
theorem l_rask3 {G : Gt} {M : Mm} {E : Gs} {x : Int32} {al : Nat} (hY : RY M E.Y) (hC : CR M E.Y E.S 20) {Q : Option Value → Mm → Prop} {a b : Int32} {t m : Nat} (ht : t < 20) (hK : ∀ (u : Value), Ev G 9 mX11_ask 102 [.ref 238, .int x, .int (nI al), .int a, .int b, .int (nI t), .int (nI m), .int (soV E x t m), u] [] M Q) : ∀ (k : Nat) (o : Nat), (o ≤ E.Y.n) → (E.Y.n < o + k) → Ev G 9 mX11_ask 47 [.ref 238, .int x, .int (nI al), .int a, .int b, .int (nI t), .int (nI m), .int (cntI (fun j => decide (bitI x (nI j)) && !decide (crkV E.Y E.S t j < nI m)) o), .int (nI o)] [] M (Q) := by
  intro k
  induction k with
  | zero => intro o ho hk; exact absurd hk (by omega)
  | succ k ih =>
    intro o ho hk
    have h6 := hY.1.2
    refine e_iload dX11_ask_47 rfl ?_
    refine e_aload_n dX11_ask_49 rfl ?_
    refine e_getR dX11_ask_50 fl_X11_13 sh_m rfl ?_
    refine e_iconst (v := 0) dX11_ask_53 (by decide) ?_
    refine e_ialdN (j := 0) dX11_ask_54 (sa_m_yard) (by decide) (by omega) ?_
    rw [hY.1.1]
    refine e_icmp_ge (tgt := 102) dX11_ask_55 (by decide) (fun c55 => ?_) (fun c55 => ?_)
    · -- 55 jumps
      have hin : o = E.Y.n := by have := ge_of (i := o) (n := E.Y.n) (by omega) (by omega) c55; omega
      subst hin
      exact hK _
    · -- 55 goes on
      have hlt : o < E.Y.n := lt_of (i := o) (n := E.Y.n) (by omega) (by omega) c55
      refine e_iload dX11_ask_58 rfl ?_
      refine e_iload_n dX11_ask_60 rfl ?_
      refine e_iload dX11_ask_61 rfl ?_
      refine e_ishr dX11_ask_63 ?_
      refine e_iconst (v := 1) dX11_ask_64 (by decide) ?_
      refine e_iand dX11_ask_65 ?_
      refine e_iconst (v := 1) dX11_ask_66 (by decide) ?_
      refine e_icmp_ne (tgt := 92) dX11_ask_67 (by decide) (fun c67 => ?_) (fun c67 => ?_)
      · -- 67 jumps
        refine e_iconst (v := 0) dX11_ask_92 (by decide) ?_
        refine e_iadd dX11_ask_93 ?_
        refine e_istore (ls' := [_, _, _, _, _, _, _, _, _]) dX11_ask_94 (by decide) rfl ?_
        refine e_iinc (ls' := [_, _, _, _, _, _, _, _, _]) dX11_ask_96 rfl (nI_i1 _) (by decide) rfl ?_
        refine e_goto (tgt := 47) dX11_ask_99 (by decide) ?_
        have hh := ih (o + 1) (by omega) (by omega)
        rw [cntI_f (by rw [decide_eq_false c67]; rfl)] at hh
        rw [Int32.add_zero]
        exact hh
      · -- 67 goes on
        refine e_aload_n dX11_ask_70 rfl ?_
        refine e_getR dX11_ask_71 fl_X11_147 sh_m rfl ?_
        refine e_bipush (v := 6) dX11_ask_74 (by decide) ?_
        refine e_iload dX11_ask_76 rfl ?_
        refine e_imulN (a := 6) (b := t) dX11_ask_78 ?_
        refine e_iload dX11_ask_79 rfl ?_
        refine e_iaddN (a := (6 * t)) (b := o) dX11_ask_81 ?_
        refine e_ialdN (j := ((6 * t) + o)) dX11_ask_82 (sa_m_creaks) (by decide) (by omega) ?_
        rw [hC t o ht hlt]
        refine e_iload dX11_ask_83 rfl ?_
        refine e_icmp_lt (tgt := 92) dX11_ask_85 (by decide) (fun c85 => ?_) (fun c85 => ?_)
        · -- 85 jumps
          refine e_iconst (v := 0) dX11_ask_92 (by decide) ?_
          refine e_iadd dX11_ask_93 ?_
          refine e_istore (ls' := [_, _, _, _, _, _, _, _, _]) dX11_ask_94 (by decide) rfl ?_
          refine e_iinc (ls' := [_, _, _, _, _, _, _, _, _]) dX11_ask_96 rfl (nI_i1 _) (by decide) rfl ?_
          refine e_goto (tgt := 47) dX11_ask_99 (by decide) ?_
          have hh := ih (o + 1) (by omega) (by omega)
          rw [cntI_f (by rw [decide_eq_true c85]; exact Bool.and_false _)] at hh
          rw [Int32.add_zero]
          exact hh
        · -- 85 goes on
          refine e_iconst (v := 1) dX11_ask_88 (by decide) ?_
          refine e_goto (tgt := 93) dX11_ask_89 (by decide) ?_
          refine e_iadd dX11_ask_93 ?_
          refine e_istore (ls' := [_, _, _, _, _, _, _, _, _]) dX11_ask_94 (by decide) rfl ?_
          refine e_iinc (ls' := [_, _, _, _, _, _, _, _, _]) dX11_ask_96 rfl (nI_i1 _) (by decide) rfl ?_
          refine e_goto (tgt := 47) dX11_ask_99 (by decide) ?_
          have hh := ih (o + 1) (by omega) (by omega)
          rw [cntI_t (by rw [decide_eq_true c67, decide_eq_false c85]; rfl)] at hh
          exact hh
theorem askO_s {E : Gs} {x all : Int32} {q : Int32 × Int32} {t : Nat} : askO E x all q (t + 1) = askI E x all t (askO E x all q t) 400 := by rw [askO]
set_option maxHeartbeats 4000000 in
set_option maxRecDepth 20000 in
theorem s_rask {G : Gt} {M : Mm} {E : Gs} {x : Int32} {al : Nat} {Q : Option Value → Mm → Prop} {q q0 : Int32 × Int32} {t m : Nat} {u : Value} (hq : q = askI E x (nI al) t q0 m) (hK : ∀ (u v : Value), Ev G 9 mX11_ask 33 [.ref 238, .int x, .int (nI al), .int (askI E x (nI al) t q0 (m + 1)).1, .int (askI E x (nI al) t q0 (m + 1)).2, .int (nI t), .int (nI (m + 2)), u, v] [] M Q) : Ev G 9 mX11_ask 102 [.ref 238, .int x, .int (nI al), .int q.1, .int q.2, .int (nI t), .int (nI (m + 1)), .int (soV E x t (m + 1)), u] [] M (Q) := by
  refine e_iload dX11_ask_102 rfl ?_
  refine e_iload_n dX11_ask_104 rfl ?_
  refine e_iload dX11_ask_105 rfl ?_
  refine e_isub dX11_ask_107 ?_
  refine e_max dX11_ask_108 (mem_g 1571 (by decide +kernel) rfl) (mem_g 422 (by decide +kernel) rfl) (mem_g 15 (by decide +kernel) rfl) (mem_g 423 (by decide +kernel) rfl) (Nat.le_of_ble_eq_true rfl) (by omega) ?_
  refine e_istore (ls' := [_, _, _, _, _, _, _, _, _]) dX11_ask_111 (by decide) rfl ?_
  refine e_iload dX11_ask_113 rfl ?_
  refine e_iload_n dX11_ask_115 rfl ?_
  refine e_icmp_lt (tgt := 122) dX11_ask_116 (by decide) (fun c116 => ?_) (fun c116 => ?_)
  · -- 116 jumps
    refine e_iload dX11_ask_122 rfl ?_
    refine e_istore_n (ls' := [_, _, _, _, _, _, _, _, _]) dX11_ask_124 (by decide) rfl ?_
    refine e_sipush (v := 1000) dX11_ask_125 (by decide) ?_
    refine e_iload dX11_ask_128 rfl ?_
    refine e_iconst (v := 1) dX11_ask_130 (by decide) ?_
    refine e_iadd dX11_ask_131 ?_
    rw [show nI t + 1 = nI (t + 1) from nI_add t 1]
    refine e_imul dX11_ask_132 ?_
    refine e_iload dX11_ask_133 rfl ?_
    refine e_iadd dX11_ask_135 ?_
    refine e_istore (ls' := [_, _, _, _, _, _, _, _, _]) dX11_ask_136 (by decide) rfl ?_
    refine e_iinc (ls' := [_, _, _, _, _, _, _, _, _]) dX11_ask_138 rfl (nI_i1 _) (by decide) rfl ?_
    refine e_goto (tgt := 33) dX11_ask_141 (by decide) ?_
    have e : askI E x (nI al) t q0 (m + 1) = (mx (soV E x t (m + 1)) (nI al - soV E x t (m + 1)), 1000 * nI (t + 1) + nI (m + 1)) := by
      rw [askI, ← hq]
      exact if_pos c116
    rw [e] at hK
    exact hK _ _
  · -- 116 goes on
    refine e_goto (tgt := 138) dX11_ask_119 (by decide) ?_
    refine e_iinc (ls' := [_, _, _, _, _, _, _, _, _]) dX11_ask_138 rfl (nI_i1 _) (by decide) rfl ?_
    refine e_goto (tgt := 33) dX11_ask_141 (by decide) ?_
    have e : askI E x (nI al) t q0 (m + 1) = askI E x (nI al) t q0 m := by
      rw [askI, ← hq]
      exact if_neg c116
    rw [← hq] at e
    rw [e] at hK
    exact hK _ _
set_option maxHeartbeats 4000000 in
set_option maxRecDepth 20000 in
theorem l_rask2 {G : Gt} {M : Mm} {E : Gs} {x : Int32} {al : Nat} (hY : RY M E.Y) (hC : CR M E.Y E.S 20) {Q : Option Value → Mm → Prop} {q0 : Int32 × Int32} {t : Nat} (ht : t < 20) (hK : ∀ (u v w : Value), Ev G 9 mX11_ask 144 [.ref 238, .int x, .int (nI al), .int (askI E x (nI al) t q0 400).1, .int (askI E x (nI al) t q0 400).2, .int (nI t), u, v, w] [] M Q) : ∀ (k : Nat) (m : Nat) (q : Int32 × Int32) (u v : Value), (m ≤ 400) → (400 < m + k) → (q = askI E x (nI al) t q0 m) → Ev G 9 mX11_ask 33 [.ref 238, .int x, .int (nI al), .int q.1, .int q.2, .int (nI t), .int (nI (m + 1)), u, v] [] M (Q) := by
  intro k
  induction k with
  | zero => intro m q u v hm hk hq; exact absurd hk (by omega)
  | succ k ih =>
    intro m q u v hm hk hq
    refine e_iload dX11_ask_33 rfl ?_
    refine e_sipush (v := 400) dX11_ask_35 (by decide) ?_
    refine e_icmp_gt (tgt := 144) dX11_ask_38 (by decide) (fun c38 => ?_) (fun c38 => ?_)
    · -- 38 jumps
      have hin : m = 400 := by have := lt_of (i := 400) (n := m + 1) (by omega) (by omega) c38; omega
      subst hin
      rw [hq]
      exact hK _ _ _
    · -- 38 goes on
      have hlt : m < 400 := by have := ge_of (i := 400) (n := m + 1) (by omega) (by omega) c38; omega
      refine e_iconst (v := 0) dX11_ask_41 (by decide) ?_
      refine e_istore (ls' := [_, _, _, _, _, _, _, _, _]) dX11_ask_42 (by decide) rfl ?_
      refine e_iconst (v := 0) dX11_ask_44 (by decide) ?_
      refine e_istore (ls' := [_, _, _, _, _, _, _, _, _]) dX11_ask_45 (by decide) rfl ?_
      refine l_rask3 hY hC ht (fun u2 => ?_) (E.Y.n + 1) 0 (by omega) (by omega)
      exact s_rask hq (fun u3 v3 => ih (m + 1) _ u3 v3 (by omega) (by omega) rfl)
set_option maxHeartbeats 4000000 in
set_option maxRecDepth 20000 in
theorem l_rask1 {G : Gt} {M : Mm} {E : Gs} {x : Int32} {al : Nat} (hY : RY M E.Y) (hC : CR M E.Y E.S 20) : ∀ (k : Nat) (t : Nat) (q : Int32 × Int32) (u v w : Value), (t ≤ 20) → (20 < t + k) → (q = askO E x (nI al) (nI al, -1) t) → Ev G 9 mX11_ask 23 [.ref 238, .int x, .int (nI al), .int q.1, .int q.2, .int (nI t), u, v, w] [] M (eqQ (some (.int (askQ E x (nI al)))) M) := by
  intro k
  induction k with
  | zero => intro t q u v w hm hk hq; exact absurd hk (by omega)
  | succ k ih =>
    intro t q u v w hm hk hq
    refine e_iload dX11_ask_23 rfl ?_
    refine e_bipush (v := 20) dX11_ask_25 (by decide) ?_
    refine e_icmp_ge (tgt := 150) dX11_ask_27 (by decide) (fun c27 => ?_) (fun c27 => ?_)
    · -- 27 jumps
      have hin : t = 20 := by have := ge_of (i := t) (n := 20) (by omega) (by omega) c27; omega
      subst hin
      refine e_iload dX11_ask_150 rfl ?_
      refine e_iret dX11_ask_152 rfl ?_
      exact ⟨by unfold askQ; rw [hq], rfl⟩
    · -- 27 goes on
      have hlt : t < 20 := lt_of (i := t) (n := 20) (by omega) (by omega) c27
      refine e_iconst (v := 1) dX11_ask_30 (by decide) ?_
      refine e_istore (ls' := [_, _, _, _, _, _, _, _, _]) dX11_ask_31 (by decide) rfl ?_
      refine l_rask2 hY hC hlt (q0 := q) (fun u2 v2 w2 => ?_) 401 0 q _ _ (by omega) (by omega) rfl
      refine e_iinc (ls' := [_, _, _, _, _, _, _, _, _]) dX11_ask_144 rfl (nI_i1 _) (by decide) rfl ?_
      refine e_goto (tgt := 23) dX11_ask_147 (by decide) ?_
      exact ih (t + 1) _ _ _ _ (by omega) (by omega) (by rw [askO_s, ← hq])
set_option maxHeartbeats 4000000 in
set_option maxRecDepth 20000 in
theorem r_ask {G : Gt} {M : Mm} {E : Gs} (hJ : RJ M E) {T : Nat} (hI : SI E.Y E.S T) (hTT : T < 2 ^ 30) (hN : NS E.Y) (hVI : VI E.V) : Call G 9 mX11_ask [.ref 238] M (fun r M' => r = some (.int (askA E)) ∧ RC M M') := by
  refine Call.intro rfl (Nat.le_of_ble_eq_true rfl) ?_
  show Ev G _ mX11_ask 0 [.ref 238, RA, RA, RA, RA, RA, RA, RA, RA] [] M _
  refine e_aload_n dX11_ask_0 rfl ?_
  refine e_iconst (v := 0) dX11_ask_1 (by decide) ?_
  refine e_putI dX11_ask_2 fl_X11_153 sh_m rfl rfl rfl ?_
  refine th0 (fun M1 hC1 => ?_)
  have hJ := hC1.keep hJ
  have hY := hJ.1
  have h6 := hY.1.2
  have hs5 := hY.2.1.2
  have hL := hJ.2.1
  have hS := hJ.2.2.1
  refine e_aload_n dX11_ask_5 rfl ?_
  refine cV0x dX11_ask_6 mo_X11_who ml_X11_465 sh_m rfl (Nat.le_of_ble_eq_true rfl) (by omega) (r_who hJ hI hTT hN hVI) ?_
  rintro r M2 ⟨rfl, hC2, hcr⟩
  dsimp only [Option.toList, List.cons_append, List.nil_append]
  have hJ2 := hC2.keep hJ
  obtain ⟨s, hs, es⟩ := setB_nat (susB E) E.Y.n h6
  have hs64 : s < 64 := by have := (pow6 h6).2.2; omega
  unfold askA
  rw [show whoV E = nI s from es, nI_clamp (by omega)]
  refine e_istore_n (ls' := [_, _, _, _, _, _, _, _, _]) dX11_ask_9 (by decide) rfl ?_
  refine e_iload_n dX11_ask_10 rfl ?_
  refine cS1r dX11_ask_11 mo_X11_bits ml_X11_447 (Nat.le_of_ble_eq_true rfl) (by omega) (r_bits hs64) ?_
  refine e_istore_n (ls' := [_, _, _, _, _, _, _, _, _]) dX11_ask_14 (by decide) rfl ?_
  refine e_iload_n dX11_ask_15 rfl ?_
  refine e_istore_n (ls' := [_, _, _, _, _, _, _, _, _]) dX11_ask_16 (by decide) rfl ?_
  refine e_iconst (v := (-1)) dX11_ask_17 (by decide) ?_
  refine e_istore (ls' := [_, _, _, _, _, _, _, _, _]) dX11_ask_18 (by decide) rfl ?_
  refine e_iconst (v := 0) dX11_ask_20 (by decide) ?_
  refine e_istore (ls' := [_, _, _, _, _, _, _, _, _]) dX11_ask_21 (by decide) rfl ?_
  exact (l_rask1 hJ2.1 hcr 21 0 (nI (pcN s), -1) _ _ _ (by omega) (by omega) rfl).weaken (fun r M3 h => ⟨h.1, by rw [h.2]; exact hC1.trans hC2⟩)
set_option maxHeartbeats 4000000 in
set_option maxRecDepth 20000 in
theorem l_rstk0 {G : Gt} {M : Mm} {Y : Yv} {S : Sv} (hY : RY M Y) (hS : RW M 273 0 Y.n S) {Q : Option Value → Mm → Prop} {a b : Value} (hK : ∀ (u : Value), Ev G 1 mX11_stick 39 [.ref 238, .int (xorI (fun j => r4 (S.crow j)) Y.n), u, a, b] [] M Q) : ∀ (k : Nat) (i : Nat), (i ≤ Y.n) → (Y.n < i + k) → Ev G 1 mX11_stick 9 [.ref 238, .int (xorI (fun j => r4 (S.crow j)) i), .int (nI i), a, b] [] M (Q) := by
  intro k
  induction k with
  | zero => intro i hi hk; exact absurd hk (by omega)
  | succ k ih =>
    intro i hi hk
    have h6 := hY.1.2
    refine e_iload_n dX11_stick_9 rfl ?_
    refine e_aload_n dX11_stick_10 rfl ?_
    refine e_getR dX11_stick_11 fl_X11_13 sh_m rfl ?_
    refine e_iconst (v := 0) dX11_stick_14 (by decide) ?_
    refine e_ialdN (j := 0) dX11_stick_15 (sa_m_yard) (by decide) (by omega) ?_
    rw [hY.1.1]
    refine e_icmp_ge (tgt := 39) dX11_stick_16 (by decide) (fun c16 => ?_) (fun c16 => ?_)
    · -- 16 jumps
      have hin : i = Y.n := by have := ge_of (i := i) (n := Y.n) (by omega) (by omega) c16; omega
      subst hin
      exact hK _
    · -- 16 goes on
      have hlt : i < Y.n := lt_of (i := i) (n := Y.n) (by omega) (by omega) c16
      refine e_iload_n dX11_stick_19 rfl ?_
      refine e_aload_n dX11_stick_20 rfl ?_
      refine e_getR dX11_stick_21 fl_X11_114 sh_m rfl ?_
      refine e_bipush (v := 8) dX11_stick_24 (by decide) ?_
      refine e_iload_n dX11_stick_26 rfl ?_
      refine e_iaddN (a := 8) (b := i) dX11_stick_27 ?_
      refine e_ialdN (j := (8 + i)) dX11_stick_28 (sa_m_s) (by decide) (by omega) ?_
      rw [hS.cr hlt]
      refine e_iconst (v := 4) dX11_stick_29 (by decide) ?_
      refine e_irem dX11_stick_30 (by decide) ?_
      refine e_ixor dX11_stick_31 ?_
      refine e_istore_n (ls' := [_, _, _, _, _]) dX11_stick_32 (by decide) rfl ?_
      refine e_iinc (ls' := [_, _, _, _, _]) dX11_stick_33 rfl (nI_i1 _) (by decide) rfl ?_
      refine e_goto (tgt := 9) dX11_stick_36 (by decide) ?_
      exact ih (i + 1) (by omega) (by omega)
set_option maxHeartbeats 4000000 in
set_option maxRecDepth 20000 in
theorem l_rstk2 {G : Gt} {M : Mm} {Y : Yv} {S : Sv} {bal : Int32} {j c : Nat} (hS : RW M 273 0 Y.n S) (h6 : Y.n ≤ 6) (hj : j < Y.n) (hc : S.crow j = nI c) (hc2 : c ≤ 20) {Q : Option Value → Mm → Prop} (hN : stkN (nI c) bal = none → ∀ (u v : Value), Ev G 1 mX11_stick 117 [.ref 238, .int bal, .int (nI j), u, v] [] M Q) (hF : ∀ m, stkN (nI c) bal = some m → Q (some (.int (4 * nI j + nI m))) M) : ∀ (k : Nat) (i : Nat) (w : Value), (1 ≤ i) → (i ≤ 4) → (4 < i + k) → (stkN (nI c) bal = fstN (stkP (nI c) bal) i (4 - i)) → Ev G 1 mX11_stick 53 [.ref 238, .int bal, .int (nI j), .int (nI i), w] [] M (Q) := by
  intro k
  induction k with
  | zero => intro i w h1 hi hk hr; exact absurd hk (by omega)
  | succ k ih =>
    intro i w h1 hi hk hr
    refine e_iload_n dX11_stick_53 rfl ?_
    refine e_iconst (v := 4) dX11_stick_54 (by decide) ?_
    refine e_icmp_ge (tgt := 117) dX11_stick_55 (by decide) (fun c55 => ?_) (fun c55 => ?_)
    · -- 55 jumps
      have hin : i = 4 := by have := ge_of (i := i) (n := 4) (by omega) (by omega) c55; omega
      subst hin
      exact hN (hr.trans fst_e) _ _
    · -- 55 goes on
      have hlt : i < 4 := lt_of (i := i) (n := 4) (by omega) (by omega) c55
      refine e_iload_n dX11_stick_58 rfl ?_
      refine e_aload_n dX11_stick_59 rfl ?_
      refine e_getR dX11_stick_60 fl_X11_114 sh_m rfl ?_
      refine e_bipush (v := 8) dX11_stick_63 (by decide) ?_
      refine e_iload_n dX11_stick_65 rfl ?_
      refine e_iaddN (a := 8) (b := j) dX11_stick_66 ?_
      refine e_ialdN (j := (8 + j)) dX11_stick_67 (sa_m_s) (by decide) (by omega) ?_
      rw [hS.cr hj, hc]
      refine e_icmp_gt (tgt := 117) dX11_stick_68 (by decide) (fun c68 => ?_) (fun c68 => ?_)
      · -- 68 jumps
        exact hN (hr.trans (fst_none (4 - i) i (fun m a b => by unfold stkP; rw [decide_eq_false (fun q => q ((nI_ltI (by omega) (by omega)).mpr (by have := (nI_ltI (by omega) (by omega)).mp c68; omega)))]; rfl))) _ _
      · -- 68 goes on
        refine e_iload_n dX11_stick_71 rfl ?_
        refine e_aload_n dX11_stick_72 rfl ?_
        refine e_getR dX11_stick_73 fl_X11_114 sh_m rfl ?_
        refine e_bipush (v := 8) dX11_stick_76 (by decide) ?_
        refine e_iload_n dX11_stick_78 rfl ?_
        refine e_iaddN (a := 8) (b := j) dX11_stick_79 ?_
        refine e_ialdN (j := (8 + j)) dX11_stick_80 (sa_m_s) (by decide) (by omega) ?_
        rw [hS.cr hj, hc]
        refine e_iconst (v := 4) dX11_stick_81 (by decide) ?_
        refine e_irem dX11_stick_82 (by decide) ?_
        refine e_ixor dX11_stick_83 ?_
        refine e_aload_n dX11_stick_84 rfl ?_
        refine e_getR dX11_stick_85 fl_X11_114 sh_m rfl ?_
        refine e_bipush (v := 8) dX11_stick_88 (by decide) ?_
        refine e_iload_n dX11_stick_90 rfl ?_
        refine e_iaddN (a := 8) (b := j) dX11_stick_91 ?_
        refine e_ialdN (j := (8 + j)) dX11_stick_92 (sa_m_s) (by decide) (by omega) ?_
        rw [hS.cr hj, hc]
        refine e_iload_n dX11_stick_93 rfl ?_
        refine e_isub dX11_stick_94 ?_
        refine e_iconst (v := 4) dX11_stick_95 (by decide) ?_
        refine e_irem dX11_stick_96 (by decide) ?_
        refine e_ixor dX11_stick_97 ?_
        refine e_istore (ls' := [_, _, _, _, _]) dX11_stick_98 (by decide) rfl ?_
        refine e_iload dX11_stick_100 rfl ?_
        refine e_if_ne (tgt := 111) dX11_stick_102 (by decide) (fun c102 => ?_) (fun c102 => ?_)
        · -- 102 jumps
          refine e_iinc (ls' := [_, _, _, _, _]) dX11_stick_111 rfl (nI_i1 _) (by decide) rfl ?_
          refine e_goto (tgt := 53) dX11_stick_114 (by decide) ?_
          have c102 : ¬ (bal ^^^ r4 (nI c) ^^^ r4 (nI c - nI i) = 0) := c102
          exact ih (i + 1) _ (by omega) (by omega) (by omega) (hr.trans (fst_f hlt (by unfold stkP; rw [decide_eq_false c102]; exact Bool.and_false _)))
        · -- 102 goes on
          refine e_iconst (v := 4) dX11_stick_105 (by decide) ?_
          refine e_iload_n dX11_stick_106 rfl ?_
          refine e_imulN (a := 4) (b := j) dX11_stick_107 ?_
          refine e_iload_n dX11_stick_108 rfl ?_
          refine e_iaddN (a := (4 * j)) (b := i) dX11_stick_109 ?_
          refine e_iret dX11_stick_110 rfl ?_
          have c102 : bal ^^^ r4 (nI c) ^^^ r4 (nI c - nI i) = 0 := c102
          have hf : stkN (nI c) bal = some i := hr.trans (fst_t hlt (by unfold stkP; rw [decide_eq_true c68, decide_eq_true c102]; rfl))
          have hq := hF i hf
          rw [show (4 : Int32) * nI j = nI (4 * j) from pk_mul 4 j, nI_add] at hq
          exact hq
set_option maxHeartbeats 4000000 in
set_option maxRecDepth 20000 in
theorem l_rstk1 {G : Gt} {M : Mm} {Y : Yv} {S : Sv} {T : Nat} (hY : RY M Y) (hS : RW M 273 0 Y.n S) (hI : SI Y S T) : ∀ (k : Nat) (i : Nat) (u v : Value), (i ≤ Y.n) → (Y.n < i + k) → (fstN (fun i => (stkN (S.crow i) (xorI (fun j => r4 (S.crow j)) Y.n)).isSome) 0 Y.n = fstN (fun i => (stkN (S.crow i) (xorI (fun j => r4 (S.crow j)) Y.n)).isSome) i (Y.n - i)) → Ev G 1 mX11_stick 41 [.ref 238, .int (xorI (fun j => r4 (S.crow j)) Y.n), .int (nI i), u, v] [] M (eqQ (some (.int (stickV Y.n S.crow))) M) := by
  intro k
  induction k with
  | zero => intro i u v hi hk hr; exact absurd hk (by omega)
  | succ k ih =>
    intro i u v hi hk hr
    have h6 := hY.1.2
    refine e_iload_n dX11_stick_41 rfl ?_
    refine e_aload_n dX11_stick_42 rfl ?_
    refine e_getR dX11_stick_43 fl_X11_13 sh_m rfl ?_
    refine e_iconst (v := 0) dX11_stick_46 (by decide) ?_
    refine e_ialdN (j := 0) dX11_stick_47 (sa_m_yard) (by decide) (by omega) ?_
    rw [hY.1.1]
    refine e_icmp_ge (tgt := 123) dX11_stick_48 (by decide) (fun c48 => ?_) (fun c48 => ?_)
    · -- 48 jumps
      have hin : i = Y.n := by have := ge_of (i := i) (n := Y.n) (by omega) (by omega) c48; omega
      subst hin
      refine e_iconst (v := (-1)) dX11_stick_123 (by decide) ?_
      refine e_iret dX11_stick_124 rfl ?_
      exact ⟨by unfold stickV; rw [hr, fst_e], rfl⟩
    · -- 48 goes on
      have hlt : i < Y.n := lt_of (i := i) (n := Y.n) (by omega) (by omega) c48
      refine e_iconst (v := 1) dX11_stick_51 (by decide) ?_
      refine e_istore_n (ls' := [_, _, _, _, _]) dX11_stick_52 (by decide) rfl ?_
      obtain ⟨r0, -, -, hs0, -⟩ := id hI
      obtain ⟨c, q, hc, hc2, -⟩ := hs0 i hlt
      refine l_rstk2 hS h6 hlt hc hc2 (fun hn u2 v2 => ?_) (fun m hm => ?_) 4 1 _ (by omega) (by omega) (by omega) rfl
      · refine e_iinc (ls' := [_, _, _, _, _]) dX11_stick_117 rfl (nI_i1 _) (by decide) rfl ?_
        refine e_goto (tgt := 41) dX11_stick_120 (by decide) ?_
        exact ih (i + 1) u2 v2 (by omega) (by omega) (hr.trans (fst_f hlt (by rw [hc, hn]; rfl)))
      · refine ⟨?_, rfl⟩
        unfold stickV
        rw [hr, fst_t hlt (by rw [hc, hm]; rfl)]
        show _ = some (Value.int (4 * nI i + oI (stkN (S.crow i) _)))
        rw [hc, hm]
        rfl
set_option maxHeartbeats 4000000 in
set_option maxRecDepth 20000 in
theorem r_stick {G : Gt} {M : Mm} {E : Gs} (hJ : RJ M E) {T : Nat} (hI : SI E.Y E.S T) : Call G 1 mX11_stick [.ref 238] M (fun r M' => r = some (.int (stickV E.Y.n E.S.crow)) ∧ RC M M') := by
  refine Call.intro rfl (Nat.le_of_ble_eq_true rfl) ?_
  show Ev G _ mX11_stick 0 [.ref 238, RA, RA, RA, RA] [] M _
  refine e_aload_n dX11_stick_0 rfl ?_
  refine e_iconst (v := 0) dX11_stick_1 (by decide) ?_
  refine e_putI dX11_stick_2 fl_X11_153 sh_m rfl rfl rfl ?_
  refine th0 (fun M1 hC1 => ?_)
  have hJ := hC1.keep hJ
  have hY := hJ.1
  have h6 := hY.1.2
  have hs5 := hY.2.1.2
  have hL := hJ.2.1
  have hS := hJ.2.2.1
  refine e_iconst (v := 0) dX11_stick_5 (by decide) ?_
  refine e_istore_n (ls' := [_, _, _, _, _]) dX11_stick_6 (by decide) rfl ?_
  refine e_iconst (v := 0) dX11_stick_7 (by decide) ?_
  refine e_istore_n (ls' := [_, _, _, _, _]) dX11_stick_8 (by decide) rfl ?_
  refine l_rstk0 hY hS (fun u => ?_) (E.Y.n + 1) 0 (by omega) (by omega)
  refine e_iconst (v := 0) dX11_stick_39 (by decide) ?_
  refine e_istore_n (ls' := [_, _, _, _, _]) dX11_stick_40 (by decide) rfl ?_
  exact (l_rstk1 hY hS hI (E.Y.n + 1) 0 _ _ (by omega) (by omega) rfl).weaken (fun r M2 h => ⟨h.1, by rw [h.2]; exact hC1⟩)
end RSE
