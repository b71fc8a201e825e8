section RWE
theorem RY.setl {M : Mm} {Y : Yv} {v : Int64} (h : RY M Y) : RY (setL M 238 62 v) Y := h.congr (fun _ _ _ => rfl) (fun i q => by funext z; rw [setL_21, if_neg (by omega)])
set_option maxHeartbeats 4000000 in
set_option maxRecDepth 20000 in
theorem s_lv89 {G : Gt} {M Mc : Mm} {Y : Yv} {S : Sv} {T g : Nat} (hY : RY Mc Y) (hL : RLw Mc Y.gE) (hN : NS Y) (hI : SI Y S T) (hTT : T < 2 ^ 31) (hT : TB 274 M Mc Y.n S) (hg : Mc.2.1 238 62 = lN g) {a b c : Value} : Ev G 7 mX11_livesNight 89 [.ref 238, a, b, c] [] Mc (fun r M' => r = some (.int (nI (pcN (popN Y S).toNatClampNeg))) ∧ TB 274 M M' Y.n (nightV Y S) ∧ M'.2.1 238 62 = lN g) := by
  have h6 := hY.1.2
  obtain ⟨r0, -, -, -, t, ht, htT⟩ := id hI
  obtain ⟨s, hs, es⟩ := popn_nat (Y := Y) (S := S) h6
  refine e_aload_n dX11_livesNight_89 rfl ?_
  refine cV0x dX11_livesNight_90 mo_X11_passesAsTold ml_X11_410 sh_m rfl (Nat.le_of_ble_eq_true rfl) (by omega) (r_passesAsTold hY hT.2.2 hL hN ht (by omega)) ?_
  rintro r M2 ⟨rfl, hp1, hp2, hp3⟩
  dsimp only [Option.toList, List.cons_append, List.nil_append]
  rw [es]
  refine cS1r dX11_livesNight_93 mo_X11_bits ml_X11_447 (Nat.le_of_ble_eq_true rfl) (by omega) (r_bits hs) ?_
  refine e_iret dX11_livesNight_96 rfl ?_
  exact ⟨by rw [nI_clamp (by omega)], hT.pf tx4 hp1 hp2, by rw [hp1.1]; exact hg⟩
set_option maxHeartbeats 4000000 in
set_option maxRecDepth 20000 in
theorem r_livesNight {G : Gt} {M : Mm} {M0 : Mm} {Y : Yv} {S : Sv} {T g : Nat} (hY : RY M Y) (hL : RLw M Y.gE) (hN : NS Y) (hI : SI Y S T) (hTT : T < 2 ^ 31) (hT : TB 274 M0 M Y.n S) (hg : M.2.1 238 62 = lN g) (hg2 : g < 2147483648) : Call G 7 mX11_livesNight [.ref 238] M (fun r M' => r = some (.int (nI (pcN (popN Y (livV Y (S, g)).1).toNatClampNeg))) ∧ TB 274 M0 M' Y.n (nightV Y (livV Y (S, g)).1) ∧ M'.2.1 238 62 = lN (livV Y (S, g)).2) := by
  have h6 := hY.1.2
  refine Call.intro rfl (Nat.le_of_ble_eq_true rfl) ?_
  show Ev G _ mX11_livesNight 0 [.ref 238, RA, RA, RA] [] M _
  refine e_aload_n dX11_livesNight_0 rfl ?_
  refine e_getR dX11_livesNight_1 fl_X11_13 sh_m rfl ?_
  refine e_iconst (v := 0) dX11_livesNight_4 (by decide) ?_
  refine e_ialdN (j := 0) dX11_livesNight_5 (sa_m_yard) (by decide) (by omega) ?_
  rw [hY.1.1]
  refine e_if_le (tgt := 89) dX11_livesNight_6 (by decide) (fun c6 => ?_) (fun c6 => ?_)
  · -- 6 jumps
    have hn : Y.n = 0 := np0 (by omega) c6
    have e : livV Y (S, g) = (S, g) := by unfold livV; exact if_pos hn
    rw [e]
    exact s_lv89 hY hL hN hI hTT hT hg
  · -- 6 goes on
    have hpos : 0 < Y.n := (nI_ltI (a := 0) (by omega) (by omega)).mp c6
    have hlt : drV g Y.n < Y.n := Nat.mod_lt _ hpos
    refine e_aload_n dX11_livesNight_9 rfl ?_
    refine e_aload_n dX11_livesNight_10 rfl ?_
    refine e_getR dX11_livesNight_11 fl_X11_13 sh_m rfl ?_
    refine e_iconst (v := 0) dX11_livesNight_14 (by decide) ?_
    refine e_ialdN (j := 0) dX11_livesNight_15 (sa_m_yard) (by decide) (by omega) ?_
    rw [hY.1.1]
    refine cV1r dX11_livesNight_16 mo_X11_draws ml_X11_487 sh_m rfl (Nat.le_of_ble_eq_true rfl) (by omega) (r_draws hg hg2 hpos (by omega)) ?_
    refine e_istore_n (ls' := [_, _, _, _]) dX11_livesNight_19 (by decide) rfl ?_
    refine e_aload_n dX11_livesNight_20 rfl ?_
    refine e_iconst (v := 5) dX11_livesNight_21 (by decide) ?_
    refine cV1r dX11_livesNight_22 mo_X11_draws ml_X11_487 sh_m rfl (Nat.le_of_ble_eq_true rfl) (by omega) (r_draws (by rw [setL_21, if_pos ⟨rfl, rfl⟩]) (drG_lt g) (m := 5) (by decide) (by decide)) ?_
    have hT2 := ((hT.li h6 (lN (drG g))).li h6 (lN (drG (drG g))))
    have hd5 : drV (drG g) 5 < 5 := Nat.mod_lt _ (by decide)
    refine e_istore_n (ls' := [_, _, _, _]) dX11_livesNight_25 (by decide) rfl ?_
    refine e_iload_n dX11_livesNight_26 rfl ?_
    refine e_if_ne (tgt := 42) dX11_livesNight_27 (by decide) (fun c27 => ?_) (fun c27 => ?_)
    · -- 27 jumps
      refine e_iload_n dX11_livesNight_42 rfl ?_
      refine e_iconst (v := 1) dX11_livesNight_43 (by decide) ?_
      refine e_icmp_ne (tgt := 61) dX11_livesNight_44 (by decide) (fun c44 => ?_) (fun c44 => ?_)
      · -- 44 jumps
        refine e_iload_n dX11_livesNight_61 rfl ?_
        refine e_iconst (v := 2) dX11_livesNight_62 (by decide) ?_
        refine e_icmp_ne (tgt := 89) dX11_livesNight_63 (by decide) (fun c63 => ?_) (fun c63 => ?_)
        · -- 63 jumps
          have hn0 : ¬ Y.n = 0 := by omega
          have e0 : ¬ drV (drG g) 5 = 0 := fun q => c27 (by rw [q]; rfl)
          have e1 : ¬ drV (drG g) 5 = 1 := fun q => c44 (by rw [q]; rfl)
          have e2 : ¬ drV (drG g) 5 = 2 := fun q => c63 (by rw [q]; rfl)
          have e : livV Y (S, g) = (S, drG (drG g)) := by unfold livV; rw [if_neg hn0, if_neg e0, if_neg e1, if_neg e2]
          rw [e]
          exact s_lv89 hY.setl.setl hL hN hI hTT hT2 (by rw [setL_21, if_pos ⟨rfl, rfl⟩])
        · -- 63 goes on
          refine e_aload_n dX11_livesNight_66 rfl ?_
          refine e_iconst (v := 5) dX11_livesNight_67 (by decide) ?_
          refine cV1r dX11_livesNight_68 mo_X11_draws ml_X11_487 sh_m rfl (Nat.le_of_ble_eq_true rfl) (by omega) (r_draws (by rw [setL_21, if_pos ⟨rfl, rfl⟩]) (drG_lt _) (m := 5) (by decide) (by decide)) ?_
          have hT3 := hT2.li h6 (lN (drG (drG (drG g))))
          have hd52 : drV (drG (drG g)) 5 < 5 := Nat.mod_lt _ (by decide)
          refine e_iconst (v := 1) dX11_livesNight_71 (by decide) ?_
          refine e_iaddN (a := (drV (drG (drG g)) 5)) (b := 1) dX11_livesNight_72 ?_
          refine e_istore_n (ls' := [_, _, _, _]) dX11_livesNight_73 (by decide) rfl ?_
          refine e_aload_n dX11_livesNight_74 rfl ?_
          refine e_iload_n dX11_livesNight_75 rfl ?_
          refine e_iload_n dX11_livesNight_76 rfl ?_
          refine cV2r dX11_livesNight_77 mo_X11_canPull ml_X11_413 sh_m rfl (Nat.le_of_ble_eq_true rfl) (by omega) (r_canPull hT3.2.2 hlt h6) ?_
          refine e_if_eq (tgt := 89) dX11_livesNight_80 (by decide) (fun c80 => ?_) (fun c80 => ?_)
          · -- 80 jumps
            have hn0 : ¬ Y.n = 0 := by omega
            have e0 : ¬ drV (drG g) 5 = 0 := fun q => c27 (by rw [q]; rfl)
            have e1 : ¬ drV (drG g) 5 = 1 := fun q => c44 (by rw [q]; rfl)
            have e2 : drV (drG g) 5 = 2 := nI_injN (by omega) (by omega) c63
            have hcb := b2i_eq0.mp c80
            have e : livV Y (S, g) = (S, drG (drG (drG g))) := by unfold livV; rw [if_neg hn0, if_neg e0, if_neg e1, if_pos e2]; dsimp only; rw [if_neg hcb]
            rw [e]
            exact s_lv89 hY.setl.setl.setl hL hN hI hTT hT3 (by rw [setL_21, if_pos ⟨rfl, rfl⟩])
          · -- 80 goes on
            refine e_aload_n dX11_livesNight_83 rfl ?_
            refine e_iload_n dX11_livesNight_84 rfl ?_
            refine e_iload_n dX11_livesNight_85 rfl ?_
            refine cV2x dX11_livesNight_86 mo_X11_pulls ml_X11_416 sh_m rfl (Nat.le_of_ble_eq_true rfl) (by omega) (r_pulls hT3.2.2 hlt h6) ?_
            rintro r M2 ⟨rfl, hO, hR⟩
            dsimp only [Option.toList, List.cons_append, List.nil_append]
            have hn0 : ¬ Y.n = 0 := by omega
            have e0 : ¬ drV (drG g) 5 = 0 := fun q => c27 (by rw [q]; rfl)
            have e1 : ¬ drV (drG g) 5 = 1 := fun q => c44 (by rw [q]; rfl)
            have e2 : drV (drG g) 5 = 2 := nI_injN (by omega) (by omega) c63
            have hcb : canB S (drV g Y.n) (nI (drV (drG (drG g)) 5 + 1)) = true := Classical.not_not.mp (fun q => c80 (b2i_f q))
            have hcc : ¬ S.crow (drV g Y.n) < nI (drV (drG (drG g)) 5 + 1) := (of_decide_eq_true hcb).1
            have e : livV Y (S, g) = (loseV S (drV g Y.n) (nI (drV (drG (drG g)) 5 + 1)), drG (drG (drG g))) := by unfold livV; rw [if_neg hn0, if_neg e0, if_neg e1, if_pos e2]; dsimp only; rw [if_pos hcb]
            rw [e]
            exact s_lv89 (hO.ry hY.setl.setl.setl) (hO.pf.rl hL) hN (hI.lose hlt (by omega) hcc) hTT (hT3.o3 tx4 hO hR) (by rw [hO.1, setL_21, if_pos ⟨rfl, rfl⟩])
      · -- 44 goes on
        refine e_aload_n dX11_livesNight_47 rfl ?_
        refine e_getR dX11_livesNight_48 fl_X11_114 sh_m rfl ?_
        refine e_iconst (v := 2) dX11_livesNight_51 (by decide) ?_
        refine e_iload_n dX11_livesNight_52 rfl ?_
        refine e_iaddN (a := 2) (b := (drV g Y.n)) dX11_livesNight_53 ?_
        refine e_aload_n dX11_livesNight_54 rfl ?_
        refine e_bipush (v := 10) dX11_livesNight_55 (by decide) ?_
        refine cV1r dX11_livesNight_57 mo_X11_draws ml_X11_487 sh_m rfl (Nat.le_of_ble_eq_true rfl) (by omega) (r_draws (by rw [setL_21, if_pos ⟨rfl, rfl⟩]) (drG_lt _) (m := 10) (by decide) (by decide)) ?_
        refine e_iastN (j := (2 + (drV g Y.n))) dX11_livesNight_60 (sa_m_s) (by decide) (by omega) ?_
        refine e_iload_n dX11_livesNight_61 rfl ?_
        refine e_iconst (v := 2) dX11_livesNight_62 (by decide) ?_
        refine e_icmp_ne (tgt := 89) dX11_livesNight_63 (by decide) (fun c63 => ?_) (fun c63 => absurd c63 (fun q => absurd (c44.symm.trans q) (by decide)))
        have hn0 : ¬ Y.n = 0 := by omega
        have e0 : ¬ drV (drG g) 5 = 0 := fun q => c27 (by rw [q]; rfl)
        have e1 : drV (drG g) 5 = 1 := nI_injN (by omega) (by omega) c44
        have e : livV Y (S, g) = (heatV S (drV g Y.n) (nI (drV (drG (drG g)) 10)), drG (drG (drG g))) := by unfold livV; rw [if_neg hn0, if_neg e0, if_pos e1]
        rw [e]
        have hT3 := hT2.li h6 (lN (drG (drG (drG g))))
        have hO := O3.rfl'.i (M := setL (setL (setL M 238 62 (lN (drG g))) 238 62 (lN (drG (drG g)))) 238 62 (lN (drG (drG (drG g))))) (2 + drV g Y.n) (nI (drV (drG (drG g)) 10))
        exact s_lv89 (hO.ry hY.setl.setl.setl) (hO.pf.rl hL) hN hI.heat hTT (hT3.o3 tx4 hO (hT3.2.2.heat hlt h6)) (by rw [setI_2, setL_21, if_pos ⟨rfl, rfl⟩])
    · -- 27 goes on
      refine e_aload_n dX11_livesNight_30 rfl ?_
      refine e_getR dX11_livesNight_31 fl_X11_114 sh_m rfl ?_
      refine e_iconst (v := 1) dX11_livesNight_34 (by decide) ?_
      refine e_dup2 dX11_livesNight_35 rfl rfl ?_
      refine e_ialdN (j := 1) dX11_livesNight_36 (sa_m_s) (by decide) (by omega) ?_
      rw [hT2.2.2.li]
      refine e_iconst (v := 1) dX11_livesNight_37 (by decide) ?_
      refine e_iload_n dX11_livesNight_38 rfl ?_
      refine e_ishl dX11_livesNight_39 ?_
      refine e_ior dX11_livesNight_40 ?_
      refine e_iastN (j := 1) dX11_livesNight_41 (sa_m_s) (by decide) (by omega) ?_
      refine e_iload_n dX11_livesNight_42 rfl ?_
      refine e_iconst (v := 1) dX11_livesNight_43 (by decide) ?_
      refine e_icmp_ne (tgt := 61) dX11_livesNight_44 (by decide) (fun c44 => ?_) (fun c44 => absurd c44 (fun q => absurd (c27.symm.trans q) (by decide)))
      refine e_iload_n dX11_livesNight_61 rfl ?_
      refine e_iconst (v := 2) dX11_livesNight_62 (by decide) ?_
      refine e_icmp_ne (tgt := 89) dX11_livesNight_63 (by decide) (fun c63 => ?_) (fun c63 => absurd c63 (fun q => absurd (c27.symm.trans q) (by decide)))
      have hn0 : ¬ Y.n = 0 := by omega
      have e0 : drV (drG g) 5 = 0 := nI_injN (by omega) (by omega) c27
      have e : livV Y (S, g) = (litV S (nI (drV g Y.n)), drG (drG g)) := by unfold livV; rw [if_neg hn0, if_pos e0]
      rw [e]
      have hO := O3.rfl'.i (M := setL (setL M 238 62 (lN (drG g))) 238 62 (lN (drG (drG g)))) 1 (S.lit ||| b1 (nI (drV g Y.n)))
      exact s_lv89 (hO.ry hY.setl.setl) (hO.pf.rl hL) hN (hI.lit (i := nI (drV g Y.n))) hTT (hT2.o3 tx4 hO (hT2.2.2.lit h6)) (by rw [setI_2, setL_21, if_pos ⟨rfl, rfl⟩])
set_option maxHeartbeats 4000000 in
set_option maxRecDepth 20000 in
theorem l_rweeks {G : Gt} {M : Mm} {E : Gs} (hJ : RJ M E) {T : Nat} (hI : SI E.Y E.S T) (hTT : T < 2 ^ 30) (hN : NS E.Y) {t g : Nat} {v : Int32} {a b : Value} (ht : t ≤ 99) (hg : g < 2147483648) : ∀ (k : Nat) (i : Nat) (Mc : Mm), (i ≤ t) → (t < i + k) → (TB 274 M Mc E.Y.n (wkN E.Y E.S g i).1.1) → (Mc.2.1 238 62 = lN (wkN E.Y E.S g i).1.2) → Ev G 8 mX11_weeks 62 [.ref 238, a, .int (nI t), .int v, .int (nI (wkN E.Y E.S g i).2), .int (nI i), b] [] Mc (fun r M' => r = some (.int (if v = 0 then nI (wkN E.Y E.S g t).2 else if v = 1 then sumI (wkN E.Y E.S g t).1.1.crow E.Y.n else sumI (murS (wkN E.Y E.S g t).1.1) E.Y.n)) ∧ RC M M') := by
  intro k
  induction k with
  | zero => intro i Mc hi hk hT hG; exact absurd hk (by omega)
  | succ k ih =>
    intro i Mc hi hk hT hG
    have hY := hJ.1
    have h6 := hY.1.2
    have hs5 := hY.2.1.2
    have hL := hJ.2.1
    have hS := hJ.2.2.1
    have hYc := hT.1.ry hY
    have hLc := hT.1.rl hL
    refine e_iload dX11_weeks_62 rfl ?_
    refine e_iload_n dX11_weeks_64 rfl ?_
    refine e_icmp_ge (tgt := 83) dX11_weeks_65 (by decide) (fun c65 => ?_) (fun c65 => ?_)
    · -- 65 jumps
      have hin : i = t := by have := ge_of (i := i) (n := t) (by omega) (by omega) c65; omega
      subst hin
      refine e_aload_n dX11_weeks_83 rfl ?_
      refine cV0r dX11_weeks_84 mo_X11_allCrowns ml_X11_419 sh_m rfl (Nat.le_of_ble_eq_true rfl) (by omega) (r_allCrowns hT.2.2 h6) ?_
      refine e_istore (ls' := [_, _, _, _, _, _, _]) dX11_weeks_87 (by decide) rfl ?_
      refine e_aload_n dX11_weeks_89 rfl ?_
      refine cV0r dX11_weeks_90 mo_X11_allMurmurs ml_X11_456 sh_m rfl (Nat.le_of_ble_eq_true rfl) (by omega) (r_allMurmurs hYc hT.2.2) ?_
      refine e_istore (ls' := [_, _, _, _, _, _, _]) dX11_weeks_93 (by decide) rfl ?_
      refine e_aload_n dX11_weeks_95 rfl ?_
      refine e_getR dX11_weeks_96 fl_X11_117 sh_m rfl ?_
      refine e_iconst (v := 0) dX11_weeks_99 (by decide) ?_
      refine e_aload_n dX11_weeks_100 rfl ?_
      refine e_getR dX11_weeks_101 fl_X11_114 sh_m rfl ?_
      refine e_iconst (v := 0) dX11_weeks_104 (by decide) ?_
      refine cS4v dX11_weeks_105 mo_X11_copies ml_X11_403 (Nat.le_of_ble_eq_true rfl) (by omega) (r_copies (p := 0) (b := 0) (sa_m_aside) (sa_m_s) (by omega) (by omega) (by decide) (by decide) (by decide)) ?_
      refine e_iload_n dX11_weeks_108 rfl ?_
      refine e_if_ne (tgt := 117) dX11_weeks_109 (by decide) (fun c109 => ?_) (fun c109 => ?_)
      · -- 109 jumps
        refine e_iload_n dX11_weeks_117 rfl ?_
        refine e_iconst (v := 1) dX11_weeks_118 (by decide) ?_
        refine e_icmp_ne (tgt := 127) dX11_weeks_119 (by decide) (fun c119 => ?_) (fun c119 => ?_)
        · -- 119 jumps
          refine e_iload dX11_weeks_127 rfl ?_
          refine e_iret dX11_weeks_129 rfl ?_
          exact ⟨by rw [if_neg c109, if_neg c119], hT.back⟩
        · -- 119 goes on
          refine e_iload dX11_weeks_122 rfl ?_
          refine e_goto (tgt := 129) dX11_weeks_124 (by decide) ?_
          refine e_iret dX11_weeks_129 rfl ?_
          exact ⟨by rw [if_neg c109, if_pos c119], hT.back⟩
      · -- 109 goes on
        refine e_iload dX11_weeks_112 rfl ?_
        refine e_goto (tgt := 129) dX11_weeks_114 (by decide) ?_
        refine e_iret dX11_weeks_129 rfl ?_
        exact ⟨by rw [if_pos c109], hT.back⟩
    · -- 65 goes on
      have hlt : i < t := lt_of (i := i) (n := t) (by omega) (by omega) c65
      refine e_iload dX11_weeks_68 rfl ?_
      refine e_aload_n dX11_weeks_70 rfl ?_
      refine cV0x dX11_weeks_71 mo_X11_livesNight ml_X11_490 sh_m rfl (Nat.le_of_ble_eq_true rfl) (by omega) (r_livesNight hYc hLc hN (hI.wk h6 i) (by omega) hT hG (wk_lt hg i)) ?_
      rintro r M2 ⟨rfl, h1, h2⟩
      dsimp only [Option.toList, List.cons_append, List.nil_append]
      refine e_iadd dX11_weeks_74 ?_
      refine e_istore (ls' := [_, _, _, _, _, _, _]) dX11_weeks_75 (by decide) rfl ?_
      refine e_iinc (ls' := [_, _, _, _, _, _, _]) dX11_weeks_77 rfl (nI_i1 _) (by decide) rfl ?_
      refine e_goto (tgt := 62) dX11_weeks_80 (by decide) ?_
      rw [nI_add]
      exact ih (i + 1) M2 (by omega) (by omega) h1 h2
set_option maxHeartbeats 4000000 in
set_option maxRecDepth 20000 in
theorem r_weeks {G : Gt} {M : Mm} {E : Gs} (hJ : RJ M E) {T : Nat} (hI : SI E.Y E.S T) (hTT : T < 2 ^ 30) (hN : NS E.Y) {g t v : Int32} : Call G 8 mX11_weeks [.ref 238, .int g, .int t, .int v] M (fun r M' => r = some (.int (weeksQ E g t v)) ∧ RC M M') := by
  refine Call.intro rfl (Nat.le_of_ble_eq_true rfl) ?_
  show Ev G _ mX11_weeks 0 [.ref 238, .int g, .int t, .int v, RA, RA, RA] [] M _
  refine e_aload_n dX11_weeks_0 rfl ?_
  refine e_iconst (v := 0) dX11_weeks_1 (by decide) ?_
  refine e_putI dX11_weeks_2 fl_X11_153 sh_m rfl rfl rfl ?_
  refine th0 (fun M1 hC1 => ?_)
  have hJ := hC1.keep hJ
  have hY := hJ.1
  have h6 := hY.1.2
  have hs5 := hY.2.1.2
  have hL := hJ.2.1
  have hS := hJ.2.2.1
  refine e_iload_n dX11_weeks_5 rfl ?_
  refine e_iconst (v := 0) dX11_weeks_6 (by decide) ?_
  refine e_sipush (v := 9999) dX11_weeks_7 (by decide) ?_
  refine cS3r dX11_weeks_10 mo_X11_within ml_X11_274 (Nat.le_of_ble_eq_true rfl) (by omega) (r_within) ?_
  refine e_if_eq (tgt := 35) dX11_weeks_13 (by decide) (fun c13 => ?_) (fun c13 => ?_)
  · -- 13 jumps
    refine e_iconst (v := (-1)) dX11_weeks_35 (by decide) ?_
    refine e_iret dX11_weeks_36 rfl ?_
    exact ⟨by unfold weeksQ; rw [if_neg (fun q => absurd q.1 (b2i_eq0.mp c13))], hC1⟩
  · -- 13 goes on
    have c13 : vWi g 0 9999 := by
      by_cases h : (vWi g 0 9999)
      · exact h
      · exact absurd (b2i_f h) c13
    have hwg := c13
    refine e_iload_n dX11_weeks_16 rfl ?_
    refine e_iconst (v := 1) dX11_weeks_17 (by decide) ?_
    refine e_bipush (v := 99) dX11_weeks_18 (by decide) ?_
    refine cS3r dX11_weeks_20 mo_X11_within ml_X11_274 (Nat.le_of_ble_eq_true rfl) (by omega) (r_within) ?_
    refine e_if_eq (tgt := 35) dX11_weeks_23 (by decide) (fun c23 => ?_) (fun c23 => ?_)
    · -- 23 jumps
      refine e_iconst (v := (-1)) dX11_weeks_35 (by decide) ?_
      refine e_iret dX11_weeks_36 rfl ?_
      exact ⟨by unfold weeksQ; rw [if_neg (fun q => absurd q.2.1 (b2i_eq0.mp c23))], hC1⟩
    · -- 23 goes on
      have c23 : vWi t 1 99 := by
        by_cases h : (vWi t 1 99)
        · exact h
        · exact absurd (b2i_f h) c23
      have hwt := c23
      refine e_iload_n dX11_weeks_26 rfl ?_
      refine e_iconst (v := 0) dX11_weeks_27 (by decide) ?_
      refine e_iconst (v := 2) dX11_weeks_28 (by decide) ?_
      refine cS3r dX11_weeks_29 mo_X11_within ml_X11_274 (Nat.le_of_ble_eq_true rfl) (by omega) (r_within) ?_
      refine e_if_ne (tgt := 37) dX11_weeks_32 (by decide) (fun c32 => ?_) (fun c32 => ?_)
      · -- 32 jumps
        have c32 : vWi v 0 2 := by
          by_cases h : (vWi v 0 2)
          · exact h
          · exact absurd (b2i_f h) c32
        have hwv := c32
        obtain ⟨g, hg, -, rfl⟩ := wi_of (a := 0) (b := 9999) (by decide) (by decide) hwg
        obtain ⟨t, ht99, -, rfl⟩ := wi_of (a := 1) (b := 99) (by decide) (by decide) hwt
        refine e_aload_n dX11_weeks_37 rfl ?_
        refine e_iload_n dX11_weeks_38 rfl ?_
        refine e_i2l dX11_weeks_39 ?_
        rw [nI_l (by omega)]
        refine e_putL dX11_weeks_40 fl_X11_476 sh_m rfl rfl rfl ?_
        have hC2 : RC M1 (setL M1 238 62 (lN g)) := RC.rfl'.l
        have hJ2 := hC2.keep hJ
        refine e_aload_n dX11_weeks_43 rfl ?_
        refine e_getR dX11_weeks_44 fl_X11_114 sh_m rfl ?_
        refine e_iconst (v := 0) dX11_weeks_47 (by decide) ?_
        refine e_aload_n dX11_weeks_48 rfl ?_
        refine e_getR dX11_weeks_49 fl_X11_117 sh_m rfl ?_
        refine e_iconst (v := 0) dX11_weeks_52 (by decide) ?_
        refine cS4v dX11_weeks_53 mo_X11_copies ml_X11_403 (Nat.le_of_ble_eq_true rfl) (by omega) (r_copies (p := 0) (b := 0) (sa_m_s) (sa_m_aside) (by omega) (by omega) (by decide) (by decide) (by decide)) ?_
        refine e_iconst (v := 0) dX11_weeks_56 (by decide) ?_
        refine e_istore (ls' := [_, _, _, _, _, _, _]) dX11_weeks_57 (by decide) rfl ?_
        refine e_iconst (v := 0) dX11_weeks_59 (by decide) ?_
        refine e_istore (ls' := [_, _, _, _, _, _, _]) dX11_weeks_60 (by decide) rfl ?_
        unfold weeksQ
        rw [if_pos ⟨hwg, hwt, hwv⟩, nI_clamp (by omega), nI_clamp (by omega)]
        exact (l_rweeks hJ2 hI hTT hN ht99 (by omega) (t + 1) 0 _ (by omega) (by omega) (TB.start tx4 h6 hJ2.2.2.1) (by rw [cpR_2, setL_21, if_pos ⟨rfl, rfl⟩]; rfl)).weaken (fun r M2 h => ⟨h.1, hC1.trans (hC2.trans h.2)⟩)
      · -- 32 goes on
        refine e_iconst (v := (-1)) dX11_weeks_35 (by decide) ?_
        refine e_iret dX11_weeks_36 rfl ?_
        exact ⟨by unfold weeksQ; rw [if_neg (fun q => absurd q.2.2 (b2i_eq0.mp c32))], hC1⟩
end RWE
