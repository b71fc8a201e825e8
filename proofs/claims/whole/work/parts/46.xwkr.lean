section XWK
def wdB (t : Tv) (Y : Yv) : Nat → Xv × Rv → Xv × Rv
  | 0, r => r
  | n + 1, r => if goX t r.1 then wdB t Y n (tkS t (wl3 t r.1 r.2 Y) 59, addR r.2 (dhX t r.1) (wlA t r.1 r.2 Y) (wlB t r.1 r.2 Y)) else r
def emR : Rv := (0, fun _ => 0, fun _ => 0, fun _ => 0)
/-- the tape read as a week -/
def wdW (t : Tv) (Y : Yv) (n : Nat) : Xv × Rv := wdB t Y n ((0, 0), emR)
theorem FK.yp {M M' : Mm} {y w : Nat} {P : Pv} (h : FK M M' w) (hy : y ∈ ydA) (hw : 36 ≤ w) (hP : YP M y P) : YP M' y P := by
  have h8 := yd_le hy
  unfold YP
  rw [h.1 y (by omega) (by omega), h.1 (y + 2) (by omega) (by omega), h.1 (y + 3) (by omega) (by omega), h.1 (y + 4) (by omega) (by omega), h.1 (y + 5) (by omega) (by omega), h.1 (y + 7) (by omega) (by omega), h.1 (y + 8) (by omega) (by omega), h.1 (y + 9) (by omega) (by omega), h.2.1 (y + 1) (by omega), h.2.1 (y + 6) (by omega)]
  exact hP
set_option maxHeartbeats 4000000 in
set_option maxRecDepth 20000 in
theorem l_wr {G : Gt} {M : Mm} {t : Tv} {w y n : Nat} {P : Pv} (hn : n = 41) (hw : w ∈ wkA) (hw36 : 36 ≤ w) (hy : y ∈ ydA) (hI : TI t) (hP : YP M y P) : ∀ (k : Nat) (i : Nat) (r : Xv × Rv) (Mc : Mm), (i ≤ n) → (n < i + k) → (wdW t P.1 n = wdB t P.1 (n - i) r) → (FK M Mc w ∧ TG Mc t r.1 ∧ ∃ W', RX Mc w 40 W' ∧ (r.1.1 = 0 → W' = r.2)) → Ev G 11 mX6_read 10 [.ref 6, .ref w, .ref y, .int (nI i)] [] Mc (fun r M' => r = some (.int (wdW t P.1 n).1.1) ∧ FK M M' w ∧ TG M' t (wdW t P.1 n).1 ∧ ((wdW t P.1 n).1.1 = 0 → RX M' w 40 (wdW t P.1 n).2)) := by
  intro k
  induction k with
  | zero => intro i r Mc hi hk hr hv; exact absurd hk (by omega)
  | succ k ih =>
    intro i r Mc hi hk hr hv
    refine e_iload_n dX6_read_10 rfl ?_
    refine e_bipush (v := 40) dX6_read_11 (by decide) ?_
    refine e_icmp_gt (tgt := 41) dX6_read_13 (by decide) (fun c13 => ?_) (fun c13 => ?_)
    · -- 13 jumps
      have hin : i = n := by have := lt_of (i := 40) (n := i) (by omega) (by omega) c13; omega
      have hres : wdW t P.1 n = r := by
        rw [hr, hin, Nat.sub_self]
        rfl
      refine e_aload_n dX6_read_41 rfl ?_
      refine e_getI dX6_read_42 fl_X6_33 sh_tk rfl ?_
      rw [hv.2.1.f9]
      refine e_iret dX6_read_45 rfl ?_
      rw [hres]
      refine ⟨rfl, hv.1, hv.2.1, fun q => ?_⟩
      obtain ⟨W2, hR2, e2⟩ := hv.2.2
      rw [e2 q] at hR2
      exact hR2
    · -- 13 goes on
      have hlt : i < n := by have := ge_of (i := 40) (n := i) (by omega) (by omega) c13; omega
      refine e_aload_n dX6_read_16 rfl ?_
      refine cV0r dX6_read_17 mo_X4_goesOn ml_X6_19 sh_tk rfl (Nat.le_of_ble_eq_true rfl) (by omega) (c_goesOn hv.2.1) ?_
      refine e_if_eq (tgt := 41) dX6_read_20 (by decide) (fun c20 => ?_) (fun c20 => ?_)
      · -- 20 jumps
        have hres : wdW t P.1 n = r := by
          rw [hr, show n - i = (n - (i + 1)) + 1 by omega, wdB, if_neg (b2i_eq0.mp c20)]
        refine e_aload_n dX6_read_41 rfl ?_
        refine e_getI dX6_read_42 fl_X6_33 sh_tk rfl ?_
        rw [hv.2.1.f9]
        refine e_iret dX6_read_45 rfl ?_
        rw [hres]
        refine ⟨rfl, hv.1, hv.2.1, fun q => ?_⟩
        obtain ⟨W2, hR2, e2⟩ := hv.2.2
        rw [e2 q] at hR2
        exact hR2
      · -- 20 goes on
        have h0 : r.1.1 = 0 := (Classical.not_not.mp (fun q => c20 (b2i_f q))).1
        obtain ⟨W0, hRX, eW0⟩ := hv.2.2
        rw [eW0 h0] at hRX
        refine e_aload_n dX6_read_23 rfl ?_
        refine e_aload_n dX6_read_24 rfl ?_
        refine e_aload_n dX6_read_25 rfl ?_
        refine cS3x dX6_read_26 mo_X6_readLine ml_X6_23 (Nat.le_of_ble_eq_true rfl) (by omega) (c_wkLine hw hy hv.2.1 hRX (hv.1.yp hy hw36 hP)) ?_
        rintro q M1 ⟨rfl, hF1, hG1, W1, hR1, e1⟩
        dsimp only [Option.toList, List.cons_append, List.nil_append]
        refine e_aload_n dX6_read_29 rfl ?_
        refine e_bipush (v := 59) dX6_read_30 (by decide) ?_
        refine cV1x dX6_read_32 mo_X4_takeSign ml_X6_29 sh_tk rfl (Nat.le_of_ble_eq_true rfl) (by omega) (c_takeSign (s := 59) hG1) ?_
        rintro q M2 ⟨rfl, hs2, hG2⟩
        dsimp only [Option.toList, List.cons_append, List.nil_append]
        refine e_iinc (ls' := [_, _, _, _]) dX6_read_35 rfl (nI_i1 _) (by decide) rfl ?_
        refine e_goto (tgt := 10) dX6_read_38 (by decide) ?_
        refine ih (i + 1) (tkS t (wl3 t r.1 r.2 P.1) 59, addR r.2 (dhX t r.1) (wlA t r.1 r.2 P.1) (wlB t r.1 r.2 P.1)) M2 (by omega) (by omega) ?_ ⟨(hv.1.trans hF1).trans hs2.fk, hG2, W1, hR1.ts (wk_8 hw) hs2, fun q => e1 (tkS_0 q hG1.1 hI).1⟩
        rw [hr, show n - i = (n - (i + 1)) + 1 by omega, wdB, if_pos (Classical.not_not.mp (fun q => c20 (b2i_f q)))]
set_option maxHeartbeats 4000000 in
set_option maxRecDepth 20000 in
theorem c_wkRead {G : Gt} {M : Mm} {t : Tv} {w y n : Nat} {P : Pv} (hn : n = 41) (hw : w ∈ wkA) (hw36 : 36 ≤ w) (hy : y ∈ ydA) (hI : TI t) (hT : TX M t) (hP : YP M y P) : Call G 11 mX6_read [.ref 6, .ref w, .ref y] M (fun r M' => r = some (.int (wdW t P.1 n).1.1) ∧ FK M M' w ∧ TG M' t (wdW t P.1 n).1 ∧ ((wdW t P.1 n).1.1 = 0 → RX M' w 40 (wdW t P.1 n).2)) := by
  refine Call.intro rfl (Nat.le_of_ble_eq_true rfl) ?_
  show Ev G _ mX6_read 0 [.ref 6, .ref w, .ref y, RA] [] M _
  refine e_aload_n dX6_read_0 rfl ?_
  refine cV0v dX6_read_1 mo_X5_clear ml_X6_9 (sh_wk (by first | assumption | exact wk2 (by assumption) | exact mk_wk (by assumption) | decide)) rfl (Nat.le_of_ble_eq_true rfl) (by omega) (c_wkClear hw) ?_
  refine e_aload_n dX6_read_4 rfl ?_
  refine cV0x dX6_read_5 mo_X4_begin ml_X6_14 sh_tk rfl (Nat.le_of_ble_eq_true rfl) (by omega) (c_tkBegin (M := setI M w 3 0) hI ⟨by rw [setI_1, if_neg (by omega)]; exact hT.1, hT.2.1, fun k hk => by rw [setI_1, if_neg (by omega)]; exact hT.2.2 k hk⟩) ?_
  rintro r M2 ⟨rfl, hs2, hG2⟩
  dsimp only [Option.toList, List.cons_append, List.nil_append]
  refine e_iconst (v := 0) dX6_read_8 (by decide) ?_
  refine e_istore_n (ls' := [_, _, _, _]) dX6_read_9 (by decide) rfl ?_
  have hF : FK M (setI M w 3 0) w := ⟨fun i _ b => by funext z; rw [setI_1, if_neg (by omega)], fun i _ => rfl, fun i _ => rfl⟩
  have hR : RX (setI M w 3 0) w 40 emR := ⟨by rw [setI_1, if_pos ⟨rfl, rfl⟩]; rfl, Nat.zero_le _, fun k hk => absurd hk (Nat.not_lt_zero k)⟩
  exact l_wr (M := M) (P := P) hn hw hw36 hy hI hP (n + 1) 0 ((0, 0), emR) M2 (by omega) (by omega) rfl ⟨hF.trans hs2.fk, hG2, emR, hR.ts (wk_8 hw) hs2, fun _ => rfl⟩
end XWK
