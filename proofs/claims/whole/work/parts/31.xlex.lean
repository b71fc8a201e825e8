section XLX
section XLV
variable {G : Gt} {d pc : Nat} {mi : Mi} {ls st : List Value} {M : Mm} {Q : Option Value → Mm → Prop}
theorem e_i2b {x : Int32} (hd : decode mi.2.1 pc = .ok (.i2b, 1)) (k : Ev G d mi (pc + 1) ls (.int x.toInt8.toInt32 :: st) M Q) : Ev G d mi pc ls (.int x :: st) M Q := by
  intro p e s m args below meth c R Z k0 n0 H locs lsA C hP hS hl
  obtain ⟨⟨hx, hb, hml, hown, hts, hK, hRO, hRT, hG⟩, hR, hret⟩ := id C
  exact lv_i2b hx hb hd rfl (k p e s m args below meth c R Z k0 n0 H locs lsA C hP hS hl)
theorem e_tret {x : Int32} {ty : FieldType} (hd : decode mi.2.1 pc = .ok (.ireturn, 1)) (hr : mi.2.2.2 = some ty) (hz : narrow ty (.int x) = .int x) (hQ : Q (some (.int x)) M) : Ev G d mi pc ls [.int x] M Q := by
  intro p e s m args below meth c R Z k0 n0 H locs lsA C hP hS hl
  obtain ⟨⟨hx, hb, hml, hown, hts, hK, hRO, hRT, hG⟩, hR, hret⟩ := id C
  exact hret pc H locs lsA (some (.int x)) M ⟨hd, _, hr, hz⟩ hQ hP hS
theorem e_callT {idx n : Nat} {mi' : Mi} {d' : Nat} {as stk : List Value} {Q' : Option Value → Mm → Prop} (hd : decode mi.2.1 pc = .ok (.invokevirtual idx, 3)) (hm : MOV mi' n) (hl0 : ML mi.1.cls idx mi'.1) (hci : mi'.1.cls = "java/lang/String") (hn : as.length = n) (hst : stk = as.reverse ++ .ref 2300 :: st) (hW : (st.map fun v => v.category).sum ≤ 8) (hdd : d' + 1 ≤ d) (hc : Call G d' mi' (.ref 2300 :: as) M Q') (k : ∀ r M1, Q' r M1 → Ev G d mi (pc + 3) ls (r.toList ++ st) M1 Q) : Ev G d mi pc ls stk M Q := by
  intro p e s m args below meth c R Z k0 n0 H locs lsA C hP hS hl
  obtain ⟨⟨hx, hb, hml, hown, hts, hK, hRO, hRT, hG⟩, hR, hret⟩ := id C
  subst hst
  obtain ⟨⟨hco, hin, hh, hmx⟩, him, hse⟩ := hm
  have hrc := vk_recv hRO.2.2.2.2.2.2.1 (i := 0) (by decide) hS
  rw [← hci] at hrc
  have hpre : PreV s H mi'.1.cls (G.ad 2300) (va_Pc ((Value.ref 2300 :: as).map (tv G.ad)) (PW G M)) (as.map (tv G.ad)) := ⟨PW_blind, hrc, fun U hU hW => ⟨rfl, PW_start hK hRO hRT hG hP hS U hU hW⟩⟩
  have hstk : (as.reverse ++ Value.ref 2300 :: st).map (tv G.ad) = (as.map (tv G.ad)).reverse ++ Value.ref (G.ad 2300) :: st.map (tv G.ad) := by simp [tv]
  have hkk : ∀ (r : Option Value) (M1 : Mm) (H1 : Heap) (locs1 : List Loc), Q' r M1 → va_P G.D vwCl (cells G.cA G.ad M1) H1 → va_S (A0 G.ad) s.heap H1 locs1 → W p G.1 e R s m args below meth c H1 locs1 k0 n0 Z (F0 m (pc + 3) lsA ((r.map (tv G.ad)).toList ++ st.map (tv G.ad))) := by
    intro r M1 H1 locs1 h1 h2 h3
    rw [lr_map]
    exact k r M1 h1 p e s m args below meth c R Z k0 n0 H1 locs1 lsA C h2 h3 hl
  have hRm : (rmd d').frames + 1 ≤ R.frames ∧ 8 + (mi'.2.2.1 + 11) + (rmd d').locals ≤ R.locals := by
    obtain ⟨r1, r2, -⟩ := hR
    simp only [rmd]
    constructor <;> omega
  rcases hl0 with hl1 | ⟨host, hl1⟩
  · exact callU (va_runV (cc := mi.2.1) (nL := mi.2.2.1) (own := mi.1.cls) (C := mi'.1.cls) (bytes := mi'.2.1) (maxL := mi'.2.2.1) (ret := mi'.2.2.2) (n := n) (Ts := wsm mi) ⟨hx, hb, hml, hown, hts⟩ hc ⟨callB_of n hts (goodIn_wsm mi mi' hco) rfl rfl rfl (hts _ (wsm_in hin)) (hts _ (wsm_in hl1)) hh hRm, hts _ (wsm_in him), hts _ (wsm_in hse)⟩ hpre rfl (by simpa using hn) hl.2.1 hstk (by show 2 * 0 + _ ≤ _; rw [cat_map]; omega) hd ⟨hR.2.2.1, hR.2.2.2⟩) hS hkk
  · exact callU (va_runVN (cc := mi.2.1) (nL := mi.2.2.1) (own := mi.1.cls) (C := mi'.1.cls) (host := host) (bytes := mi'.2.1) (maxL := mi'.2.2.1) (ret := mi'.2.2.2) (n := n) (Ts := wsm mi) ⟨hx, hb, hml, hown, hts⟩ hc ⟨va_cnB n hts (goodIn_wsm mi mi' hco) rfl rfl rfl (hK.2 _ hl1) (hts _ (wsm_in hin)) hh hRm, hts _ (wsm_in him), hts _ (wsm_in hse)⟩ hpre rfl (by simpa using hn) hl.2.1 hstk (by show 2 * 0 + _ ≤ _; rw [cat_map]; omega) hd ⟨hR.2.2.1, hR.2.2.2⟩) hS hkk
theorem cT0r {idx : Nat} {v : Value} {M1 : Mm} {mi' : Mi} {d' : Nat} (hd : decode mi.2.1 pc = .ok (.invokevirtual idx, 3)) (hm : MOV mi' 0) (hl0 : ML mi.1.cls idx mi'.1) (hci : mi'.1.cls = "java/lang/String") (hW : (st.map fun v => v.category).sum ≤ 8) (hdd : d' + 1 ≤ d) (hc : Call G d' mi' (.ref 2300 :: []) M (eqQ (some v) M1)) (k : Ev G d mi (pc + 3) ls (v :: st) M1 Q) : Ev G d mi pc ls (.ref 2300 :: st) M Q := e_callT hd hm hl0 hci (as := []) rfl rfl hW hdd hc (fun r M2 h => by obtain ⟨rfl, rfl⟩ := h; exact k)
theorem cT1r {idx : Nat} {a1 : Value} {v : Value} {M1 : Mm} {mi' : Mi} {d' : Nat} (hd : decode mi.2.1 pc = .ok (.invokevirtual idx, 3)) (hm : MOV mi' 1) (hl0 : ML mi.1.cls idx mi'.1) (hci : mi'.1.cls = "java/lang/String") (hW : (st.map fun v => v.category).sum ≤ 8) (hdd : d' + 1 ≤ d) (hc : Call G d' mi' (.ref 2300 :: [a1]) M (eqQ (some v) M1)) (k : Ev G d mi (pc + 3) ls (v :: st) M1 Q) : Ev G d mi pc ls (a1 :: .ref 2300 :: st) M Q := e_callT hd hm hl0 hci (as := [a1]) rfl rfl hW hdd hc (fun r M2 h => by obtain ⟨rfl, rfl⟩ := h; exact k)
theorem cT2r {idx : Nat} {a1 a2 : Value} {v : Value} {M1 : Mm} {mi' : Mi} {d' : Nat} (hd : decode mi.2.1 pc = .ok (.invokevirtual idx, 3)) (hm : MOV mi' 2) (hl0 : ML mi.1.cls idx mi'.1) (hci : mi'.1.cls = "java/lang/String") (hW : (st.map fun v => v.category).sum ≤ 8) (hdd : d' + 1 ≤ d) (hc : Call G d' mi' (.ref 2300 :: [a1, a2]) M (eqQ (some v) M1)) (k : Ev G d mi (pc + 3) ls (v :: st) M1 Q) : Ev G d mi pc ls (a2 :: a1 :: .ref 2300 :: st) M Q := e_callT hd hm hl0 hci (as := [a1, a2]) rfl rfl hW hdd hc (fun r M2 h => by obtain ⟨rfl, rfl⟩ := h; exact k)
theorem cT1x {idx : Nat} {a1 : Value} {Q' : Option Value → Mm → Prop} {mi' : Mi} {d' : Nat} (hd : decode mi.2.1 pc = .ok (.invokevirtual idx, 3)) (hm : MOV mi' 1) (hl0 : ML mi.1.cls idx mi'.1) (hci : mi'.1.cls = "java/lang/String") (hW : (st.map fun v => v.category).sum ≤ 8) (hdd : d' + 1 ≤ d) (hc : Call G d' mi' (.ref 2300 :: [a1]) M Q') (k : ∀ r M1, Q' r M1 → Ev G d mi (pc + 3) ls (r.toList ++ st) M1 Q) : Ev G d mi pc ls (a1 :: .ref 2300 :: st) M Q := e_callT hd hm hl0 hci (as := [a1]) rfl rfl hW hdd hc k
theorem cT2x {idx : Nat} {a1 a2 : Value} {Q' : Option Value → Mm → Prop} {mi' : Mi} {d' : Nat} (hd : decode mi.2.1 pc = .ok (.invokevirtual idx, 3)) (hm : MOV mi' 2) (hl0 : ML mi.1.cls idx mi'.1) (hci : mi'.1.cls = "java/lang/String") (hW : (st.map fun v => v.category).sum ≤ 8) (hdd : d' + 1 ≤ d) (hc : Call G d' mi' (.ref 2300 :: [a1, a2]) M Q') (k : ∀ r M1, Q' r M1 → Ev G d mi (pc + 3) ls (r.toList ++ st) M1 Q) : Ev G d mi pc ls (a2 :: a1 :: .ref 2300 :: st) M Q := e_callT hd hm hl0 hci (as := [a1, a2]) rfl rfl hW hdd hc k
end XLV
abbrev sgL : List Int32 := [40, 41, 60, 61, 43, 45, 42, 59]
theorem sg_in {j : Nat} (h : j < 8) : sgL.getD j 0 ∈ sgL := by
  have : ∀ j, j < 8 → sgL.getD j 0 ∈ sgL := by decide
  exact this j h
theorem sg_no {c : Int32} (h : ∀ j, j < 8 → ¬ sgL.getD j 0 = c) : ¬ c ∈ sgL := by
  intro hc
  obtain ⟨j, hj, e⟩ := List.getElem_of_mem hc
  have hj8 : j < 8 := hj
  exact h j hj8 (by rw [List.getD_eq_getElem?_getD, List.getElem?_eq_getElem hj]; exact e)
theorem i2b_n : ∀ m, m < 127 → (nI m).toInt8.toInt32 = nI m := by decide +kernel
theorem i2c_n : ∀ m, m < 127 → ((nI m).toUInt32 % 65536).toInt32 = nI m := by decide +kernel
theorem enc_n : ∀ m, m < 127 → ¬ nI m < 0 ∧ ¬ 255 < nI m := by decide +kernel
set_option maxHeartbeats 4000000 in
set_option maxRecDepth 20000 in
theorem c_isLatin1 {G : Gt} {M : Mm}  : Call G 1 mJ0_isLatin1_aae02 [.ref 2300] M (eqQ (some (.int 1)) M) := by
  refine Call.intro rfl (Nat.le_of_ble_eq_true rfl) ?_
  show Ev G _ mJ0_isLatin1_aae02 0 [.ref 2300] [] M _
  refine e_getCS dJ0_isLatin1_aae02_0 (mem_g 405 (by decide +kernel) rfl) ?_
  refine e_if_eq (tgt := 17) dJ0_isLatin1_aae02_3 (by decide) (fun c3 => absurd c3 (by decide)) (fun c3 => ?_)
  refine e_aload_n dJ0_isLatin1_aae02_6 rfl ?_
  refine e_coder dJ0_isLatin1_aae02_7 (mem_g 1831 (by decide +kernel) rfl) ?_
  refine e_if_ne (tgt := 17) dJ0_isLatin1_aae02_10 (by decide) (fun c10 => absurd c10 (by decide)) (fun c10 => ?_)
  refine e_iconst (v := 1) dJ0_isLatin1_aae02_13 (by decide) ?_
  refine e_goto (tgt := 18) dJ0_isLatin1_aae02_14 (by decide) ?_
  refine e_zret dJ0_isLatin1_aae02_18 rfl (by first | rfl | exact b2i_nar _) ?_
  exact ⟨rfl, rfl⟩
set_option maxHeartbeats 4000000 in
set_option maxRecDepth 20000 in
theorem c_coder {G : Gt} {M : Mm}  : Call G 1 mJ0_coder_7d493 [.ref 2300] M (eqQ (some (.int 0)) M) := by
  refine Call.intro rfl (Nat.le_of_ble_eq_true rfl) ?_
  show Ev G _ mJ0_coder_7d493 0 [.ref 2300] [] M _
  refine e_getCS dJ0_coder_7d493_0 (mem_g 405 (by decide +kernel) rfl) ?_
  refine e_if_eq (tgt := 13) dJ0_coder_7d493_3 (by decide) (fun c3 => absurd c3 (by decide)) (fun c3 => ?_)
  refine e_aload_n dJ0_coder_7d493_6 rfl ?_
  refine e_coder dJ0_coder_7d493_7 (mem_g 1831 (by decide +kernel) rfl) ?_
  refine e_goto (tgt := 14) dJ0_coder_7d493_10 (by decide) ?_
  refine e_tret dJ0_coder_7d493_14 rfl rfl ?_
  exact ⟨rfl, rfl⟩
set_option maxHeartbeats 4000000 in
set_option maxRecDepth 20000 in
theorem c_strlen {G : Gt} {M : Mm}  : Call G 2 mJ0_length_8abf5 [.ref 2300] M (eqQ (some (.int 8)) M) := by
  refine Call.intro rfl (Nat.le_of_ble_eq_true rfl) ?_
  show Ev G _ mJ0_length_8abf5 0 [.ref 2300] [] M _
  refine e_aload_n dJ0_length_8abf5_0 rfl ?_
  refine e_value dJ0_length_8abf5_1 (mem_g 1832 (by decide +kernel) rfl) ?_
  refine e_blen dJ0_length_8abf5_4 ?_
  refine e_aload_n dJ0_length_8abf5_5 rfl ?_
  refine cT0r dJ0_length_8abf5_6 mo_J0_coder_7d493 ml_J0_335 rfl (Nat.le_of_ble_eq_true rfl) (by omega) (c_coder) ?_
  refine e_ishr dJ0_length_8abf5_9 ?_
  rw [show (8 : Int32) >>> ((0 : Int32) &&& 31) = 8 from by decide]
  refine e_iret dJ0_length_8abf5_10 rfl ?_
  exact ⟨rfl, rfl⟩
set_option maxHeartbeats 4000000 in
set_option maxRecDepth 20000 in
theorem c_canEnc {G : Gt} {M : Mm} {m : Nat} (hm : m < 127) : Call G 1 mJ1_canEncode_9a6ad [.int (nI m)] M (eqQ (some (.int 1)) M) := by
  refine Call.intro rfl (Nat.le_of_ble_eq_true rfl) ?_
  show Ev G _ mJ1_canEncode_9a6ad 0 [.int (nI m)] [] M _
  refine e_iload_n dJ1_canEncode_9a6ad_0 rfl ?_
  refine e_if_lt (tgt := 15) dJ1_canEncode_9a6ad_1 (by decide) (fun c1 => absurd c1 (enc_n m hm).1) (fun c1 => ?_)
  refine e_iload_n dJ1_canEncode_9a6ad_4 rfl ?_
  refine e_sipush (v := 255) dJ1_canEncode_9a6ad_5 (by decide) ?_
  refine e_icmp_gt (tgt := 15) dJ1_canEncode_9a6ad_8 (by decide) (fun c8 => absurd c8 (enc_n m hm).2) (fun c8 => ?_)
  refine e_iconst (v := 1) dJ1_canEncode_9a6ad_11 (by decide) ?_
  refine e_goto (tgt := 16) dJ1_canEncode_9a6ad_12 (by decide) ?_
  refine e_zret dJ1_canEncode_9a6ad_16 rfl (by first | rfl | exact b2i_nar _) ?_
  exact ⟨rfl, rfl⟩
set_option maxHeartbeats 4000000 in
set_option maxRecDepth 20000 in
theorem l_ixc {G : Gt} {M : Mm} {m : Nat} (hm : m < 127) : ∀ (k : Nat) (i : Nat) , (i ≤ 8) → (8 < i + k) → (∀ j, j < i → ¬ sgL.getD j 0 = nI m) → Ev G 1 mJ1_indexOfChar_4cfef 7 [.ref 2301, .int (nI m), .int 0, .int 8, .int (nI m), .int (nI i)] [] M (fun r M' => M' = M ∧ ∃ v, r = some (.int v) ∧ (v < 0 ↔ ¬ nI m ∈ sgL)) := by
  intro k
  induction k with
  | zero => intro i hi hk hno; exact absurd hk (by omega)
  | succ k ih =>
    intro i hi hk hno
    refine e_iload dJ1_indexOfChar_4cfef_7 rfl ?_
    refine e_iload_n dJ1_indexOfChar_4cfef_9 rfl ?_
    refine e_icmp_ge (tgt := 31) dJ1_indexOfChar_4cfef_10 (by decide) (fun c10 => ?_) (fun c10 => ?_)
    · -- 10 jumps
      have hin : i = 8 := by have := ge_of (n := 8) (by omega) (by omega) c10; omega
      subst hin
      refine e_iconst (v := (-1)) dJ1_indexOfChar_4cfef_31 (by decide) ?_
      refine e_iret dJ1_indexOfChar_4cfef_32 rfl ?_
      exact ⟨rfl, _, rfl, fun _ => sg_no hno, fun _ => by decide⟩
    · -- 10 goes on
      have hlt : i < 8 := lt_of (n := 8) (by omega) (by omega) c10
      refine e_aload_n dJ1_indexOfChar_4cfef_13 rfl ?_
      refine e_iload dJ1_indexOfChar_4cfef_14 rfl ?_
      refine e_bald dJ1_indexOfChar_4cfef_16 (in_of (by omega) hlt) rfl ?_
      rw [nI_clamp (by omega)]
      refine e_iload dJ1_indexOfChar_4cfef_17 rfl ?_
      refine e_icmp_ne (tgt := 25) dJ1_indexOfChar_4cfef_19 (by decide) (fun c19 => ?_) (fun c19 => ?_)
      · -- 19 jumps
        refine e_iinc (ls' := [_, _, _, _, _, _]) dJ1_indexOfChar_4cfef_25 rfl (nI_i1 _) (by decide) rfl ?_
        refine e_goto (tgt := 7) dJ1_indexOfChar_4cfef_28 (by decide) ?_
        refine ih (i + 1) (by omega) (by omega) (fun j hj => ?_)
        rcases Nat.lt_or_ge j i with q | q
        · exact hno j q
        · obtain rfl : j = i := by omega
          exact c19
      · -- 19 goes on
        refine e_iload dJ1_indexOfChar_4cfef_22 rfl ?_
        refine e_iret dJ1_indexOfChar_4cfef_24 rfl ?_
        exact ⟨rfl, _, rfl, fun q => absurd q (by have := (enc_n i (by omega)).1; exact this), fun q => absurd (by rw [← c19]; exact sg_in hlt) q⟩
set_option maxHeartbeats 4000000 in
set_option maxRecDepth 20000 in
theorem c_ixc {G : Gt} {M : Mm} {m : Nat} (hm : m < 127) : Call G 1 mJ1_indexOfChar_4cfef [.ref 2301, .int (nI m), .int 0, .int 8] M (fun r M' => M' = M ∧ ∃ v, r = some (.int v) ∧ (v < 0 ↔ ¬ nI m ∈ sgL)) := by
  refine Call.intro rfl (Nat.le_of_ble_eq_true rfl) ?_
  show Ev G _ mJ1_indexOfChar_4cfef 0 [.ref 2301, .int (nI m), .int 0, .int 8, RA, RA] [] M _
  refine e_iload_n dJ1_indexOfChar_4cfef_0 rfl ?_
  refine e_i2b dJ1_indexOfChar_4cfef_1 ?_
  rw [i2b_n m hm]
  refine e_istore (ls' := [_, _, _, _, _, _]) dJ1_indexOfChar_4cfef_2 (by decide) rfl ?_
  refine e_iload_n dJ1_indexOfChar_4cfef_4 rfl ?_
  refine e_istore (ls' := [_, _, _, _, _, _]) dJ1_indexOfChar_4cfef_5 (by decide) rfl ?_
  exact l_ixc hm 9 0 (by omega) (by omega) (fun j hj => absurd hj (by omega))
set_option maxHeartbeats 4000000 in
set_option maxRecDepth 20000 in
theorem c_ixl {G : Gt} {M : Mm} {m : Nat} (hm : m < 127) : Call G 2 mJ1_indexOf_4cfef [.ref 2301, .int (nI m), .int 0, .int 8] M (fun r M' => M' = M ∧ ∃ v, r = some (.int v) ∧ (v < 0 ↔ ¬ nI m ∈ sgL)) := by
  refine Call.intro rfl (Nat.le_of_ble_eq_true rfl) ?_
  show Ev G _ mJ1_indexOf_4cfef 0 [.ref 2301, .int (nI m), .int 0, .int 8] [] M _
  refine e_iload_n dJ1_indexOf_4cfef_0 rfl ?_
  refine cS1r dJ1_indexOf_4cfef_1 mo_J1_canEncode_9a6ad ml_J1_88 (Nat.le_of_ble_eq_true rfl) (by omega) (c_canEnc hm) ?_
  refine e_if_ne (tgt := 9) dJ1_indexOf_4cfef_4 (by decide) (fun c4 => ?_) (fun c4 => absurd c4 (by decide))
  refine e_iload_n dJ1_indexOf_4cfef_9 rfl ?_
  refine e_iconst (v := 0) dJ1_indexOf_4cfef_10 (by decide) ?_
  refine e_max dJ1_indexOf_4cfef_11 (mem_g 421 (by decide +kernel) rfl) (mem_g 422 (by decide +kernel) rfl) (mem_g 15 (by decide +kernel) rfl) (mem_g 423 (by decide +kernel) rfl) (Nat.le_of_ble_eq_true rfl) (by omega) ?_
  rw [show (if (0 : Int32) < 0 then (0 : Int32) else 0) = 0 from by decide]
  refine e_istore_n (ls' := [_, _, _, _]) dJ1_indexOf_4cfef_14 (by decide) rfl ?_
  refine e_iload_n dJ1_indexOf_4cfef_15 rfl ?_
  refine e_aload_n dJ1_indexOf_4cfef_16 rfl ?_
  refine e_blen dJ1_indexOf_4cfef_17 ?_
  refine e_min dJ1_indexOf_4cfef_18 (mem_g 424 (by decide +kernel) rfl) (mem_g 425 (by decide +kernel) rfl) (mem_g 15 (by decide +kernel) rfl) (mem_g 426 (by decide +kernel) rfl) (Nat.le_of_ble_eq_true rfl) (by omega) ?_
  refine e_istore_n (ls' := [_, _, _, _]) dJ1_indexOf_4cfef_21 (by decide) rfl ?_
  refine e_iload_n dJ1_indexOf_4cfef_22 rfl ?_
  refine e_iload_n dJ1_indexOf_4cfef_23 rfl ?_
  refine e_icmp_lt (tgt := 29) dJ1_indexOf_4cfef_24 (by decide) (fun c24 => ?_) (fun c24 => absurd c24 (by decide))
  refine e_aload_n dJ1_indexOf_4cfef_29 rfl ?_
  refine e_iload_n dJ1_indexOf_4cfef_30 rfl ?_
  refine e_iload_n dJ1_indexOf_4cfef_31 rfl ?_
  refine e_iload_n dJ1_indexOf_4cfef_32 rfl ?_
  refine cS4x dJ1_indexOf_4cfef_33 mo_J1_indexOfChar_4cfef ml_J1_95 (Nat.le_of_ble_eq_true rfl) (by omega) (c_ixc hm) ?_
  rintro r M1 ⟨rfl, v, rfl, hv⟩
  dsimp only [Option.toList, List.cons_append, List.nil_append]
  refine e_iret dJ1_indexOf_4cfef_36 rfl ?_
  exact ⟨rfl, v, rfl, hv⟩
set_option maxHeartbeats 4000000 in
set_option maxRecDepth 20000 in
theorem c_ix2 {G : Gt} {M : Mm} {m : Nat} (hm : m < 127) : Call G 6 mJ0_indexOf_7cf53 [.ref 2300, .int (nI m), .int 0] M (fun r M' => M' = M ∧ ∃ v, r = some (.int v) ∧ (v < 0 ↔ ¬ nI m ∈ sgL)) := by
  refine Call.intro rfl (Nat.le_of_ble_eq_true rfl) ?_
  show Ev G _ mJ0_indexOf_7cf53 0 [.ref 2300, .int (nI m), .int 0] [] M _
  refine e_aload_n dJ0_indexOf_7cf53_0 rfl ?_
  refine cT0r dJ0_indexOf_7cf53_1 mo_J0_isLatin1_aae02 ml_J0_492 rfl (Nat.le_of_ble_eq_true rfl) (by omega) (c_isLatin1) ?_
  refine e_if_eq (tgt := 23) dJ0_indexOf_7cf53_4 (by decide) (fun c4 => absurd c4 (by decide)) (fun c4 => ?_)
  refine e_aload_n dJ0_indexOf_7cf53_7 rfl ?_
  refine e_value dJ0_indexOf_7cf53_8 (mem_g 1832 (by decide +kernel) rfl) ?_
  refine e_iload_n dJ0_indexOf_7cf53_11 rfl ?_
  refine e_iload_n dJ0_indexOf_7cf53_12 rfl ?_
  refine e_aload_n dJ0_indexOf_7cf53_13 rfl ?_
  refine cT0r dJ0_indexOf_7cf53_14 mo_J0_length_8abf5 ml_J0_505 rfl (Nat.le_of_ble_eq_true rfl) (by omega) (c_strlen) ?_
  refine cS4x dJ0_indexOf_7cf53_17 mo_J1_indexOf_4cfef ml_J0_637 (Nat.le_of_ble_eq_true rfl) (by omega) (c_ixl hm) ?_
  rintro r M1 ⟨rfl, v, rfl, hv⟩
  dsimp only [Option.toList, List.cons_append, List.nil_append]
  refine e_goto (tgt := 36) dJ0_indexOf_7cf53_20 (by decide) ?_
  refine e_iret dJ0_indexOf_7cf53_36 rfl ?_
  exact ⟨rfl, v, rfl, hv⟩
set_option maxHeartbeats 4000000 in
set_option maxRecDepth 20000 in
theorem c_ix1 {G : Gt} {M : Mm} {m : Nat} (hm : m < 127) : Call G 7 mJ0_indexOf_0f7a4 [.ref 2300, .int (nI m)] M (fun r M' => M' = M ∧ ∃ v, r = some (.int v) ∧ (v < 0 ↔ ¬ nI m ∈ sgL)) := by
  refine Call.intro rfl (Nat.le_of_ble_eq_true rfl) ?_
  show Ev G _ mJ0_indexOf_0f7a4 0 [.ref 2300, .int (nI m)] [] M _
  refine e_aload_n dJ0_indexOf_0f7a4_0 rfl ?_
  refine e_iload_n dJ0_indexOf_0f7a4_1 rfl ?_
  refine e_iconst (v := 0) dJ0_indexOf_0f7a4_2 (by decide) ?_
  refine cT2x dJ0_indexOf_0f7a4_3 mo_J0_indexOf_7cf53 ml_J0_633 rfl (Nat.le_of_ble_eq_true rfl) (by omega) (c_ix2 hm) ?_
  rintro r M1 ⟨rfl, v, rfl, hv⟩
  dsimp only [Option.toList, List.cons_append, List.nil_append]
  refine e_iret dJ0_indexOf_0f7a4_6 rfl ?_
  exact ⟨rfl, v, rfl, hv⟩
end XLX
