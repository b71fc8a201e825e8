section YRS
theorem lr_stRA {ad : Nat → Nat} {lsA : Array Slot} {nL i : Nat} {ls : List Value} {w : Value} (hl : ls.length = nL)
    (h : lv_has lsA nL ((i, w) :: (lqF ad 0 ls).filter (fun q => !(q.1 == i) && !(q.1 + 1 == i && q.2.category == 2)))) : lr ad lsA nL (stI ls i RA) := by
  refine ⟨by rw [stI_len, hl], h.1, h.2.1, ?_⟩
  rintro ⟨j, w⟩ hq
  obtain ⟨u, -, h1, h2, rfl⟩ := (lqF_mem _ 0).mp hq
  refine h.2.2 (j, tv ad u) ?_
  rcases stI_get (by simpa using h1) h2 with ⟨rfl, rfl⟩ | ⟨h3, h4, h5⟩
  · cases h2
  · refine List.mem_cons_of_mem _ (List.mem_filter.mpr ⟨(lqF_mem ls 0).mpr ⟨u, Nat.zero_le _, by simpa using h4, h2, rfl⟩, ?_⟩)
    simp only [tv_cat]
    simp [h3]
    omega
theorem callUT {G : Gt} {p : Program} {l : Launch} {e : Env} {R : Room} {s : State} {m : MethodId} {args : Array Value} {below : List Frame} {meth : Method} {c : Code} {H : Heap} {locs : List Loc} {k0 n0 pc : Nat} {Z : State → Prop} {lsA : Array Slot} {st0 rest : List Value} {a : Array Value} {Q' : Option Value → Mm → Prop} {X9 : Mm → Prop}
    (hr : vx_Run p l e R s m args below meth c H locs k0 n0 1 6 (F0 m pc lsA st0) rest (Qr G Q' a) (XCt G X9) (A0 G.ad)) (hS : va_S (A0 G.ad) s.heap H locs)
    (kx : ∀ (q : Addr) (ce : Cell) (M1 : Mm) (H1 : Heap) (locs1 : List Loc), X9 M1 → va_P G.D vwCl (cells G.cA G.ad M1) H1 → va_S (A0 G.ad) s.heap H1 locs1 → H1[q]? = some ce → ce.vm = .none → s.vm.findClass NSEn = some ce.cls → vx_W p l e R s m args below meth c H1 locs1 (k0 + 1) (n0 + 6) Z (F0 m pc lsA rest) q)
    (kk : ∀ (r : Option Value) (M1 : Mm) (H1 : Heap) (locs1 : List Loc), Q' r M1 → va_P G.D vwCl (cells G.cA G.ad M1) H1 → va_S (A0 G.ad) s.heap H1 locs1 → W p l e R s m args below meth c H1 locs1 (k0 + 1) (n0 + 6) Z (F0 m (pc + 3) lsA ((r.map (tv G.ad)).toList ++ rest))) : W p l e R s m args below meth c H locs k0 n0 Z (F0 m pc lsA st0) := by
  intro T hT X
  rcases hr T hT X with ⟨v, st₀, t, T', L, h0, X', hL, e1, e2, ⟨r, M1, hq, hv, hp, hz, hk⟩, st⟩ | ⟨q, st₀, t, T', L, E, ce, h0, X', hL, e1, e2, ⟨rfl, ⟨M1, hq, hp⟩, hz, hk⟩, hce, hcv, hcl, st⟩
  · cases hv
    rw [h0] at hz hk
    obtain ⟨t2, a1, b1⟩ := kk r M1 T'.heap (locs ++ L) hq (by rw [e1]; exact hp)
      ⟨Nat.le_trans hS.1 (by rw [e1]; exact hz), fun q h1 h2 => by rw [e1, hk q (Nat.lt_of_lt_of_le h1 hS.1) h2]; exact hS.2.1 q h1 h2, fun q hq => by
        rcases List.mem_append.mp hq with h | h
        · exact hS.2.2 q h
        · exact hL q h⟩ T' rfl X'
    exact ⟨t2, st t2 a1, b1⟩
  · rw [h0] at hz hk
    obtain ⟨t2, a1, b1⟩ := kx q ce M1 T'.heap (locs ++ L) hq (by rw [e1]; exact hp)
      ⟨Nat.le_trans hS.1 (by rw [e1]; exact hz), fun q h1 h2 => by rw [e1, hk q (Nat.lt_of_lt_of_le h1 hS.1) h2]; exact hS.2.1 q h1 h2, fun q hq => by
        rcases List.mem_append.mp hq with h | h
        · exact hS.2.2 q h
        · exact hL q h⟩ (by rw [e1]; exact hce) hcv hcl T' rfl X'
    exact ⟨t2, st.trans a1, b1⟩
section
variable {tb : List ExceptionTableEntry} {b9 : Nat} {G : Gt} {d : Nat} {mi : Mi} {pc : Nat} {ls st : List Value} {M : Mm} {Q : Option Value → Mm → Prop}
theorem CxL.step {p : Program} {e : Env} {s : State} {m : MethodId} {args : Array Value} {below : List Frame} {meth : Method} {c : Code} {R : Room} {Z : State → Prop} {k0 n0 : Nat} (C : CxL tb (b9 + 1) G d mi Q p e s m args below meth c R Z k0 n0) : CxL tb b9 G d mi Q p e s m args below meth c R Z (k0 + 1) (n0 + 6) := by
  obtain ⟨h1, ⟨r1, r2, r3, r4⟩, h3⟩ := C
  refine ⟨h1, ⟨r1, r2, by omega, by omega⟩, ?_⟩
  have e1 : k0 + 1 + b9 = k0 + (b9 + 1) := by omega
  have e2 : n0 + 6 + 6 * b9 = n0 + 6 * (b9 + 1) := by omega
  rw [e1, e2]
  exact h3
/-- a call of an object's method that may throw, caught by this method's one row -/
theorem y_callVT {idx n i ci j : Nat} {fs : List (Nat × Nat)} {mi' : Mi} {d' : Nat} {as stk ls' : List Value} {Q' : Option Value → Mm → Prop} {X9 : Mm → Prop} {x9 : ExceptionTableEntry} (htb9 : tb = [x9]) (hd : decode mi.2.1 pc = .ok (.invokevirtual idx, 3)) (hm : MOV mi' n) (hl1 : Jvm.Cond.methodLink mi.1.cls idx mi'.1 ∈ lw_g) (hs : shp i = (0, ci, fs)) (hci : (vwCl[ci]?).map (fun q => q.1) = some mi'.1.cls) (hn : as.length = n) (hst : stk = as.reverse ++ .ref i :: st) (hW : (st.map fun v => v.category).sum ≤ 8) (hdd : d' + 1 ≤ d) (hc : CallT (wsm mi') X9 G d' mi' (.ref i :: as) M Q')
    (hcov : covers x9 pc = true) (hct : x9.catchType ≠ 0) (hlk : Jvm.Cond.classLink mi.1.cls x9.catchType NSEn ∈ lw_g) (hcast : Jvm.Cond.castable NSEn NSEn ∈ thrL) (hds : decode mi.2.1 x9.handlerPc = .ok (.astore j, 2)) (hj : j < mi.2.2.1) (hls : stI ls j RA = ls')
    (kx : ∀ M1, X9 M1 → EvL tb b9 G d mi (x9.handlerPc + 2) ls' [] M1 Q)
    (k : ∀ r M1, Q' r M1 → EvL tb b9 G d mi (pc + 3) ls (r.toList ++ st) M1 Q) : EvL tb (b9 + 1) G d mi pc ls stk M Q := by
  intro p e s m args below meth c R Z k0 n0 H locs lsA C hP hS hl
  have C1 := CxL.step C
  obtain ⟨⟨hx, hb, hml, hown, hts, hK, hRO, hRT, hG, hPT, htb⟩, hR, hret⟩ := id C
  subst hst
  obtain ⟨⟨hco, hin, hh, hmx⟩, him, hse⟩ := hm
  have hi := shp_lt hs (by decide)
  have hat : (cells G.cA G.ad M)[i]? = some (G.ad i, .inr (ci, flds G.ad M i 0 fs)) := (cells_at hi).trans (by rw [cel_obj hs])
  obtain ⟨q, hq, hq2⟩ : ∃ q, vwCl[ci]? = some q ∧ q.1 = mi'.1.cls := by
    cases h : vwCl[ci]? with
    | none => rw [h] at hci; cases hci
    | some q => rw [h] at hci; exact ⟨q, rfl, by simpa using hci⟩
  have hrc := va_recv hK.1 hP hq hat
  rw [hq2] at hrc
  have hpre : PreV s H mi'.1.cls (G.ad i) (va_Pc ((Value.ref i :: as).map (tv G.ad)) (PWT G M)) (as.map (tv G.ad)) := ⟨PWT_blind, hrc, fun U hU hW => ⟨rfl, PWT_start hK hRO hRT hG hPT hP hS U hU hW⟩⟩
  have hstk : (as.reverse ++ Value.ref i :: st).map (tv G.ad) = (as.map (tv G.ad)).reverse ++ Value.ref (G.ad i) :: st.map (tv G.ad) := by simp [tv]
  have hRm : (rmT d').frames + 1 ≤ R.frames ∧ 8 + (mi'.2.2.1 + 11) + (rmT d').locals ≤ R.locals := by
    obtain ⟨r1, r2, -⟩ := hR
    simp only [rmT]
    constructor <;> omega
  refine callUT (vx_runV (cc := mi.2.1) (nL := mi.2.2.1) (own := mi.1.cls) (C := mi'.1.cls) (bytes := mi'.2.1) (maxL := mi'.2.2.1) (ret := mi'.2.2.2) (n := n) (Ts := lw_g) ⟨hx, hb, hml, hown, hts⟩ hc ⟨callB_of n hts (goodIn_lg mi' hco) rfl rfl rfl (hts _ hin) (hts _ hl1) hh hRm, hts _ him, hts _ hse⟩ hpre rfl (by simpa using hn) hl.2.1 hstk (by show 2 * 0 + _ ≤ _; rw [cat_map]; omega) hd ⟨by omega, by omega⟩) hS ?_ ?_
  · intro q9 ce M1 H1 locs1 h1 h2 h3 h4 h5 h6
    refine vx_catch (own := mi.1.cls) (name := NSEn) (E := NSEn) hown [] x9 [] (by rw [htb, htb9]; rfl) (fun z hz => nomatch hz) hcov hct (hts _ hlk) (hPT.1 _ hcast args) h4 h5 h6 ?_
    subst hls
    exact lv_astore hx hb hds hl.2 hj rfl (fun lsB hB => kx M1 h1 p e s m args below meth c R Z (k0 + 1) (n0 + 6) H1 locs1 lsB C1 h2 h3 (lr_stRA hl.1 hB))
  · intro r M1 H1 locs1 h1 h2 h3
    rw [lr_map]
    exact k r M1 h1 p e s m args below meth c R Z (k0 + 1) (n0 + 6) H1 locs1 lsA C1 h2 h3 hl
/-- a static call of a method with a table; nothing leaves it but its answer -/
theorem y_callST {idx n : Nat} {mi' : Mi} {hh9 : List (Nat × Nat × Nat × Nat)} {d' : Nat} {as stk : List Value} {Q' : Option Value → Mm → Prop} (hd : decode mi.2.1 pc = .ok (.invokestatic idx, 3)) (hco : Jvm.Cond.codeWith mi'.1 mi'.2.1 mi'.2.2.1 mi'.2.2.2 hh9 ∈ lw_g) (hin : Jvm.Cond.initialized mi'.1.cls ∈ lw_g) (hh : hdOK mi'.1 n) (hmx : mi'.2.2.1 ≤ 61) (him : Jvm.Cond.static mi'.1 ∈ lw_g) (hl1 : Jvm.Cond.methodLink mi.1.cls idx mi'.1 ∈ lw_g) (hn : as.length = n) (hst : stk = as.reverse ++ st) (hW : (st.map fun v => v.category).sum ≤ 8) (hdd : d' + 1 ≤ d)
    (hc : CallT (Jvm.Cond.codeWith mi'.1 mi'.2.1 mi'.2.2.1 mi'.2.2.2 hh9 :: lw_g) (fun _ => False) G d' mi' as M Q') (k : ∀ r M1, Q' r M1 → EvL tb b9 G d mi (pc + 3) ls (r.toList ++ st) M1 Q) : EvL tb (b9 + 1) G d mi pc ls stk M Q := by
  intro p e s m args below meth c R Z k0 n0 H locs lsA C hP hS hl
  have C1 := CxL.step C
  obtain ⟨⟨hx, hb, hml, hown, hts, hK, hRO, hRT, hG, hPT, htb⟩, hR, hret⟩ := id C
  subst hst
  have hpre : PreS s H (va_Pc (as.map (tv G.ad)) (PWT G M)) (as.map (tv G.ad)) := ⟨PWT_blind, fun U hU hW => ⟨rfl, PWT_start hK hRO hRT hG hPT hP hS U hU hW⟩⟩
  have hstk : (as.reverse ++ st).map (tv G.ad) = (as.map (tv G.ad)).reverse ++ st.map (tv G.ad) := by simp
  have hRm : (rmT d').frames + 1 ≤ R.frames ∧ 8 + (mi'.2.2.1 + 11) + (rmT d').locals ≤ R.locals := by
    obtain ⟨r1, r2, -⟩ := hR
    simp only [rmT]
    constructor <;> omega
  have hgi : GoodIn lw_g (va_wsS mi.1.cls idx mi'.1 (Jvm.Cond.codeWith mi'.1 mi'.2.1 mi'.2.2.1 mi'.2.2.2 hh9 :: lw_g)) := by
    intro w hw
    have hw' : w ∈ lw_g := by
      unfold va_wsS at hw
      rcases List.mem_append.mp hw with h | h
      · simp only [List.mem_cons, List.not_mem_nil, or_false] at h
        rcases h with rfl | rfl | rfl <;> assumption
      · rcases List.mem_cons.mp h with h | h
        · rw [h]; exact hco
        · exact h
    exact ⟨hw', good_of_word (List.mem_filter.mp hw').2⟩
  refine callUT (vx_runSX (cc := mi.2.1) (nL := mi.2.2.1) (own := mi.1.cls) (bytes := mi'.2.1) (maxL := mi'.2.2.1) (ret := mi'.2.2.2) (hh := hh9) (n := n) (Ts := lw_g) ⟨hx, hb, hml, hown, hts⟩ hc (vx_cwSW n hts hgi rfl rfl rfl hh hRm) hpre rfl (by simpa using hn) hl.2.1 hstk (by show 2 * 0 + _ ≤ _; rw [cat_map]; omega) hd ⟨by omega, by omega⟩) hS ?_ ?_
  · intro q9 ce M1 H1 locs1 h1
    exact h1.elim
  · intro r M1 H1 locs1 h1 h2 h3
    rw [lr_map]
    exact k r M1 h1 p e s m args below meth c R Z (k0 + 1) (n0 + 6) H1 locs1 lsA C1 h2 h3 hl
end
/-- rests of the class, thrown or not -/
theorem x_restsT {G : Gt} {M : Mm} {l s q w : Int32} {d : Nat} (hl9 : G.1.stackTraces = false) (hd9 : 6 ≤ d) : CallT (wsm mX10_rests) (fun M' => M' = M ∧ restQ l s q w = none) G d mX10_rests [.ref 0, .int l, .int s, .int q, .int w] M (fun r M' => M' = M ∧ ∃ v, restQ l s q w = some v ∧ r = some (.int v)) := by
  refine vx_ofW (cc := mX10_rests.2.1) (maxL := mX10_rests.2.2.1) (ret := mX10_rests.2.2.2) rfl rfl ?_
  intro p e s9 m args below meth c s₁ B hml htab hv
  obtain ⟨rfl, ⟨hP, hK, hRO, hRT, hG⟩, hPT⟩ := hv
  rw [lg_entry_eq]
  have hx := B.exec
  have hb := B.bytes
  have hlk := B.notSynchronized
  have hts := atoms_spec (ws := wsm mX10_rests) B.pre
  refine x_rests p e s9 m _ below meth c _ _ 0 0 s9.heap [] _ ⟨⟨hx, hb, hml, findClass_of_methodNamed B.named, hts, hK, hRO, hRT, hG⟩, ⟨?_, ?_, Nat.zero_le _, Nat.zero_le _⟩, ?_, ?_⟩ hP va_S.rf (lr_ent G.ad _ (Nat.le_of_ble_eq_true rfl))
  · show 3 ≤ d
    omega
  · show 80 * 3 ≤ 80 * d
    omega
  · intro pc H locs lsA r M' hr hQ hP' hS'
    obtain ⟨hM, v, hv1, hv2⟩ := id hQ
    subst hv2
    obtain ⟨h1, ty, h2, h3⟩ := hr
    refine W_widen (k' := 1) (n' := 6) (by omega) (by omega) (vx_ret (W.zret hx hb (by rw [B.returns]; exact h2) h3 (fun t ht _ => ⟨some (.int v), M', hQ, rfl, by rw [ht]; exact hP', hS'.F ht⟩) hS'.2.2 h1 hlk))
  · intro pc H locs lsA M' hX hsz hP' hS'
    obtain ⟨hpc, hM, hnone⟩ := hX
    have hx9 : ∀ t : State, s9.vm.Alike t.vm → H.size ≤ t.heap.size → (∀ q : Nat, q < H.size → t.heap[q]? = H[q]?) → XCt G (fun M' => M' = M ∧ restQ l s q w = none) NSEn s9 t := by
      intro t _ hz hk
      refine ⟨rfl, ⟨M', ⟨hM, hnone⟩, hP'.kept (fun k q hq => hk _ (vx_lt hP' hq))⟩, Nat.le_trans hS'.1 hz, fun q h1 h2 => ?_⟩
      rw [hk q (Nat.lt_of_lt_of_le h1 hS'.1)]
      exact hS'.2.1 q h1 h2
    have hmem : ∀ w9 ∈ thrL, w9.before (([Value.ref 0, .int l, .int s, .int q, .int w].map (tv G.ad)).toArray) s9 = true := fun w9 hw => hPT.1 w9 hw _
    have hgd : ∀ w ∈ thrL, vx_ot w = true := fun w hw => thrL_ot hw
    rcases hpc with rfl | rfl
    · exact yx_throwSW hx hb hl9 (own := "MurmurSheds") (cls := NSEn) (Y9 := "java/lang/RuntimeException") (r9 := ["java/lang/Exception"]) (ik := 358) (is := 360) (ic := 362) (ix := 13) (rx := rx13) (A := A0 G.ad)
        (by decide +kernel) (by decide +kernel) (by decide +kernel) (by decide +kernel) (findClass_of_methodNamed B.named) (by decide +kernel) (by decide +kernel) (by decide +kernel)
        (hmem _ List.mem_cons_self) (hmem _ (List.mem_cons_of_mem _ List.mem_cons_self)) hPT.2.1.1 (fun w hw => hmem _ (List.mem_cons_of_mem _ (List.mem_cons_of_mem _ hw))) hgd hPT.2.2.1 hPT.2.2.2 hS' (hsz.trans hml.symm)
        dX10_rests_30 dX10_rests_33 dX10_rests_34 dX10_rests_37 dX10_rests_40 (fun x hx => (htab x hx).elim) (by show 1 + 1 + 3 < d; omega) (by show 0 + (13 * (1 + 1 + 1) + 43) ≤ 80 * d; omega) (Nat.le_refl 1) (Nat.le_refl 6) hlk hx9 hS'.2.2 (by decide) (by decide)
    · exact yx_throwSW hx hb hl9 (own := "MurmurSheds") (cls := NSEn) (Y9 := "java/lang/RuntimeException") (r9 := ["java/lang/Exception"]) (ik := 358) (is := 368) (ic := 362) (ix := 13) (rx := rx13) (A := A0 G.ad)
        (by decide +kernel) (by decide +kernel) (by decide +kernel) (by decide +kernel) (findClass_of_methodNamed B.named) (by decide +kernel) (by decide +kernel) (by decide +kernel)
        (hmem _ List.mem_cons_self) (hmem _ (List.mem_cons_of_mem _ List.mem_cons_self)) hPT.2.1.2 (fun w hw => hmem _ (List.mem_cons_of_mem _ (List.mem_cons_of_mem _ hw))) hgd hPT.2.2.1 hPT.2.2.2 hS' (hsz.trans hml.symm)
        dX10_rests_89 dX10_rests_92 dX10_rests_93 dX10_rests_96 dX10_rests_99 (fun x hx => (htab x hx).elim) (by show 1 + 1 + 3 < d; omega) (by show 0 + (13 * (1 + 1 + 1) + 43) ≤ 80 * d; omega) (Nat.le_refl 1) (Nat.le_refl 6) hlk hx9 hS'.2.2 (by decide) (by decide)
abbrev hhLr : List (Nat × Nat × Nat × Nat) := [(0, 14, 17, 13)]
abbrev xeLr : ExceptionTableEntry := { startPc := 0, endPc := 14, handlerPc := 17, catchType := 13 }
theorem co_L_rests : Jvm.Cond.codeWith mL_rests.1 mL_rests.2.1 mL_rests.2.2.1 mL_rests.2.2.2 hhLr ∈ lw_g := mem_g 1080 (by decide +kernel) rfl
/-- the law's own rests -/
theorem y_rests {G : Gt} {M : Mm} {l s q w : Int32} {d : Nat} (hl9 : G.1.stackTraces = false) (hd9 : 7 ≤ d) : CallT (Jvm.Cond.codeWith mL_rests.1 mL_rests.2.1 mL_rests.2.2.1 mL_rests.2.2.2 hhLr :: lw_g) (fun _ => False) G d mL_rests [.ref 0, .int l, .int s, .int q, .int w, .ref 285] M
    (fun r M' => (restQ l s q w = none ∧ M' = M ∧ r = some (.int 1)) ∨ ∃ v, restQ l s q w = some v ∧ M' = setL M 285 0 v.toInt64 ∧ r = some (.int 0)) := by
  refine vx_ofWH (cc := mL_rests.2.1) (maxL := mL_rests.2.2.1) (ret := mL_rests.2.2.2) (hh := hhLr) rfl rfl ?_
  intro p e s9 m args below meth c s₁ B hml hv
  obtain ⟨rfl, ⟨hP, hK, hRO, hRT, hG⟩, hPT⟩ := hv
  rw [lg_entry_eq]
  have hx := B.exec
  have hb := B.bytes
  have hlk := B.notSynchronized
  have hts := atoms_spec (ws := Jvm.Cond.codeWith mL_rests.1 mL_rests.2.1 mL_rests.2.2.1 mL_rests.2.2.2 hhLr :: lw_g) B.pre
  have htb := vx_table (x := mL_rests.1) B (hts _ List.mem_cons_self)
  have key : EvL [xeLr] 1 G d mL_rests 0 (entL [.ref 0, .int l, .int s, .int q, .int w, .ref 285] 7) [] M (fun r M' => (restQ l s q w = none ∧ M' = M ∧ r = some (.int 1)) ∨ ∃ v, restQ l s q w = some v ∧ M' = setL M 285 0 v.toInt64 ∧ r = some (.int 0)) := by
    refine y_aload (x := 285) dL_rests_0 rfl ?_
    refine y_iconst (v := 0) dL_rests_2 (by decide) ?_
    refine y_aload_n (x := 0) dL_rests_3 rfl ?_
    refine y_iload_n (x := l) dL_rests_4 rfl ?_
    refine y_iload_n (x := s) dL_rests_5 rfl ?_
    refine y_iload_n (x := q) dL_rests_6 rfl ?_
    refine y_iload (x := w) dL_rests_7 rfl ?_
    refine y_callVT (as := [.int l, .int s, .int q, .int w]) (st := [.int 0, .ref 285]) (x9 := xeLr) (j := 6) rfl dL_rests_9 mo_X10_rests (mem_g 1082 (by decide +kernel) rfl) (i := 0) rfl (by decide +kernel) rfl rfl (by decide) (d' := 6) (by omega) (x_restsT hl9 (Nat.le_refl _)) (by decide) (by decide) (mem_g 1081 (by decide +kernel) rfl) (by decide +kernel) dL_rests_17 (by decide) rfl ?_ ?_
    · rintro M1 ⟨rfl, hn⟩
      refine y_iconst (v := 1) dL_rests_19 (by decide) ?_
      exact y_iret dL_rests_20 rfl (Or.inl ⟨hn, rfl, rfl⟩)
    · rintro r M1 ⟨rfl, v, hv, rfl⟩
      refine y_i2l dL_rests_12 ?_
      refine y_last (i := 285) (n := 1) (j := 0) dL_rests_13 rfl (by unfold vp_in; decide) ?_
      refine y_goto (tgt := 21) dL_rests_14 (by decide) ?_
      refine y_iconst (v := 0) dL_rests_21 (by decide) ?_
      exact y_iret dL_rests_22 rfl (Or.inr ⟨v, hv, rfl, rfl⟩)
  refine key p e s9 m _ below meth c _ _ 0 0 s9.heap [] _ ⟨⟨hx, hb, hml, findClass_of_methodNamed B.named, fun w hw => hts w (List.mem_cons_of_mem _ hw), hK, hRO, hRT, hG, hPT, htb⟩, ⟨Nat.le_refl _, Nat.le_refl _, Nat.le_refl _, Nat.le_refl _⟩, ?_⟩ hP va_S.rf (lr_ent G.ad _ (Nat.le_of_ble_eq_true rfl))
  intro pc H locs lsA r M' hr hQ hP' hS'
  have hr9 : ∃ v, r = some (.int v) := by
    rcases hQ with ⟨-, -, h⟩ | ⟨v, -, -, h⟩
    · exact ⟨_, h⟩
    · exact ⟨_, h⟩
  obtain ⟨v, rfl⟩ := hr9
  obtain ⟨h1, ty, h2, h3⟩ := hr
  exact vx_ret (W.zret hx hb (by rw [B.returns]; exact h2) h3 (fun t ht _ => ⟨some (.int v), M', hQ, rfl, by rw [ht]; exact hP', hS'.F ht⟩) hS'.2.2 h1 hlk)
end YRS
