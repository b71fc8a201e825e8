section LST
section
variable {b0 bk bs : Nat} {G : Gt} {d : Nat} {mi : Mi} {pc : Nat} {ls st : List Value} {c9 : Nat} {M : Mm} {F : Pf} {X : Nat → List Value → Nat → Mm → Pf → Prop}
theorem n_astore_n {n : Fin 4} {x : Nat} {ls' : List Value} (hd : decode mi.2.1 pc = .ok (.astore_n n, 1)) (hn : (n : Nat) < mi.2.2.1) (hs : stI ls (n : Nat) (.ref x) = ls') (k : EvN b0 bk bs G d mi (pc + 1) ls' st c9 M F X) : EvN b0 bk bs G d mi pc ls (.ref x :: st) c9 M F X := by
  intro p e s m args below meth c R Z k0 n0 H locs lsA C hP hS hl
  obtain ⟨⟨hx, hb, hml, hown, hts, hK, hRO, hnB, hAO, hme⟩, hR, hret⟩ := id C
  subst hs
  exact lv_astore_n hx hb hd rfl hl.2 hn rfl (fun lsB hB => k p e s m args below meth c R Z k0 n0 H locs lsB C hP hS (lr_stI (v := Value.ref x) hl.1 hB))
theorem n_istore {i : Nat} {x : Int32} {ls' : List Value} (hd : decode mi.2.1 pc = .ok (.istore i, 2)) (hn : i < mi.2.2.1) (hs : stI ls i (.int x) = ls') (k : EvN b0 bk bs G d mi (pc + 2) ls' st c9 M F X) : EvN b0 bk bs G d mi pc ls (.int x :: st) c9 M F X := by
  intro p e s m args below meth c R Z k0 n0 H locs lsA C hP hS hl
  obtain ⟨⟨hx, hb, hml, hown, hts, hK, hRO, hnB, hAO, hme⟩, hR, hret⟩ := id C
  subst hs
  exact lv_istore hx hb hd hl.2 hn rfl (fun lsB hB => k p e s m args below meth c R Z k0 n0 H locs lsB C hP hS (lr_stI (v := Value.int x) hl.1 hB))
end
/-- where the loop begins -/
def exL : Nat → List Value → Nat → Mm → Pf → Prop := fun pc ls c9 M F => pc = 23 ∧ ls = lsL 0 RA RA ∧ c9 = 286 ∧ M = Mf ∧ F = Ff
set_option maxHeartbeats 1000000 in
set_option maxRecDepth 20000 in
theorem l_first9 {b0 : Nat} {G : Gt} : EvN b0 286 10183 G 110 mL_law 0 [.ref 2200, RA, RA, RA, RA, RA, RA] [] 0 M00 F00 exL := by
  refine n_new (c9 := 0) (bk := 285) (bs := 10166) (i := 0) dL_law_0 kc7 rfl rfl rfl (by decide) (mem_g 25 (by decide +kernel) rfl) (mem_g 26 (by decide +kernel) rfl) (mem_g 1 (by decide +kernel) rfl) ?_
  refine n_dup dL_law_3 rfl ?_
  refine n_init (c9 := 1) (c2 := 238) (bk := 48) (bs := 4908) (mc := 237) (ms := 5258) (mi' := mX10_init) (d' := 4) (i := 0) dL_law_4 (mem_g 29 (by decide +kernel) rfl) rfl (mem_g 1 (by decide +kernel) rfl) ⟨by decide +kernel, by decide +kernel, by decide +kernel⟩ (by decide) rfl (mem_g 28 (by decide +kernel) rfl) ml_L_15 (Nat.le_of_ble_eq_true rfl) (by decide) rfl k_X10 ?_
  refine n_astore_n (x := 0) (ls' := [.ref 2200, .ref 0, RA, RA, RA, RA, RA]) dL_law_7 (by decide) rfl ?_
  refine n_new (c9 := 238) (bk := 47) (bs := 4845) (i := 238) dL_law_8 kc8 rfl rfl rfl (by decide) (mem_g 1158 (by decide +kernel) rfl) (mem_g 1159 (by decide +kernel) rfl) (mem_g 11 (by decide +kernel) rfl) ?_
  refine n_dup dL_law_11 rfl ?_
  refine n_init (c9 := 239) (c2 := 285) (bk := 1) (bs := 1) (mc := 46) (ms := 4844) (mi' := mX11_init) (d' := 3) (i := 238) dL_law_12 (mem_g 1162 (by decide +kernel) rfl) rfl (mem_g 11 (by decide +kernel) rfl) ⟨by decide +kernel, by decide +kernel, by decide +kernel⟩ (by decide) rfl (mem_g 1161 (by decide +kernel) rfl) ml_L_18 (Nat.le_of_ble_eq_true rfl) (by decide) rfl (k_X11 (fun _ => rfl) (fun _ => rfl)) ?_
  refine n_astore_n (x := 238) (ls' := [.ref 2200, .ref 0, .ref 238, RA, RA, RA, RA]) dL_law_15 (by decide) rfl ?_
  refine n_iconst (v := 1) dL_law_16 (by decide) ?_
  refine n_newarrL (c9 := 285) (bk := 0) (bs := 0) (N' := 1) (i := 285) dL_law_17 rfl rfl (by decide) (by decide) (by decide) (by decide) ac_long ?_
  refine n_astore_n (x := 285) (ls' := [.ref 2200, .ref 0, .ref 238, .ref 285, RA, RA, RA]) dL_law_19 (by decide) rfl ?_
  refine n_iconst (v := 0) dL_law_20 (by decide) ?_
  refine n_istore (ls' := lsL 0 RA RA) dL_law_21 (by decide) rfl ?_
  exact n_exit ⟨rfl, rfl, rfl, rfl, rfl⟩
def R_law : String := "MurmurShedsLaw"

def lw_P (b : Addr) (xs : List Int32) (args : Array Value) (s : State) : Prop := args = #[.ref b] ∧ s.IntsAt b xs ∧ xs.length ≤ 3584 ∧ (Jvm.Cond.and given_1 narrow_1).before args s = true
def lw_Q (_ : Array Value) (s : State) (o : Outcome) (t : State) : Prop := o = .returned (some (.int 1)) ∧ Framed s o t [] 601024 7293034
def lw_Z (below : List Frame) (a : Array Value) (s : State) : State → Prop := fun t => ∃ o, t.status = .running ∧ Ended t below o ∧ lw_Q a s o t
/-- the law's own end, with 1 on the stack, nothing written that was there before, its room as the claim has it -/
theorem lw_ret {p : Program} {l : Launch} {e : Env} {s : State} {m : MethodId} {below : List Frame} {meth : Method} {c : Code} {b : Nat} (hx : p.tables.exec = Jvm.exec) (hb : c.code = code) (hr : meth.sig.returnType = ret) (hlocks : meth.locks = false) {pc : Nat} {H : Heap} {ls : Array Slot} (hdg : decode code pc = .ok (.ireturn, 1)) : W p l e room_1 s m #[Value.ref b] below meth c H [] 601024 7293034 (lw_Z below #[Value.ref b] s) (F0 m pc ls [.int 1]) := by
  intro T hT X
  obtain ⟨fs, hret, hrun, hended, hW, hframe⟩ := X.leave (v := some (.int 1)) (hlocks := hlocks) (fun h => by rw [hr] at h; cases h)
  have hmeth' : T.vm.method? m = some meth := X.method'
  refine ⟨T.setFrames fs, ?_, .returned (some (.int 1)), hrun, hended, rfl, ⟨_, rfl⟩, hW, hframe⟩
  jvm_step X.here [X.here.top, hx, hb, hdg, hmeth', hr, ret, narrow_b1]
  (try refine ⟨rfl, ?_⟩); (try refine ⟨rfl, ?_⟩)
  first | (intro acts; rw [hret _ acts rfl rfl rfl]) | rw [hret _ _ rfl rfl rfl]
  exact Steps.refl _
/-- what holds at the law's entry: the machine, the code, the tables' words (any of lw_tbl by 'hts w (by decide +kernel)'), the script of L ints xs at the cell b, what the Statement gives of the start (any of its parts by flat_of_before) -/
def lw_At (p : Program) (s : State) (m : MethodId) (meth : Method) (c : Code) (b L : Nat) (xs : Nat → Int32) : Prop :=
  p.tables.exec = Jvm.exec ∧ c.code = code ∧ meth.sig.returnType = ret ∧ c.maxLocals = 7 ∧ s.vm.findClass R_law = some m.cls ∧ (∀ w ∈ lw_tbl, w.before #[Value.ref b] s = true) ∧ va_X b L xs s s.heap ∧ b < s.heap.size ∧ meth.locks = false ∧ (Jvm.Cond.and given_1 narrow_1).before #[Value.ref b] s = true ∧ meth.name = "law"

theorem st_off {l : Launch} (h : l.flags = flags0) : l.stackTraces = false := by
  unfold Launch.stackTraces
  rw [h]
  decide +kernel
set_option maxHeartbeats 1000000 in
set_option maxRecDepth 20000 in
/-- from the entry the law comes to its end with true -/
theorem whole_start {p : Program} {e : Env} {s : State} {m : MethodId} {below : List Frame} {meth : Method} {c : Code} (l : Launch) (hflags : l.flags = flags0) {b L : Nat} {xs : Nat → Int32} (hL : L ≤ 3584) (C0 : lw_At p s m meth c b L xs) : W p l e room_1 s m #[Value.ref b] below meth c s.heap [] 0 0 (lw_Z below #[Value.ref b] s) (entryFrame m ([Value.ref b] : List Value).toArray 7) := by
  obtain ⟨hx, hcode, hret, hml, hown, hts, hX, hb, hlk, hgv, hnm⟩ := C0
  have hfl : ∀ w ∈ lw_C, w.before #[Value.ref b] s = true := flat_of_before _ hgv
  obtain ⟨G, rfl, hGL, hG2, hnB, hK, hRO, hRT, hG, hPT⟩ := G_start l hts hfl hX hb
  have hst : G.1.stackTraces = false := st_off hflags
  have hlg : ∀ w ∈ lw_g, w.before ([Value.ref b] : List Value).toArray s = true := g_in hts
  rw [lg_entry_eq]
  have hent : ([Value.ref b] : List Value) = ([Value.ref 2200] : List Value).map (tv G.ad) := by rw [← hG2]; rfl
  rw [hent] at hlg ⊢
  have hL9 : G.L ≤ 3584 := by rw [hGL]; exact hL
  refine l_first9 (b0 := s.heap.size) (G := G) p e s m _ below meth c room_1 _ 0 0 s.heap [] _ ⟨⟨hx, hcode, hml, hown, hlg, hK, hRO, hnB, AO_start hts, hnm⟩, ⟨by decide, by decide, by decide, by decide⟩, ?_⟩ ⟨rfl, fun k q hq => ?_, fun k _ => ⟨fun _ => rfl, fun _ => rfl, fun _ => rfl⟩⟩ ⟨va_S.rf, rfl⟩ (lr_ent G.ad [.ref 2200] (by decide))
  · rintro pc H locs lsA ls c9 M F ⟨rfl, rfl, rfl, rfl, rfl⟩ hH hS hl
    have hP : va_P G.D vwCl (cells G.cA G.ad Mf) H := HN.full hH Ff_all
    refine w_loop (tb9 := c.exceptionTable.toList) (b := 35) ⟨by decide, by decide⟩ hst hL9 512 0 0 Mf E00 RA RA ⟨XI00, RJ00, IV00⟩ (Nat.le_refl _) (by omega) (by decide) p e s m _ below meth c room_1 _ (0 + 286) (0 + 10183) H locs lsA ⟨⟨hx, hcode, hml, hown, hlg, hK, hRO, hRT, hG, hPT, rfl⟩, ⟨by decide, by decide, by decide, by decide⟩, ?_⟩ hP hS hl
    intro pc H locs lsA r M hr hQ hP' hS'
    subst hQ
    refine W_widen (k' := 601024) (n' := 7293034) (by decide) (by decide) (va_forget (fun q hq => ?_) ?_)
    · obtain ⟨i, hi, e9⟩ := hS'.2.2 q hq
      have h8 := hnB (ordN i) (ord_lt hi)
      rw [al_ord] at h8
      rw [e9, h8]
      omega
    · have he : (([Value.ref 2200] : List Value).map (tv G.ad)).toArray = #[Value.ref b] := by rw [← hG2]; rfl
      rw [he]
      exact lw_ret hx hcode hret hlk hr.1
  · rw [List.getElem?_eq_none (by rw [cellsN_len]; omega)] at hq
    cases hq

end LST
